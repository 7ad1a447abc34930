theorem dJ15_checkIndex_7cf53_0 : decode cJ15_checkIndex_7cf53 0 = .ok (.iload_n 0, 1) := by decide +kernel
theorem dJ15_checkIndex_7cf53_1 : decode cJ15_checkIndex_7cf53 1 = .ok (.iload_n 1, 1) := by decide +kernel
theorem dJ15_checkIndex_7cf53_2 : decode cJ15_checkIndex_7cf53 2 = .ok (.aconst_null, 1) := by decide +kernel
theorem dJ15_checkIndex_7cf53_3 : decode cJ15_checkIndex_7cf53 3 = .ok (.invokestatic 105, 3) := by decide +kernel
theorem dJ15_checkIndex_7cf53_6 : decode cJ15_checkIndex_7cf53 6 = .ok (.ireturn, 1) := by decide +kernel
theorem dJ3_checkIndex_8e157_0 : decode cJ3_checkIndex_8e157 0 = .ok (.iload_n 0, 1) := by decide +kernel
theorem dJ3_checkIndex_8e157_1 : decode cJ3_checkIndex_8e157 1 = .ok (.ifCond .lt 8, 3) := by decide +kernel
theorem dJ3_checkIndex_8e157_4 : decode cJ3_checkIndex_8e157 4 = .ok (.iload_n 0, 1) := by decide +kernel
theorem dJ3_checkIndex_8e157_5 : decode cJ3_checkIndex_8e157 5 = .ok (.iload_n 1, 1) := by decide +kernel
theorem dJ3_checkIndex_8e157_6 : decode cJ3_checkIndex_8e157 6 = .ok (.if_icmp .lt 10, 3) := by decide +kernel
theorem dJ3_checkIndex_8e157_16 : decode cJ3_checkIndex_8e157 16 = .ok (.iload_n 0, 1) := by decide +kernel
theorem dJ3_checkIndex_8e157_17 : decode cJ3_checkIndex_8e157 17 = .ok (.ireturn, 1) := by decide +kernel
theorem dJx4a65c_elementData_915e3_0 : decode cJx4a65c_elementData_915e3 0 = .ok (.aload_n 0, 1) := by decide +kernel
theorem dJx4a65c_elementData_915e3_1 : decode cJx4a65c_elementData_915e3 1 = .ok (.getfield 9, 3) := by decide +kernel
theorem dJx4a65c_elementData_915e3_4 : decode cJx4a65c_elementData_915e3 4 = .ok (.iload_n 1, 1) := by decide +kernel
theorem dJx4a65c_elementData_915e3_5 : decode cJx4a65c_elementData_915e3 5 = .ok (.aaload, 1) := by decide +kernel
theorem dJx4a65c_elementData_915e3_6 : decode cJx4a65c_elementData_915e3 6 = .ok (.areturn, 1) := by decide +kernel
theorem dJx4a65c_get_915e3_0 : decode cJx4a65c_get_915e3 0 = .ok (.iload_n 1, 1) := by decide +kernel
theorem dJx4a65c_get_915e3_1 : decode cJx4a65c_get_915e3 1 = .ok (.aload_n 0, 1) := by decide +kernel
theorem dJx4a65c_get_915e3_2 : decode cJx4a65c_get_915e3 2 = .ok (.getfield 48, 3) := by decide +kernel
theorem dJx4a65c_get_915e3_5 : decode cJx4a65c_get_915e3 5 = .ok (.invokestatic 118, 3) := by decide +kernel
theorem dJx4a65c_get_915e3_8 : decode cJx4a65c_get_915e3 8 = .ok (.pop, 1) := by decide +kernel
theorem dJx4a65c_get_915e3_9 : decode cJx4a65c_get_915e3 9 = .ok (.aload_n 0, 1) := by decide +kernel
theorem dJx4a65c_get_915e3_10 : decode cJx4a65c_get_915e3 10 = .ok (.iload_n 1, 1) := by decide +kernel
theorem dJx4a65c_get_915e3_11 : decode cJx4a65c_get_915e3 11 = .ok (.invokevirtual 123, 3) := by decide +kernel
theorem dJx4a65c_get_915e3_14 : decode cJx4a65c_get_915e3 14 = .ok (.areturn, 1) := by decide +kernel
theorem dJx4a65c_size_8abf5_0 : decode cJx4a65c_size_8abf5 0 = .ok (.aload_n 0, 1) := by decide +kernel
theorem dJx4a65c_size_8abf5_1 : decode cJx4a65c_size_8abf5 1 = .ok (.getfield 48, 3) := by decide +kernel
theorem dJx4a65c_size_8abf5_4 : decode cJx4a65c_size_8abf5 4 = .ok (.ireturn, 1) := by decide +kernel
theorem dX0_coded_0 : decode cX0_coded 0 = .ok (.bipush 100, 2) := by decide +kernel
theorem dX0_coded_2 : decode cX0_coded 2 = .ok (.aload_n 0, 1) := by decide +kernel
theorem dX0_coded_3 : decode cX0_coded 3 = .ok (.getfield 7, 3) := by decide +kernel
theorem dX0_coded_6 : decode cX0_coded 6 = .ok (.imul, 1) := by decide +kernel
theorem dX0_coded_7 : decode cX0_coded 7 = .ok (.bipush 10, 2) := by decide +kernel
theorem dX0_coded_9 : decode cX0_coded 9 = .ok (.aload_n 0, 1) := by decide +kernel
theorem dX0_coded_10 : decode cX0_coded 10 = .ok (.getfield 13, 3) := by decide +kernel
theorem dX0_coded_13 : decode cX0_coded 13 = .ok (.imul, 1) := by decide +kernel
theorem dX0_coded_14 : decode cX0_coded 14 = .ok (.iadd, 1) := by decide +kernel
theorem dX0_coded_15 : decode cX0_coded 15 = .ok (.aload_n 0, 1) := by decide +kernel
theorem dX0_coded_16 : decode cX0_coded 16 = .ok (.getfield 16, 3) := by decide +kernel
theorem dX0_coded_19 : decode cX0_coded 19 = .ok (.iadd, 1) := by decide +kernel
theorem dX0_coded_20 : decode cX0_coded 20 = .ok (.iconst 1, 1) := by decide +kernel
theorem dX0_coded_21 : decode cX0_coded 21 = .ok (.iadd, 1) := by decide +kernel
theorem dX0_coded_22 : decode cX0_coded 22 = .ok (.ireturn, 1) := by decide +kernel
theorem dX1_shows_0 : decode cX1_shows 0 = .ok (.aload_n 1, 1) := by decide +kernel
theorem dX1_shows_1 : decode cX1_shows 1 = .ok (.ifnull 23, 3) := by decide +kernel
theorem dX1_shows_4 : decode cX1_shows 4 = .ok (.aload_n 1, 1) := by decide +kernel
theorem dX1_shows_5 : decode cX1_shows 5 = .ok (.getfield 33, 3) := by decide +kernel
theorem dX1_shows_8 : decode cX1_shows 8 = .ok (.getfield 39, 3) := by decide +kernel
theorem dX1_shows_11 : decode cX1_shows 11 = .ok (.iconst 3, 1) := by decide +kernel
theorem dX1_shows_12 : decode cX1_shows 12 = .ok (.aload_n 0, 1) := by decide +kernel
theorem dX1_shows_13 : decode cX1_shows 13 = .ok (.getfield 18, 3) := by decide +kernel
theorem dX1_shows_16 : decode cX1_shows 16 = .ok (.isub, 1) := by decide +kernel
theorem dX1_shows_17 : decode cX1_shows 17 = .ok (.if_icmp .lt 7, 3) := by decide +kernel
theorem dX1_shows_20 : decode cX1_shows 20 = .ok (.iconst 1, 1) := by decide +kernel
theorem dX1_shows_21 : decode cX1_shows 21 = .ok (.goto 4, 3) := by decide +kernel
theorem dX1_shows_24 : decode cX1_shows 24 = .ok (.iconst 0, 1) := by decide +kernel
theorem dX1_shows_25 : decode cX1_shows 25 = .ok (.ireturn, 1) := by decide +kernel
theorem dX3_direction_0 : decode cX3_direction 0 = .ok (.aload_n 0, 1) := by decide +kernel
theorem dX3_direction_1 : decode cX3_direction 1 = .ok (.getfield 35, 3) := by decide +kernel
theorem dX3_direction_4 : decode cX3_direction 4 = .ok (.getfield 45, 3) := by decide +kernel
theorem dX3_direction_7 : decode cX3_direction 7 = .ok (.getfield 55, 3) := by decide +kernel
theorem dX3_direction_10 : decode cX3_direction 10 = .ok (.ireturn, 1) := by decide +kernel
theorem dX3_distanceFrom_0 : decode cX3_distanceFrom 0 = .ok (.aload_n 0, 1) := by decide +kernel
theorem dX3_distanceFrom_1 : decode cX3_distanceFrom 1 = .ok (.iload_n 1, 1) := by decide +kernel
theorem dX3_distanceFrom_2 : decode cX3_distanceFrom 2 = .ok (.iload_n 2, 1) := by decide +kernel
theorem dX3_distanceFrom_3 : decode cX3_distanceFrom 3 = .ok (.invokevirtual 65, 3) := by decide +kernel
theorem dX3_distanceFrom_6 : decode cX3_distanceFrom 6 = .ok (.aload_n 0, 1) := by decide +kernel
theorem dX3_distanceFrom_7 : decode cX3_distanceFrom 7 = .ok (.iload_n 1, 1) := by decide +kernel
theorem dX3_distanceFrom_8 : decode cX3_distanceFrom 8 = .ok (.iload_n 2, 1) := by decide +kernel
theorem dX3_distanceFrom_9 : decode cX3_distanceFrom 9 = .ok (.invokevirtual 69, 3) := by decide +kernel
theorem dX3_distanceFrom_12 : decode cX3_distanceFrom 12 = .ok (.invokestatic 72, 3) := by decide +kernel
theorem dX3_distanceFrom_15 : decode cX3_distanceFrom 15 = .ok (.ireturn, 1) := by decide +kernel
theorem dX3_distanceFromBegin_0 : decode cX3_distanceFromBegin 0 = .ok (.iload_n 1, 1) := by decide +kernel
theorem dX3_distanceFromBegin_1 : decode cX3_distanceFromBegin 1 = .ok (.iload_n 2, 1) := by decide +kernel
theorem dX3_distanceFromBegin_2 : decode cX3_distanceFromBegin 2 = .ok (.aload_n 0, 1) := by decide +kernel
theorem dX3_distanceFromBegin_3 : decode cX3_distanceFromBegin 3 = .ok (.getfield 23, 3) := by decide +kernel
theorem dX3_distanceFromBegin_6 : decode cX3_distanceFromBegin 6 = .ok (.aload_n 0, 1) := by decide +kernel
theorem dX3_distanceFromBegin_7 : decode cX3_distanceFromBegin 7 = .ok (.getfield 26, 3) := by decide +kernel
theorem dX3_distanceFromBegin_10 : decode cX3_distanceFromBegin 10 = .ok (.invokestatic 61, 3) := by decide +kernel
theorem dX3_distanceFromBegin_13 : decode cX3_distanceFromBegin 13 = .ok (.ireturn, 1) := by decide +kernel
theorem dX3_distanceFromEnd_0 : decode cX3_distanceFromEnd 0 = .ok (.iload_n 1, 1) := by decide +kernel
theorem dX3_distanceFromEnd_1 : decode cX3_distanceFromEnd 1 = .ok (.iload_n 2, 1) := by decide +kernel
theorem dX3_distanceFromEnd_2 : decode cX3_distanceFromEnd 2 = .ok (.aload_n 0, 1) := by decide +kernel
theorem dX3_distanceFromEnd_3 : decode cX3_distanceFromEnd 3 = .ok (.getfield 29, 3) := by decide +kernel
theorem dX3_distanceFromEnd_6 : decode cX3_distanceFromEnd 6 = .ok (.aload_n 0, 1) := by decide +kernel
theorem dX3_distanceFromEnd_7 : decode cX3_distanceFromEnd 7 = .ok (.getfield 32, 3) := by decide +kernel
theorem dX3_distanceFromEnd_10 : decode cX3_distanceFromEnd 10 = .ok (.invokestatic 61, 3) := by decide +kernel
theorem dX3_distanceFromEnd_13 : decode cX3_distanceFromEnd 13 = .ok (.ireturn, 1) := by decide +kernel
theorem dX3_hasPartIn_0 : decode cX3_hasPartIn 0 = .ok (.aload_n 0, 1) := by decide +kernel
theorem dX3_hasPartIn_1 : decode cX3_hasPartIn 1 = .ok (.getfield 23, 3) := by decide +kernel
theorem dX3_hasPartIn_4 : decode cX3_hasPartIn 4 = .ok (.aload_n 1, 1) := by decide +kernel
theorem dX3_hasPartIn_5 : decode cX3_hasPartIn 5 = .ok (.getfield 77, 3) := by decide +kernel
theorem dX3_hasPartIn_8 : decode cX3_hasPartIn 8 = .ok (.if_icmp .gt 40, 3) := by decide +kernel
theorem dX3_hasPartIn_11 : decode cX3_hasPartIn 11 = .ok (.aload_n 0, 1) := by decide +kernel
theorem dX3_hasPartIn_12 : decode cX3_hasPartIn 12 = .ok (.getfield 29, 3) := by decide +kernel
theorem dX3_hasPartIn_15 : decode cX3_hasPartIn 15 = .ok (.aload_n 1, 1) := by decide +kernel
theorem dX3_hasPartIn_16 : decode cX3_hasPartIn 16 = .ok (.getfield 82, 3) := by decide +kernel
theorem dX3_hasPartIn_19 : decode cX3_hasPartIn 19 = .ok (.if_icmp .lt 29, 3) := by decide +kernel
theorem dX3_hasPartIn_22 : decode cX3_hasPartIn 22 = .ok (.aload_n 0, 1) := by decide +kernel
theorem dX3_hasPartIn_23 : decode cX3_hasPartIn 23 = .ok (.getfield 26, 3) := by decide +kernel
theorem dX3_hasPartIn_26 : decode cX3_hasPartIn 26 = .ok (.aload_n 1, 1) := by decide +kernel
theorem dX3_hasPartIn_27 : decode cX3_hasPartIn 27 = .ok (.getfield 85, 3) := by decide +kernel
theorem dX3_hasPartIn_30 : decode cX3_hasPartIn 30 = .ok (.if_icmp .gt 18, 3) := by decide +kernel
theorem dX3_hasPartIn_33 : decode cX3_hasPartIn 33 = .ok (.aload_n 0, 1) := by decide +kernel
theorem dX3_hasPartIn_34 : decode cX3_hasPartIn 34 = .ok (.getfield 32, 3) := by decide +kernel
theorem dX3_hasPartIn_37 : decode cX3_hasPartIn 37 = .ok (.aload_n 1, 1) := by decide +kernel
theorem dX3_hasPartIn_38 : decode cX3_hasPartIn 38 = .ok (.getfield 88, 3) := by decide +kernel
theorem dX3_hasPartIn_41 : decode cX3_hasPartIn 41 = .ok (.if_icmp .lt 7, 3) := by decide +kernel
theorem dX3_hasPartIn_44 : decode cX3_hasPartIn 44 = .ok (.iconst 1, 1) := by decide +kernel
theorem dX3_hasPartIn_45 : decode cX3_hasPartIn 45 = .ok (.goto 4, 3) := by decide +kernel
theorem dX3_hasPartIn_48 : decode cX3_hasPartIn 48 = .ok (.iconst 0, 1) := by decide +kernel
theorem dX3_hasPartIn_49 : decode cX3_hasPartIn 49 = .ok (.ireturn, 1) := by decide +kernel
theorem dX3_kind_0 : decode cX3_kind 0 = .ok (.aload_n 0, 1) := by decide +kernel
theorem dX3_kind_1 : decode cX3_kind 1 = .ok (.getfield 35, 3) := by decide +kernel
theorem dX3_kind_4 : decode cX3_kind 4 = .ok (.getfield 45, 3) := by decide +kernel
theorem dX3_kind_7 : decode cX3_kind 7 = .ok (.getfield 50, 3) := by decide +kernel
theorem dX3_kind_10 : decode cX3_kind 10 = .ok (.ireturn, 1) := by decide +kernel
theorem dX3_versionCount_0 : decode cX3_versionCount 0 = .ok (.aload_n 0, 1) := by decide +kernel
theorem dX3_versionCount_1 : decode cX3_versionCount 1 = .ok (.getfield 35, 3) := by decide +kernel
theorem dX3_versionCount_4 : decode cX3_versionCount 4 = .ok (.getfield 58, 3) := by decide +kernel
theorem dX3_versionCount_7 : decode cX3_versionCount 7 = .ok (.iconst 1, 1) := by decide +kernel
theorem dX3_versionCount_8 : decode cX3_versionCount 8 = .ok (.iadd, 1) := by decide +kernel
theorem dX3_versionCount_9 : decode cX3_versionCount 9 = .ok (.ireturn, 1) := by decide +kernel
theorem dX4_distance_0 : decode cX4_distance 0 = .ok (.iload_n 0, 1) := by decide +kernel
theorem dX4_distance_1 : decode cX4_distance 1 = .ok (.iload_n 2, 1) := by decide +kernel
theorem dX4_distance_2 : decode cX4_distance 2 = .ok (.isub, 1) := by decide +kernel
theorem dX4_distance_3 : decode cX4_distance 3 = .ok (.invokestatic 303, 3) := by decide +kernel
theorem dX4_distance_6 : decode cX4_distance 6 = .ok (.iload_n 1, 1) := by decide +kernel
theorem dX4_distance_7 : decode cX4_distance 7 = .ok (.iload_n 3, 1) := by decide +kernel
theorem dX4_distance_8 : decode cX4_distance 8 = .ok (.isub, 1) := by decide +kernel
theorem dX4_distance_9 : decode cX4_distance 9 = .ok (.invokestatic 303, 3) := by decide +kernel
theorem dX4_distance_12 : decode cX4_distance 12 = .ok (.iadd, 1) := by decide +kernel
theorem dX4_distance_13 : decode cX4_distance 13 = .ok (.ireturn, 1) := by decide +kernel
theorem dX4_isDirection_0 : decode cX4_isDirection 0 = .ok (.iload_n 0, 1) := by decide +kernel
theorem dX4_isDirection_1 : decode cX4_isDirection 1 = .ok (.iconst 0, 1) := by decide +kernel
theorem dX4_isDirection_2 : decode cX4_isDirection 2 = .ok (.iconst 2, 1) := by decide +kernel
theorem dX4_isDirection_3 : decode cX4_isDirection 3 = .ok (.invokestatic 50, 3) := by decide +kernel
theorem dX4_isDirection_6 : decode cX4_isDirection 6 = .ok (.ireturn, 1) := by decide +kernel
theorem dX4_isFull_0 : decode cX4_isFull 0 = .ok (.aload_n 0, 1) := by decide +kernel
theorem dX4_isFull_1 : decode cX4_isFull 1 = .ok (.getfield 32, 3) := by decide +kernel
theorem dX4_isFull_4 : decode cX4_isFull 4 = .ok (.sipush 512, 3) := by decide +kernel
theorem dX4_isFull_7 : decode cX4_isFull 7 = .ok (.if_icmp .lt 7, 3) := by decide +kernel
theorem dX4_isFull_10 : decode cX4_isFull 10 = .ok (.iconst 1, 1) := by decide +kernel
theorem dX4_isFull_11 : decode cX4_isFull 11 = .ok (.goto 4, 3) := by decide +kernel
theorem dX4_isFull_14 : decode cX4_isFull 14 = .ok (.iconst 0, 1) := by decide +kernel
theorem dX4_isFull_15 : decode cX4_isFull 15 = .ok (.ireturn, 1) := by decide +kernel
theorem dX4_isIn_0 : decode cX4_isIn 0 = .ok (.iload_n 0, 1) := by decide +kernel
theorem dX4_isIn_1 : decode cX4_isIn 1 = .ok (.iload_n 1, 1) := by decide +kernel
theorem dX4_isIn_2 : decode cX4_isIn 2 = .ok (.if_icmp .lt 12, 3) := by decide +kernel
theorem dX4_isIn_5 : decode cX4_isIn 5 = .ok (.iload_n 0, 1) := by decide +kernel
theorem dX4_isIn_6 : decode cX4_isIn 6 = .ok (.iload_n 2, 1) := by decide +kernel
theorem dX4_isIn_7 : decode cX4_isIn 7 = .ok (.if_icmp .gt 7, 3) := by decide +kernel
theorem dX4_isIn_10 : decode cX4_isIn 10 = .ok (.iconst 1, 1) := by decide +kernel
theorem dX4_isIn_11 : decode cX4_isIn 11 = .ok (.goto 4, 3) := by decide +kernel
theorem dX4_isIn_14 : decode cX4_isIn 14 = .ok (.iconst 0, 1) := by decide +kernel
theorem dX4_isIn_15 : decode cX4_isIn 15 = .ok (.ireturn, 1) := by decide +kernel
theorem dX4_isKind_0 : decode cX4_isKind 0 = .ok (.iload_n 0, 1) := by decide +kernel
theorem dX4_isKind_1 : decode cX4_isKind 1 = .ok (.iconst 0, 1) := by decide +kernel
theorem dX4_isKind_2 : decode cX4_isKind 2 = .ok (.iconst 3, 1) := by decide +kernel
theorem dX4_isKind_3 : decode cX4_isKind 3 = .ok (.invokestatic 50, 3) := by decide +kernel
theorem dX4_isKind_6 : decode cX4_isKind 6 = .ok (.ireturn, 1) := by decide +kernel
theorem dX4_tilesAcross_0 : decode cX4_tilesAcross 0 = .ok (.iconst 1, 1) := by decide +kernel
theorem dX4_tilesAcross_1 : decode cX4_tilesAcross 1 = .ok (.iload_n 0, 1) := by decide +kernel
theorem dX4_tilesAcross_2 : decode cX4_tilesAcross 2 = .ok (.ishl, 1) := by decide +kernel
theorem dX4_tilesAcross_3 : decode cX4_tilesAcross 3 = .ok (.ireturn, 1) := by decide +kernel
/-- how far it is -/
def k_dst (a b c d : Int32) : Int32 := (if 0 ≤ a - c then a - c else 0 - (a - c)) + (if 0 ≤ b - d then b - d else 0 - (b - d))
theorem ke_J3_checkIndex_8e157 : wl_S yJ3_checkIndex_8e157 cJ3_checkIndex_8e157 3 (some .int) 3 := ⟨wd_c_J3_checkIndex_8e157, wd_t_J3_checkIndex_8e157, wd_n_J3, by decide, by decide +kernel⟩
set_option maxHeartbeats 4000000 in
set_option maxRecDepth 100000 in
theorem m_J3_checkIndex_8e157 (l : Launch) (i n : Nat) (hi : i < n) (hn : n < 2 ^ 31) : rc_C l yJ3_checkIndex_8e157 cJ3_checkIndex_8e157 3 (some .int) 0 0 [.int (nI i), .int (nI n), .null] (fun _ => True) (fun r => r = nI i) := by
  refine rc_of (by decide) (Nat.le_of_ble_eq_true rfl) ?_
  intro p e s m args below meth c hx hb hr hF hlk hB ls hl
  have hl : lv_has ls 3 [(0, .int (nI i)), (1, .int (nI n)), (2, .null)] := hl
  have hf : (0 : Nat) ≤ 0 ∧ (0 : Nat) ≤ 0 := ⟨Nat.le_refl 0, Nat.le_refl 0⟩
  refine lv_iload_n hx hb dJ3_checkIndex_8e157_0 rfl (lv_at hl 0 rfl) ?_
  refine lv_if_lt (tgt := 9) hx hb dJ3_checkIndex_8e157_1 (by decide) (fun c1 => ?_) (fun c1 => ?_)
  · skip
    exact absurd c1 (nI_pos (by omega))
  · skip
    refine lv_iload_n hx hb dJ3_checkIndex_8e157_4 rfl (lv_at hl 0 rfl) ?_
    refine lv_iload_n hx hb dJ3_checkIndex_8e157_5 rfl (lv_at hl 1 rfl) ?_
    refine lv_icmp_lt (tgt := 16) hx hb dJ3_checkIndex_8e157_6 (by decide) (fun c2 => ?_) (fun c2 => ?_)
    · skip
      refine lv_iload_n hx hb dJ3_checkIndex_8e157_16 rfl (lv_at hl 0 rfl) ?_
      exact rc_iret hx hb hr hlk (rfl) dJ3_checkIndex_8e157_17
    · skip
      exact absurd (nI_lt hi hn) c2
theorem ke_J15_checkIndex_7cf53 : wl_S yJ15_checkIndex_7cf53 cJ15_checkIndex_7cf53 2 (some .int) 2 := ⟨wd_c_J15_checkIndex_7cf53, wd_t_J15_checkIndex_7cf53, wd_n_J15, by decide, by decide +kernel⟩
set_option maxHeartbeats 4000000 in
set_option maxRecDepth 100000 in
theorem m_J15_checkIndex_7cf53 (l : Launch) (i n : Nat) (hi : i < n) (hn : n < 2 ^ 31) : rc_C l yJ15_checkIndex_7cf53 cJ15_checkIndex_7cf53 2 (some .int) 1 22 [.int (nI i), .int (nI n)] (fun _ => True) (fun r => r = nI i) := by
  refine rc_of (by decide) (Nat.le_of_ble_eq_true rfl) ?_
  intro p e s m args below meth c hx hb hr hF hlk hB ls hl
  have hl : lv_has ls 2 [(0, .int (nI i)), (1, .int (nI n))] := hl
  have hf : (0 : Nat) ≤ 0 ∧ (0 : Nat) ≤ 0 := ⟨Nat.le_refl 0, Nat.le_refl 0⟩
  refine lv_iload_n hx hb dJ15_checkIndex_7cf53_0 rfl (lv_at hl 0 rfl) ?_
  refine lv_iload_n hx hb dJ15_checkIndex_7cf53_1 rfl (lv_at hl 1 rfl) ?_
  refine lv_null hx hb dJ15_checkIndex_7cf53_2 ?_
  refine rc_S (fr := 0) (lo := 0) (As := [.int (nI i), .int (nI n), .null]) (rest := []) hF (m_J3_checkIndex_8e157 l i n hi hn) ke_J3_checkIndex_8e157 wd_l_J15_105 (by decide) bl_true (fun _ _ _ => trivial) rfl hl.1 rfl (Nat.le_of_ble_eq_true rfl) dJ15_checkIndex_7cf53_3 hf (fun r1 hr1 => ?_)
  replace hr1 : r1 = nI i := hr1
  subst hr1
  exact rc_iret hx hb hr hlk (rfl) dJ15_checkIndex_7cf53_6
theorem ke_Jx4a65c_size_8abf5 : wl_V RJx4a65c yJx4a65c_size_8abf5 cJx4a65c_size_8abf5 1 (some .int) 0 := ⟨wd_c_Jx4a65c_size_8abf5, wd_i_Jx4a65c_size_8abf5, wd_s_Jx4a65c_size_8abf5, wd_n_Jx4a65c, by decide, by decide +kernel⟩
set_option maxHeartbeats 4000000 in
set_option maxRecDepth 100000 in
theorem m_Jx4a65c_size_8abf5 (l : Launch) (G : k_G) (Z : Nat → Prop) (ad : k_Ad) (mm : q_Mem)  : rc_C l yJx4a65c_size_8abf5 cJx4a65c_size_8abf5 1 (some .int) 0 0 [.ref (ad 0 1)] (k_R G Z ad mm) (fun r => r = mm 1 0) := by
  refine rc_of (by decide) (Nat.le_of_ble_eq_true rfl) ?_
  intro p e s m args below meth c hx hb hr hF hlk hB ls hl
  obtain ⟨hM, hK, hP, hT⟩ := hB
  have hS : va_S Z s.heap s.heap [] := va_S.rf
  have hl : lv_has ls 1 [(0, .ref (ad 0 1))] := hl
  have hf : (0 : Nat) ≤ 0 ∧ (0 : Nat) ≤ 0 := ⟨Nat.le_refl 0, Nat.le_refl 0⟩
  refine lv_aload_n hx hb dJx4a65c_size_8abf5_0 rfl (lv_at hl 0 rfl) ?_
  refine g_get (C := RJx4a65c) (T := TJx4a65c) (N := 3) (v := .int (mm 1 0)) hF hK (hM 0 1 _ rfl) rfl inlJx4a65c 2 (by decide) rfl wd_f_Jx4a65c_48 rfl dJx4a65c_size_8abf5_1 ?_
  exact rc_iret hx hb hr hlk (rfl) dJx4a65c_size_8abf5_4
theorem ke_Jx4a65c_elementData_915e3 : wl_V RJx4a65c yJx4a65c_elementData_915e3 cJx4a65c_elementData_915e3 2 (some (.object "java/lang/Object")) 1 := ⟨wd_c_Jx4a65c_elementData_915e3, wd_i_Jx4a65c_elementData_915e3, wd_s_Jx4a65c_elementData_915e3, wd_n_Jx4a65c, by decide, by decide +kernel⟩
set_option maxHeartbeats 4000000 in
set_option maxRecDepth 100000 in
theorem m_Jx4a65c_elementData_915e3 (l : Launch) (G : k_G) (Z : Nat → Prop) (ad : k_Ad) (mm : q_Mem) (i : Nat) (hI : Inv mm) (hi : i < sp_W mm) : rq_C l yJx4a65c_elementData_915e3 cJx4a65c_elementData_915e3 2 (some (.object "java/lang/Object")) 0 0 [.ref (ad 0 1), .int (nI i)] (k_R G Z ad mm) (fun r => r = some (ad 1 i)) := by
  refine rq_of (by decide) (Nat.le_of_ble_eq_true rfl) ?_
  intro p e s m args below meth c hx hb hr hF hlk hB ls hl
  obtain ⟨hM, hK, hP, hT⟩ := hB
  have hS : va_S Z s.heap s.heap [] := va_S.rf
  have hl : lv_has ls 2 [(0, .ref (ad 0 1)), (1, .int (nI i))] := hl
  have hf : (0 : Nat) ≤ 0 ∧ (0 : Nat) ≤ 0 := ⟨Nat.le_refl 0, Nat.le_refl 0⟩
  refine lv_aload_n hx hb dJx4a65c_elementData_915e3_0 rfl (lv_at hl 0 rfl) ?_
  refine g_get (C := RJx4a65c) (T := TJx4a65c) (N := 3) (v := .ref (if sp_W mm = 0 then G.2.2.2.2.1 else ad 0 6)) hF hK (hM 0 1 _ rfl) rfl inlJx4a65c 1 (by decide) rfl wd_f_Jx4a65c_9 rfl dJx4a65c_elementData_915e3_1 ?_
  refine bo_toV (v := .ref (ad 0 6)) (by rw [if_neg (by omega : ¬ sp_W mm = 0)]) ?_
  refine lv_iload_n hx hb dJx4a65c_elementData_915e3_4 rfl (lv_at hl 1 rfl) ?_
  refine g_aldq (t0 := 2) (i := i) hF hK (hM 0 6 _ (kc_e (by omega))) rfl rfl (Nat.lt_of_lt_of_le hi (cp_le hI.W40)) (cp_lt _) dJx4a65c_elementData_915e3_5 ?_
  refine bo_toV (v := .ref (ad 1 i)) (k_er_w hi) ?_
  exact rq_ret (o := (some (ad 1 i))) hx hb hr hlk (rfl) dJx4a65c_elementData_915e3_6
theorem ke_Jx4a65c_get_915e3 : wl_V RJx4a65c yJx4a65c_get_915e3 cJx4a65c_get_915e3 2 (some (.object "java/lang/Object")) 1 := ⟨wd_c_Jx4a65c_get_915e3, wd_i_Jx4a65c_get_915e3, wd_s_Jx4a65c_get_915e3, wd_n_Jx4a65c, by decide, by decide +kernel⟩
set_option maxHeartbeats 4000000 in
set_option maxRecDepth 100000 in
theorem m_Jx4a65c_get_915e3 (l : Launch) (G : k_G) (Z : Nat → Prop) (ad : k_Ad) (mm : q_Mem) (i : Nat) (hI : Inv mm) (hi : i < sp_W mm) : rq_C l yJx4a65c_get_915e3 cJx4a65c_get_915e3 2 (some (.object "java/lang/Object")) 2 43 [.ref (ad 0 1), .int (nI i)] (k_R G Z ad mm) (fun r => r = some (ad 1 i)) := by
  refine rq_of (by decide) (Nat.le_of_ble_eq_true rfl) ?_
  intro p e s m args below meth c hx hb hr hF hlk hB ls hl
  obtain ⟨hM, hK, hP, hT⟩ := hB
  have hS : va_S Z s.heap s.heap [] := va_S.rf
  have hl : lv_has ls 2 [(0, .ref (ad 0 1)), (1, .int (nI i))] := hl
  have hf : (0 : Nat) ≤ 0 ∧ (0 : Nat) ≤ 0 := ⟨Nat.le_refl 0, Nat.le_refl 0⟩
  refine lv_iload_n hx hb dJx4a65c_get_915e3_0 rfl (lv_at hl 1 rfl) ?_
  refine lv_aload_n hx hb dJx4a65c_get_915e3_1 rfl (lv_at hl 0 rfl) ?_
  refine g_get (C := RJx4a65c) (T := TJx4a65c) (N := 3) (v := .int (mm 1 0)) hF hK (hM 0 1 _ rfl) rfl inlJx4a65c 2 (by decide) rfl wd_f_Jx4a65c_48 rfl dJx4a65c_get_915e3_2 ?_
  refine bo_to (v := (nI (sp_W mm))) (hI.W) ?_
  refine rc_S (fr := 1) (lo := 22) (As := [.int (nI i), .int (nI (sp_W mm))]) (rest := []) hF (m_J15_checkIndex_7cf53 l i (sp_W mm) hi (by have := hI.W40; omega)) ke_J15_checkIndex_7cf53 wd_l_Jx4a65c_118 (by decide) bl_true (fun _ _ _ => trivial) rfl hl.1 rfl (Nat.le_of_ble_eq_true rfl) dJx4a65c_get_915e3_5 hf (fun r1 hr1 => ?_)
  replace hr1 : r1 = nI i := hr1
  subst hr1
  refine lv_pop hx hb dJx4a65c_get_915e3_8 rfl ?_
  refine lv_aload_n hx hb dJx4a65c_get_915e3_9 rfl (lv_at hl 0 rfl) ?_
  refine lv_iload_n hx hb dJx4a65c_get_915e3_10 rfl (lv_at hl 1 rfl) ?_
  refine kq_V (fr := 0) (lo := 0) (As := [.int (nI i)]) (rest := []) hF (m_Jx4a65c_elementData_915e3 l G Z ad mm i hI hi) ke_Jx4a65c_elementData_915e3 wd_l_Jx4a65c_123 (by decide) hM hK hP hT hS (g_recv hK (hM 0 1 _ rfl) rfl) rfl hl.1 rfl (Nat.le_of_ble_eq_true rfl) dJx4a65c_get_915e3_11 hf (fun r2 hr2 => ?_)
  obtain rfl := hr2
  refine bo_toV (v := .ref (ad 1 i)) rfl ?_
  exact rq_ret (o := (some (ad 1 i))) hx hb hr hlk (rfl) dJx4a65c_get_915e3_14
theorem ke_X4_isIn : wl_S yX4_isIn cX4_isIn 3 (some .boolean) 3 := ⟨wd_c_X4_isIn, wd_t_X4_isIn, wd_n_X4, by decide, by decide +kernel⟩
set_option maxHeartbeats 4000000 in
set_option maxRecDepth 100000 in
theorem m_X4_isIn (l : Launch) (x y z : Int32)  : rc_C l yX4_isIn cX4_isIn 3 (some .boolean) 0 0 [.int x, .int y, .int z] (fun _ => True) (fun r => r = if y ≤ x ∧ x ≤ z then 1 else 0) := by
  refine rc_of (by decide) (Nat.le_of_ble_eq_true rfl) ?_
  intro p e s m args below meth c hx hb hr hF hlk hB ls hl
  have hl : lv_has ls 3 [(0, .int x), (1, .int y), (2, .int z)] := hl
  have hf : (0 : Nat) ≤ 0 ∧ (0 : Nat) ≤ 0 := ⟨Nat.le_refl 0, Nat.le_refl 0⟩
  refine lv_iload_n hx hb dX4_isIn_0 rfl (lv_at hl 0 rfl) ?_
  refine lv_iload_n hx hb dX4_isIn_1 rfl (lv_at hl 1 rfl) ?_
  refine lv_icmp_lt (tgt := 14) hx hb dX4_isIn_2 (by decide) (fun c1 => ?_) (fun c1 => ?_)
  · skip
    refine lv_iconst (v := 0) hx hb dX4_isIn_14 (by decide) ?_
    exact rc_zret hx hb hr hlk (by first | exact Or.inl rfl | exact Or.inr rfl) (by first | exact bo_y (bo_lt c1) (bo_lt c2) | exact bo_n1 (bo_nle c1) | exact bo_n2 (bo_nle c2)) dX4_isIn_15
  · skip
    refine lv_iload_n hx hb dX4_isIn_5 rfl (lv_at hl 0 rfl) ?_
    refine lv_iload_n hx hb dX4_isIn_6 rfl (lv_at hl 2 rfl) ?_
    refine lv_icmp_gt (tgt := 14) hx hb dX4_isIn_7 (by decide) (fun c2 => ?_) (fun c2 => ?_)
    · skip
      refine lv_iconst (v := 0) hx hb dX4_isIn_14 (by decide) ?_
      exact rc_zret hx hb hr hlk (by first | exact Or.inl rfl | exact Or.inr rfl) (by first | exact bo_y (bo_lt c1) (bo_lt c2) | exact bo_n1 (bo_nle c1) | exact bo_n2 (bo_nle c2)) dX4_isIn_15
    · skip
      refine lv_iconst (v := 1) hx hb dX4_isIn_10 (by decide) ?_
      refine lv_goto (tgt := 15) hx hb dX4_isIn_11 (by decide) ?_
      exact rc_zret hx hb hr hlk (by first | exact Or.inl rfl | exact Or.inr rfl) (by first | exact bo_y (bo_lt c1) (bo_lt c2) | exact bo_n1 (bo_nle c1) | exact bo_n2 (bo_nle c2)) dX4_isIn_15
theorem ke_X4_isKind : wl_S yX4_isKind cX4_isKind 1 (some .boolean) 1 := ⟨wd_c_X4_isKind, wd_t_X4_isKind, wd_n_X4, by decide, by decide +kernel⟩
set_option maxHeartbeats 4000000 in
set_option maxRecDepth 100000 in
theorem m_X4_isKind (l : Launch) (x : Int32)  : rc_C l yX4_isKind cX4_isKind 1 (some .boolean) 1 22 [.int x] (fun _ => True) (fun r => r = if 0 ≤ x ∧ x ≤ 3 then 1 else 0) := by
  refine rc_of (by decide) (Nat.le_of_ble_eq_true rfl) ?_
  intro p e s m args below meth c hx hb hr hF hlk hB ls hl
  have hl : lv_has ls 1 [(0, .int x)] := hl
  have hf : (0 : Nat) ≤ 0 ∧ (0 : Nat) ≤ 0 := ⟨Nat.le_refl 0, Nat.le_refl 0⟩
  refine lv_iload_n hx hb dX4_isKind_0 rfl (lv_at hl 0 rfl) ?_
  refine lv_iconst (v := 0) hx hb dX4_isKind_1 (by decide) ?_
  refine lv_iconst (v := 3) hx hb dX4_isKind_2 (by decide) ?_
  refine rc_S (fr := 0) (lo := 0) (As := [.int x, .int 0, .int 3]) (rest := []) hF (m_X4_isIn l x 0 3) ke_X4_isIn wd_l_X4_50 (by decide) bl_true (fun _ _ _ => trivial) rfl hl.1 rfl (Nat.le_of_ble_eq_true rfl) dX4_isKind_3 hf (fun r1 hr1 => ?_)
  exact rc_zret hx hb hr hlk (bo_bit hr1) (hr1) dX4_isKind_6
theorem ke_X4_isDirection : wl_S yX4_isDirection cX4_isDirection 1 (some .boolean) 1 := ⟨wd_c_X4_isDirection, wd_t_X4_isDirection, wd_n_X4, by decide, by decide +kernel⟩
set_option maxHeartbeats 4000000 in
set_option maxRecDepth 100000 in
theorem m_X4_isDirection (l : Launch) (x : Int32)  : rc_C l yX4_isDirection cX4_isDirection 1 (some .boolean) 1 22 [.int x] (fun _ => True) (fun r => r = if 0 ≤ x ∧ x ≤ 2 then 1 else 0) := by
  refine rc_of (by decide) (Nat.le_of_ble_eq_true rfl) ?_
  intro p e s m args below meth c hx hb hr hF hlk hB ls hl
  have hl : lv_has ls 1 [(0, .int x)] := hl
  have hf : (0 : Nat) ≤ 0 ∧ (0 : Nat) ≤ 0 := ⟨Nat.le_refl 0, Nat.le_refl 0⟩
  refine lv_iload_n hx hb dX4_isDirection_0 rfl (lv_at hl 0 rfl) ?_
  refine lv_iconst (v := 0) hx hb dX4_isDirection_1 (by decide) ?_
  refine lv_iconst (v := 2) hx hb dX4_isDirection_2 (by decide) ?_
  refine rc_S (fr := 0) (lo := 0) (As := [.int x, .int 0, .int 2]) (rest := []) hF (m_X4_isIn l x 0 2) ke_X4_isIn wd_l_X4_50 (by decide) bl_true (fun _ _ _ => trivial) rfl hl.1 rfl (Nat.le_of_ble_eq_true rfl) dX4_isDirection_3 hf (fun r1 hr1 => ?_)
  exact rc_zret hx hb hr hlk (bo_bit hr1) (hr1) dX4_isDirection_6
theorem ke_X4_tilesAcross : wl_S yX4_tilesAcross cX4_tilesAcross 1 (some .int) 1 := ⟨wd_c_X4_tilesAcross, wd_t_X4_tilesAcross, wd_n_X4, by decide, by decide +kernel⟩
set_option maxHeartbeats 4000000 in
set_option maxRecDepth 100000 in
theorem m_X4_tilesAcross (l : Launch) (z : Int32)  : rc_C l yX4_tilesAcross cX4_tilesAcross 1 (some .int) 0 0 [.int z] (fun _ => True) (fun r => r = sp_mn z) := by
  refine rc_of (by decide) (Nat.le_of_ble_eq_true rfl) ?_
  intro p e s m args below meth c hx hb hr hF hlk hB ls hl
  have hl : lv_has ls 1 [(0, .int z)] := hl
  have hf : (0 : Nat) ≤ 0 ∧ (0 : Nat) ≤ 0 := ⟨Nat.le_refl 0, Nat.le_refl 0⟩
  refine lv_iconst (v := 1) hx hb dX4_tilesAcross_0 (by decide) ?_
  refine lv_iload_n hx hb dX4_tilesAcross_1 rfl (lv_at hl 0 rfl) ?_
  refine lv_ishl hx hb dX4_tilesAcross_2 ?_
  refine bo_to (v := (sp_mn z)) (rfl) ?_
  exact rc_iret hx hb hr hlk (rfl) dX4_tilesAcross_3
theorem ke_X4_distance : wl_S yX4_distance cX4_distance 4 (some .int) 4 := ⟨wd_c_X4_distance, wd_t_X4_distance, wd_n_X4, by decide, by decide +kernel⟩
set_option maxHeartbeats 4000000 in
set_option maxRecDepth 100000 in
theorem m_X4_distance (l : Launch) (a b c1 d : Int32)  : rc_C l yX4_distance cX4_distance 4 (some .int) 1 24 [.int a, .int b, .int c1, .int d] (fun _ => True) (fun r => r = k_dst a b c1 d) := by
  refine rc_of (by decide) (Nat.le_of_ble_eq_true rfl) ?_
  intro p e s m args below meth c hx hb hr hF hlk hB ls hl
  have hl : lv_has ls 4 [(0, .int a), (1, .int b), (2, .int c1), (3, .int d)] := hl
  have hf : (0 : Nat) ≤ 0 ∧ (0 : Nat) ≤ 0 := ⟨Nat.le_refl 0, Nat.le_refl 0⟩
  refine lv_iload_n hx hb dX4_distance_0 rfl (lv_at hl 0 rfl) ?_
  refine lv_iload_n hx hb dX4_distance_1 rfl (lv_at hl 2 rfl) ?_
  refine lv_isub hx hb dX4_distance_2 ?_
  refine va_mabs hF.1 hF.2.1 (hF.2.2.1.trans hl.1.symm) hF.2.2.2.1 (hF.2.2.2.2 _ wd_l_X4_303) (hF.2.2.2.2 _ wd_x21) (hF.2.2.2.2 _ wd_x19) (hF.2.2.2.2 _ wd_x22) (by decide) (Nat.le_of_ble_eq_true rfl) hf.1 hf.2 dX4_distance_3 ?_
  refine lv_iload_n hx hb dX4_distance_6 rfl (lv_at hl 1 rfl) ?_
  refine lv_iload_n hx hb dX4_distance_7 rfl (lv_at hl 3 rfl) ?_
  refine lv_isub hx hb dX4_distance_8 ?_
  refine va_mabs hF.1 hF.2.1 (hF.2.2.1.trans hl.1.symm) hF.2.2.2.1 (hF.2.2.2.2 _ wd_l_X4_303) (hF.2.2.2.2 _ wd_x21) (hF.2.2.2.2 _ wd_x19) (hF.2.2.2.2 _ wd_x22) (by decide) (Nat.le_of_ble_eq_true rfl) hf.1 hf.2 dX4_distance_9 ?_
  refine lv_iadd hx hb dX4_distance_12 ?_
  exact rc_iret hx hb hr hlk (rfl) dX4_distance_13
theorem ke_X4_isFull : wl_V RX4 yX4_isFull cX4_isFull 1 (some .boolean) 0 := ⟨wd_c_X4_isFull, wd_i_X4_isFull, wd_s_X4_isFull, wd_n_X4, by decide, by decide +kernel⟩
set_option maxHeartbeats 4000000 in
set_option maxRecDepth 100000 in
theorem m_X4_isFull (l : Launch) (G : k_G) (Z : Nat → Prop) (ad : k_Ad) (mm : q_Mem)  : rc_C l yX4_isFull cX4_isFull 1 (some .boolean) 0 0 [.ref (ad 0 0)] (k_R G Z ad mm) (fun r => r = if 512 ≤ mm 10 0 then 1 else 0) := by
  refine rc_of (by decide) (Nat.le_of_ble_eq_true rfl) ?_
  intro p e s m args below meth c hx hb hr hF hlk hB ls hl
  obtain ⟨hM, hK, hP, hT⟩ := hB
  have hS : va_S Z s.heap s.heap [] := va_S.rf
  have hl : lv_has ls 1 [(0, .ref (ad 0 0))] := hl
  have hf : (0 : Nat) ≤ 0 ∧ (0 : Nat) ≤ 0 := ⟨Nat.le_refl 0, Nat.le_refl 0⟩
  refine lv_aload_n hx hb dX4_isFull_0 rfl (lv_at hl 0 rfl) ?_
  refine g_get (C := RX4) (T := TX4) (N := 6) (v := .int (mm 10 0)) hF hK (hM 0 0 _ rfl) rfl inlX4 5 (by decide) rfl wd_f_X4_32 rfl dX4_isFull_1 ?_
  refine lv_sipush (v := 512) hx hb dX4_isFull_4 (by decide) ?_
  refine lv_icmp_lt (tgt := 14) hx hb dX4_isFull_7 (by decide) (fun c1 => ?_) (fun c1 => ?_)
  · skip
    refine lv_iconst (v := 0) hx hb dX4_isFull_14 (by decide) ?_
    exact rc_zret hx hb hr hlk (by first | exact Or.inl rfl | exact Or.inr rfl) (by first | exact bo_p (bo_lt c1) | exact bo_n (bo_nle c1)) dX4_isFull_15
  · skip
    refine lv_iconst (v := 1) hx hb dX4_isFull_10 (by decide) ?_
    refine lv_goto (tgt := 15) hx hb dX4_isFull_11 (by decide) ?_
    exact rc_zret hx hb hr hlk (by first | exact Or.inl rfl | exact Or.inr rfl) (by first | exact bo_p (bo_lt c1) | exact bo_n (bo_nle c1)) dX4_isFull_15
theorem ke_X3_kind : wl_V RX3 yX3_kind cX3_kind 1 (some .int) 0 := ⟨wd_c_X3_kind, wd_i_X3_kind, wd_s_X3_kind, wd_n_X3, by decide, by decide +kernel⟩
set_option maxHeartbeats 4000000 in
set_option maxRecDepth 100000 in
theorem m_X3_kind (l : Launch) (G : k_G) (Z : Nat → Prop) (ad : k_Ad) (mm : q_Mem) (w : Nat) (hI : Inv mm) (hw : w < sp_W mm) : rc_C l yX3_kind cX3_kind 1 (some .int) 0 0 [.ref (ad 1 w)] (k_R G Z ad mm) (fun r => r = sp_vk (mm 11 (sp_L mm w))) := by
  refine rc_of (by decide) (Nat.le_of_ble_eq_true rfl) ?_
  intro p e s m args below meth c hx hb hr hF hlk hB ls hl
  obtain ⟨hM, hK, hP, hT⟩ := hB
  have hS : va_S Z s.heap s.heap [] := va_S.rf
  have hl : lv_has ls 1 [(0, .ref (ad 1 w))] := hl
  have hf : (0 : Nat) ≤ 0 ∧ (0 : Nat) ≤ 0 := ⟨Nat.le_refl 0, Nat.le_refl 0⟩
  have hLK := hI.LK hw
  have hW40 := hI.W40
  have hKK := hI.K512
  refine lv_aload_n hx hb dX3_kind_0 rfl (lv_at hl 0 rfl) ?_
  refine g_get (C := RX3) (T := TX3) (N := 8) (v := .ref (ad 3 (sp_L mm w))) hF hK (hM 1 w _ (kc_w (by assumption))) rfl inlX3 5 (by decide) rfl wd_f_X3_35 rfl dX3_kind_1 ?_
  refine g_get (C := RX2) (T := TX2) (N := 4) (v := .ref (ad 4 (sp_L mm w))) hF hK (hM 3 (sp_L mm w) _ (kc_v (by assumption))) rfl inlX2 0 (by decide) rfl wd_f_X3_45 rfl dX3_kind_4 ?_
  refine g_get (C := RX0) (T := TX0) (N := 3) (v := .int (sp_vk (mm 11 (sp_L mm w)))) hF hK (hM 4 (sp_L mm w) _ (kc_c (by assumption))) rfl inlX0 0 (by decide) rfl wd_f_X3_50 rfl dX3_kind_7 ?_
  exact rc_iret hx hb hr hlk (rfl) dX3_kind_10
theorem ke_X3_direction : wl_V RX3 yX3_direction cX3_direction 1 (some .int) 0 := ⟨wd_c_X3_direction, wd_i_X3_direction, wd_s_X3_direction, wd_n_X3, by decide, by decide +kernel⟩
set_option maxHeartbeats 4000000 in
set_option maxRecDepth 100000 in
theorem m_X3_direction (l : Launch) (G : k_G) (Z : Nat → Prop) (ad : k_Ad) (mm : q_Mem) (w : Nat) (hI : Inv mm) (hw : w < sp_W mm) : rc_C l yX3_direction cX3_direction 1 (some .int) 0 0 [.ref (ad 1 w)] (k_R G Z ad mm) (fun r => r = sp_vd (mm 11 (sp_L mm w))) := by
  refine rc_of (by decide) (Nat.le_of_ble_eq_true rfl) ?_
  intro p e s m args below meth c hx hb hr hF hlk hB ls hl
  obtain ⟨hM, hK, hP, hT⟩ := hB
  have hS : va_S Z s.heap s.heap [] := va_S.rf
  have hl : lv_has ls 1 [(0, .ref (ad 1 w))] := hl
  have hf : (0 : Nat) ≤ 0 ∧ (0 : Nat) ≤ 0 := ⟨Nat.le_refl 0, Nat.le_refl 0⟩
  have hLK := hI.LK hw
  have hW40 := hI.W40
  have hKK := hI.K512
  refine lv_aload_n hx hb dX3_direction_0 rfl (lv_at hl 0 rfl) ?_
  refine g_get (C := RX3) (T := TX3) (N := 8) (v := .ref (ad 3 (sp_L mm w))) hF hK (hM 1 w _ (kc_w (by assumption))) rfl inlX3 5 (by decide) rfl wd_f_X3_35 rfl dX3_direction_1 ?_
  refine g_get (C := RX2) (T := TX2) (N := 4) (v := .ref (ad 4 (sp_L mm w))) hF hK (hM 3 (sp_L mm w) _ (kc_v (by assumption))) rfl inlX2 0 (by decide) rfl wd_f_X3_45 rfl dX3_direction_4 ?_
  refine g_get (C := RX0) (T := TX0) (N := 3) (v := .int (sp_vd (mm 11 (sp_L mm w)))) hF hK (hM 4 (sp_L mm w) _ (kc_c (by assumption))) rfl inlX0 1 (by decide) rfl wd_f_X3_55 rfl dX3_direction_7 ?_
  exact rc_iret hx hb hr hlk (rfl) dX3_direction_10
theorem ke_X3_versionCount : wl_V RX3 yX3_versionCount cX3_versionCount 1 (some .int) 0 := ⟨wd_c_X3_versionCount, wd_i_X3_versionCount, wd_s_X3_versionCount, wd_n_X3, by decide, by decide +kernel⟩
set_option maxHeartbeats 4000000 in
set_option maxRecDepth 100000 in
theorem m_X3_versionCount (l : Launch) (G : k_G) (Z : Nat → Prop) (ad : k_Ad) (mm : q_Mem) (w : Nat) (hI : Inv mm) (hw : w < sp_W mm) : rc_C l yX3_versionCount cX3_versionCount 1 (some .int) 0 0 [.ref (ad 1 w)] (k_R G Z ad mm) (fun r => r = mm 7 w) := by
  refine rc_of (by decide) (Nat.le_of_ble_eq_true rfl) ?_
  intro p e s m args below meth c hx hb hr hF hlk hB ls hl
  obtain ⟨hM, hK, hP, hT⟩ := hB
  have hS : va_S Z s.heap s.heap [] := va_S.rf
  have hl : lv_has ls 1 [(0, .ref (ad 1 w))] := hl
  have hf : (0 : Nat) ≤ 0 ∧ (0 : Nat) ≤ 0 := ⟨Nat.le_refl 0, Nat.le_refl 0⟩
  have hLK := hI.LK hw
  have hW40 := hI.W40
  have hKK := hI.K512
  refine lv_aload_n hx hb dX3_versionCount_0 rfl (lv_at hl 0 rfl) ?_
  refine g_get (C := RX3) (T := TX3) (N := 8) (v := .ref (ad 3 (sp_L mm w))) hF hK (hM 1 w _ (kc_w (by assumption))) rfl inlX3 5 (by decide) rfl wd_f_X3_35 rfl dX3_versionCount_1 ?_
  refine g_get (C := RX2) (T := TX2) (N := 4) (v := .int (mm 21 (sp_L mm w))) hF hK (hM 3 (sp_L mm w) _ (kc_v (by assumption))) rfl inlX2 2 (by decide) rfl wd_f_X3_58 rfl dX3_versionCount_4 ?_
  refine lv_iconst (v := 1) hx hb dX3_versionCount_7 (by decide) ?_
  refine lv_iadd hx hb dX3_versionCount_8 ?_
  exact rc_iret hx hb hr hlk (by obtain ⟨n, -, e1, e2⟩ := hI.N hw; rw [e1, e2, nI_1]) dX3_versionCount_9
theorem ke_X0_coded : wl_V RX0 yX0_coded cX0_coded 1 (some .int) 0 := ⟨wd_c_X0_coded, wd_i_X0_coded, wd_s_X0_coded, wd_n_X0, by decide, by decide +kernel⟩
set_option maxHeartbeats 4000000 in
set_option maxRecDepth 100000 in
theorem m_X0_coded (l : Launch) (G : k_G) (Z : Nat → Prop) (ad : k_Ad) (mm : q_Mem) (j : Nat) (hj : j < sp_K mm) : rc_C l yX0_coded cX0_coded 1 (some .int) 0 0 [.ref (ad 4 j)] (k_R G Z ad mm) (fun r => r = sp_co (sp_vk (mm 11 j)) (sp_vd (mm 11 j)) (sp_ve (mm 11 j))) := by
  refine rc_of (by decide) (Nat.le_of_ble_eq_true rfl) ?_
  intro p e s m args below meth c hx hb hr hF hlk hB ls hl
  obtain ⟨hM, hK, hP, hT⟩ := hB
  have hS : va_S Z s.heap s.heap [] := va_S.rf
  have hl : lv_has ls 1 [(0, .ref (ad 4 j))] := hl
  have hf : (0 : Nat) ≤ 0 ∧ (0 : Nat) ≤ 0 := ⟨Nat.le_refl 0, Nat.le_refl 0⟩
  refine lv_bipush (v := 100) hx hb dX0_coded_0 (by decide) ?_
  refine lv_aload_n hx hb dX0_coded_2 rfl (lv_at hl 0 rfl) ?_
  refine g_get (C := RX0) (T := TX0) (N := 3) (v := .int (sp_vk (mm 11 j))) hF hK (hM 4 j _ (kc_c (by assumption))) rfl inlX0 0 (by decide) rfl wd_f_X0_7 rfl dX0_coded_3 ?_
  refine lv_imul hx hb dX0_coded_6 ?_
  refine lv_bipush (v := 10) hx hb dX0_coded_7 (by decide) ?_
  refine lv_aload_n hx hb dX0_coded_9 rfl (lv_at hl 0 rfl) ?_
  refine g_get (C := RX0) (T := TX0) (N := 3) (v := .int (sp_vd (mm 11 j))) hF hK (hM 4 j _ (kc_c (by assumption))) rfl inlX0 1 (by decide) rfl wd_f_X0_13 rfl dX0_coded_10 ?_
  refine lv_imul hx hb dX0_coded_13 ?_
  refine lv_iadd hx hb dX0_coded_14 ?_
  refine lv_aload_n hx hb dX0_coded_15 rfl (lv_at hl 0 rfl) ?_
  refine g_get (C := RX0) (T := TX0) (N := 3) (v := .int (sp_ve (mm 11 j))) hF hK (hM 4 j _ (kc_c (by assumption))) rfl inlX0 2 (by decide) rfl wd_f_X0_16 rfl dX0_coded_16 ?_
  refine lv_iadd hx hb dX0_coded_19 ?_
  refine lv_iconst (v := 1) hx hb dX0_coded_20 (by decide) ?_
  refine lv_iadd hx hb dX0_coded_21 ?_
  exact rc_iret hx hb hr hlk (rfl) dX0_coded_22
theorem ke_X3_distanceFromBegin : wl_V RX3 yX3_distanceFromBegin cX3_distanceFromBegin 3 (some .int) 2 := ⟨wd_c_X3_distanceFromBegin, wd_i_X3_distanceFromBegin, wd_s_X3_distanceFromBegin, wd_n_X3, by decide, by decide +kernel⟩
set_option maxHeartbeats 4000000 in
set_option maxRecDepth 100000 in
theorem m_X3_distanceFromBegin (l : Launch) (G : k_G) (Z : Nat → Prop) (ad : k_Ad) (mm : q_Mem) (w : Nat) (x y : Int32) (hI : Inv mm) (hw : w < sp_W mm) : rc_C l yX3_distanceFromBegin cX3_distanceFromBegin 3 (some .int) 2 47 [.ref (ad 1 w), .int x, .int y] (k_R G Z ad mm) (fun r => r = k_dst x y (mm 2 w) (mm 3 w)) := by
  refine rc_of (by decide) (Nat.le_of_ble_eq_true rfl) ?_
  intro p e s m args below meth c hx hb hr hF hlk hB ls hl
  obtain ⟨hM, hK, hP, hT⟩ := hB
  have hS : va_S Z s.heap s.heap [] := va_S.rf
  have hl : lv_has ls 3 [(0, .ref (ad 1 w)), (1, .int x), (2, .int y)] := hl
  have hf : (0 : Nat) ≤ 0 ∧ (0 : Nat) ≤ 0 := ⟨Nat.le_refl 0, Nat.le_refl 0⟩
  refine lv_iload_n hx hb dX3_distanceFromBegin_0 rfl (lv_at hl 1 rfl) ?_
  refine lv_iload_n hx hb dX3_distanceFromBegin_1 rfl (lv_at hl 2 rfl) ?_
  refine lv_aload_n hx hb dX3_distanceFromBegin_2 rfl (lv_at hl 0 rfl) ?_
  refine g_get (C := RX3) (T := TX3) (N := 8) (v := .int (mm 2 w)) hF hK (hM 1 w _ (kc_w (by assumption))) rfl inlX3 0 (by decide) rfl wd_f_X3_23 rfl dX3_distanceFromBegin_3 ?_
  refine lv_aload_n hx hb dX3_distanceFromBegin_6 rfl (lv_at hl 0 rfl) ?_
  refine g_get (C := RX3) (T := TX3) (N := 8) (v := .int (mm 3 w)) hF hK (hM 1 w _ (kc_w (by assumption))) rfl inlX3 1 (by decide) rfl wd_f_X3_26 rfl dX3_distanceFromBegin_7 ?_
  refine kr_SN (fr := 1) (lo := 24) (As := [.int x, .int y, .int (mm 2 w), .int (mm 3 w)]) (rest := []) hF (m_X4_distance l x y (mm 2 w) (mm 3 w)) ke_X4_distance hP.1 (by decide) rfl hl.1 rfl (Nat.le_of_ble_eq_true rfl) dX3_distanceFromBegin_10 hf (fun r1 hr1 => ?_)
  replace hr1 : r1 = k_dst x y (mm 2 w) (mm 3 w) := hr1
  subst hr1
  exact rc_iret hx hb hr hlk (rfl) dX3_distanceFromBegin_13
theorem ke_X3_distanceFromEnd : wl_V RX3 yX3_distanceFromEnd cX3_distanceFromEnd 3 (some .int) 2 := ⟨wd_c_X3_distanceFromEnd, wd_i_X3_distanceFromEnd, wd_s_X3_distanceFromEnd, wd_n_X3, by decide, by decide +kernel⟩
set_option maxHeartbeats 4000000 in
set_option maxRecDepth 100000 in
theorem m_X3_distanceFromEnd (l : Launch) (G : k_G) (Z : Nat → Prop) (ad : k_Ad) (mm : q_Mem) (w : Nat) (x y : Int32) (hI : Inv mm) (hw : w < sp_W mm) : rc_C l yX3_distanceFromEnd cX3_distanceFromEnd 3 (some .int) 2 47 [.ref (ad 1 w), .int x, .int y] (k_R G Z ad mm) (fun r => r = k_dst x y (mm 4 w) (mm 5 w)) := by
  refine rc_of (by decide) (Nat.le_of_ble_eq_true rfl) ?_
  intro p e s m args below meth c hx hb hr hF hlk hB ls hl
  obtain ⟨hM, hK, hP, hT⟩ := hB
  have hS : va_S Z s.heap s.heap [] := va_S.rf
  have hl : lv_has ls 3 [(0, .ref (ad 1 w)), (1, .int x), (2, .int y)] := hl
  have hf : (0 : Nat) ≤ 0 ∧ (0 : Nat) ≤ 0 := ⟨Nat.le_refl 0, Nat.le_refl 0⟩
  refine lv_iload_n hx hb dX3_distanceFromEnd_0 rfl (lv_at hl 1 rfl) ?_
  refine lv_iload_n hx hb dX3_distanceFromEnd_1 rfl (lv_at hl 2 rfl) ?_
  refine lv_aload_n hx hb dX3_distanceFromEnd_2 rfl (lv_at hl 0 rfl) ?_
  refine g_get (C := RX3) (T := TX3) (N := 8) (v := .int (mm 4 w)) hF hK (hM 1 w _ (kc_w (by assumption))) rfl inlX3 2 (by decide) rfl wd_f_X3_29 rfl dX3_distanceFromEnd_3 ?_
  refine lv_aload_n hx hb dX3_distanceFromEnd_6 rfl (lv_at hl 0 rfl) ?_
  refine g_get (C := RX3) (T := TX3) (N := 8) (v := .int (mm 5 w)) hF hK (hM 1 w _ (kc_w (by assumption))) rfl inlX3 3 (by decide) rfl wd_f_X3_32 rfl dX3_distanceFromEnd_7 ?_
  refine kr_SN (fr := 1) (lo := 24) (As := [.int x, .int y, .int (mm 4 w), .int (mm 5 w)]) (rest := []) hF (m_X4_distance l x y (mm 4 w) (mm 5 w)) ke_X4_distance hP.1 (by decide) rfl hl.1 rfl (Nat.le_of_ble_eq_true rfl) dX3_distanceFromEnd_10 hf (fun r1 hr1 => ?_)
  replace hr1 : r1 = k_dst x y (mm 4 w) (mm 5 w) := hr1
  subst hr1
  exact rc_iret hx hb hr hlk (rfl) dX3_distanceFromEnd_13
theorem ke_X3_distanceFrom : wl_V RX3 yX3_distanceFrom cX3_distanceFrom 3 (some .int) 2 := ⟨wd_c_X3_distanceFrom, wd_i_X3_distanceFrom, wd_s_X3_distanceFrom, wd_n_X3, by decide, by decide +kernel⟩
set_option maxHeartbeats 4000000 in
set_option maxRecDepth 100000 in
theorem m_X3_distanceFrom (l : Launch) (G : k_G) (Z : Nat → Prop) (ad : k_Ad) (mm : q_Mem) (w : Nat) (x y : Int32) (hI : Inv mm) (hw : w < sp_W mm) : rc_C l yX3_distanceFrom cX3_distanceFrom 3 (some .int) 3 69 [.ref (ad 1 w), .int x, .int y] (k_R G Z ad mm) (fun r => r = if k_dst x y (mm 4 w) (mm 5 w) < k_dst x y (mm 2 w) (mm 3 w) then k_dst x y (mm 4 w) (mm 5 w) else k_dst x y (mm 2 w) (mm 3 w)) := by
  refine rc_of (by decide) (Nat.le_of_ble_eq_true rfl) ?_
  intro p e s m args below meth c hx hb hr hF hlk hB ls hl
  obtain ⟨hM, hK, hP, hT⟩ := hB
  have hS : va_S Z s.heap s.heap [] := va_S.rf
  have hl : lv_has ls 3 [(0, .ref (ad 1 w)), (1, .int x), (2, .int y)] := hl
  have hf : (0 : Nat) ≤ 0 ∧ (0 : Nat) ≤ 0 := ⟨Nat.le_refl 0, Nat.le_refl 0⟩
  refine lv_aload_n hx hb dX3_distanceFrom_0 rfl (lv_at hl 0 rfl) ?_
  refine lv_iload_n hx hb dX3_distanceFrom_1 rfl (lv_at hl 1 rfl) ?_
  refine lv_iload_n hx hb dX3_distanceFrom_2 rfl (lv_at hl 2 rfl) ?_
  refine kr_V (fr := 2) (lo := 47) (As := [.int x, .int y]) (rest := []) hF (m_X3_distanceFromBegin l G Z ad mm w x y hI hw) ke_X3_distanceFromBegin wd_l_X3_65 (by decide) hM hK hP hT hS (g_recv hK (hM 1 w _ (kc_w (by assumption))) rfl) rfl hl.1 rfl (Nat.le_of_ble_eq_true rfl) dX3_distanceFrom_3 hf (fun r1 hr1 => ?_)
  replace hr1 : r1 = k_dst x y (mm 2 w) (mm 3 w) := hr1
  subst hr1
  refine lv_aload_n hx hb dX3_distanceFrom_6 rfl (lv_at hl 0 rfl) ?_
  refine lv_iload_n hx hb dX3_distanceFrom_7 rfl (lv_at hl 1 rfl) ?_
  refine lv_iload_n hx hb dX3_distanceFrom_8 rfl (lv_at hl 2 rfl) ?_
  refine kr_V (fr := 2) (lo := 47) (As := [.int x, .int y]) (rest := [.int (k_dst x y (mm 2 w) (mm 3 w))]) hF (m_X3_distanceFromEnd l G Z ad mm w x y hI hw) ke_X3_distanceFromEnd wd_l_X3_69 (by decide) hM hK hP hT hS (g_recv hK (hM 1 w _ (kc_w (by assumption))) rfl) rfl hl.1 rfl (Nat.le_of_ble_eq_true rfl) dX3_distanceFrom_9 hf (fun r2 hr2 => ?_)
  replace hr2 : r2 = k_dst x y (mm 4 w) (mm 5 w) := hr2
  subst hr2
  refine va_mmin hF.1 hF.2.1 (hF.2.2.1.trans hl.1.symm) hF.2.2.2.1 (hF.2.2.2.2 _ wd_l_X3_72) (hF.2.2.2.2 _ wd_x18) (hF.2.2.2.2 _ wd_x19) (hF.2.2.2.2 _ wd_x20) (by decide) (Nat.le_of_ble_eq_true rfl) hf.1 hf.2 dX3_distanceFrom_12 ?_
  exact rc_iret hx hb hr hlk (rfl) dX3_distanceFrom_15
theorem ke_X3_hasPartIn : wl_V RX3 yX3_hasPartIn cX3_hasPartIn 2 (some .boolean) 1 := ⟨wd_c_X3_hasPartIn, wd_i_X3_hasPartIn, wd_s_X3_hasPartIn, wd_n_X3, by decide, by decide +kernel⟩
set_option maxHeartbeats 4000000 in
set_option maxRecDepth 100000 in
theorem m_X3_hasPartIn (l : Launch) (G : k_G) (Z : Nat → Prop) (ad : k_Ad) (mm : q_Mem) (w t : Nat) (hI : Inv mm) (hw : w < sp_W mm) (ht : t < 341) (hs : ¬ mm 13 t = 0) : rc_C l yX3_hasPartIn cX3_hasPartIn 2 (some .boolean) 0 0 [.ref (ad 1 w), .ref (ad 6 t)] (k_R G Z ad mm) (fun r => r = if sp_isin mm w (nI (tz_t t)) (nI (tx_t t)) (nI (ty_t t)) then 1 else 0) := by
  refine rc_of (by decide) (Nat.le_of_ble_eq_true rfl) ?_
  intro p e s m args below meth c hx hb hr hF hlk hB ls hl
  obtain ⟨hM, hK, hP, hT⟩ := hB
  have hS : va_S Z s.heap s.heap [] := va_S.rf
  have hl : lv_has ls 2 [(0, .ref (ad 1 w)), (1, .ref (ad 6 t))] := hl
  have hf : (0 : Nat) ≤ 0 ∧ (0 : Nat) ≤ 0 := ⟨Nat.le_refl 0, Nat.le_refl 0⟩
  refine lv_aload_n hx hb dX3_hasPartIn_0 rfl (lv_at hl 0 rfl) ?_
  refine g_get (C := RX3) (T := TX3) (N := 8) (v := .int (mm 2 w)) hF hK (hM 1 w _ (kc_w (by assumption))) rfl inlX3 0 (by decide) rfl wd_f_X3_23 rfl dX3_hasPartIn_1 ?_
  refine lv_aload_n hx hb dX3_hasPartIn_4 rfl (lv_at hl 1 rfl) ?_
  refine g_get (C := RX1) (T := TX1) (N := 7) (v := .int (sp_sd (nI (tz_t t)) * (nI (tx_t t) + 1))) hF hK (hM 6 t _ (kc_t ht hs)) rfl inlX1 2 (by decide) rfl wd_f_X3_77 rfl dX3_hasPartIn_5 ?_
  refine lv_icmp_gt (tgt := 48) hx hb dX3_hasPartIn_8 (by decide) (fun c1 => ?_) (fun c1 => ?_)
  · skip
    refine lv_iconst (v := 0) hx hb dX3_hasPartIn_48 (by decide) ?_
    exact rc_zret hx hb hr hlk (by first | exact Or.inl rfl | exact Or.inr rfl) (by first | exact bo_p ⟨bo_lt c1, bo_lt c2, bo_lt c3, bo_lt c4⟩ | exact bo_n (fun q => bo_nle c1 q.1) | exact bo_n (fun q => bo_nle c2 q.2.1) | exact bo_n (fun q => bo_nle c3 q.2.2.1) | exact bo_n (fun q => bo_nle c4 q.2.2.2)) dX3_hasPartIn_49
  · skip
    refine lv_aload_n hx hb dX3_hasPartIn_11 rfl (lv_at hl 0 rfl) ?_
    refine g_get (C := RX3) (T := TX3) (N := 8) (v := .int (mm 4 w)) hF hK (hM 1 w _ (kc_w (by assumption))) rfl inlX3 2 (by decide) rfl wd_f_X3_29 rfl dX3_hasPartIn_12 ?_
    refine lv_aload_n hx hb dX3_hasPartIn_15 rfl (lv_at hl 1 rfl) ?_
    refine g_get (C := RX1) (T := TX1) (N := 7) (v := .int (sp_sd (nI (tz_t t)) * nI (tx_t t))) hF hK (hM 6 t _ (kc_t ht hs)) rfl inlX1 1 (by decide) rfl wd_f_X3_82 rfl dX3_hasPartIn_16 ?_
    refine lv_icmp_lt (tgt := 48) hx hb dX3_hasPartIn_19 (by decide) (fun c2 => ?_) (fun c2 => ?_)
    · skip
      refine lv_iconst (v := 0) hx hb dX3_hasPartIn_48 (by decide) ?_
      exact rc_zret hx hb hr hlk (by first | exact Or.inl rfl | exact Or.inr rfl) (by first | exact bo_p ⟨bo_lt c1, bo_lt c2, bo_lt c3, bo_lt c4⟩ | exact bo_n (fun q => bo_nle c1 q.1) | exact bo_n (fun q => bo_nle c2 q.2.1) | exact bo_n (fun q => bo_nle c3 q.2.2.1) | exact bo_n (fun q => bo_nle c4 q.2.2.2)) dX3_hasPartIn_49
    · skip
      refine lv_aload_n hx hb dX3_hasPartIn_22 rfl (lv_at hl 0 rfl) ?_
      refine g_get (C := RX3) (T := TX3) (N := 8) (v := .int (mm 3 w)) hF hK (hM 1 w _ (kc_w (by assumption))) rfl inlX3 1 (by decide) rfl wd_f_X3_26 rfl dX3_hasPartIn_23 ?_
      refine lv_aload_n hx hb dX3_hasPartIn_26 rfl (lv_at hl 1 rfl) ?_
      refine g_get (C := RX1) (T := TX1) (N := 7) (v := .int (sp_sd (nI (tz_t t)) * (nI (ty_t t) + 1))) hF hK (hM 6 t _ (kc_t ht hs)) rfl inlX1 4 (by decide) rfl wd_f_X3_85 rfl dX3_hasPartIn_27 ?_
      refine lv_icmp_gt (tgt := 48) hx hb dX3_hasPartIn_30 (by decide) (fun c3 => ?_) (fun c3 => ?_)
      · skip
        refine lv_iconst (v := 0) hx hb dX3_hasPartIn_48 (by decide) ?_
        exact rc_zret hx hb hr hlk (by first | exact Or.inl rfl | exact Or.inr rfl) (by first | exact bo_p ⟨bo_lt c1, bo_lt c2, bo_lt c3, bo_lt c4⟩ | exact bo_n (fun q => bo_nle c1 q.1) | exact bo_n (fun q => bo_nle c2 q.2.1) | exact bo_n (fun q => bo_nle c3 q.2.2.1) | exact bo_n (fun q => bo_nle c4 q.2.2.2)) dX3_hasPartIn_49
      · skip
        refine lv_aload_n hx hb dX3_hasPartIn_33 rfl (lv_at hl 0 rfl) ?_
        refine g_get (C := RX3) (T := TX3) (N := 8) (v := .int (mm 5 w)) hF hK (hM 1 w _ (kc_w (by assumption))) rfl inlX3 3 (by decide) rfl wd_f_X3_32 rfl dX3_hasPartIn_34 ?_
        refine lv_aload_n hx hb dX3_hasPartIn_37 rfl (lv_at hl 1 rfl) ?_
        refine g_get (C := RX1) (T := TX1) (N := 7) (v := .int (sp_sd (nI (tz_t t)) * nI (ty_t t))) hF hK (hM 6 t _ (kc_t ht hs)) rfl inlX1 3 (by decide) rfl wd_f_X3_88 rfl dX3_hasPartIn_38 ?_
        refine lv_icmp_lt (tgt := 48) hx hb dX3_hasPartIn_41 (by decide) (fun c4 => ?_) (fun c4 => ?_)
        · skip
          refine lv_iconst (v := 0) hx hb dX3_hasPartIn_48 (by decide) ?_
          exact rc_zret hx hb hr hlk (by first | exact Or.inl rfl | exact Or.inr rfl) (by first | exact bo_p ⟨bo_lt c1, bo_lt c2, bo_lt c3, bo_lt c4⟩ | exact bo_n (fun q => bo_nle c1 q.1) | exact bo_n (fun q => bo_nle c2 q.2.1) | exact bo_n (fun q => bo_nle c3 q.2.2.1) | exact bo_n (fun q => bo_nle c4 q.2.2.2)) dX3_hasPartIn_49
        · skip
          refine lv_iconst (v := 1) hx hb dX3_hasPartIn_44 (by decide) ?_
          refine lv_goto (tgt := 49) hx hb dX3_hasPartIn_45 (by decide) ?_
          exact rc_zret hx hb hr hlk (by first | exact Or.inl rfl | exact Or.inr rfl) (by first | exact bo_p ⟨bo_lt c1, bo_lt c2, bo_lt c3, bo_lt c4⟩ | exact bo_n (fun q => bo_nle c1 q.1) | exact bo_n (fun q => bo_nle c2 q.2.1) | exact bo_n (fun q => bo_nle c3 q.2.2.1) | exact bo_n (fun q => bo_nle c4 q.2.2.2)) dX3_hasPartIn_49
theorem ke_X1_shows : wl_V RX1 yX1_shows cX1_shows 2 (some .boolean) 1 := ⟨wd_c_X1_shows, wd_i_X1_shows, wd_s_X1_shows, wd_n_X1, by decide, by decide +kernel⟩
set_option maxHeartbeats 4000000 in
set_option maxRecDepth 100000 in
theorem m_X1_shows (l : Launch) (G : k_G) (Z : Nat → Prop) (ad : k_Ad) (mm : q_Mem) (t j : Nat) (ht : t < 341) (hs : ¬ mm 13 t = 0) (hj : j < sp_K mm) : rc_C l yX1_shows cX1_shows 2 (some .boolean) 0 0 [.ref (ad 6 t), .ref (ad 3 j)] (k_R G Z ad mm) (fun r => r = if sp_sh (mm 11 j) (nI (tz_t t)) then 1 else 0) := by
  refine rc_of (by decide) (Nat.le_of_ble_eq_true rfl) ?_
  intro p e s m args below meth c hx hb hr hF hlk hB ls hl
  obtain ⟨hM, hK, hP, hT⟩ := hB
  have hS : va_S Z s.heap s.heap [] := va_S.rf
  have hl : lv_has ls 2 [(0, .ref (ad 6 t)), (1, .ref (ad 3 j))] := hl
  have hf : (0 : Nat) ≤ 0 ∧ (0 : Nat) ≤ 0 := ⟨Nat.le_refl 0, Nat.le_refl 0⟩
  refine lv_aload_n hx hb dX1_shows_0 rfl (lv_at hl 1 rfl) ?_
  refine lv_ifnull hx hb dX1_shows_1 ?_
  refine lv_aload_n hx hb dX1_shows_4 rfl (lv_at hl 1 rfl) ?_
  refine g_get (C := RX2) (T := TX2) (N := 4) (v := .ref (ad 4 j)) hF hK (hM 3 j _ (kc_v (by assumption))) rfl inlX2 0 (by decide) rfl wd_f_X1_33 rfl dX1_shows_5 ?_
  refine g_get (C := RX0) (T := TX0) (N := 3) (v := .int (sp_vk (mm 11 j))) hF hK (hM 4 j _ (kc_c (by assumption))) rfl inlX0 0 (by decide) rfl wd_f_X1_39 rfl dX1_shows_8 ?_
  refine lv_iconst (v := 3) hx hb dX1_shows_11 (by decide) ?_
  refine lv_aload_n hx hb dX1_shows_12 rfl (lv_at hl 0 rfl) ?_
  refine g_get (C := RX1) (T := TX1) (N := 7) (v := .int (nI (tz_t t))) hF hK (hM 6 t _ (kc_t ht hs)) rfl inlX1 0 (by decide) rfl wd_f_X1_18 rfl dX1_shows_13 ?_
  refine lv_isub hx hb dX1_shows_16 ?_
  refine lv_icmp_lt (tgt := 24) hx hb dX1_shows_17 (by decide) (fun c1 => ?_) (fun c1 => ?_)
  · skip
    refine lv_iconst (v := 0) hx hb dX1_shows_24 (by decide) ?_
    exact rc_zret hx hb hr hlk (by first | exact Or.inl rfl | exact Or.inr rfl) (by first | exact bo_p (bo_lt c1) | exact bo_n (bo_nle c1)) dX1_shows_25
  · skip
    refine lv_iconst (v := 1) hx hb dX1_shows_20 (by decide) ?_
    refine lv_goto (tgt := 25) hx hb dX1_shows_21 (by decide) ?_
    exact rc_zret hx hb hr hlk (by first | exact Or.inl rfl | exact Or.inr rfl) (by first | exact bo_p (bo_lt c1) | exact bo_n (bo_nle c1)) dX1_shows_25
