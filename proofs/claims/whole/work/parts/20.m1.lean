theorem dX5_asks_0 : decode cX5_asks 0 = .ok (.aload_n 0, 1) := by decide +kernel
theorem dX5_asks_1 : decode cX5_asks 1 = .ok (.iload_n 1, 1) := by decide +kernel
theorem dX5_asks_2 : decode cX5_asks 2 = .ok (.ifCond .eq 7, 3) := by decide +kernel
theorem dX5_asks_5 : decode cX5_asks 5 = .ok (.iconst 0, 1) := by decide +kernel
theorem dX5_asks_6 : decode cX5_asks 6 = .ok (.goto 4, 3) := by decide +kernel
theorem dX5_asks_9 : decode cX5_asks 9 = .ok (.iconst 1, 1) := by decide +kernel
theorem dX5_asks_10 : decode cX5_asks 10 = .ok (.putfield 61, 3) := by decide +kernel
theorem dX5_asks_13 : decode cX5_asks 13 = .ok (.iload_n 1, 1) := by decide +kernel
theorem dX5_asks_14 : decode cX5_asks 14 = .ok (.ireturn, 1) := by decide +kernel
theorem dX5_clock_0 : decode cX5_clock 0 = .ok (.aload_n 0, 1) := by decide +kernel
theorem dX5_clock_1 : decode cX5_clock 1 = .ok (.iconst 0, 1) := by decide +kernel
theorem dX5_clock_2 : decode cX5_clock 2 = .ok (.putfield 61, 3) := by decide +kernel
theorem dX5_clock_5 : decode cX5_clock 5 = .ok (.aload_n 0, 1) := by decide +kernel
theorem dX5_clock_6 : decode cX5_clock 6 = .ok (.getfield 72, 3) := by decide +kernel
theorem dX5_clock_9 : decode cX5_clock 9 = .ok (.ireturn, 1) := by decide +kernel
theorem dX5_directionNow_0 : decode cX5_directionNow 0 = .ok (.aload_n 0, 1) := by decide +kernel
theorem dX5_directionNow_1 : decode cX5_directionNow 1 = .ok (.getfield 37, 3) := by decide +kernel
theorem dX5_directionNow_4 : decode cX5_directionNow 4 = .ok (.aload_n 0, 1) := by decide +kernel
theorem dX5_directionNow_5 : decode cX5_directionNow 5 = .ok (.getfield 31, 3) := by decide +kernel
theorem dX5_directionNow_8 : decode cX5_directionNow 8 = .ok (.iload_n 1, 1) := by decide +kernel
theorem dX5_directionNow_9 : decode cX5_directionNow 9 = .ok (.iaload, 1) := by decide +kernel
theorem dX5_directionNow_10 : decode cX5_directionNow 10 = .ok (.iaload, 1) := by decide +kernel
theorem dX5_directionNow_11 : decode cX5_directionNow 11 = .ok (.bipush 100, 2) := by decide +kernel
theorem dX5_directionNow_13 : decode cX5_directionNow 13 = .ok (.irem, 1) := by decide +kernel
theorem dX5_directionNow_14 : decode cX5_directionNow 14 = .ok (.bipush 10, 2) := by decide +kernel
theorem dX5_directionNow_16 : decode cX5_directionNow 16 = .ok (.idiv, 1) := by decide +kernel
theorem dX5_directionNow_17 : decode cX5_directionNow 17 = .ok (.ireturn, 1) := by decide +kernel
theorem dX5_fails_0 : decode cX5_fails 0 = .ok (.aload_n 0, 1) := by decide +kernel
theorem dX5_fails_1 : decode cX5_fails 1 = .ok (.iload_n 1, 1) := by decide +kernel
theorem dX5_fails_2 : decode cX5_fails 2 = .ok (.putfield 61, 3) := by decide +kernel
theorem dX5_fails_5 : decode cX5_fails 5 = .ok (.iconst 0, 1) := by decide +kernel
theorem dX5_fails_6 : decode cX5_fails 6 = .ok (.ireturn, 1) := by decide +kernel
theorem dX5_in_0 : decode cX5_in 0 = .ok (.iload_n 0, 1) := by decide +kernel
theorem dX5_in_1 : decode cX5_in 1 = .ok (.iload_n 1, 1) := by decide +kernel
theorem dX5_in_2 : decode cX5_in 2 = .ok (.if_icmp .lt 12, 3) := by decide +kernel
theorem dX5_in_5 : decode cX5_in 5 = .ok (.iload_n 0, 1) := by decide +kernel
theorem dX5_in_6 : decode cX5_in 6 = .ok (.iload_n 2, 1) := by decide +kernel
theorem dX5_in_7 : decode cX5_in 7 = .ok (.if_icmp .gt 7, 3) := by decide +kernel
theorem dX5_in_10 : decode cX5_in 10 = .ok (.iconst 1, 1) := by decide +kernel
theorem dX5_in_11 : decode cX5_in 11 = .ok (.goto 4, 3) := by decide +kernel
theorem dX5_in_14 : decode cX5_in 14 = .ok (.iconst 0, 1) := by decide +kernel
theorem dX5_in_15 : decode cX5_in 15 = .ok (.ireturn, 1) := by decide +kernel
theorem dX5_isCar_0 : decode cX5_isCar 0 = .ok (.iload_n 0, 1) := by decide +kernel
theorem dX5_isCar_1 : decode cX5_isCar 1 = .ok (.ifCond .lt 12, 3) := by decide +kernel
theorem dX5_isCar_4 : decode cX5_isCar 4 = .ok (.iload_n 0, 1) := by decide +kernel
theorem dX5_isCar_5 : decode cX5_isCar 5 = .ok (.iconst 3, 1) := by decide +kernel
theorem dX5_isCar_6 : decode cX5_isCar 6 = .ok (.if_icmp .ge 7, 3) := by decide +kernel
theorem dX5_isCar_9 : decode cX5_isCar 9 = .ok (.iconst 1, 1) := by decide +kernel
theorem dX5_isCar_10 : decode cX5_isCar 10 = .ok (.goto 4, 3) := by decide +kernel
theorem dX5_isCar_13 : decode cX5_isCar 13 = .ok (.iconst 0, 1) := by decide +kernel
theorem dX5_isCar_14 : decode cX5_isCar 14 = .ok (.ireturn, 1) := by decide +kernel
theorem dX5_isCrossing_0 : decode cX5_isCrossing 0 = .ok (.iload_n 0, 1) := by decide +kernel
theorem dX5_isCrossing_1 : decode cX5_isCrossing 1 = .ok (.iconst 0, 1) := by decide +kernel
theorem dX5_isCrossing_2 : decode cX5_isCrossing 2 = .ok (.bipush 16, 2) := by decide +kernel
theorem dX5_isCrossing_4 : decode cX5_isCrossing 4 = .ok (.invokestatic 65, 3) := by decide +kernel
theorem dX5_isCrossing_7 : decode cX5_isCrossing 7 = .ok (.ifCond .eq 17, 3) := by decide +kernel
theorem dX5_isCrossing_10 : decode cX5_isCrossing 10 = .ok (.iload_n 1, 1) := by decide +kernel
theorem dX5_isCrossing_11 : decode cX5_isCrossing 11 = .ok (.iconst 0, 1) := by decide +kernel
theorem dX5_isCrossing_12 : decode cX5_isCrossing 12 = .ok (.bipush 16, 2) := by decide +kernel
theorem dX5_isCrossing_14 : decode cX5_isCrossing 14 = .ok (.invokestatic 65, 3) := by decide +kernel
theorem dX5_isCrossing_17 : decode cX5_isCrossing 17 = .ok (.ifCond .eq 7, 3) := by decide +kernel
theorem dX5_isCrossing_20 : decode cX5_isCrossing 20 = .ok (.iconst 1, 1) := by decide +kernel
theorem dX5_isCrossing_21 : decode cX5_isCrossing 21 = .ok (.goto 4, 3) := by decide +kernel
theorem dX5_isCrossing_24 : decode cX5_isCrossing 24 = .ok (.iconst 0, 1) := by decide +kernel
theorem dX5_isCrossing_25 : decode cX5_isCrossing 25 = .ok (.ireturn, 1) := by decide +kernel
theorem dX5_isEditor_0 : decode cX5_isEditor 0 = .ok (.iload_n 0, 1) := by decide +kernel
theorem dX5_isEditor_1 : decode cX5_isEditor 1 = .ok (.ifCond .lt 13, 3) := by decide +kernel
theorem dX5_isEditor_4 : decode cX5_isEditor 4 = .ok (.iload_n 0, 1) := by decide +kernel
theorem dX5_isEditor_5 : decode cX5_isEditor 5 = .ok (.bipush 6, 2) := by decide +kernel
theorem dX5_isEditor_7 : decode cX5_isEditor 7 = .ok (.if_icmp .ge 7, 3) := by decide +kernel
theorem dX5_isEditor_10 : decode cX5_isEditor 10 = .ok (.iconst 1, 1) := by decide +kernel
theorem dX5_isEditor_11 : decode cX5_isEditor 11 = .ok (.goto 4, 3) := by decide +kernel
theorem dX5_isEditor_14 : decode cX5_isEditor 14 = .ok (.iconst 0, 1) := by decide +kernel
theorem dX5_isEditor_15 : decode cX5_isEditor 15 = .ok (.ireturn, 1) := by decide +kernel
theorem dX5_isShown_0 : decode cX5_isShown 0 = .ok (.iload_n 0, 1) := by decide +kernel
theorem dX5_isShown_1 : decode cX5_isShown 1 = .ok (.sipush 1000, 3) := by decide +kernel
theorem dX5_isShown_4 : decode cX5_isShown 4 = .ok (.irem, 1) := by decide +kernel
theorem dX5_isShown_5 : decode cX5_isShown 5 = .ok (.bipush 100, 2) := by decide +kernel
theorem dX5_isShown_7 : decode cX5_isShown 7 = .ok (.idiv, 1) := by decide +kernel
theorem dX5_isShown_8 : decode cX5_isShown 8 = .ok (.iconst 3, 1) := by decide +kernel
theorem dX5_isShown_9 : decode cX5_isShown 9 = .ok (.iload_n 1, 1) := by decide +kernel
theorem dX5_isShown_10 : decode cX5_isShown 10 = .ok (.isub, 1) := by decide +kernel
theorem dX5_isShown_11 : decode cX5_isShown 11 = .ok (.if_icmp .lt 7, 3) := by decide +kernel
theorem dX5_isShown_14 : decode cX5_isShown 14 = .ok (.iconst 1, 1) := by decide +kernel
theorem dX5_isShown_15 : decode cX5_isShown 15 = .ok (.goto 4, 3) := by decide +kernel
theorem dX5_isShown_18 : decode cX5_isShown 18 = .ok (.iconst 0, 1) := by decide +kernel
theorem dX5_isShown_19 : decode cX5_isShown 19 = .ok (.ireturn, 1) := by decide +kernel
theorem dX5_isWay_0 : decode cX5_isWay 0 = .ok (.iload_n 1, 1) := by decide +kernel
theorem dX5_isWay_1 : decode cX5_isWay 1 = .ok (.ifCond .lt 15, 3) := by decide +kernel
theorem dX5_isWay_4 : decode cX5_isWay 4 = .ok (.iload_n 1, 1) := by decide +kernel
theorem dX5_isWay_5 : decode cX5_isWay 5 = .ok (.aload_n 0, 1) := by decide +kernel
theorem dX5_isWay_6 : decode cX5_isWay 6 = .ok (.getfield 69, 3) := by decide +kernel
theorem dX5_isWay_9 : decode cX5_isWay 9 = .ok (.if_icmp .ge 7, 3) := by decide +kernel
theorem dX5_isWay_12 : decode cX5_isWay 12 = .ok (.iconst 1, 1) := by decide +kernel
theorem dX5_isWay_13 : decode cX5_isWay 13 = .ok (.goto 4, 3) := by decide +kernel
theorem dX5_isWay_16 : decode cX5_isWay 16 = .ok (.iconst 0, 1) := by decide +kernel
theorem dX5_isWay_17 : decode cX5_isWay 17 = .ok (.ireturn, 1) := by decide +kernel
theorem dX5_kindNow_0 : decode cX5_kindNow 0 = .ok (.aload_n 0, 1) := by decide +kernel
theorem dX5_kindNow_1 : decode cX5_kindNow 1 = .ok (.getfield 37, 3) := by decide +kernel
theorem dX5_kindNow_4 : decode cX5_kindNow 4 = .ok (.aload_n 0, 1) := by decide +kernel
theorem dX5_kindNow_5 : decode cX5_kindNow 5 = .ok (.getfield 31, 3) := by decide +kernel
theorem dX5_kindNow_8 : decode cX5_kindNow 8 = .ok (.iload_n 1, 1) := by decide +kernel
theorem dX5_kindNow_9 : decode cX5_kindNow 9 = .ok (.iaload, 1) := by decide +kernel
theorem dX5_kindNow_10 : decode cX5_kindNow 10 = .ok (.iaload, 1) := by decide +kernel
theorem dX5_kindNow_11 : decode cX5_kindNow 11 = .ok (.sipush 1000, 3) := by decide +kernel
theorem dX5_kindNow_14 : decode cX5_kindNow 14 = .ok (.irem, 1) := by decide +kernel
theorem dX5_kindNow_15 : decode cX5_kindNow 15 = .ok (.bipush 100, 2) := by decide +kernel
theorem dX5_kindNow_17 : decode cX5_kindNow 17 = .ok (.idiv, 1) := by decide +kernel
theorem dX5_kindNow_18 : decode cX5_kindNow 18 = .ok (.ireturn, 1) := by decide +kernel
theorem dX5_thrown_0 : decode cX5_thrown 0 = .ok (.aload_n 0, 1) := by decide +kernel
theorem dX5_thrown_1 : decode cX5_thrown 1 = .ok (.getfield 61, 3) := by decide +kernel
theorem dX5_thrown_4 : decode cX5_thrown 4 = .ok (.ireturn, 1) := by decide +kernel
theorem dX5_ways_0 : decode cX5_ways 0 = .ok (.aload_n 0, 1) := by decide +kernel
theorem dX5_ways_1 : decode cX5_ways 1 = .ok (.iconst 0, 1) := by decide +kernel
theorem dX5_ways_2 : decode cX5_ways 2 = .ok (.putfield 61, 3) := by decide +kernel
theorem dX5_ways_5 : decode cX5_ways 5 = .ok (.aload_n 0, 1) := by decide +kernel
theorem dX5_ways_6 : decode cX5_ways 6 = .ok (.getfield 69, 3) := by decide +kernel
theorem dX5_ways_9 : decode cX5_ways 9 = .ok (.ireturn, 1) := by decide +kernel
theorem ke_X5_thrown : wl_V RX5 yX5_thrown cX5_thrown 1 (some .int) 0 := ⟨wd_c_X5_thrown, wd_i_X5_thrown, wd_s_X5_thrown, wd_n_X5, by decide, by decide +kernel⟩
set_option maxHeartbeats 4000000 in
set_option maxRecDepth 100000 in
theorem m_X5_thrown (l : Launch) (D : va_G) (cI : ClassId) (o : Nat) (a : Nat → Nat) (mm : q_Mem)  : rc_C l yX5_thrown cX5_thrown 1 (some .int) 0 0 [.ref o] (mo_B D cI o a mm) (fun r => r = mm 19 0) := by
  refine rc_of (by decide) (Nat.le_of_ble_eq_true rfl) ?_
  intro p e s m args below meth c hx hb hr hF hlk hB ls hl
  obtain ⟨hM, hK⟩ := hB
  have hl : lv_has ls 1 [(0, .ref o)] := hl
  have hf : (0 : Nat) ≤ 0 ∧ (0 : Nat) ≤ 0 := ⟨Nat.le_refl 0, Nat.le_refl 0⟩
  refine lv_aload_n hx hb dX5_thrown_0 rfl (lv_at hl 0 rfl) ?_
  refine mo_get hF hK hM 19 (by decide) wd_f_X5_61 rfl dX5_thrown_1 ?_
  exact rc_iret hx hb hr hlk (rfl) dX5_thrown_4
theorem ke_X5_fails : wl_V RX5 yX5_fails cX5_fails 2 (some .int) 1 := ⟨wd_c_X5_fails, wd_i_X5_fails, wd_s_X5_fails, wd_n_X5, by decide, by decide +kernel⟩
set_option maxHeartbeats 4000000 in
set_option maxRecDepth 100000 in
theorem m_X5_fails (l : Launch) (D : va_G) (cI : ClassId) (o : Nat) (a : Nat → Nat) (mm : q_Mem) (hMD : mo_D o a) (x : Int32)  : mo_Ci l yX5_fails cX5_fails 2 (some .int) 0 0 D cI o a mm [.int x] (fun r m1 => r = 0 ∧ m1 = up2 mm 19 0 x) := by
  refine mo_ofQ (by decide) (Nat.le_of_ble_eq_true rfl) ?_
  intro p e s m args below meth c hx hb hr hF hlk hM hK hS ls hl
  have hA : ∀ q, mo_R o a q → mo_R o a q := fun _ h => h
  have hl : lv_has ls 2 [(0, .ref o), (1, .int x)] := hl
  have hf : (0 : Nat) ≤ 0 ∧ (0 : Nat) ≤ 0 := ⟨Nat.le_refl 0, Nat.le_refl 0⟩
  refine lv_aload_n hx hb dX5_fails_0 rfl (lv_at hl 0 rfl) ?_
  refine lv_iload_n hx hb dX5_fails_1 rfl (lv_at hl 1 rfl) ?_
  refine mo_put (mm := mm) hF hK hM hMD hS hA 19 (by decide) wd_f_X5_61 dX5_fails_2 (fun H locs hM hS => ?_)
  refine lv_iconst (v := 0) hx hb dX5_fails_5 (by decide) ?_
  exact mo_iret hx hb hr hlk hK hM hS (⟨rfl, rfl⟩) dX5_fails_6
theorem ke_X5_asks : wl_V RX5 yX5_asks cX5_asks 2 (some .boolean) 1 := ⟨wd_c_X5_asks, wd_i_X5_asks, wd_s_X5_asks, wd_n_X5, by decide, by decide +kernel⟩
set_option maxHeartbeats 4000000 in
set_option maxRecDepth 100000 in
theorem m_X5_asks (l : Launch) (D : va_G) (cI : ClassId) (o : Nat) (a : Nat → Nat) (mm : q_Mem) (hMD : mo_D o a) (x : Int32) (P : Prop) [Decidable P] (hP : x = if P then 1 else 0) : mo_Ci l yX5_asks cX5_asks 2 (some .boolean) 0 0 D cI o a mm [.int x] (fun r m1 => r = x ∧ m1 = up2 mm 19 0 (if P then 0 else 1)) := by
  refine mo_ofQ (by decide) (Nat.le_of_ble_eq_true rfl) ?_
  intro p e s m args below meth c hx hb hr hF hlk hM hK hS ls hl
  have hA : ∀ q, mo_R o a q → mo_R o a q := fun _ h => h
  have hl : lv_has ls 2 [(0, .ref o), (1, .int x)] := hl
  have hf : (0 : Nat) ≤ 0 ∧ (0 : Nat) ≤ 0 := ⟨Nat.le_refl 0, Nat.le_refl 0⟩
  refine lv_aload_n hx hb dX5_asks_0 rfl (lv_at hl 0 rfl) ?_
  refine lv_iload_n hx hb dX5_asks_1 rfl (lv_at hl 1 rfl) ?_
  refine bo_eq (tgt := 9) hP hx hb dX5_asks_2 (by decide) (fun c1 => ?_) (fun c1 => ?_)
  · skip
    refine lv_iconst (v := 1) hx hb dX5_asks_9 (by decide) ?_
    refine mo_put (mm := mm) hF hK hM hMD hS hA 19 (by decide) wd_f_X5_61 dX5_asks_10 (fun H locs hM hS => ?_)
    refine lv_iload_n hx hb dX5_asks_13 rfl (lv_at hl 1 rfl) ?_
    exact mo_zret hx hb hr hlk (bo_bit hP) hK hM hS (⟨rfl, by first | rw [if_neg c1] | rw [if_pos c1]⟩) dX5_asks_14
  · skip
    refine lv_iconst (v := 0) hx hb dX5_asks_5 (by decide) ?_
    refine lv_goto (tgt := 10) hx hb dX5_asks_6 (by decide) ?_
    refine mo_put (mm := mm) hF hK hM hMD hS hA 19 (by decide) wd_f_X5_61 dX5_asks_10 (fun H locs hM hS => ?_)
    refine lv_iload_n hx hb dX5_asks_13 rfl (lv_at hl 1 rfl) ?_
    exact mo_zret hx hb hr hlk (bo_bit hP) hK hM hS (⟨rfl, by first | rw [if_neg c1] | rw [if_pos c1]⟩) dX5_asks_14
theorem ke_X5_in : wl_S yX5_in cX5_in 3 (some .boolean) 3 := ⟨wd_c_X5_in, wd_t_X5_in, wd_n_X5, by decide, by decide +kernel⟩
set_option maxHeartbeats 4000000 in
set_option maxRecDepth 100000 in
theorem m_X5_in (l : Launch) (x y z : Int32)  : rc_C l yX5_in cX5_in 3 (some .boolean) 0 0 [.int x, .int y, .int z] (fun _ => True) (fun r => r = if y ≤ x ∧ x ≤ z then 1 else 0) := by
  refine rc_of (by decide) (Nat.le_of_ble_eq_true rfl) ?_
  intro p e s m args below meth c hx hb hr hF hlk hB ls hl
  have hl : lv_has ls 3 [(0, .int x), (1, .int y), (2, .int z)] := hl
  have hf : (0 : Nat) ≤ 0 ∧ (0 : Nat) ≤ 0 := ⟨Nat.le_refl 0, Nat.le_refl 0⟩
  refine lv_iload_n hx hb dX5_in_0 rfl (lv_at hl 0 rfl) ?_
  refine lv_iload_n hx hb dX5_in_1 rfl (lv_at hl 1 rfl) ?_
  refine lv_icmp_lt (tgt := 14) hx hb dX5_in_2 (by decide) (fun c1 => ?_) (fun c1 => ?_)
  · skip
    refine lv_iconst (v := 0) hx hb dX5_in_14 (by decide) ?_
    exact rc_zret hx hb hr hlk (by first | exact Or.inl rfl | exact Or.inr rfl) (by first | exact bo_y (bo_lt c1) (bo_lt c2) | exact bo_n1 (bo_nle c1) | exact bo_n2 (bo_nle c2)) dX5_in_15
  · skip
    refine lv_iload_n hx hb dX5_in_5 rfl (lv_at hl 0 rfl) ?_
    refine lv_iload_n hx hb dX5_in_6 rfl (lv_at hl 2 rfl) ?_
    refine lv_icmp_gt (tgt := 14) hx hb dX5_in_7 (by decide) (fun c2 => ?_) (fun c2 => ?_)
    · skip
      refine lv_iconst (v := 0) hx hb dX5_in_14 (by decide) ?_
      exact rc_zret hx hb hr hlk (by first | exact Or.inl rfl | exact Or.inr rfl) (by first | exact bo_y (bo_lt c1) (bo_lt c2) | exact bo_n1 (bo_nle c1) | exact bo_n2 (bo_nle c2)) dX5_in_15
    · skip
      refine lv_iconst (v := 1) hx hb dX5_in_10 (by decide) ?_
      refine lv_goto (tgt := 15) hx hb dX5_in_11 (by decide) ?_
      exact rc_zret hx hb hr hlk (by first | exact Or.inl rfl | exact Or.inr rfl) (by first | exact bo_y (bo_lt c1) (bo_lt c2) | exact bo_n1 (bo_nle c1) | exact bo_n2 (bo_nle c2)) dX5_in_15
theorem ke_X5_isEditor : wl_S yX5_isEditor cX5_isEditor 1 (some .boolean) 1 := ⟨wd_c_X5_isEditor, wd_t_X5_isEditor, wd_n_X5, by decide, by decide +kernel⟩
set_option maxHeartbeats 4000000 in
set_option maxRecDepth 100000 in
theorem m_X5_isEditor (l : Launch) (x : Int32)  : rc_C l yX5_isEditor cX5_isEditor 1 (some .boolean) 0 0 [.int x] (fun _ => True) (fun r => r = if 0 ≤ x ∧ x < 6 then 1 else 0) := by
  refine rc_of (by decide) (Nat.le_of_ble_eq_true rfl) ?_
  intro p e s m args below meth c hx hb hr hF hlk hB ls hl
  have hl : lv_has ls 1 [(0, .int x)] := hl
  have hf : (0 : Nat) ≤ 0 ∧ (0 : Nat) ≤ 0 := ⟨Nat.le_refl 0, Nat.le_refl 0⟩
  refine lv_iload_n hx hb dX5_isEditor_0 rfl (lv_at hl 0 rfl) ?_
  refine lv_if_lt (tgt := 14) hx hb dX5_isEditor_1 (by decide) (fun c1 => ?_) (fun c1 => ?_)
  · skip
    refine lv_iconst (v := 0) hx hb dX5_isEditor_14 (by decide) ?_
    exact rc_zret hx hb hr hlk (by first | exact Or.inl rfl | exact Or.inr rfl) (by first | exact bo_y (bo_lt c1) (bo_le c2) | exact bo_n1 (bo_nle c1) | exact bo_n2 (bo_nlt c2)) dX5_isEditor_15
  · skip
    refine lv_iload_n hx hb dX5_isEditor_4 rfl (lv_at hl 0 rfl) ?_
    refine lv_bipush (v := 6) hx hb dX5_isEditor_5 (by decide) ?_
    refine lv_icmp_ge (tgt := 14) hx hb dX5_isEditor_7 (by decide) (fun c2 => ?_) (fun c2 => ?_)
    · skip
      refine lv_iconst (v := 0) hx hb dX5_isEditor_14 (by decide) ?_
      exact rc_zret hx hb hr hlk (by first | exact Or.inl rfl | exact Or.inr rfl) (by first | exact bo_y (bo_lt c1) (bo_le c2) | exact bo_n1 (bo_nle c1) | exact bo_n2 (bo_nlt c2)) dX5_isEditor_15
    · skip
      refine lv_iconst (v := 1) hx hb dX5_isEditor_10 (by decide) ?_
      refine lv_goto (tgt := 15) hx hb dX5_isEditor_11 (by decide) ?_
      exact rc_zret hx hb hr hlk (by first | exact Or.inl rfl | exact Or.inr rfl) (by first | exact bo_y (bo_lt c1) (bo_le c2) | exact bo_n1 (bo_nle c1) | exact bo_n2 (bo_nlt c2)) dX5_isEditor_15
theorem ke_X5_isCar : wl_S yX5_isCar cX5_isCar 1 (some .boolean) 1 := ⟨wd_c_X5_isCar, wd_t_X5_isCar, wd_n_X5, by decide, by decide +kernel⟩
set_option maxHeartbeats 4000000 in
set_option maxRecDepth 100000 in
theorem m_X5_isCar (l : Launch) (x : Int32)  : rc_C l yX5_isCar cX5_isCar 1 (some .boolean) 0 0 [.int x] (fun _ => True) (fun r => r = if 0 ≤ x ∧ x < 3 then 1 else 0) := by
  refine rc_of (by decide) (Nat.le_of_ble_eq_true rfl) ?_
  intro p e s m args below meth c hx hb hr hF hlk hB ls hl
  have hl : lv_has ls 1 [(0, .int x)] := hl
  have hf : (0 : Nat) ≤ 0 ∧ (0 : Nat) ≤ 0 := ⟨Nat.le_refl 0, Nat.le_refl 0⟩
  refine lv_iload_n hx hb dX5_isCar_0 rfl (lv_at hl 0 rfl) ?_
  refine lv_if_lt (tgt := 13) hx hb dX5_isCar_1 (by decide) (fun c1 => ?_) (fun c1 => ?_)
  · skip
    refine lv_iconst (v := 0) hx hb dX5_isCar_13 (by decide) ?_
    exact rc_zret hx hb hr hlk (by first | exact Or.inl rfl | exact Or.inr rfl) (by first | exact bo_y (bo_lt c1) (bo_le c2) | exact bo_n1 (bo_nle c1) | exact bo_n2 (bo_nlt c2)) dX5_isCar_14
  · skip
    refine lv_iload_n hx hb dX5_isCar_4 rfl (lv_at hl 0 rfl) ?_
    refine lv_iconst (v := 3) hx hb dX5_isCar_5 (by decide) ?_
    refine lv_icmp_ge (tgt := 13) hx hb dX5_isCar_6 (by decide) (fun c2 => ?_) (fun c2 => ?_)
    · skip
      refine lv_iconst (v := 0) hx hb dX5_isCar_13 (by decide) ?_
      exact rc_zret hx hb hr hlk (by first | exact Or.inl rfl | exact Or.inr rfl) (by first | exact bo_y (bo_lt c1) (bo_le c2) | exact bo_n1 (bo_nle c1) | exact bo_n2 (bo_nlt c2)) dX5_isCar_14
    · skip
      refine lv_iconst (v := 1) hx hb dX5_isCar_9 (by decide) ?_
      refine lv_goto (tgt := 14) hx hb dX5_isCar_10 (by decide) ?_
      exact rc_zret hx hb hr hlk (by first | exact Or.inl rfl | exact Or.inr rfl) (by first | exact bo_y (bo_lt c1) (bo_le c2) | exact bo_n1 (bo_nle c1) | exact bo_n2 (bo_nlt c2)) dX5_isCar_14
theorem ke_X5_isCrossing : wl_S yX5_isCrossing cX5_isCrossing 2 (some .boolean) 2 := ⟨wd_c_X5_isCrossing, wd_t_X5_isCrossing, wd_n_X5, by decide, by decide +kernel⟩
set_option maxHeartbeats 4000000 in
set_option maxRecDepth 100000 in
theorem m_X5_isCrossing (l : Launch) (x y : Int32)  : rc_C l yX5_isCrossing cX5_isCrossing 2 (some .boolean) 1 22 [.int x, .int y] (fun _ => True) (fun r => r = if (0 ≤ x ∧ x ≤ 16) ∧ (0 ≤ y ∧ y ≤ 16) then 1 else 0) := by
  refine rc_of (by decide) (Nat.le_of_ble_eq_true rfl) ?_
  intro p e s m args below meth c hx hb hr hF hlk hB ls hl
  have hl : lv_has ls 2 [(0, .int x), (1, .int y)] := hl
  have hf : (0 : Nat) ≤ 0 ∧ (0 : Nat) ≤ 0 := ⟨Nat.le_refl 0, Nat.le_refl 0⟩
  refine lv_iload_n hx hb dX5_isCrossing_0 rfl (lv_at hl 0 rfl) ?_
  refine lv_iconst (v := 0) hx hb dX5_isCrossing_1 (by decide) ?_
  refine lv_bipush (v := 16) hx hb dX5_isCrossing_2 (by decide) ?_
  refine rc_S (fr := 0) (lo := 0) (As := [.int x, .int 0, .int 16]) (rest := []) hF (m_X5_in l x 0 16) ke_X5_in wd_l_X5_65 (by decide) bl_true (fun _ _ _ => trivial) rfl hl.1 rfl (by decide) dX5_isCrossing_4 hf (fun r1 hr1 => ?_)
  refine bo_eq (tgt := 24) hr1 hx hb dX5_isCrossing_7 (by decide) (fun c1 => ?_) (fun c1 => ?_)
  · skip
    refine lv_iconst (v := 0) hx hb dX5_isCrossing_24 (by decide) ?_
    exact rc_zret hx hb hr hlk (by first | exact Or.inl rfl | exact Or.inr rfl) (by first | exact bo_y c1 c2 | exact bo_n1 c1 | exact bo_n2 c2) dX5_isCrossing_25
  · skip
    refine lv_iload_n hx hb dX5_isCrossing_10 rfl (lv_at hl 1 rfl) ?_
    refine lv_iconst (v := 0) hx hb dX5_isCrossing_11 (by decide) ?_
    refine lv_bipush (v := 16) hx hb dX5_isCrossing_12 (by decide) ?_
    refine rc_S (fr := 0) (lo := 0) (As := [.int y, .int 0, .int 16]) (rest := []) hF (m_X5_in l y 0 16) ke_X5_in wd_l_X5_65 (by decide) bl_true (fun _ _ _ => trivial) rfl hl.1 rfl (by decide) dX5_isCrossing_14 hf (fun r2 hr2 => ?_)
    refine bo_eq (tgt := 24) hr2 hx hb dX5_isCrossing_17 (by decide) (fun c2 => ?_) (fun c2 => ?_)
    · skip
      refine lv_iconst (v := 0) hx hb dX5_isCrossing_24 (by decide) ?_
      exact rc_zret hx hb hr hlk (by first | exact Or.inl rfl | exact Or.inr rfl) (by first | exact bo_y c1 c2 | exact bo_n1 c1 | exact bo_n2 c2) dX5_isCrossing_25
    · skip
      refine lv_iconst (v := 1) hx hb dX5_isCrossing_20 (by decide) ?_
      refine lv_goto (tgt := 25) hx hb dX5_isCrossing_21 (by decide) ?_
      exact rc_zret hx hb hr hlk (by first | exact Or.inl rfl | exact Or.inr rfl) (by first | exact bo_y c1 c2 | exact bo_n1 c1 | exact bo_n2 c2) dX5_isCrossing_25
theorem ke_X5_isWay : wl_V RX5 yX5_isWay cX5_isWay 2 (some .boolean) 1 := ⟨wd_c_X5_isWay, wd_i_X5_isWay, wd_s_X5_isWay, wd_n_X5, by decide, by decide +kernel⟩
set_option maxHeartbeats 4000000 in
set_option maxRecDepth 100000 in
theorem m_X5_isWay (l : Launch) (D : va_G) (cI : ClassId) (o : Nat) (a : Nat → Nat) (mm : q_Mem) (x : Int32)  : rc_C l yX5_isWay cX5_isWay 2 (some .boolean) 0 0 [.ref o, .int x] (mo_B D cI o a mm) (fun r => r = if 0 ≤ x ∧ x < mm 1 0 then 1 else 0) := by
  refine rc_of (by decide) (Nat.le_of_ble_eq_true rfl) ?_
  intro p e s m args below meth c hx hb hr hF hlk hB ls hl
  obtain ⟨hM, hK⟩ := hB
  have hl : lv_has ls 2 [(0, .ref o), (1, .int x)] := hl
  have hf : (0 : Nat) ≤ 0 ∧ (0 : Nat) ≤ 0 := ⟨Nat.le_refl 0, Nat.le_refl 0⟩
  refine lv_iload_n hx hb dX5_isWay_0 rfl (lv_at hl 1 rfl) ?_
  refine lv_if_lt (tgt := 16) hx hb dX5_isWay_1 (by decide) (fun c1 => ?_) (fun c1 => ?_)
  · skip
    refine lv_iconst (v := 0) hx hb dX5_isWay_16 (by decide) ?_
    exact rc_zret hx hb hr hlk (by first | exact Or.inl rfl | exact Or.inr rfl) (by first | exact bo_y (bo_lt c1) (bo_le c2) | exact bo_n1 (bo_nle c1) | exact bo_n2 (bo_nlt c2)) dX5_isWay_17
  · skip
    refine lv_iload_n hx hb dX5_isWay_4 rfl (lv_at hl 1 rfl) ?_
    refine lv_aload_n hx hb dX5_isWay_5 rfl (lv_at hl 0 rfl) ?_
    refine mo_get hF hK hM 1 (by decide) wd_f_X5_69 rfl dX5_isWay_6 ?_
    refine lv_icmp_ge (tgt := 16) hx hb dX5_isWay_9 (by decide) (fun c2 => ?_) (fun c2 => ?_)
    · skip
      refine lv_iconst (v := 0) hx hb dX5_isWay_16 (by decide) ?_
      exact rc_zret hx hb hr hlk (by first | exact Or.inl rfl | exact Or.inr rfl) (by first | exact bo_y (bo_lt c1) (bo_le c2) | exact bo_n1 (bo_nle c1) | exact bo_n2 (bo_nlt c2)) dX5_isWay_17
    · skip
      refine lv_iconst (v := 1) hx hb dX5_isWay_12 (by decide) ?_
      refine lv_goto (tgt := 17) hx hb dX5_isWay_13 (by decide) ?_
      exact rc_zret hx hb hr hlk (by first | exact Or.inl rfl | exact Or.inr rfl) (by first | exact bo_y (bo_lt c1) (bo_le c2) | exact bo_n1 (bo_nle c1) | exact bo_n2 (bo_nlt c2)) dX5_isWay_17
theorem ke_X5_kindNow : wl_V RX5 yX5_kindNow cX5_kindNow 2 (some .int) 1 := ⟨wd_c_X5_kindNow, wd_i_X5_kindNow, wd_s_X5_kindNow, wd_n_X5, by decide, by decide +kernel⟩
set_option maxHeartbeats 4000000 in
set_option maxRecDepth 100000 in
theorem m_X5_kindNow (l : Launch) (D : va_G) (cI : ClassId) (o : Nat) (a : Nat → Nat) (mm : q_Mem) (w : Nat) (hw : w < 40) (hL : mm 8 w = nI (sp_L mm w)) (hL4 : sp_L mm w < 4200) : rc_C l yX5_kindNow cX5_kindNow 2 (some .int) 0 0 [.ref o, .int (nI w)] (mo_B D cI o a mm) (fun r => r = sp_vk (mm 11 (sp_L mm w))) := by
  refine rc_of (by decide) (Nat.le_of_ble_eq_true rfl) ?_
  intro p e s m args below meth c hx hb hr hF hlk hB ls hl
  obtain ⟨hM, hK⟩ := hB
  have hl : lv_has ls 2 [(0, .ref o), (1, .int (nI w))] := hl
  have hf : (0 : Nat) ≤ 0 ∧ (0 : Nat) ≤ 0 := ⟨Nat.le_refl 0, Nat.le_refl 0⟩
  refine lv_aload_n hx hb dX5_kindNow_0 rfl (lv_at hl 0 rfl) ?_
  refine mo_get hF hK hM 11 (by decide) wd_f_X5_37 rfl dX5_kindNow_1 ?_
  refine lv_aload_n hx hb dX5_kindNow_4 rfl (lv_at hl 0 rfl) ?_
  refine mo_get hF hK hM 8 (by decide) wd_f_X5_31 rfl dX5_kindNow_5 ?_
  refine lv_iload_n hx hb dX5_kindNow_8 rfl (lv_at hl 1 rfl) ?_
  refine mo_ald hF hK hM 8 w (by decide) rfl (by exact hw) dX5_kindNow_9 ?_
  refine mo_ald hF hK hM 11 (sp_L mm w) (by decide) hL (by exact hL4) dX5_kindNow_10 ?_
  refine lv_sipush (v := 1000) hx hb dX5_kindNow_11 (by decide) ?_
  refine lv_irem hx hb dX5_kindNow_14 (by decide) ?_
  refine lv_bipush (v := 100) hx hb dX5_kindNow_15 (by decide) ?_
  refine lv_idiv hx hb dX5_kindNow_17 (by decide) ?_
  exact rc_iret hx hb hr hlk (rfl) dX5_kindNow_18
theorem ke_X5_directionNow : wl_V RX5 yX5_directionNow cX5_directionNow 2 (some .int) 1 := ⟨wd_c_X5_directionNow, wd_i_X5_directionNow, wd_s_X5_directionNow, wd_n_X5, by decide, by decide +kernel⟩
set_option maxHeartbeats 4000000 in
set_option maxRecDepth 100000 in
theorem m_X5_directionNow (l : Launch) (D : va_G) (cI : ClassId) (o : Nat) (a : Nat → Nat) (mm : q_Mem) (w : Nat) (hw : w < 40) (hL : mm 8 w = nI (sp_L mm w)) (hL4 : sp_L mm w < 4200) : rc_C l yX5_directionNow cX5_directionNow 2 (some .int) 0 0 [.ref o, .int (nI w)] (mo_B D cI o a mm) (fun r => r = sp_vd (mm 11 (sp_L mm w))) := by
  refine rc_of (by decide) (Nat.le_of_ble_eq_true rfl) ?_
  intro p e s m args below meth c hx hb hr hF hlk hB ls hl
  obtain ⟨hM, hK⟩ := hB
  have hl : lv_has ls 2 [(0, .ref o), (1, .int (nI w))] := hl
  have hf : (0 : Nat) ≤ 0 ∧ (0 : Nat) ≤ 0 := ⟨Nat.le_refl 0, Nat.le_refl 0⟩
  refine lv_aload_n hx hb dX5_directionNow_0 rfl (lv_at hl 0 rfl) ?_
  refine mo_get hF hK hM 11 (by decide) wd_f_X5_37 rfl dX5_directionNow_1 ?_
  refine lv_aload_n hx hb dX5_directionNow_4 rfl (lv_at hl 0 rfl) ?_
  refine mo_get hF hK hM 8 (by decide) wd_f_X5_31 rfl dX5_directionNow_5 ?_
  refine lv_iload_n hx hb dX5_directionNow_8 rfl (lv_at hl 1 rfl) ?_
  refine mo_ald hF hK hM 8 w (by decide) rfl (by exact hw) dX5_directionNow_9 ?_
  refine mo_ald hF hK hM 11 (sp_L mm w) (by decide) hL (by exact hL4) dX5_directionNow_10 ?_
  refine lv_bipush (v := 100) hx hb dX5_directionNow_11 (by decide) ?_
  refine lv_irem hx hb dX5_directionNow_13 (by decide) ?_
  refine lv_bipush (v := 10) hx hb dX5_directionNow_14 (by decide) ?_
  refine lv_idiv hx hb dX5_directionNow_16 (by decide) ?_
  exact rc_iret hx hb hr hlk (rfl) dX5_directionNow_17
theorem ke_X5_ways : wl_V RX5 yX5_ways cX5_ways 1 (some .int) 0 := ⟨wd_c_X5_ways, wd_i_X5_ways, wd_s_X5_ways, wd_n_X5, by decide, by decide +kernel⟩
set_option maxHeartbeats 4000000 in
set_option maxRecDepth 100000 in
theorem m_X5_ways (l : Launch) (D : va_G) (cI : ClassId) (o : Nat) (a : Nat → Nat) (mm : q_Mem) (hMD : mo_D o a)  : mo_Ci l yX5_ways cX5_ways 1 (some .int) 0 0 D cI o a mm [] (fun r m1 => r = mm 1 0 ∧ m1 = up2 mm 19 0 0) := by
  refine mo_ofQ (by decide) (Nat.le_of_ble_eq_true rfl) ?_
  intro p e s m args below meth c hx hb hr hF hlk hM hK hS ls hl
  have hA : ∀ q, mo_R o a q → mo_R o a q := fun _ h => h
  have hl : lv_has ls 1 [(0, .ref o)] := hl
  have hf : (0 : Nat) ≤ 0 ∧ (0 : Nat) ≤ 0 := ⟨Nat.le_refl 0, Nat.le_refl 0⟩
  refine lv_aload_n hx hb dX5_ways_0 rfl (lv_at hl 0 rfl) ?_
  refine lv_iconst (v := 0) hx hb dX5_ways_1 (by decide) ?_
  refine mo_put (mm := mm) hF hK hM hMD hS hA 19 (by decide) wd_f_X5_61 dX5_ways_2 (fun H locs hM hS => ?_)
  refine lv_aload_n hx hb dX5_ways_5 rfl (lv_at hl 0 rfl) ?_
  refine mo_get hF hK hM 1 (by decide) wd_f_X5_69 rfl dX5_ways_6 ?_
  refine bo_to (v := (mm 1 0)) (up2_c (by decide)) ?_
  exact mo_iret hx hb hr hlk hK hM hS (⟨rfl, rfl⟩) dX5_ways_9
theorem ke_X5_clock : wl_V RX5 yX5_clock cX5_clock 1 (some .int) 0 := ⟨wd_c_X5_clock, wd_i_X5_clock, wd_s_X5_clock, wd_n_X5, by decide, by decide +kernel⟩
set_option maxHeartbeats 4000000 in
set_option maxRecDepth 100000 in
theorem m_X5_clock (l : Launch) (D : va_G) (cI : ClassId) (o : Nat) (a : Nat → Nat) (mm : q_Mem) (hMD : mo_D o a)  : mo_Ci l yX5_clock cX5_clock 1 (some .int) 0 0 D cI o a mm [] (fun r m1 => r = mm 10 0 ∧ m1 = up2 mm 19 0 0) := by
  refine mo_ofQ (by decide) (Nat.le_of_ble_eq_true rfl) ?_
  intro p e s m args below meth c hx hb hr hF hlk hM hK hS ls hl
  have hA : ∀ q, mo_R o a q → mo_R o a q := fun _ h => h
  have hl : lv_has ls 1 [(0, .ref o)] := hl
  have hf : (0 : Nat) ≤ 0 ∧ (0 : Nat) ≤ 0 := ⟨Nat.le_refl 0, Nat.le_refl 0⟩
  refine lv_aload_n hx hb dX5_clock_0 rfl (lv_at hl 0 rfl) ?_
  refine lv_iconst (v := 0) hx hb dX5_clock_1 (by decide) ?_
  refine mo_put (mm := mm) hF hK hM hMD hS hA 19 (by decide) wd_f_X5_61 dX5_clock_2 (fun H locs hM hS => ?_)
  refine lv_aload_n hx hb dX5_clock_5 rfl (lv_at hl 0 rfl) ?_
  refine mo_get hF hK hM 10 (by decide) wd_f_X5_72 rfl dX5_clock_6 ?_
  refine bo_to (v := (mm 10 0)) (up2_c (by decide)) ?_
  exact mo_iret hx hb hr hlk hK hM hS (⟨rfl, rfl⟩) dX5_clock_9
theorem ke_X5_isShown : wl_S yX5_isShown cX5_isShown 2 (some .boolean) 2 := ⟨wd_c_X5_isShown, wd_t_X5_isShown, wd_n_X5, by decide, by decide +kernel⟩
set_option maxHeartbeats 4000000 in
set_option maxRecDepth 100000 in
theorem m_X5_isShown (l : Launch) (v z : Int32)  : rc_C l yX5_isShown cX5_isShown 2 (some .boolean) 0 0 [.int v, .int z] (fun _ => True) (fun r => r = if 3 - z ≤ sp_vk v then 1 else 0) := by
  refine rc_of (by decide) (Nat.le_of_ble_eq_true rfl) ?_
  intro p e s m args below meth c hx hb hr hF hlk hB ls hl
  have hl : lv_has ls 2 [(0, .int v), (1, .int z)] := hl
  have hf : (0 : Nat) ≤ 0 ∧ (0 : Nat) ≤ 0 := ⟨Nat.le_refl 0, Nat.le_refl 0⟩
  refine lv_iload_n hx hb dX5_isShown_0 rfl (lv_at hl 0 rfl) ?_
  refine lv_sipush (v := 1000) hx hb dX5_isShown_1 (by decide) ?_
  refine lv_irem hx hb dX5_isShown_4 (by decide) ?_
  refine lv_bipush (v := 100) hx hb dX5_isShown_5 (by decide) ?_
  refine lv_idiv hx hb dX5_isShown_7 (by decide) ?_
  refine lv_iconst (v := 3) hx hb dX5_isShown_8 (by decide) ?_
  refine lv_iload_n hx hb dX5_isShown_9 rfl (lv_at hl 1 rfl) ?_
  refine lv_isub hx hb dX5_isShown_10 ?_
  refine lv_icmp_lt (tgt := 18) hx hb dX5_isShown_11 (by decide) (fun c1 => ?_) (fun c1 => ?_)
  · skip
    refine lv_iconst (v := 0) hx hb dX5_isShown_18 (by decide) ?_
    exact rc_zret hx hb hr hlk (by first | exact Or.inl rfl | exact Or.inr rfl) (by first | exact bo_p (bo_lt c1) | exact bo_n (bo_nle c1)) dX5_isShown_19
  · skip
    refine lv_iconst (v := 1) hx hb dX5_isShown_14 (by decide) ?_
    refine lv_goto (tgt := 19) hx hb dX5_isShown_15 (by decide) ?_
    exact rc_zret hx hb hr hlk (by first | exact Or.inl rfl | exact Or.inr rfl) (by first | exact bo_p (bo_lt c1) | exact bo_n (bo_nle c1)) dX5_isShown_19
