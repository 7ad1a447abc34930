theorem dX4_countWaysIn_0 : decode cX4_countWaysIn 0 = .ok (.iconst 0, 1) := by decide +kernel
theorem dX4_countWaysIn_1 : decode cX4_countWaysIn 1 = .ok (.istore_n 2, 1) := by decide +kernel
theorem dX4_countWaysIn_2 : decode cX4_countWaysIn 2 = .ok (.iconst 0, 1) := by decide +kernel
theorem dX4_countWaysIn_3 : decode cX4_countWaysIn 3 = .ok (.istore_n 3, 1) := by decide +kernel
theorem dX4_countWaysIn_4 : decode cX4_countWaysIn 4 = .ok (.iload_n 3, 1) := by decide +kernel
theorem dX4_countWaysIn_5 : decode cX4_countWaysIn 5 = .ok (.aload_n 0, 1) := by decide +kernel
theorem dX4_countWaysIn_6 : decode cX4_countWaysIn 6 = .ok (.getfield 10, 3) := by decide +kernel
theorem dX4_countWaysIn_9 : decode cX4_countWaysIn 9 = .ok (.invokevirtual 65, 3) := by decide +kernel
theorem dX4_countWaysIn_12 : decode cX4_countWaysIn 12 = .ok (.if_icmp .ge 34, 3) := by decide +kernel
theorem dX4_countWaysIn_15 : decode cX4_countWaysIn 15 = .ok (.aload_n 0, 1) := by decide +kernel
theorem dX4_countWaysIn_16 : decode cX4_countWaysIn 16 = .ok (.getfield 10, 3) := by decide +kernel
theorem dX4_countWaysIn_19 : decode cX4_countWaysIn 19 = .ok (.iload_n 3, 1) := by decide +kernel
theorem dX4_countWaysIn_20 : decode cX4_countWaysIn 20 = .ok (.invokevirtual 272, 3) := by decide +kernel
theorem dX4_countWaysIn_23 : decode cX4_countWaysIn 23 = .ok (.checkcast 78, 3) := by decide +kernel
theorem dX4_countWaysIn_26 : decode cX4_countWaysIn 26 = .ok (.aload_n 1, 1) := by decide +kernel
theorem dX4_countWaysIn_27 : decode cX4_countWaysIn 27 = .ok (.aload_n 1, 1) := by decide +kernel
theorem dX4_countWaysIn_28 : decode cX4_countWaysIn 28 = .ok (.getfield 188, 3) := by decide +kernel
theorem dX4_countWaysIn_31 : decode cX4_countWaysIn 31 = .ok (.invokevirtual 296, 3) := by decide +kernel
theorem dX4_countWaysIn_34 : decode cX4_countWaysIn 34 = .ok (.ifnull 6, 3) := by decide +kernel
theorem dX4_countWaysIn_37 : decode cX4_countWaysIn 37 = .ok (.iinc 2 1, 3) := by decide +kernel
theorem dX4_countWaysIn_40 : decode cX4_countWaysIn 40 = .ok (.iinc 3 1, 3) := by decide +kernel
theorem dX4_countWaysIn_43 : decode cX4_countWaysIn 43 = .ok (.goto (-39), 3) := by decide +kernel
theorem dX4_countWaysIn_46 : decode cX4_countWaysIn 46 = .ok (.iload_n 2, 1) := by decide +kernel
theorem dX4_countWaysIn_47 : decode cX4_countWaysIn 47 = .ok (.ireturn, 1) := by decide +kernel
theorem dX4_isOutdated_0 : decode cX4_isOutdated 0 = .ok (.aload_n 1, 1) := by decide +kernel
theorem dX4_isOutdated_1 : decode cX4_isOutdated 1 = .ok (.ifnonnull 5, 3) := by decide +kernel
theorem dX4_isOutdated_4 : decode cX4_isOutdated 4 = .ok (.iconst 0, 1) := by decide +kernel
theorem dX4_isOutdated_5 : decode cX4_isOutdated 5 = .ok (.ireturn, 1) := by decide +kernel
theorem dX4_isOutdated_6 : decode cX4_isOutdated 6 = .ok (.iconst 0, 1) := by decide +kernel
theorem dX4_isOutdated_7 : decode cX4_isOutdated 7 = .ok (.istore_n 2, 1) := by decide +kernel
theorem dX4_isOutdated_8 : decode cX4_isOutdated 8 = .ok (.iload_n 2, 1) := by decide +kernel
theorem dX4_isOutdated_9 : decode cX4_isOutdated 9 = .ok (.aload_n 0, 1) := by decide +kernel
theorem dX4_isOutdated_10 : decode cX4_isOutdated 10 = .ok (.getfield 10, 3) := by decide +kernel
theorem dX4_isOutdated_13 : decode cX4_isOutdated 13 = .ok (.invokevirtual 65, 3) := by decide +kernel
theorem dX4_isOutdated_16 : decode cX4_isOutdated 16 = .ok (.if_icmp .ge 29, 3) := by decide +kernel
theorem dX4_isOutdated_19 : decode cX4_isOutdated 19 = .ok (.aload_n 0, 1) := by decide +kernel
theorem dX4_isOutdated_20 : decode cX4_isOutdated 20 = .ok (.getfield 10, 3) := by decide +kernel
theorem dX4_isOutdated_23 : decode cX4_isOutdated 23 = .ok (.iload_n 2, 1) := by decide +kernel
theorem dX4_isOutdated_24 : decode cX4_isOutdated 24 = .ok (.invokevirtual 272, 3) := by decide +kernel
theorem dX4_isOutdated_27 : decode cX4_isOutdated 27 = .ok (.checkcast 78, 3) := by decide +kernel
theorem dX4_isOutdated_30 : decode cX4_isOutdated 30 = .ok (.aload_n 1, 1) := by decide +kernel
theorem dX4_isOutdated_31 : decode cX4_isOutdated 31 = .ok (.invokevirtual 300, 3) := by decide +kernel
theorem dX4_isOutdated_34 : decode cX4_isOutdated 34 = .ok (.ifCond .eq 5, 3) := by decide +kernel
theorem dX4_isOutdated_37 : decode cX4_isOutdated 37 = .ok (.iconst 1, 1) := by decide +kernel
theorem dX4_isOutdated_38 : decode cX4_isOutdated 38 = .ok (.ireturn, 1) := by decide +kernel
theorem dX4_isOutdated_39 : decode cX4_isOutdated 39 = .ok (.iinc 2 1, 3) := by decide +kernel
theorem dX4_isOutdated_42 : decode cX4_isOutdated 42 = .ok (.goto (-34), 3) := by decide +kernel
theorem dX4_isOutdated_45 : decode cX4_isOutdated 45 = .ok (.iconst 0, 1) := by decide +kernel
theorem dX4_isOutdated_46 : decode cX4_isOutdated 46 = .ok (.ireturn, 1) := by decide +kernel
theorem dX4_pictureAt_0 : decode cX4_pictureAt 0 = .ok (.bipush 17, 2) := by decide +kernel
theorem dX4_pictureAt_2 : decode cX4_pictureAt 2 = .ok (.istore_n 3, 1) := by decide +kernel
theorem dX4_pictureAt_3 : decode cX4_pictureAt 3 = .ok (.iconst 0, 1) := by decide +kernel
theorem dX4_pictureAt_4 : decode cX4_pictureAt 4 = .ok (.istore 4, 2) := by decide +kernel
theorem dX4_pictureAt_6 : decode cX4_pictureAt 6 = .ok (.iload 4, 2) := by decide +kernel
theorem dX4_pictureAt_8 : decode cX4_pictureAt 8 = .ok (.aload_n 0, 1) := by decide +kernel
theorem dX4_pictureAt_9 : decode cX4_pictureAt 9 = .ok (.getfield 10, 3) := by decide +kernel
theorem dX4_pictureAt_12 : decode cX4_pictureAt 12 = .ok (.invokevirtual 65, 3) := by decide +kernel
theorem dX4_pictureAt_15 : decode cX4_pictureAt 15 = .ok (.if_icmp .ge 58, 3) := by decide +kernel
theorem dX4_pictureAt_18 : decode cX4_pictureAt 18 = .ok (.aload_n 0, 1) := by decide +kernel
theorem dX4_pictureAt_19 : decode cX4_pictureAt 19 = .ok (.getfield 10, 3) := by decide +kernel
theorem dX4_pictureAt_22 : decode cX4_pictureAt 22 = .ok (.iload 4, 2) := by decide +kernel
theorem dX4_pictureAt_24 : decode cX4_pictureAt 24 = .ok (.invokevirtual 272, 3) := by decide +kernel
theorem dX4_pictureAt_27 : decode cX4_pictureAt 27 = .ok (.checkcast 78, 3) := by decide +kernel
theorem dX4_pictureAt_30 : decode cX4_pictureAt 30 = .ok (.aload_n 1, 1) := by decide +kernel
theorem dX4_pictureAt_31 : decode cX4_pictureAt 31 = .ok (.iload_n 2, 1) := by decide +kernel
theorem dX4_pictureAt_32 : decode cX4_pictureAt 32 = .ok (.invokevirtual 296, 3) := by decide +kernel
theorem dX4_pictureAt_35 : decode cX4_pictureAt 35 = .ok (.astore 5, 2) := by decide +kernel
theorem dX4_pictureAt_37 : decode cX4_pictureAt 37 = .ok (.aload 5, 2) := by decide +kernel
theorem dX4_pictureAt_39 : decode cX4_pictureAt 39 = .ok (.ifnull 28, 3) := by decide +kernel
theorem dX4_pictureAt_42 : decode cX4_pictureAt 42 = .ok (.bipush 31, 2) := by decide +kernel
theorem dX4_pictureAt_44 : decode cX4_pictureAt 44 = .ok (.iload_n 3, 1) := by decide +kernel
theorem dX4_pictureAt_45 : decode cX4_pictureAt 45 = .ok (.imul, 1) := by decide +kernel
theorem dX4_pictureAt_46 : decode cX4_pictureAt 46 = .ok (.bipush 16, 2) := by decide +kernel
theorem dX4_pictureAt_48 : decode cX4_pictureAt 48 = .ok (.iload 4, 2) := by decide +kernel
theorem dX4_pictureAt_50 : decode cX4_pictureAt 50 = .ok (.imul, 1) := by decide +kernel
theorem dX4_pictureAt_51 : decode cX4_pictureAt 51 = .ok (.iadd, 1) := by decide +kernel
theorem dX4_pictureAt_52 : decode cX4_pictureAt 52 = .ok (.iconst 4, 1) := by decide +kernel
theorem dX4_pictureAt_53 : decode cX4_pictureAt 53 = .ok (.aload 5, 2) := by decide +kernel
theorem dX4_pictureAt_55 : decode cX4_pictureAt 55 = .ok (.getfield 149, 3) := by decide +kernel
theorem dX4_pictureAt_58 : decode cX4_pictureAt 58 = .ok (.imul, 1) := by decide +kernel
theorem dX4_pictureAt_59 : decode cX4_pictureAt 59 = .ok (.iadd, 1) := by decide +kernel
theorem dX4_pictureAt_60 : decode cX4_pictureAt 60 = .ok (.aload 5, 2) := by decide +kernel
theorem dX4_pictureAt_62 : decode cX4_pictureAt 62 = .ok (.getfield 151, 3) := by decide +kernel
theorem dX4_pictureAt_65 : decode cX4_pictureAt 65 = .ok (.iadd, 1) := by decide +kernel
theorem dX4_pictureAt_66 : decode cX4_pictureAt 66 = .ok (.istore_n 3, 1) := by decide +kernel
theorem dX4_pictureAt_67 : decode cX4_pictureAt 67 = .ok (.iinc 4 1, 3) := by decide +kernel
theorem dX4_pictureAt_70 : decode cX4_pictureAt 70 = .ok (.goto (-64), 3) := by decide +kernel
theorem dX4_pictureAt_73 : decode cX4_pictureAt 73 = .ok (.iload_n 3, 1) := by decide +kernel
theorem dX4_pictureAt_74 : decode cX4_pictureAt 74 = .ok (.ireturn, 1) := by decide +kernel
theorem dX4_targetFrom_0 : decode cX4_targetFrom 0 = .ok (.iconst (-1), 1) := by decide +kernel
theorem dX4_targetFrom_1 : decode cX4_targetFrom 1 = .ok (.istore_n 3, 1) := by decide +kernel
theorem dX4_targetFrom_2 : decode cX4_targetFrom 2 = .ok (.iconst 0, 1) := by decide +kernel
theorem dX4_targetFrom_3 : decode cX4_targetFrom 3 = .ok (.istore 4, 2) := by decide +kernel
theorem dX4_targetFrom_5 : decode cX4_targetFrom 5 = .ok (.iconst 0, 1) := by decide +kernel
theorem dX4_targetFrom_6 : decode cX4_targetFrom 6 = .ok (.istore 5, 2) := by decide +kernel
theorem dX4_targetFrom_8 : decode cX4_targetFrom 8 = .ok (.iload 5, 2) := by decide +kernel
theorem dX4_targetFrom_10 : decode cX4_targetFrom 10 = .ok (.aload_n 0, 1) := by decide +kernel
theorem dX4_targetFrom_11 : decode cX4_targetFrom 11 = .ok (.getfield 10, 3) := by decide +kernel
theorem dX4_targetFrom_14 : decode cX4_targetFrom 14 = .ok (.invokevirtual 65, 3) := by decide +kernel
theorem dX4_targetFrom_17 : decode cX4_targetFrom 17 = .ok (.if_icmp .ge 57, 3) := by decide +kernel
theorem dX4_targetFrom_20 : decode cX4_targetFrom 20 = .ok (.aload_n 0, 1) := by decide +kernel
theorem dX4_targetFrom_21 : decode cX4_targetFrom 21 = .ok (.getfield 10, 3) := by decide +kernel
theorem dX4_targetFrom_24 : decode cX4_targetFrom 24 = .ok (.iload 5, 2) := by decide +kernel
theorem dX4_targetFrom_26 : decode cX4_targetFrom 26 = .ok (.invokevirtual 272, 3) := by decide +kernel
theorem dX4_targetFrom_29 : decode cX4_targetFrom 29 = .ok (.checkcast 78, 3) := by decide +kernel
theorem dX4_targetFrom_32 : decode cX4_targetFrom 32 = .ok (.astore 6, 2) := by decide +kernel
theorem dX4_targetFrom_34 : decode cX4_targetFrom 34 = .ok (.aload 6, 2) := by decide +kernel
theorem dX4_targetFrom_36 : decode cX4_targetFrom 36 = .ok (.invokevirtual 233, 3) := by decide +kernel
theorem dX4_targetFrom_39 : decode cX4_targetFrom 39 = .ok (.bipush 100, 2) := by decide +kernel
theorem dX4_targetFrom_41 : decode cX4_targetFrom 41 = .ok (.imul, 1) := by decide +kernel
theorem dX4_targetFrom_42 : decode cX4_targetFrom 42 = .ok (.iconst 1, 1) := by decide +kernel
theorem dX4_targetFrom_43 : decode cX4_targetFrom 43 = .ok (.aload 6, 2) := by decide +kernel
theorem dX4_targetFrom_45 : decode cX4_targetFrom 45 = .ok (.iload_n 1, 1) := by decide +kernel
theorem dX4_targetFrom_46 : decode cX4_targetFrom 46 = .ok (.iload_n 2, 1) := by decide +kernel
theorem dX4_targetFrom_47 : decode cX4_targetFrom 47 = .ok (.invokevirtual 216, 3) := by decide +kernel
theorem dX4_targetFrom_50 : decode cX4_targetFrom 50 = .ok (.iadd, 1) := by decide +kernel
theorem dX4_targetFrom_51 : decode cX4_targetFrom 51 = .ok (.idiv, 1) := by decide +kernel
theorem dX4_targetFrom_52 : decode cX4_targetFrom 52 = .ok (.istore 7, 2) := by decide +kernel
theorem dX4_targetFrom_54 : decode cX4_targetFrom 54 = .ok (.iload 7, 2) := by decide +kernel
theorem dX4_targetFrom_56 : decode cX4_targetFrom 56 = .ok (.iload 4, 2) := by decide +kernel
theorem dX4_targetFrom_58 : decode cX4_targetFrom 58 = .ok (.if_icmp .le 10, 3) := by decide +kernel
theorem dX4_targetFrom_61 : decode cX4_targetFrom 61 = .ok (.iload 7, 2) := by decide +kernel
theorem dX4_targetFrom_63 : decode cX4_targetFrom 63 = .ok (.istore 4, 2) := by decide +kernel
theorem dX4_targetFrom_65 : decode cX4_targetFrom 65 = .ok (.iload 5, 2) := by decide +kernel
theorem dX4_targetFrom_67 : decode cX4_targetFrom 67 = .ok (.istore_n 3, 1) := by decide +kernel
theorem dX4_targetFrom_68 : decode cX4_targetFrom 68 = .ok (.iinc 5 1, 3) := by decide +kernel
theorem dX4_targetFrom_71 : decode cX4_targetFrom 71 = .ok (.goto (-63), 3) := by decide +kernel
theorem dX4_targetFrom_74 : decode cX4_targetFrom 74 = .ok (.iload_n 3, 1) := by decide +kernel
theorem dX4_targetFrom_75 : decode cX4_targetFrom 75 = .ok (.ireturn, 1) := by decide +kernel
theorem old_0 {mm : q_Mem} {t : Nat} (h : mm 13 t = 0) : sp_oldt mm t = false := by
  unfold sp_oldt sp_old
  rw [h, decide_eq_false (by decide)]
  exact Bool.false_and _
theorem ke_X4_pictureAt : wl_V RX4 yX4_pictureAt cX4_pictureAt 6 (some .int) 2 := ⟨wd_c_X4_pictureAt, wd_i_X4_pictureAt, wd_s_X4_pictureAt, wd_n_X4, by decide, by decide +kernel⟩
set_option maxHeartbeats 4000000 in
set_option maxRecDepth 100000 in
theorem m_X4_pictureAt (l : Launch) (G : k_G) (Z : Nat → Prop) (ad : k_Ad) (mm : q_Mem) (t u : Nat) (hI : Inv mm) (ht : t < 341) (hs : ¬ mm 13 t = 0) (hu : u < 2 ^ 31) : rc_C l yX4_pictureAt cX4_pictureAt 6 (some .int) 3 64 [.ref (ad 0 0), .ref (ad 6 t), .int (nI u)] (k_R G Z ad mm) (fun r => r = sp_pic mm (nI (tz_t t)) (nI (tx_t t)) (nI (ty_t t)) u) := by
  refine rc_of (by decide) (Nat.le_of_ble_eq_true rfl) ?_
  intro p e s m args below meth c hx hb hr hF hlk hB ls hl
  obtain ⟨hM, hK, hP, hT⟩ := hB
  have hS : va_S Z s.heap s.heap [] := va_S.rf
  have hl : lv_has ls 6 [(0, .ref (ad 0 0)), (1, .ref (ad 6 t)), (2, .int (nI u))] := hl
  have hf : (0 : Nat) ≤ 0 ∧ (0 : Nat) ≤ 0 := ⟨Nat.le_refl 0, Nat.le_refl 0⟩
  have hW40 := hI.W40
  have hKK := hI.K512
  refine lv_bipush (v := 17) hx hb dX4_pictureAt_0 (by decide) ?_
  refine lv_istore_n (lv' := [(3, .int 17), (0, .ref (ad 0 0)), (1, .ref (ad 6 t)), (2, .int (nI u))]) hx hb dX4_pictureAt_2 rfl hl (by decide) rfl (fun ls hl => ?_)
  refine lv_iconst (v := 0) hx hb dX4_pictureAt_3 (by decide) ?_
  refine lv_istore (lv' := [(4, .int 0), (3, .int 17), (0, .ref (ad 0 0)), (1, .ref (ad 6 t)), (2, .int (nI u))]) hx hb dX4_pictureAt_4 hl (by decide) rfl (fun ls hl => ?_)
  refine bo_loop (σ := Nat) (μ := fun (i : Nat) => sp_W mm - i) (I := fun (i : Nat) (H : Heap) (locs : List Loc) (ls : Array Slot) => H = s.heap ∧ locs = [] ∧ lv_has ls 6 [(3, .int (it_n (sp_pic1 mm (nI (tz_t t)) (nI (tx_t t)) (nI (ty_t t)) u) i 17)), (4, .int (nI i)), (0, .ref (ad 0 0)), (1, .ref (ad 6 t)), (2, .int (nI u))] ∧ (i ≤ sp_W mm)) (0) ⟨rfl, rfl, lv_sub hl [1, 0, 2, 3, 4] rfl, Nat.zero_le _⟩ ?_
  intro x6 H locs ls hI6 ih6
  obtain ⟨i, ex6⟩ : ∃ z, z = x6 := ⟨_, rfl⟩
  subst ex6
  obtain ⟨rfl, rfl, hl, hp⟩ := hI6
  refine lv_iload hx hb dX4_pictureAt_6 (lv_at hl 1 rfl) ?_
  refine lv_aload_n hx hb dX4_pictureAt_8 rfl (lv_at hl 2 rfl) ?_
  refine g_get (C := RX4) (T := TX4) (N := 6) (v := .ref (ad 0 1)) hF hK (hM 0 0 _ rfl) rfl inlX4 0 (by decide) rfl wd_f_X4_10 rfl dX4_pictureAt_9 ?_
  refine kr_V (fr := 0) (lo := 0) (As := []) (rest := [.int (nI i)]) hF (m_Jx4a65c_size_8abf5 l G Z ad mm) ke_Jx4a65c_size_8abf5 wd_l_X4_65 (by decide) hM hK hP hT hS (g_recv hK (hM 0 1 _ rfl) rfl) rfl hl.1 rfl (Nat.le_of_ble_eq_true rfl) dX4_pictureAt_12 hf (fun r1 hr1 => ?_)
  replace hr1 : r1 = mm 1 0 := hr1
  subst hr1
  refine bo_to (v := (nI (sp_W mm))) (hI.W) ?_
  refine lv_icmp_ge (tgt := 73) hx hb dX4_pictureAt_15 (by decide) (fun c1 => ?_) (fun c1 => ?_)
  · skip
    have hie : i = sp_W mm := by have := (nI_leI (by omega) (by omega)).mp c1; omega
    refine lv_iload_n hx hb dX4_pictureAt_73 rfl (lv_at hl 0 rfl) ?_
    exact rc_iret hx hb hr hlk (by rw [hie]; rfl) dX4_pictureAt_74
  · skip
    have hi : i < sp_W mm := by have : ¬ sp_W mm ≤ i := fun z => c1 (nI_le z (by omega)); omega
    refine lv_aload_n hx hb dX4_pictureAt_18 rfl (lv_at hl 2 rfl) ?_
    refine g_get (C := RX4) (T := TX4) (N := 6) (v := .ref (ad 0 1)) hF hK (hM 0 0 _ rfl) rfl inlX4 0 (by decide) rfl wd_f_X4_10 rfl dX4_pictureAt_19 ?_
    refine lv_iload hx hb dX4_pictureAt_22 (lv_at hl 1 rfl) ?_
    refine kq_V (fr := 2) (lo := 43) (As := [.int (nI i)]) (rest := []) hF (m_Jx4a65c_get_915e3 l G Z ad mm i hI hi) ke_Jx4a65c_get_915e3 wd_l_X4_272 (by decide) hM hK hP hT hS (g_recv hK (hM 0 1 _ rfl) rfl) rfl hl.1 rfl (Nat.le_of_ble_eq_true rfl) dX4_pictureAt_24 hf (fun r2 hr2 => ?_)
    obtain rfl := hr2
    refine bo_toV (v := .ref (ad 1 i)) rfl ?_
    refine g_cast (C := RX3) hF hK (hM 1 i _ (kc_w (by assumption))) rfl wd_k_X4_78_b dX4_pictureAt_27 ?_
    refine lv_aload_n hx hb dX4_pictureAt_30 rfl (lv_at hl 3 rfl) ?_
    refine lv_iload_n hx hb dX4_pictureAt_31 rfl (lv_at hl 4 rfl) ?_
    refine kq_V (fr := 1) (lo := 21) (As := [.ref (ad 6 t), .int (nI u)]) (rest := []) hF (m_X3_shownIn l G Z ad mm i t u hI hi ht hs hu) ke_X3_shownIn wd_l_X4_296 (by decide) hM hK hP hT hS (g_recv hK (hM 1 i _ (kc_w (by assumption))) rfl) rfl hl.1 rfl (Nat.le_of_ble_eq_true rfl) dX4_pictureAt_32 hf (fun r3 hr3 => ?_)
    replace hr3 := k_io hr3
    rcases hr3 with ⟨cp, rfl⟩ | ⟨cp, rfl⟩
    · skip
      refine bo_toV (v := .ref (ad 4 (sp_vis mm i u).toNatClampNeg)) rfl ?_
      have hJ := vis_lt hI hi cp.1
      refine lv_astore (lv' := [(5, .ref (ad 4 (sp_vis mm i u).toNatClampNeg)), (3, .int (it_n (sp_pic1 mm (nI (tz_t t)) (nI (tx_t t)) (nI (ty_t t)) u) i 17)), (4, .int (nI i)), (0, .ref (ad 0 0)), (1, .ref (ad 6 t)), (2, .int (nI u))]) hx hb dX4_pictureAt_35 hl (by decide) rfl (fun ls hl => ?_)
      refine lv_aload hx hb dX4_pictureAt_37 (lv_at hl 0 rfl) ?_
      refine lv_ifnull hx hb dX4_pictureAt_39 ?_
      refine lv_bipush (v := 31) hx hb dX4_pictureAt_42 (by decide) ?_
      refine lv_iload_n hx hb dX4_pictureAt_44 rfl (lv_at hl 1 rfl) ?_
      refine lv_imul hx hb dX4_pictureAt_45 ?_
      refine lv_bipush (v := 16) hx hb dX4_pictureAt_46 (by decide) ?_
      refine lv_iload hx hb dX4_pictureAt_48 (lv_at hl 2 rfl) ?_
      refine lv_imul hx hb dX4_pictureAt_50 ?_
      refine lv_iadd hx hb dX4_pictureAt_51 ?_
      refine lv_iconst (v := 4) hx hb dX4_pictureAt_52 (by decide) ?_
      refine lv_aload hx hb dX4_pictureAt_53 (lv_at hl 0 rfl) ?_
      refine g_get (C := RX0) (T := TX0) (N := 3) (v := .int (sp_vk (mm 11 ((sp_vis mm i u).toNatClampNeg)))) hF hK (hM 4 ((sp_vis mm i u).toNatClampNeg) _ (kc_c (by assumption))) rfl inlX0 0 (by decide) rfl wd_f_X4_149 rfl dX4_pictureAt_55 ?_
      refine lv_imul hx hb dX4_pictureAt_58 ?_
      refine lv_iadd hx hb dX4_pictureAt_59 ?_
      refine lv_aload hx hb dX4_pictureAt_60 (lv_at hl 0 rfl) ?_
      refine g_get (C := RX0) (T := TX0) (N := 3) (v := .int (sp_vd (mm 11 ((sp_vis mm i u).toNatClampNeg)))) hF hK (hM 4 ((sp_vis mm i u).toNatClampNeg) _ (kc_c (by assumption))) rfl inlX0 1 (by decide) rfl wd_f_X4_151 rfl dX4_pictureAt_62 ?_
      refine lv_iadd hx hb dX4_pictureAt_65 ?_
      refine bo_to (v := (it_n (sp_pic1 mm (nI (tz_t t)) (nI (tx_t t)) (nI (ty_t t)) u) (i + 1) 17)) (pcx_y cp) ?_
      refine lv_istore_n (lv' := [(3, .int (it_n (sp_pic1 mm (nI (tz_t t)) (nI (tx_t t)) (nI (ty_t t)) u) (i + 1) 17)), (5, .ref (ad 4 (sp_vis mm i u).toNatClampNeg)), (4, .int (nI i)), (0, .ref (ad 0 0)), (1, .ref (ad 6 t)), (2, .int (nI u))]) hx hb dX4_pictureAt_66 rfl hl (by decide) rfl (fun ls hl => ?_)
      refine lv_iinc (v := (nI (i + 1))) (lv' := [(4, .int (nI (i + 1))), (3, .int (it_n (sp_pic1 mm (nI (tz_t t)) (nI (tx_t t)) (nI (ty_t t)) u) (i + 1) 17)), (5, .ref (ad 4 (sp_vis mm i u).toNatClampNeg)), (0, .ref (ad 0 0)), (1, .ref (ad 6 t)), (2, .int (nI u))]) hx hb dX4_pictureAt_67 hl (k := 2) rfl (nI_1 i) (by decide) rfl (fun ls hl => ?_)
      refine lv_goto (tgt := 6) hx hb dX4_pictureAt_70 (by decide) ?_
      exact ih6 (i + 1) _ _ _ (by show sp_W mm - (i + 1) < sp_W mm - i; omega) ⟨rfl, rfl, lv_sub hl [1, 0, 3, 4, 5] rfl, by omega⟩
    · skip
      refine bo_toV (v := .null) rfl ?_
      refine lv_astoreN (lv' := [(5, .null), (3, .int (it_n (sp_pic1 mm (nI (tz_t t)) (nI (tx_t t)) (nI (ty_t t)) u) i 17)), (4, .int (nI i)), (0, .ref (ad 0 0)), (1, .ref (ad 6 t)), (2, .int (nI u))]) hx hb dX4_pictureAt_35 hl (by decide) rfl (fun ls hl => ?_)
      refine lv_aloadN hx hb dX4_pictureAt_37 (lv_at hl 0 rfl) ?_
      refine lv_ifnullN (tgt := 67) hx hb dX4_pictureAt_39 (by decide) ?_
      rw [pcx_n cp] at hl
      refine lv_iinc (v := (nI (i + 1))) (lv' := [(4, .int (nI (i + 1))), (5, .null), (3, .int (it_n (sp_pic1 mm (nI (tz_t t)) (nI (tx_t t)) (nI (ty_t t)) u) (i + 1) 17)), (0, .ref (ad 0 0)), (1, .ref (ad 6 t)), (2, .int (nI u))]) hx hb dX4_pictureAt_67 hl (k := 2) rfl (nI_1 i) (by decide) rfl (fun ls hl => ?_)
      refine lv_goto (tgt := 6) hx hb dX4_pictureAt_70 (by decide) ?_
      exact ih6 (i + 1) _ _ _ (by show sp_W mm - (i + 1) < sp_W mm - i; omega) ⟨rfl, rfl, lv_sub hl [2, 0, 3, 4, 5] rfl, by omega⟩
theorem ke_X4_countWaysIn : wl_V RX4 yX4_countWaysIn cX4_countWaysIn 4 (some .int) 1 := ⟨wd_c_X4_countWaysIn, wd_i_X4_countWaysIn, wd_s_X4_countWaysIn, wd_n_X4, by decide, by decide +kernel⟩
set_option maxHeartbeats 4000000 in
set_option maxRecDepth 100000 in
theorem m_X4_countWaysIn (l : Launch) (G : k_G) (Z : Nat → Prop) (ad : k_Ad) (mm : q_Mem) (t : Nat) (hI : Inv mm) (ht : t < 341) (hs : ¬ mm 13 t = 0) (hst : mm 13 t = nI (sp_K mm + 1)) : rc_C l yX4_countWaysIn cX4_countWaysIn 4 (some .int) 3 64 [.ref (ad 0 0), .ref (ad 6 t)] (k_R G Z ad mm) (fun r => r = it_n (sp_cnt1 mm (nI (tz_t t)) (nI (tx_t t)) (nI (ty_t t))) (sp_W mm) 0) := by
  refine rc_of (by decide) (Nat.le_of_ble_eq_true rfl) ?_
  intro p e s m args below meth c hx hb hr hF hlk hB ls hl
  obtain ⟨hM, hK, hP, hT⟩ := hB
  have hS : va_S Z s.heap s.heap [] := va_S.rf
  have hl : lv_has ls 4 [(0, .ref (ad 0 0)), (1, .ref (ad 6 t))] := hl
  have hf : (0 : Nat) ≤ 0 ∧ (0 : Nat) ≤ 0 := ⟨Nat.le_refl 0, Nat.le_refl 0⟩
  have hW40 := hI.W40
  have hKK := hI.K512
  refine lv_iconst (v := 0) hx hb dX4_countWaysIn_0 (by decide) ?_
  refine lv_istore_n (lv' := [(2, .int 0), (0, .ref (ad 0 0)), (1, .ref (ad 6 t))]) hx hb dX4_countWaysIn_1 rfl hl (by decide) rfl (fun ls hl => ?_)
  refine lv_iconst (v := 0) hx hb dX4_countWaysIn_2 (by decide) ?_
  refine lv_istore_n (lv' := [(3, .int 0), (2, .int 0), (0, .ref (ad 0 0)), (1, .ref (ad 6 t))]) hx hb dX4_countWaysIn_3 rfl hl (by decide) rfl (fun ls hl => ?_)
  refine bo_loop (σ := Nat) (μ := fun (i : Nat) => sp_W mm - i) (I := fun (i : Nat) (H : Heap) (locs : List Loc) (ls : Array Slot) => H = s.heap ∧ locs = [] ∧ lv_has ls 4 [(2, .int (it_n (sp_cnt1 mm (nI (tz_t t)) (nI (tx_t t)) (nI (ty_t t))) i 0)), (3, .int (nI i)), (0, .ref (ad 0 0)), (1, .ref (ad 6 t))] ∧ (i ≤ sp_W mm)) (0) ⟨rfl, rfl, lv_sub hl [1, 0, 2, 3] rfl, Nat.zero_le _⟩ ?_
  intro x4 H locs ls hI4 ih4
  obtain ⟨i, ex4⟩ : ∃ z, z = x4 := ⟨_, rfl⟩
  subst ex4
  obtain ⟨rfl, rfl, hl, hp⟩ := hI4
  refine lv_iload_n hx hb dX4_countWaysIn_4 rfl (lv_at hl 1 rfl) ?_
  refine lv_aload_n hx hb dX4_countWaysIn_5 rfl (lv_at hl 2 rfl) ?_
  refine g_get (C := RX4) (T := TX4) (N := 6) (v := .ref (ad 0 1)) hF hK (hM 0 0 _ rfl) rfl inlX4 0 (by decide) rfl wd_f_X4_10 rfl dX4_countWaysIn_6 ?_
  refine kr_V (fr := 0) (lo := 0) (As := []) (rest := [.int (nI i)]) hF (m_Jx4a65c_size_8abf5 l G Z ad mm) ke_Jx4a65c_size_8abf5 wd_l_X4_65 (by decide) hM hK hP hT hS (g_recv hK (hM 0 1 _ rfl) rfl) rfl hl.1 rfl (Nat.le_of_ble_eq_true rfl) dX4_countWaysIn_9 hf (fun r1 hr1 => ?_)
  replace hr1 : r1 = mm 1 0 := hr1
  subst hr1
  refine bo_to (v := (nI (sp_W mm))) (hI.W) ?_
  refine lv_icmp_ge (tgt := 46) hx hb dX4_countWaysIn_12 (by decide) (fun c1 => ?_) (fun c1 => ?_)
  · skip
    have hie : i = sp_W mm := by have := (nI_leI (by omega) (by omega)).mp c1; omega
    refine lv_iload_n hx hb dX4_countWaysIn_46 rfl (lv_at hl 0 rfl) ?_
    exact rc_iret hx hb hr hlk (by rw [hie]) dX4_countWaysIn_47
  · skip
    have hi : i < sp_W mm := by have : ¬ sp_W mm ≤ i := fun z => c1 (nI_le z (by omega)); omega
    refine lv_aload_n hx hb dX4_countWaysIn_15 rfl (lv_at hl 2 rfl) ?_
    refine g_get (C := RX4) (T := TX4) (N := 6) (v := .ref (ad 0 1)) hF hK (hM 0 0 _ rfl) rfl inlX4 0 (by decide) rfl wd_f_X4_10 rfl dX4_countWaysIn_16 ?_
    refine lv_iload_n hx hb dX4_countWaysIn_19 rfl (lv_at hl 1 rfl) ?_
    refine kq_V (fr := 2) (lo := 43) (As := [.int (nI i)]) (rest := []) hF (m_Jx4a65c_get_915e3 l G Z ad mm i hI hi) ke_Jx4a65c_get_915e3 wd_l_X4_272 (by decide) hM hK hP hT hS (g_recv hK (hM 0 1 _ rfl) rfl) rfl hl.1 rfl (Nat.le_of_ble_eq_true rfl) dX4_countWaysIn_20 hf (fun r2 hr2 => ?_)
    obtain rfl := hr2
    refine bo_toV (v := .ref (ad 1 i)) rfl ?_
    refine g_cast (C := RX3) hF hK (hM 1 i _ (kc_w (by assumption))) rfl wd_k_X4_78_b dX4_countWaysIn_23 ?_
    refine lv_aload_n hx hb dX4_countWaysIn_26 rfl (lv_at hl 3 rfl) ?_
    refine lv_aload_n hx hb dX4_countWaysIn_27 rfl (lv_at hl 3 rfl) ?_
    refine g_get (C := RX1) (T := TX1) (N := 7) (v := .int (mm 13 t - 1)) hF hK (hM 6 t _ (kc_t ht hs)) rfl inlX1 5 (by decide) rfl wd_f_X4_188 rfl dX4_countWaysIn_28 ?_
    refine bo_to (v := (nI (sp_K mm))) (by rw [hst]; exact nI_pred _) ?_
    refine kq_V (fr := 1) (lo := 21) (As := [.ref (ad 6 t), .int (nI (sp_K mm))]) (rest := []) hF (m_X3_shownIn l G Z ad mm i t (sp_K mm) hI hi ht hs (by omega)) ke_X3_shownIn wd_l_X4_296 (by decide) hM hK hP hT hS (g_recv hK (hM 1 i _ (kc_w (by assumption))) rfl) rfl hl.1 rfl (Nat.le_of_ble_eq_true rfl) dX4_countWaysIn_31 hf (fun r3 hr3 => ?_)
    replace hr3 := k_io hr3
    rcases hr3 with ⟨cp, rfl⟩ | ⟨cp, rfl⟩
    · skip
      refine bo_toV (v := .ref (ad 4 (sp_vis mm i (sp_K mm)).toNatClampNeg)) rfl ?_
      have cp2 := (pin_K hI hi).mp cp
      refine lv_ifnull hx hb dX4_countWaysIn_34 ?_
      refine lv_iinc (v := (it_n (sp_cnt1 mm (nI (tz_t t)) (nI (tx_t t)) (nI (ty_t t))) (i + 1) 0)) (lv' := [(2, .int (it_n (sp_cnt1 mm (nI (tz_t t)) (nI (tx_t t)) (nI (ty_t t))) (i + 1) 0)), (3, .int (nI i)), (0, .ref (ad 0 0)), (1, .ref (ad 6 t))]) hx hb dX4_countWaysIn_37 hl (k := 0) rfl (cnx_y cp2) (by decide) rfl (fun ls hl => ?_)
      refine lv_iinc (v := (nI (i + 1))) (lv' := [(3, .int (nI (i + 1))), (2, .int (it_n (sp_cnt1 mm (nI (tz_t t)) (nI (tx_t t)) (nI (ty_t t))) (i + 1) 0)), (0, .ref (ad 0 0)), (1, .ref (ad 6 t))]) hx hb dX4_countWaysIn_40 hl (k := 1) rfl (nI_1 i) (by decide) rfl (fun ls hl => ?_)
      refine lv_goto (tgt := 4) hx hb dX4_countWaysIn_43 (by decide) ?_
      exact ih4 (i + 1) _ _ _ (by show sp_W mm - (i + 1) < sp_W mm - i; omega) ⟨rfl, rfl, lv_sub hl [1, 0, 2, 3] rfl, by omega⟩
    · skip
      refine bo_toV (v := .null) rfl ?_
      have cp2 := fun q => cp ((pin_K hI hi).mpr q)
      refine lv_ifnullN (tgt := 40) hx hb dX4_countWaysIn_34 (by decide) ?_
      rw [cnx_n cp2] at hl
      refine lv_iinc (v := (nI (i + 1))) (lv' := [(3, .int (nI (i + 1))), (2, .int (it_n (sp_cnt1 mm (nI (tz_t t)) (nI (tx_t t)) (nI (ty_t t))) (i + 1) 0)), (0, .ref (ad 0 0)), (1, .ref (ad 6 t))]) hx hb dX4_countWaysIn_40 hl (k := 1) rfl (nI_1 i) (by decide) rfl (fun ls hl => ?_)
      refine lv_goto (tgt := 4) hx hb dX4_countWaysIn_43 (by decide) ?_
      exact ih4 (i + 1) _ _ _ (by show sp_W mm - (i + 1) < sp_W mm - i; omega) ⟨rfl, rfl, lv_sub hl [1, 0, 2, 3] rfl, by omega⟩
theorem ke_X4_isOutdated : wl_V RX4 yX4_isOutdated cX4_isOutdated 3 (some .boolean) 1 := ⟨wd_c_X4_isOutdated, wd_i_X4_isOutdated, wd_s_X4_isOutdated, wd_n_X4, by decide, by decide +kernel⟩
set_option maxHeartbeats 4000000 in
set_option maxRecDepth 100000 in
theorem m_X4_isOutdated (l : Launch) (G : k_G) (Z : Nat → Prop) (ad : k_Ad) (mm : q_Mem) (t : Nat) (hI : Inv mm) (ht : t < 341) (hs : ¬ mm 13 t = 0) : rc_C l yX4_isOutdated cX4_isOutdated 3 (some .boolean) 3 64 [.ref (ad 0 0), .ref (ad 6 t)] (k_R G Z ad mm) (fun r => r = if sp_oldt mm t = true then 1 else 0) := by
  refine rc_of (by decide) (Nat.le_of_ble_eq_true rfl) ?_
  intro p e s m args below meth c hx hb hr hF hlk hB ls hl
  obtain ⟨hM, hK, hP, hT⟩ := hB
  have hS : va_S Z s.heap s.heap [] := va_S.rf
  have hl : lv_has ls 3 [(0, .ref (ad 0 0)), (1, .ref (ad 6 t))] := hl
  have hf : (0 : Nat) ≤ 0 ∧ (0 : Nat) ≤ 0 := ⟨Nat.le_refl 0, Nat.le_refl 0⟩
  have hW40 := hI.W40
  have hKK := hI.K512
  refine lv_aload_n hx hb dX4_isOutdated_0 rfl (lv_at hl 1 rfl) ?_
  refine lv_ifnonnull (tgt := 6) hx hb dX4_isOutdated_1 (by decide) ?_
  refine lv_iconst (v := 0) hx hb dX4_isOutdated_6 (by decide) ?_
  refine lv_istore_n (lv' := [(2, .int 0), (0, .ref (ad 0 0)), (1, .ref (ad 6 t))]) hx hb dX4_isOutdated_7 rfl hl (by decide) rfl (fun ls hl => ?_)
  refine bo_loop (σ := Nat) (μ := fun (i : Nat) => sp_W mm - i) (I := fun (i : Nat) (H : Heap) (locs : List Loc) (ls : Array Slot) => H = s.heap ∧ locs = [] ∧ lv_has ls 3 [(2, .int (nI i)), (0, .ref (ad 0 0)), (1, .ref (ad 6 t))] ∧ (i ≤ sp_W mm) ∧ (∀ k, k < i → ¬ k_out mm t k = true)) (0) ⟨rfl, rfl, lv_sub hl [0, 1, 2] rfl, Nat.zero_le _, fun k q => absurd q (Nat.not_lt_zero k)⟩ ?_
  intro x8 H locs ls hI8 ih8
  obtain ⟨i, ex8⟩ : ∃ z, z = x8 := ⟨_, rfl⟩
  subst ex8
  obtain ⟨rfl, rfl, hl, hp, hp2⟩ := hI8
  refine lv_iload_n hx hb dX4_isOutdated_8 rfl (lv_at hl 0 rfl) ?_
  refine lv_aload_n hx hb dX4_isOutdated_9 rfl (lv_at hl 1 rfl) ?_
  refine g_get (C := RX4) (T := TX4) (N := 6) (v := .ref (ad 0 1)) hF hK (hM 0 0 _ rfl) rfl inlX4 0 (by decide) rfl wd_f_X4_10 rfl dX4_isOutdated_10 ?_
  refine kr_V (fr := 0) (lo := 0) (As := []) (rest := [.int (nI i)]) hF (m_Jx4a65c_size_8abf5 l G Z ad mm) ke_Jx4a65c_size_8abf5 wd_l_X4_65 (by decide) hM hK hP hT hS (g_recv hK (hM 0 1 _ rfl) rfl) rfl hl.1 rfl (Nat.le_of_ble_eq_true rfl) dX4_isOutdated_13 hf (fun r2 hr2 => ?_)
  replace hr2 : r2 = mm 1 0 := hr2
  subst hr2
  refine bo_to (v := (nI (sp_W mm))) (hI.W) ?_
  refine lv_icmp_ge (tgt := 45) hx hb dX4_isOutdated_16 (by decide) (fun c1 => ?_) (fun c1 => ?_)
  · skip
    have hie : i = sp_W mm := by have := (nI_leI (by omega) (by omega)).mp c1; omega
    refine lv_iconst (v := 0) hx hb dX4_isOutdated_45 (by decide) ?_
    exact rc_zret hx hb hr hlk (by first | exact Or.inl rfl | exact Or.inr rfl) (by rw [out_all hI hs ht, if_neg (fun q => by obtain ⟨k, hk, q2⟩ := an_y_iff.mp q; exact hp2 k (by omega) q2)]) dX4_isOutdated_46
  · skip
    have hi : i < sp_W mm := by have : ¬ sp_W mm ≤ i := fun z => c1 (nI_le z (by omega)); omega
    refine lv_aload_n hx hb dX4_isOutdated_19 rfl (lv_at hl 1 rfl) ?_
    refine g_get (C := RX4) (T := TX4) (N := 6) (v := .ref (ad 0 1)) hF hK (hM 0 0 _ rfl) rfl inlX4 0 (by decide) rfl wd_f_X4_10 rfl dX4_isOutdated_20 ?_
    refine lv_iload_n hx hb dX4_isOutdated_23 rfl (lv_at hl 0 rfl) ?_
    refine kq_V (fr := 2) (lo := 43) (As := [.int (nI i)]) (rest := []) hF (m_Jx4a65c_get_915e3 l G Z ad mm i hI hi) ke_Jx4a65c_get_915e3 wd_l_X4_272 (by decide) hM hK hP hT hS (g_recv hK (hM 0 1 _ rfl) rfl) rfl hl.1 rfl (Nat.le_of_ble_eq_true rfl) dX4_isOutdated_24 hf (fun r3 hr3 => ?_)
    obtain rfl := hr3
    refine bo_toV (v := .ref (ad 1 i)) rfl ?_
    refine g_cast (C := RX3) hF hK (hM 1 i _ (kc_w (by assumption))) rfl wd_k_X4_78_b dX4_isOutdated_27 ?_
    refine lv_aload_n hx hb dX4_isOutdated_30 rfl (lv_at hl 2 rfl) ?_
    refine kr_V (fr := 1) (lo := 21) (As := [.ref (ad 6 t)]) (rest := []) hF (m_X3_outdates l G Z ad mm i t hI hi ht hs) ke_X3_outdates wd_l_X4_300 (by decide) hM hK hP hT hS (g_recv hK (hM 1 i _ (kc_w (by assumption))) rfl) rfl hl.1 rfl (Nat.le_of_ble_eq_true rfl) dX4_isOutdated_31 hf (fun r4 hr4 => ?_)
    refine bo_eq (tgt := 39) hr4 hx hb dX4_isOutdated_34 (by decide) (fun c2 => ?_) (fun c2 => ?_)
    · skip
      refine lv_iinc (v := (nI (i + 1))) (lv' := [(2, .int (nI (i + 1))), (0, .ref (ad 0 0)), (1, .ref (ad 6 t))]) hx hb dX4_isOutdated_39 hl (k := 0) rfl (nI_1 i) (by decide) rfl (fun ls hl => ?_)
      refine lv_goto (tgt := 8) hx hb dX4_isOutdated_42 (by decide) ?_
      exact ih8 (i + 1) _ _ _ (by show sp_W mm - (i + 1) < sp_W mm - i; omega) ⟨rfl, rfl, lv_sub hl [0, 1, 2] rfl, by omega, fun k hk => by
        rcases Nat.lt_or_ge k i with q | q
        · exact hp2 k q
        · have e5 : k = i := by omega
          subst e5; exact c2⟩
    · skip
      refine lv_iconst (v := 1) hx hb dX4_isOutdated_37 (by decide) ?_
      exact rc_zret hx hb hr hlk (by first | exact Or.inl rfl | exact Or.inr rfl) (by rw [out_all hI hs ht, if_pos (an_y_iff.mpr ⟨i, hi, c2⟩)]) dX4_isOutdated_38
set_option maxHeartbeats 4000000 in
set_option maxRecDepth 100000 in
theorem m_X4_isOutdated0 (l : Launch) (G : k_G) (Z : Nat → Prop) (ad : k_Ad) (mm : q_Mem) (t : Nat) (h0 : mm 13 t = 0) : rc_C l yX4_isOutdated cX4_isOutdated 3 (some .boolean) 3 64 [.ref (ad 0 0), .null] (k_R G Z ad mm) (fun r => r = if sp_oldt mm t = true then 1 else 0) := by
  refine rc_of (by decide) (Nat.le_of_ble_eq_true rfl) ?_
  intro p e s m args below meth c hx hb hr hF hlk hB ls hl
  obtain ⟨hM, hK, hP, hT⟩ := hB
  have hS : va_S Z s.heap s.heap [] := va_S.rf
  have hl : lv_has ls 3 [(0, .ref (ad 0 0)), (1, .null)] := hl
  have hf : (0 : Nat) ≤ 0 ∧ (0 : Nat) ≤ 0 := ⟨Nat.le_refl 0, Nat.le_refl 0⟩
  refine lv_aload_nN hx hb dX4_isOutdated_0 rfl (lv_at hl 1 rfl) ?_
  refine lv_ifnonnullN hx hb dX4_isOutdated_1 ?_
  refine lv_iconst (v := 0) hx hb dX4_isOutdated_4 (by decide) ?_
  exact rc_zret hx hb hr hlk (by first | exact Or.inl rfl | exact Or.inr rfl) (by rw [old_0 h0, if_neg Bool.false_ne_true]) dX4_isOutdated_5
theorem m_X4_isOutdatedV (l : Launch) (G : k_G) (Z : Nat → Prop) (ad : k_Ad) (mm : q_Mem) (t : Nat) (hI : Inv mm) (ht : t < 341) : rc_C l yX4_isOutdated cX4_isOutdated 3 (some .boolean) 3 64 [.ref (ad 0 0), k_rf (mm 13 t = 0) (ad 6 t)] (k_R G Z ad mm) (fun r => r = if sp_oldt mm t = true then 1 else 0) := by
  by_cases h : mm 13 t = 0
  · unfold k_rf
    rw [if_pos h]
    exact m_X4_isOutdated0 l G Z ad mm t h
  · unfold k_rf
    rw [if_neg h]
    exact m_X4_isOutdated l G Z ad mm t hI ht h
theorem ke_X4_targetFrom : wl_V RX4 yX4_targetFrom cX4_targetFrom 8 (some .int) 2 := ⟨wd_c_X4_targetFrom, wd_i_X4_targetFrom, wd_s_X4_targetFrom, wd_n_X4, by decide, by decide +kernel⟩
set_option maxHeartbeats 4000000 in
set_option maxRecDepth 100000 in
theorem m_X4_targetFrom (l : Launch) (G : k_G) (Z : Nat → Prop) (ad : k_Ad) (mm : q_Mem) (c1 : Nat) (hc1 : c1 < 3) (hI : Inv mm)  : rc_C l yX4_targetFrom cX4_targetFrom 8 (some .int) 4 91 [.ref (ad 0 0), .int (mm 15 c1), .int (mm 16 c1)] (k_R G Z ad mm) (fun r => r = sp_tg mm c1) := by
  refine rc_of (by decide) (Nat.le_of_ble_eq_true rfl) ?_
  intro p e s m args below meth c hx hb hr hF hlk hB ls hl
  obtain ⟨hM, hK, hP, hT⟩ := hB
  have hS : va_S Z s.heap s.heap [] := va_S.rf
  have hl : lv_has ls 8 [(0, .ref (ad 0 0)), (1, .int (mm 15 c1)), (2, .int (mm 16 c1))] := hl
  have hf : (0 : Nat) ≤ 0 ∧ (0 : Nat) ≤ 0 := ⟨Nat.le_refl 0, Nat.le_refl 0⟩
  have hW40 := hI.W40
  have hKK := hI.K512
  refine lv_iconst (v := (-1)) hx hb dX4_targetFrom_0 (by decide) ?_
  refine lv_istore_n (lv' := [(3, .int (-1)), (0, .ref (ad 0 0)), (1, .int (mm 15 c1)), (2, .int (mm 16 c1))]) hx hb dX4_targetFrom_1 rfl hl (by decide) rfl (fun ls hl => ?_)
  refine lv_iconst (v := 0) hx hb dX4_targetFrom_2 (by decide) ?_
  refine lv_istore (lv' := [(4, .int 0), (3, .int (-1)), (0, .ref (ad 0 0)), (1, .int (mm 15 c1)), (2, .int (mm 16 c1))]) hx hb dX4_targetFrom_3 hl (by decide) rfl (fun ls hl => ?_)
  refine lv_iconst (v := 0) hx hb dX4_targetFrom_5 (by decide) ?_
  refine lv_istore (lv' := [(5, .int 0), (4, .int 0), (3, .int (-1)), (0, .ref (ad 0 0)), (1, .int (mm 15 c1)), (2, .int (mm 16 c1))]) hx hb dX4_targetFrom_6 hl (by decide) rfl (fun ls hl => ?_)
  refine bo_loop (σ := Nat) (μ := fun (i : Nat) => sp_W mm - i) (I := fun (i : Nat) (H : Heap) (locs : List Loc) (ls : Array Slot) => H = s.heap ∧ locs = [] ∧ lv_has ls 8 [(3, .int ((tgn mm c1 i).1)), (4, .int ((tgn mm c1 i).2)), (5, .int (nI i)), (0, .ref (ad 0 0)), (1, .int (mm 15 c1)), (2, .int (mm 16 c1))] ∧ (i ≤ sp_W mm)) (0) ⟨rfl, rfl, lv_sub hl [2, 1, 0, 3, 4, 5] rfl, Nat.zero_le _⟩ ?_
  intro x8 H locs ls hI8 ih8
  obtain ⟨i, ex8⟩ : ∃ z, z = x8 := ⟨_, rfl⟩
  subst ex8
  obtain ⟨rfl, rfl, hl, hp⟩ := hI8
  refine lv_iload hx hb dX4_targetFrom_8 (lv_at hl 2 rfl) ?_
  refine lv_aload_n hx hb dX4_targetFrom_10 rfl (lv_at hl 3 rfl) ?_
  refine g_get (C := RX4) (T := TX4) (N := 6) (v := .ref (ad 0 1)) hF hK (hM 0 0 _ rfl) rfl inlX4 0 (by decide) rfl wd_f_X4_10 rfl dX4_targetFrom_11 ?_
  refine kr_V (fr := 0) (lo := 0) (As := []) (rest := [.int (nI i)]) hF (m_Jx4a65c_size_8abf5 l G Z ad mm) ke_Jx4a65c_size_8abf5 wd_l_X4_65 (by decide) hM hK hP hT hS (g_recv hK (hM 0 1 _ rfl) rfl) rfl hl.1 rfl (Nat.le_of_ble_eq_true rfl) dX4_targetFrom_14 hf (fun r1 hr1 => ?_)
  replace hr1 : r1 = mm 1 0 := hr1
  subst hr1
  refine bo_to (v := (nI (sp_W mm))) (hI.W) ?_
  refine lv_icmp_ge (tgt := 74) hx hb dX4_targetFrom_17 (by decide) (fun ce => ?_) (fun ce => ?_)
  · skip
    have hie : i = sp_W mm := by have := (nI_leI (by omega) (by omega)).mp ce; omega
    refine lv_iload_n hx hb dX4_targetFrom_74 rfl (lv_at hl 0 rfl) ?_
    exact rc_iret hx hb hr hlk (by rw [hie]; rfl) dX4_targetFrom_75
  · skip
    have hi : i < sp_W mm := by have : ¬ sp_W mm ≤ i := fun z => ce (nI_le z (by omega)); omega
    refine lv_aload_n hx hb dX4_targetFrom_20 rfl (lv_at hl 3 rfl) ?_
    refine g_get (C := RX4) (T := TX4) (N := 6) (v := .ref (ad 0 1)) hF hK (hM 0 0 _ rfl) rfl inlX4 0 (by decide) rfl wd_f_X4_10 rfl dX4_targetFrom_21 ?_
    refine lv_iload hx hb dX4_targetFrom_24 (lv_at hl 2 rfl) ?_
    refine kq_V (fr := 2) (lo := 43) (As := [.int (nI i)]) (rest := []) hF (m_Jx4a65c_get_915e3 l G Z ad mm i hI hi) ke_Jx4a65c_get_915e3 wd_l_X4_272 (by decide) hM hK hP hT hS (g_recv hK (hM 0 1 _ rfl) rfl) rfl hl.1 rfl (Nat.le_of_ble_eq_true rfl) dX4_targetFrom_26 hf (fun r2 hr2 => ?_)
    obtain rfl := hr2
    refine bo_toV (v := .ref (ad 1 i)) rfl ?_
    refine g_cast (C := RX3) hF hK (hM 1 i _ (kc_w (by assumption))) rfl wd_k_X4_78_b dX4_targetFrom_29 ?_
    refine lv_astore (lv' := [(6, .ref (ad 1 i)), (3, .int ((tgn mm c1 i).1)), (4, .int ((tgn mm c1 i).2)), (5, .int (nI i)), (0, .ref (ad 0 0)), (1, .int (mm 15 c1)), (2, .int (mm 16 c1))]) hx hb dX4_targetFrom_32 hl (by decide) rfl (fun ls hl => ?_)
    refine lv_aload hx hb dX4_targetFrom_34 (lv_at hl 0 rfl) ?_
    refine kr_V (fr := 1) (lo := 20) (As := []) (rest := []) hF (m_X3_dearness l G Z ad mm i hI hi) ke_X3_dearness wd_l_X4_233 (by decide) hM hK hP hT hS (g_recv hK (hM 1 i _ (kc_w (by assumption))) rfl) rfl hl.1 rfl (Nat.le_of_ble_eq_true rfl) dX4_targetFrom_36 hf (fun r3 hr3 => ?_)
    replace hr3 : r3 = sp_dv mm i := hr3
    subst hr3
    refine lv_bipush (v := 100) hx hb dX4_targetFrom_39 (by decide) ?_
    refine lv_imul hx hb dX4_targetFrom_41 ?_
    refine lv_iconst (v := 1) hx hb dX4_targetFrom_42 (by decide) ?_
    refine lv_aload hx hb dX4_targetFrom_43 (lv_at hl 0 rfl) ?_
    refine lv_iload_n hx hb dX4_targetFrom_45 rfl (lv_at hl 5 rfl) ?_
    refine lv_iload_n hx hb dX4_targetFrom_46 rfl (lv_at hl 6 rfl) ?_
    refine kr_V (fr := 3) (lo := 69) (As := [.int (mm 15 c1), .int (mm 16 c1)]) (rest := [.int 1, .int ((sp_dv mm i) * 100)]) hF (m_X3_distanceFrom l G Z ad mm i (mm 15 c1) (mm 16 c1) hI hi) ke_X3_distanceFrom wd_l_X4_216 (by decide) hM hK hP hT hS (g_recv hK (hM 1 i _ (kc_w (by assumption))) rfl) rfl hl.1 rfl (Nat.le_of_ble_eq_true rfl) dX4_targetFrom_47 hf (fun r4 hr4 => ?_)
    rw [mn_nst hI hc1 hi] at hr4
    replace hr4 : r4 = sp_nst mm c1 i := hr4
    subst hr4
    refine lv_iadd hx hb dX4_targetFrom_50 ?_
    refine lv_idiv hx hb dX4_targetFrom_51 (nst_ne hI hc1 hi) ?_
    refine bo_to (v := (sp_wth mm c1 i)) (rfl) ?_
    refine lv_istore (lv' := [(7, .int (sp_wth mm c1 i)), (6, .ref (ad 1 i)), (3, .int ((tgn mm c1 i).1)), (4, .int ((tgn mm c1 i).2)), (5, .int (nI i)), (0, .ref (ad 0 0)), (1, .int (mm 15 c1)), (2, .int (mm 16 c1))]) hx hb dX4_targetFrom_52 hl (by decide) rfl (fun ls hl => ?_)
    refine lv_iload hx hb dX4_targetFrom_54 (lv_at hl 0 rfl) ?_
    refine lv_iload hx hb dX4_targetFrom_56 (lv_at hl 3 rfl) ?_
    refine lv_icmp_le (tgt := 68) hx hb dX4_targetFrom_58 (by decide) (fun c3 => ?_) (fun c3 => ?_)
    · skip
      rw [tg_n1 (bo_nlt c3), tg_n2 (bo_nlt c3)] at hl
      refine lv_iinc (v := (nI (i + 1))) (lv' := [(5, .int (nI (i + 1))), (7, .int (sp_wth mm c1 i)), (6, .ref (ad 1 i)), (3, .int (tgn mm c1 (i + 1)).1), (4, .int (tgn mm c1 (i + 1)).2), (0, .ref (ad 0 0)), (1, .int (mm 15 c1)), (2, .int (mm 16 c1))]) hx hb dX4_targetFrom_68 hl (k := 4) rfl (nI_1 i) (by decide) rfl (fun ls hl => ?_)
      refine lv_goto (tgt := 8) hx hb dX4_targetFrom_71 (by decide) ?_
      exact ih8 (i + 1) _ _ _ (by show sp_W mm - (i + 1) < sp_W mm - i; omega) ⟨rfl, rfl, lv_sub hl [3, 4, 0, 5, 6, 7] rfl, by omega⟩
    · skip
      refine lv_iload hx hb dX4_targetFrom_61 (lv_at hl 0 rfl) ?_
      refine bo_to (v := (tgn mm c1 (i + 1)).2) (tg_y2 (bo_le c3)) ?_
      refine lv_istore (lv' := [(4, .int (tgn mm c1 (i + 1)).2), (7, .int (sp_wth mm c1 i)), (6, .ref (ad 1 i)), (3, .int ((tgn mm c1 i).1)), (5, .int (nI i)), (0, .ref (ad 0 0)), (1, .int (mm 15 c1)), (2, .int (mm 16 c1))]) hx hb dX4_targetFrom_63 hl (by decide) rfl (fun ls hl => ?_)
      refine lv_iload hx hb dX4_targetFrom_65 (lv_at hl 4 rfl) ?_
      refine bo_to (v := (tgn mm c1 (i + 1)).1) (tg_y1 (bo_le c3)) ?_
      refine lv_istore_n (lv' := [(3, .int (tgn mm c1 (i + 1)).1), (4, .int (tgn mm c1 (i + 1)).2), (7, .int (sp_wth mm c1 i)), (6, .ref (ad 1 i)), (5, .int (nI i)), (0, .ref (ad 0 0)), (1, .int (mm 15 c1)), (2, .int (mm 16 c1))]) hx hb dX4_targetFrom_67 rfl hl (by decide) rfl (fun ls hl => ?_)
      refine lv_iinc (v := (nI (i + 1))) (lv' := [(5, .int (nI (i + 1))), (3, .int (tgn mm c1 (i + 1)).1), (4, .int (tgn mm c1 (i + 1)).2), (7, .int (sp_wth mm c1 i)), (6, .ref (ad 1 i)), (0, .ref (ad 0 0)), (1, .int (mm 15 c1)), (2, .int (mm 16 c1))]) hx hb dX4_targetFrom_68 hl (k := 4) rfl (nI_1 i) (by decide) rfl (fun ls hl => ?_)
      refine lv_goto (tgt := 8) hx hb dX4_targetFrom_71 (by decide) ?_
      exact ih8 (i + 1) _ _ _ (by show sp_W mm - (i + 1) < sp_W mm - i; omega) ⟨rfl, rfl, lv_sub hl [1, 2, 0, 5, 6, 7] rfl, by omega⟩
