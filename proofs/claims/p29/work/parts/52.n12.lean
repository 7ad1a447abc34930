theorem dX4_see_0 : decode cX4_see 0 = .ok (.iload_n 1, 1) := by decide +kernel
theorem dX4_see_1 : decode cX4_see 1 = .ok (.invokestatic 207, 3) := by decide +kernel
theorem dX4_see_4 : decode cX4_see 4 = .ok (.aload_n 0, 1) := by decide +kernel
theorem dX4_see_5 : decode cX4_see 5 = .ok (.iload_n 2, 1) := by decide +kernel
theorem dX4_see_6 : decode cX4_see 6 = .ok (.invokevirtual 96, 3) := by decide +kernel
theorem dX4_see_9 : decode cX4_see 9 = .ok (.astore 5, 2) := by decide +kernel
theorem dX4_see_11 : decode cX4_see 11 = .ok (.iload_n 3, 1) := by decide +kernel
theorem dX4_see_12 : decode cX4_see 12 = .ok (.invokestatic 100, 3) := by decide +kernel
theorem dX4_see_15 : decode cX4_see 15 = .ok (.ifCond .eq 14, 3) := by decide +kernel
theorem dX4_see_18 : decode cX4_see 18 = .ok (.iload 4, 2) := by decide +kernel
theorem dX4_see_20 : decode cX4_see 20 = .ok (.iconst 0, 1) := by decide +kernel
theorem dX4_see_21 : decode cX4_see 21 = .ok (.bipush 99, 2) := by decide +kernel
theorem dX4_see_23 : decode cX4_see 23 = .ok (.invokestatic 50, 3) := by decide +kernel
theorem dX4_see_26 : decode cX4_see 26 = .ok (.ifCond .ne 13, 3) := by decide +kernel
theorem dX4_see_29 : decode cX4_see 29 = .ok (.new 58, 3) := by decide +kernel
theorem dX4_see_32 : decode cX4_see 32 = .ok (.dup, 1) := by decide +kernel
theorem dX4_see_33 : decode cX4_see 33 = .ok (.ldc 214, 2) := by decide +kernel
theorem dX4_see_35 : decode cX4_see 35 = .ok (.invokespecial 62, 3) := by decide +kernel
theorem dX4_see_38 : decode cX4_see 38 = .ok (.athrow, 1) := by decide +kernel
theorem dX4_see_39 : decode cX4_see 39 = .ok (.aload 5, 2) := by decide +kernel
theorem dX4_see_41 : decode cX4_see 41 = .ok (.aload_n 0, 1) := by decide +kernel
theorem dX4_see_42 : decode cX4_see 42 = .ok (.getfield 20, 3) := by decide +kernel
theorem dX4_see_45 : decode cX4_see 45 = .ok (.iload_n 1, 1) := by decide +kernel
theorem dX4_see_46 : decode cX4_see 46 = .ok (.iaload, 1) := by decide +kernel
theorem dX4_see_47 : decode cX4_see 47 = .ok (.aload_n 0, 1) := by decide +kernel
theorem dX4_see_48 : decode cX4_see 48 = .ok (.getfield 23, 3) := by decide +kernel
theorem dX4_see_51 : decode cX4_see 51 = .ok (.iload_n 1, 1) := by decide +kernel
theorem dX4_see_52 : decode cX4_see 52 = .ok (.iaload, 1) := by decide +kernel
theorem dX4_see_53 : decode cX4_see 53 = .ok (.invokevirtual 216, 3) := by decide +kernel
theorem dX4_see_56 : decode cX4_see 56 = .ok (.ifCond .ne 10, 3) := by decide +kernel
theorem dX4_see_59 : decode cX4_see 59 = .ok (.aload_n 0, 1) := by decide +kernel
theorem dX4_see_60 : decode cX4_see 60 = .ok (.invokevirtual 69, 3) := by decide +kernel
theorem dX4_see_63 : decode cX4_see 63 = .ok (.ifCond .eq 13, 3) := by decide +kernel
theorem dX4_see_66 : decode cX4_see 66 = .ok (.new 73, 3) := by decide +kernel
theorem dX4_see_69 : decode cX4_see 69 = .ok (.dup, 1) := by decide +kernel
theorem dX4_see_70 : decode cX4_see 70 = .ok (.ldc 219, 2) := by decide +kernel
theorem dX4_see_72 : decode cX4_see 72 = .ok (.invokespecial 77, 3) := by decide +kernel
theorem dX4_see_75 : decode cX4_see 75 = .ok (.athrow, 1) := by decide +kernel
theorem dX4_see_76 : decode cX4_see 76 = .ok (.aload 5, 2) := by decide +kernel
theorem dX4_see_78 : decode cX4_see 78 = .ok (.iload_n 1, 1) := by decide +kernel
theorem dX4_see_79 : decode cX4_see 79 = .ok (.iload_n 3, 1) := by decide +kernel
theorem dX4_see_80 : decode cX4_see 80 = .ok (.iload 4, 2) := by decide +kernel
theorem dX4_see_82 : decode cX4_see 82 = .ok (.invokevirtual 221, 3) := by decide +kernel
theorem dX4_see_85 : decode cX4_see 85 = .ok (.aload 5, 2) := by decide +kernel
theorem dX4_see_87 : decode cX4_see 87 = .ok (.invokevirtual 108, 3) := by decide +kernel
theorem dX4_see_90 : decode cX4_see 90 = .ok (.iload_n 3, 1) := by decide +kernel
theorem dX4_see_91 : decode cX4_see 91 = .ok (.if_icmp .eq 12, 3) := by decide +kernel
theorem dX4_see_94 : decode cX4_see 94 = .ok (.aload 5, 2) := by decide +kernel
theorem dX4_see_96 : decode cX4_see 96 = .ok (.iload_n 3, 1) := by decide +kernel
theorem dX4_see_97 : decode cX4_see 97 = .ok (.invokevirtual 224, 3) := by decide +kernel
theorem dX4_see_100 : decode cX4_see 100 = .ok (.ifCond .ne 5, 3) := by decide +kernel
theorem dX4_see_103 : decode cX4_see 103 = .ok (.iconst 0, 1) := by decide +kernel
theorem dX4_see_104 : decode cX4_see 104 = .ok (.ireturn, 1) := by decide +kernel
theorem dX4_see_105 : decode cX4_see 105 = .ok (.aload_n 0, 1) := by decide +kernel
theorem dX4_see_106 : decode cX4_see 106 = .ok (.aload 5, 2) := by decide +kernel
theorem dX4_see_108 : decode cX4_see 108 = .ok (.new 80, 3) := by decide +kernel
theorem dX4_see_111 : decode cX4_see 111 = .ok (.dup, 1) := by decide +kernel
theorem dX4_see_112 : decode cX4_see 112 = .ok (.aload 5, 2) := by decide +kernel
theorem dX4_see_114 : decode cX4_see 114 = .ok (.invokevirtual 105, 3) := by decide +kernel
theorem dX4_see_117 : decode cX4_see 117 = .ok (.iload_n 3, 1) := by decide +kernel
theorem dX4_see_118 : decode cX4_see 118 = .ok (.iconst (-1), 1) := by decide +kernel
theorem dX4_see_119 : decode cX4_see 119 = .ok (.invokespecial 82, 3) := by decide +kernel
theorem dX4_see_122 : decode cX4_see 122 = .ok (.invokevirtual 120, 3) := by decide +kernel
theorem dX4_see_125 : decode cX4_see 125 = .ok (.aload 5, 2) := by decide +kernel
theorem dX4_see_127 : decode cX4_see 127 = .ok (.invokevirtual 227, 3) := by decide +kernel
theorem dX4_see_130 : decode cX4_see 130 = .ok (.iconst 1, 1) := by decide +kernel
theorem dX4_see_131 : decode cX4_see 131 = .ok (.ireturn, 1) := by decide +kernel
theorem keep_19 {mm : q_Mem} {w c d : Nat} {q : Int32} : sp_keep (up2 mm 19 0 0) w c d q = up2 (sp_keep mm w c d q) 19 0 0 := by
  funext k j
  unfold sp_keep
  by_cases z : k = 20 ∧ 9 * w ≤ j ∧ j < 9 * w + 9
  · obtain ⟨rfl, z2⟩ := z
    have z3 : 20 = 20 ∧ 9 * w ≤ j ∧ j < 9 * w + 9 := ⟨rfl, z2⟩
    rw [if_pos z3, up2_c (by decide), up2_c (by decide), if_pos z3]
  · rw [if_neg z]
    unfold up2
    dsimp only
    rw [if_neg z]
theorem forg_19 {mm : q_Mem} {w : Nat} : sp_forg (up2 mm 19 0 0) w = up2 (sp_forg mm w) 19 0 0 := by
  funext k j
  unfold sp_forg
  by_cases z : k = 20 ∧ 9 * w ≤ j ∧ j < 9 * w + 9
  · obtain ⟨rfl, z2⟩ := z
    rw [if_pos ⟨rfl, z2⟩, up2_c (by decide), if_pos ⟨rfl, z2⟩]
  · rw [if_neg z]
    unfold up2
    dsimp only
    rw [if_neg z]
theorem see0_c {mm m5 : q_Mem} {c w d : Nat} {q : Int32} (hm : m5 = sp_keep mm w c d q) : (¬ sp_vd (m5 11 (sp_L m5 w)) = nI d ∧ sp_agr m5 w d) ↔ (¬ sp_vd ((up2 mm 19 0 0) 11 (sp_L (up2 mm 19 0 0) w)) = nI d ∧ sp_agr (sp_keep (up2 mm 19 0 0) w c d q) w d) := by
  have e11 : m5 11 = mm 11 := by rw [hm]; funext j; exact if_neg (fun z => absurd z.1 (by decide))
  have e8 : m5 8 = mm 8 := by rw [hm]; funext j; exact if_neg (fun z => absurd z.1 (by decide))
  have eL : sp_L m5 w = sp_L mm w := by unfold sp_L; rw [e8]
  have e20 : sp_keep (up2 mm 19 0 0) w c d q 20 = m5 20 := by rw [keep_19, ← hm, up2_k (by decide)]
  rw [e11, eL, agr_x e20]
  rfl
theorem see0_n {mm m5 : q_Mem} {c w d : Nat} {q : Int32} (hm : m5 = sp_keep mm w c d q) (hC : ¬ (¬ sp_vd (m5 11 (sp_L m5 w)) = nI d ∧ sp_agr m5 w d)) : sp_see0 (up2 mm 19 0 0) c w d q = (0, up2 m5 19 0 0) := by
  unfold sp_see0
  rw [if_neg (fun h => hC ((see0_c hm).mpr h)), keep_19, hm]
theorem see0_y {mm m5 : q_Mem} {c w d : Nat} {q : Int32} (hm : m5 = sp_keep mm w c d q) (hC : ¬ sp_vd (m5 11 (sp_L m5 w)) = nI d ∧ sp_agr m5 w d) : sp_see0 (up2 mm 19 0 0) c w d q = (1, up2 (sp_forg (sp_make m5 w (sp_vk (m5 11 (sp_L m5 w))) (nI d) (-1)) w) 19 0 0) := by
  have e11 : m5 11 = mm 11 := by rw [hm]; funext j; exact if_neg (fun z => absurd z.1 (by decide))
  have e8 : m5 8 = mm 8 := by rw [hm]; funext j; exact if_neg (fun z => absurd z.1 (by decide))
  have eL : sp_L m5 w = sp_L mm w := by unfold sp_L; rw [e8]
  unfold sp_see0
  rw [if_pos ((see0_c hm).mp hC), keep_19, ← hm, mk_19, forg_19, e11, eL]
  rfl
theorem see_parts {m5 : q_Mem} {w d : Nat} (hI5 : Inv m5) (hw5 : w < sp_W m5) (hd : d < 3) : sp_vk (1000 * nI w + 100 * sp_vk (m5 11 (sp_L m5 w)) + 10 * nI d + (-1) + 1) = sp_vk (m5 11 (sp_L m5 w)) ∧ sp_vd (1000 * nI w + 100 * sp_vk (m5 11 (sp_L m5 w)) + 10 * nI d + (-1) + 1) = nI d ∧ sp_ve (1000 * nI w + 100 * sp_vk (m5 11 (sp_L m5 w)) + 10 * nI d + (-1) + 1) = -1 := by
  obtain ⟨kn, hkn, hkv⟩ := iv_vk hI5 hw5
  have := hI5.W40
  rw [hkv]
  exact mk_parts (w := w) (e := 0) (by omega) hkn hd (by omega) (by decide)
theorem k_old {G : k_G} {ad : k_Ad} {ct : k_Ct} {H : Heap} {k i q : Nat} {e0 : va_E} (h : k_H G (k_ad ad k i q) (k_up ct k i e0) H) (hf : ct k i = none) : k_H G ad ct H := by
  intro a b e he
  have hn : ¬ (a = k ∧ b = i) := fun z => by rw [z.1, z.2, hf] at he; cases he
  have := h a b e (by rw [k_up_o hn]; exact he)
  rwa [k_ad_o hn] at this
theorem nr_nst {mm : q_Mem} (hI : Inv mm) {c w : Nat} (hc : c < 3) (hw : w < sp_W mm) : sp_nr mm c w ↔ sp_nst mm c w = 0 := by
  obtain ⟨x, y, z, u, hx, hy, hz, hu, e1, e2, e3, e4⟩ := iv_xy hI hw
  obtain ⟨n, hn, f1⟩ := far_nI hI hc hx hy
  obtain ⟨m, hm, f2⟩ := far_nI hI hc hz hu
  unfold sp_nr sp_nst
  rw [e1, e2, e3, e4, f1, f2]
  have p : ∀ k, k ≤ 32 → (0 < nI k ↔ 0 < k) := fun k hk => nI_ltI (a := 0) (by decide) (by omega)
  have z0 : ∀ k, k ≤ 32 → (nI k = 0 ↔ k = 0) := fun k hk => nI_eq (b := 0) (by omega) (by decide)
  rw [p n hn, p m hm]
  by_cases h : nI n < nI m
  · have h2 := (nI_ltI (by omega) (by omega)).mp h
    rw [if_pos h, z0 n hn]; omega
  · have h2 : ¬ n < m := fun q => h (nI_lt q (by omega))
    rw [if_neg h, z0 m hm]; omega
theorem ke_X4_see : wl_V RX4 yX4_see cX4_see 6 (some .boolean) 4 := ⟨wd_c_X4_see, wd_i_X4_see, wd_s_X4_see, wd_n_X4, by decide, by decide +kernel⟩
set_option maxHeartbeats 4000000 in
set_option maxRecDepth 100000 in
theorem m_X4_see (l : Launch) (hflag : l.stackTraces = false) (G : k_G) (Z : Nat → Prop) (ad : k_Ad) (mm : q_Mem) (x y z v : Int32) (hI : Inv mm) (hK1 : sp_K mm < 512) : kx_i l yX4_see cX4_see 6 (some .boolean) 7 111 4 19 G Z ad (k_C G ad mm) [.ref (ad 0 0), .int x, .int y, .int z, .int v] (k_po G ad (sp_see mm x y z v)) (k_px k_n3 (sp_see mm x y z v) mm) := by
  refine kx_of (by decide) (Nat.le_of_ble_eq_true rfl) ?_
  intro p e s m args below meth c hx hb hr hF hlk hnt hB ls hl
  obtain ⟨⟨hM, hN⟩, hK, hP, hT⟩ := hB
  have hS : va_S Z s.heap s.heap [] := va_S.rf
  have hl : lv_has ls 6 [(0, .ref (ad 0 0)), (1, .int x), (2, .int y), (3, .int z), (4, .int v)] := hl
  refine lv_iload_n hx hb dX4_see_0 rfl (lv_at hl 1 rfl) ?_
  refine kx_vS (fr := 6) (lo := 90) (mc1 := 1) (ms1 := 6) (As := [.int x]) (rest := []) hF (m_X4_requireCar l hflag G Z ad (k_C G ad mm) x) ke_X4_requireCar wd_l_X4_207 (by decide) hM hN hK hP hT hS rfl hl.1 rfl (Nat.le_of_ble_eq_true rfl) dX4_see_1 (by decide) hnt hlk (fun E hE => ⟨⟨1, by decide, by rw [sp_see, if_neg (fun q => hE.2 q.1)], hE.1⟩, rfl, rfl⟩) (by decide) (by decide) (fun ur1 H locs hr1 hM hN hS _ _ => ?_)
  obtain ⟨cE, rfl⟩ := hr1
  replace hM : k_H G ad (k_C G ad mm) H := hM
  replace hN : k_N Z ad (k_C G ad mm) := hN
  obtain ⟨ci, hci, hce⟩ := nt_car cE
  subst hce
  refine lv_aload_n hx hb dX4_see_4 rfl (lv_at hl 0 rfl) ?_
  refine lv_iload_n hx hb dX4_see_5 rfl (lv_at hl 2 rfl) ?_
  refine kx_qV (fr := 6) (lo := 90) (mc1 := 1) (ms1 := 6) (As := [.int y]) (rest := []) hF (m_X4_wayAt l hflag G Z ad mm y hI) ke_X4_wayAt wd_l_X4_96 (by decide) hM hN hK hP hT hS (g_recv hK (hM 0 0 _ rfl) rfl) rfl hl.1 rfl (Nat.le_of_ble_eq_true rfl) dX4_see_6 (by decide) hnt hlk (fun E hE => ⟨⟨1, by decide, by rw [sp_see, if_neg (fun q => hE.2 q.2)], hE.1⟩, rfl, rfl⟩) (by decide) (by decide) (fun r2 ur2 H locs hr2 hM hN hS _ _ => ?_)
  obtain ⟨cW, hro, rfl⟩ := hr2
  replace hM : k_H G ad (k_C G ad mm) H := hM
  replace hN : k_N Z ad (k_C G ad mm) := hN
  obtain ⟨wi, hwi, hwe⟩ := nt_wy hI cW
  have hW40 := hI.W40
  have hKK := hI.K512
  subst hwe
  have hwc : (nI wi).toNatClampNeg = wi := nt_c (by omega)
  rw [hwc] at hro
  subst hro
  refine bo_toV (v := .ref (ad 1 wi)) rfl ?_
  refine lv_astore (lv' := [(5, .ref (ad 1 wi)), (0, .ref (ad 0 0)), (1, .int (nI ci)), (2, .int (nI wi)), (3, .int z), (4, .int v)]) hx hb dX4_see_9 hl (by decide) rfl (fun ls hl => ?_)
  refine lv_iload_n hx hb dX4_see_11 rfl (lv_at hl 4 rfl) ?_
  refine rc_S (fr := 1) (lo := 22) (As := [.int z]) (rest := []) hF (m_X4_isDirection l z) ke_X4_isDirection wd_l_X4_100 (by decide) bl_true (fun _ _ _ => trivial) rfl hl.1 rfl (Nat.le_of_ble_eq_true rfl) dX4_see_12 (by decide) (fun r3 hr3 => ?_)
  refine bo_eq (tgt := 29) hr3 hx hb dX4_see_15 (by decide) (fun c3 => ?_) (fun c3 => ?_)
  · skip
    exact kx_thr (text := "direction or doubt is out of range") hF hflag hP hT k_E_IAE wd_k_X4_58 (by decide) hM hN hK hS hl.1 dX4_see_29 dX4_see_32 dX4_see_33 dX4_see_35 dX4_see_38 hnt (by decide) (Nat.le_of_ble_eq_true rfl) (by decide) (by decide) hlk (by decide) (by decide) (⟨2, by decide, by rw [sp_see, if_pos (And.intro cE cW), if_neg (fun q => by first | exact c3 q.1 | exact c4 q.2)], rfl⟩)
  · skip
    refine lv_iload hx hb dX4_see_18 (lv_at hl 5 rfl) ?_
    refine lv_iconst (v := 0) hx hb dX4_see_20 (by decide) ?_
    refine lv_bipush (v := 99) hx hb dX4_see_21 (by decide) ?_
    refine rc_S (fr := 0) (lo := 0) (As := [.int v, .int 0, .int 99]) (rest := []) hF (m_X4_isIn l v 0 99) ke_X4_isIn wd_l_X4_50 (by decide) bl_true (fun _ _ _ => trivial) rfl hl.1 rfl (Nat.le_of_ble_eq_true rfl) dX4_see_23 (by decide) (fun r4 hr4 => ?_)
    refine bo_ne (tgt := 39) hr4 hx hb dX4_see_26 (by decide) (fun c4 => ?_) (fun c4 => ?_)
    · skip
      have cR : sp_rng z v := ⟨c3, c4⟩
      obtain ⟨di, hdi0, hde⟩ := nt_le (n := 2) (by decide) c3
      subst hde
      obtain ⟨qi, hqi0, hqe⟩ := nt_le (n := 99) (by decide) c4
      subst hqe
      have hdi : di < 3 := by omega
      have hqi : qi < 100 := by omega
      refine lv_aload hx hb dX4_see_39 (lv_at hl 0 rfl) ?_
      refine lv_aload_n hx hb dX4_see_41 rfl (lv_at hl 1 rfl) ?_
      refine g_get (C := RX4) (T := TX4) (N := 6) (v := .ref (ad 0 3)) hF hK (hM 0 0 _ rfl) rfl inlX4 2 (by decide) rfl wd_f_X4_20 rfl dX4_see_42 ?_
      refine lv_iload_n hx hb dX4_see_45 rfl (lv_at hl 2 rfl) ?_
      refine g_ald (t0 := 0) (i := ci) hF hK (hM 0 3 _ rfl) rfl rfl hci (by decide) dX4_see_46 ?_
      refine bo_to (v := (mm 15 ci)) rfl ?_
      refine lv_aload_n hx hb dX4_see_47 rfl (lv_at hl 1 rfl) ?_
      refine g_get (C := RX4) (T := TX4) (N := 6) (v := .ref (ad 0 4)) hF hK (hM 0 0 _ rfl) rfl inlX4 3 (by decide) rfl wd_f_X4_23 rfl dX4_see_48 ?_
      refine lv_iload_n hx hb dX4_see_51 rfl (lv_at hl 2 rfl) ?_
      refine g_ald (t0 := 0) (i := ci) hF hK (hM 0 4 _ rfl) rfl rfl hci (by decide) dX4_see_52 ?_
      refine bo_to (v := (mm 16 ci)) rfl ?_
      refine kr_V (fr := 3) (lo := 69) (As := [.int (mm 15 ci), .int (mm 16 ci)]) (rest := []) hF (m_X3_distanceFrom l G Z ad mm wi (mm 15 ci) (mm 16 ci) hI hwi) ke_X3_distanceFrom wd_l_X4_216 (by decide) hM hK hP hT hS (g_recv hK (hM 1 wi _ (kc_w (by assumption))) rfl) rfl hl.1 rfl (Nat.le_of_ble_eq_true rfl) dX4_see_53 (by decide) (fun r5 hr5 => ?_)
      rw [mn_nst hI hci hwi] at hr5
      replace hr5 : r5 = sp_nst mm ci wi := hr5
      subst hr5
      refine lv_if_ne (tgt := 66) hx hb dX4_see_56 (by decide) (fun c5 => ?_) (fun c5 => ?_)
      · skip
        have hnr : ¬ sp_nr mm ci wi := fun q => c5 ((nr_nst hI hci hwi).mp q)
        exact kx_thr (text := "the car sees no sign of this way") hF hflag hP hT k_E_ISE wd_k_X4_73 (by decide) hM hN hK hS hl.1 dX4_see_66 dX4_see_69 dX4_see_70 dX4_see_72 dX4_see_75 hnt (by decide) (Nat.le_of_ble_eq_true rfl) (by decide) (by decide) hlk (by decide) (by decide) (⟨3, by decide, by rw [sp_see, if_pos (And.intro cE cW), if_pos cR, nt_c (by omega), nt_c (by omega), if_neg (show ¬ sp_nr mm ci wi from hnr)], rfl⟩)
      · skip
        have hnr : sp_nr mm ci wi := (nr_nst hI hci hwi).mpr c5
        refine lv_aload_n hx hb dX4_see_59 rfl (lv_at hl 1 rfl) ?_
        refine kr_V (fr := 0) (lo := 0) (As := []) (rest := []) hF (m_X4_isFull l G Z ad mm) ke_X4_isFull wd_l_X4_69 (by decide) hM hK hP hT hS (g_recv hK (hM 0 0 _ rfl) rfl) rfl hl.1 rfl (Nat.le_of_ble_eq_true rfl) dX4_see_60 (by decide) (fun r6 hr6 => ?_)
        refine bo_eq (tgt := 76) hr6 hx hb dX4_see_63 (by decide) (fun c8 => ?_) (fun c8 => ?_)
        · skip
          have hJ : sp_see mm (nI ci) (nI wi) (nI di) (nI qi) = sp_see0 (up2 mm 19 0 0) ci wi di (nI qi) := by rw [sp_see, if_pos (And.intro cE cW), if_pos cR, nt_c (by omega), nt_c (by omega), nt_c (by omega), if_pos (show sp_nr mm ci wi from hnr)]
          refine lv_aload hx hb dX4_see_76 (lv_at hl 0 rfl) ?_
          refine lv_iload_n hx hb dX4_see_78 rfl (lv_at hl 2 rfl) ?_
          refine lv_iload_n hx hb dX4_see_79 rfl (lv_at hl 4 rfl) ?_
          refine lv_iload hx hb dX4_see_80 (lv_at hl 5 rfl) ?_
          refine kx_vV (fr := 0) (lo := 0) (mc1 := 0) (ms1 := 0) (As := [.int (nI ci), .int (nI di), .int (nI qi)]) (rest := []) hF (m_X3_keepSighting l hflag G Z ad mm wi ci di qi hwi hci hdi hqi) ke_X3_keepSighting wd_l_X4_221 (by decide) hM hN hK hP hT hS (g_recv hK (hM 1 wi _ (kc_w (by assumption))) rfl) rfl hl.1 rfl (Nat.le_of_ble_eq_true rfl) dX4_see_82 (by decide) hnt hlk (fun E hE => hE.elim) (by decide) (by decide) (fun ur7 H locs hr7 hM hN hS _ _ => ?_)
          subst hr7
          replace hM : k_H G ad (k_C G ad (sp_keep mm wi ci di (nI qi))) H := hM
          replace hN : k_N Z ad (k_C G ad (sp_keep mm wi ci di (nI qi))) := hN
          have hI5 : Inv (sp_keep mm wi ci di (nI qi)) := Inv_keep hI hwi hci hdi hqi
          have hwi5 : wi < sp_W (sp_keep mm wi ci di (nI qi)) := hwi
          have hK5 : sp_K (sp_keep mm wi ci di (nI qi)) < 512 := hK1
          obtain ⟨m5, hm5⟩ : ∃ z, z = (sp_keep mm wi ci di (nI qi)) := ⟨_, rfl⟩
          rw [← hm5] at hM hN hI5 hwi5 hK5
          have hKK5 := hI5.K512
          refine lv_aload hx hb dX4_see_85 (lv_at hl 0 rfl) ?_
          refine kr_V (fr := 0) (lo := 0) (As := []) (rest := []) hF (m_X3_direction l G Z ad m5 wi hI5 hwi5) ke_X3_direction wd_l_X4_108 (by decide) hM hK hP hT hS (g_recv hK (hM 1 wi _ (kc_w (by assumption))) rfl) rfl hl.1 rfl (Nat.le_of_ble_eq_true rfl) dX4_see_87 (by decide) (fun r8 hr8 => ?_)
          replace hr8 : r8 = sp_vd (m5 11 (sp_L m5 wi)) := hr8
          subst hr8
          refine lv_iload_n hx hb dX4_see_90 rfl (lv_at hl 4 rfl) ?_
          refine lv_icmp_eq (tgt := 103) hx hb dX4_see_91 (by decide) (fun c6 => ?_) (fun c6 => ?_)
          · skip
            have hC : ¬ (¬ (sp_vd (m5 11 (sp_L m5 wi))) = nI di ∧ sp_agr m5 wi di) := fun q => q.1 c6
            refine lv_iconst (v := 0) hx hb dX4_see_103 (by decide) ?_
            exact kx_zret hx hb hr hlk hM hN hK hS (by decide) (by decide) (by first | exact Or.inl rfl | exact Or.inr rfl) (k_po.of2 (m2 := up2 m5 19 0 0) (hJ.trans (see0_n hm5 hC)) up2_s kc_19.symm) dX4_see_104
          · skip
            refine lv_aload hx hb dX4_see_94 (lv_at hl 0 rfl) ?_
            refine lv_iload_n hx hb dX4_see_96 rfl (lv_at hl 4 rfl) ?_
            refine kr_V (fr := 0) (lo := 0) (As := [.int (nI di)]) (rest := []) hF (m_X3_hasAgreementOn l G Z ad m5 wi di hI5 hwi5 hdi) ke_X3_hasAgreementOn wd_l_X4_224 (by decide) hM hK hP hT hS (g_recv hK (hM 1 wi _ (kc_w (by assumption))) rfl) rfl hl.1 rfl (Nat.le_of_ble_eq_true rfl) dX4_see_97 (by decide) (fun r9 hr9 => ?_)
            refine bo_ne (tgt := 105) hr9 hx hb dX4_see_100 (by decide) (fun c7 => ?_) (fun c7 => ?_)
            · skip
              have hC : ¬ (sp_vd (m5 11 (sp_L m5 wi))) = nI di ∧ sp_agr m5 wi di := ⟨c6, c7⟩
              refine lv_aload_n hx hb dX4_see_105 rfl (lv_at hl 1 rfl) ?_
              refine lv_aload hx hb dX4_see_106 (lv_at hl 0 rfl) ?_
              have hfree : k_C G ad m5 4 (sp_K m5) = none := if_neg (Nat.lt_irrefl _)
              refine k_new hF hK hM hN hS hT.2.2.2.2 4 (sp_K m5) hfree (ci := 1) (fs := [.int 0, .int 0, .int 0]) rfl inlX0 tyX0 tyX0_ok wd_k_X4_80 wd_a_X0 wd_n_X0 (by decide) (by decide) (by decide) dX4_see_108 (fun q H hM hN hS => ?_)
              refine lv_dup hx hb dX4_see_111 rfl ?_
              refine lv_aload hx hb dX4_see_112 (lv_at hl 0 rfl) ?_
              have hM9 := hM
              replace hM : k_H G ad (k_C G ad m5) H := k_old hM9 hfree
              refine kr_V (fr := 0) (lo := 0) (As := []) (rest := [.ref q, .ref q, .ref (ad 1 wi), .ref (ad 0 0)]) hF (m_X3_kind l G Z ad m5 wi hI5 hwi5) ke_X3_kind wd_l_X4_105 (by decide) hM hK hP hT hS (g_recv hK (hM 1 wi _ (kc_w (by assumption))) rfl) rfl hl.1 rfl (Nat.le_of_ble_eq_true rfl) dX4_see_114 (by decide) (fun r10 hr10 => ?_)
              replace hr10 : r10 = sp_vk (m5 11 (sp_L m5 wi)) := hr10
              subst hr10
              replace hM := k_rmH 5 wi hM9
              replace hN := k_rmN 5 wi hN
              rw [k_rm_up (by simp)] at hM hN
              refine lv_iload_n hx hb dX4_see_117 rfl (lv_at hl 4 rfl) ?_
              refine lv_iconst (v := (-1)) hx hb dX4_see_118 (by decide) ?_
              refine kx_vI (pX1 := fun _ => False) (post := fun u => u = ((k_ad ad 4 (sp_K m5) q), k_up (k_up (k_rm (k_C G ad m5) 5 wi) 4 (sp_K m5) (.inr (1, [.int 0, .int 0, .int 0]))) 4 (sp_K m5) (.inr (1, [.int (sp_vk (m5 11 (sp_L m5 wi))), .int (nI di), .int (-1)])))) (fr := 1) (lo := 24) (mc1 := 0) (ms1 := 0) (b := q) (As := [.int (sp_vk (m5 11 (sp_L m5 wi))), .int (nI di), .int (-1)]) (rest := [.ref q, .ref (ad 1 wi), .ref (ad 0 0)]) hF (by have h9 := m_X0_init l hflag G Z (k_ad ad 4 (sp_K m5) q) (k_up (k_rm (k_C G ad m5) 5 wi) 4 (sp_K m5) (.inr (1, [.int 0, .int 0, .int 0]))) 4 (sp_K m5) (sp_vk (m5 11 (sp_L m5 wi))) (nI di) (-1) k_up_s; rw [k_ad_s] at h9; exact h9) ke_X0_init wd_l_X4_82 (by decide) hM hN hK hP hT hS rfl hl.1 rfl (Nat.le_of_ble_eq_true rfl) dX4_see_119 (by decide) hnt hlk (fun E hE => False.elim hE) (by decide) (by decide) (fun u1 H locs hu1 hM hN hS _ _ => ?_)
              subst hu1
              replace hM : k_H G (k_ad ad 4 (sp_K m5) q) (k_up (k_up (k_rm (k_C G ad m5) 5 wi) 4 (sp_K m5) (.inr (1, [.int 0, .int 0, .int 0]))) 4 (sp_K m5) (.inr (1, [.int (sp_vk (m5 11 (sp_L m5 wi))), .int (nI di), .int (-1)]))) H := hM
              replace hN : k_N Z (k_ad ad 4 (sp_K m5) q) (k_up (k_up (k_rm (k_C G ad m5) 5 wi) 4 (sp_K m5) (.inr (1, [.int 0, .int 0, .int 0]))) 4 (sp_K m5) (.inr (1, [.int (sp_vk (m5 11 (sp_L m5 wi))), .int (nI di), .int (-1)]))) := hN
              rw [k_up_t] at hM hN
              obtain ⟨pv1, pv2, pv3⟩ := see_parts hI5 hwi5 hdi
              refine kx_vV (C := RX4) (pX1 := fun _ => False) (fr := 3) (lo := 69) (mc1 := 1) (ms1 := 4) (As := [.ref (ad 1 wi), .ref q]) (rest := []) hF (m_X4_addV l hflag G Z ad m5 wi q (sp_vk (m5 11 (sp_L m5 wi))) (nI di) (-1) hI5 hwi5 pv1 pv2 pv3) ke_X4_addVersion wd_l_X4_120 (by decide) hM hN hK hP hT hS (g_recv hK (hM 0 0 _ ((k_up_o (by simp)).trans ((k_rm_o (by simp)).trans rfl))) rfl) rfl hl.1 rfl (Nat.le_of_ble_eq_true rfl) dX4_see_122 (by decide) hnt hlk (fun E hE => False.elim hE) (by decide) (by decide) (fun u1 H locs hu1 hM hN hS _ _ => ?_)
              obtain ⟨q2, rfl⟩ := hu1
              replace hM : k_H G (k_ad (k_ad ad 4 (sp_K m5) q) 3 (sp_K m5) q2) (k_C G (k_ad (k_ad ad 4 (sp_K m5) q) 3 (sp_K m5) q2) (sp_make m5 wi (sp_vk (m5 11 (sp_L m5 wi))) (nI di) (-1))) H := hM
              replace hN : k_N Z (k_ad (k_ad ad 4 (sp_K m5) q) 3 (sp_K m5) q2) (k_C G (k_ad (k_ad ad 4 (sp_K m5) q) 3 (sp_K m5) q2) (sp_make m5 wi (sp_vk (m5 11 (sp_L m5 wi))) (nI di) (-1))) := hN
              refine lv_aload hx hb dX4_see_125 (lv_at hl 0 rfl) ?_
              have hw6 : wi < sp_W (sp_make m5 wi (sp_vk (m5 11 (sp_L m5 wi))) (nI di) (-1)) := by rw [mk_W]; exact hwi5
              refine kx_vV (C := RX3) (pX1 := fun _ => False) (fr := 1) (lo := 23) (mc1 := 0) (ms1 := 0) (As := []) (rest := []) hF (m_X3_forgetSightings l hflag G Z (k_ad (k_ad ad 4 (sp_K m5) q) 3 (sp_K m5) q2) (sp_make m5 wi (sp_vk (m5 11 (sp_L m5 wi))) (nI di) (-1)) wi hw6) ke_X3_forgetSightings wd_l_X4_227 (by decide) hM hN hK hP hT hS (g_recv hK (hM 1 wi _ (kc_w hw6)) rfl) rfl hl.1 rfl (Nat.le_of_ble_eq_true rfl) dX4_see_127 (by decide) hnt hlk (fun E hE => False.elim hE) (by decide) (by decide) (fun u9 H locs hu9 hM hN hS _ _ => ?_)
              subst hu9
              replace hM : k_H G (k_ad (k_ad ad 4 (sp_K m5) q) 3 (sp_K m5) q2) (k_C G (k_ad (k_ad ad 4 (sp_K m5) q) 3 (sp_K m5) q2) (sp_forg (sp_make m5 wi (sp_vk (m5 11 (sp_L m5 wi))) (nI di) (-1)) wi)) H := hM
              replace hN : k_N Z (k_ad (k_ad ad 4 (sp_K m5) q) 3 (sp_K m5) q2) (k_C G (k_ad (k_ad ad 4 (sp_K m5) q) 3 (sp_K m5) q2) (sp_forg (sp_make m5 wi (sp_vk (m5 11 (sp_L m5 wi))) (nI di) (-1)) wi)) := hN
              refine lv_iconst (v := 1) hx hb dX4_see_130 (by decide) ?_
              exact kx_zret hx hb hr hlk hM hN hK hS (by decide) (by decide) (by first | exact Or.inl rfl | exact Or.inr rfl) (k_po.of2 (m2 := up2 (sp_forg (sp_make m5 wi (sp_vk (m5 11 (sp_L m5 wi))) (nI di) (-1)) wi) 19 0 0) (hJ.trans (see0_y hm5 hC)) up2_s kc_19.symm) dX4_see_131
            · skip
              have hC : ¬ (¬ (sp_vd (m5 11 (sp_L m5 wi))) = nI di ∧ sp_agr m5 wi di) := fun q => c7 q.2
              refine lv_iconst (v := 0) hx hb dX4_see_103 (by decide) ?_
              exact kx_zret hx hb hr hlk hM hN hK hS (by decide) (by decide) (by first | exact Or.inl rfl | exact Or.inr rfl) (k_po.of2 (m2 := up2 m5 19 0 0) (hJ.trans (see0_n hm5 hC)) up2_s kc_19.symm) dX4_see_104
        · skip
          exact absurd c8 (nfull hI hK1)
    · skip
      exact kx_thr (text := "direction or doubt is out of range") hF hflag hP hT k_E_IAE wd_k_X4_58 (by decide) hM hN hK hS hl.1 dX4_see_29 dX4_see_32 dX4_see_33 dX4_see_35 dX4_see_38 hnt (by decide) (Nat.le_of_ble_eq_true rfl) (by decide) (by decide) hlk (by decide) (by decide) (⟨2, by decide, by rw [sp_see, if_pos (And.intro cE cW), if_neg (fun q => by first | exact c3 q.1 | exact c4 q.2)], rfl⟩)
