theorem dX4_edit_0 : decode cX4_edit 0 = .ok (.iload_n 1, 1) := by decide +kernel
theorem dX4_edit_1 : decode cX4_edit 1 = .ok (.invokestatic 42, 3) := by decide +kernel
theorem dX4_edit_4 : decode cX4_edit 4 = .ok (.aload_n 0, 1) := by decide +kernel
theorem dX4_edit_5 : decode cX4_edit 5 = .ok (.iload_n 2, 1) := by decide +kernel
theorem dX4_edit_6 : decode cX4_edit 6 = .ok (.invokevirtual 96, 3) := by decide +kernel
theorem dX4_edit_9 : decode cX4_edit 9 = .ok (.astore 5, 2) := by decide +kernel
theorem dX4_edit_11 : decode cX4_edit 11 = .ok (.iload_n 3, 1) := by decide +kernel
theorem dX4_edit_12 : decode cX4_edit 12 = .ok (.invokestatic 54, 3) := by decide +kernel
theorem dX4_edit_15 : decode cX4_edit 15 = .ok (.ifCond .eq 11, 3) := by decide +kernel
theorem dX4_edit_18 : decode cX4_edit 18 = .ok (.iload 4, 2) := by decide +kernel
theorem dX4_edit_20 : decode cX4_edit 20 = .ok (.invokestatic 100, 3) := by decide +kernel
theorem dX4_edit_23 : decode cX4_edit 23 = .ok (.ifCond .ne 13, 3) := by decide +kernel
theorem dX4_edit_26 : decode cX4_edit 26 = .ok (.new 58, 3) := by decide +kernel
theorem dX4_edit_29 : decode cX4_edit 29 = .ok (.dup, 1) := by decide +kernel
theorem dX4_edit_30 : decode cX4_edit 30 = .ok (.ldc 103, 2) := by decide +kernel
theorem dX4_edit_32 : decode cX4_edit 32 = .ok (.invokespecial 62, 3) := by decide +kernel
theorem dX4_edit_35 : decode cX4_edit 35 = .ok (.athrow, 1) := by decide +kernel
theorem dX4_edit_36 : decode cX4_edit 36 = .ok (.aload 5, 2) := by decide +kernel
theorem dX4_edit_38 : decode cX4_edit 38 = .ok (.invokevirtual 105, 3) := by decide +kernel
theorem dX4_edit_41 : decode cX4_edit 41 = .ok (.iload_n 3, 1) := by decide +kernel
theorem dX4_edit_42 : decode cX4_edit 42 = .ok (.if_icmp .ne 13, 3) := by decide +kernel
theorem dX4_edit_45 : decode cX4_edit 45 = .ok (.aload 5, 2) := by decide +kernel
theorem dX4_edit_47 : decode cX4_edit 47 = .ok (.invokevirtual 108, 3) := by decide +kernel
theorem dX4_edit_50 : decode cX4_edit 50 = .ok (.iload 4, 2) := by decide +kernel
theorem dX4_edit_52 : decode cX4_edit 52 = .ok (.if_icmp .eq 10, 3) := by decide +kernel
theorem dX4_edit_55 : decode cX4_edit 55 = .ok (.aload_n 0, 1) := by decide +kernel
theorem dX4_edit_56 : decode cX4_edit 56 = .ok (.invokevirtual 69, 3) := by decide +kernel
theorem dX4_edit_59 : decode cX4_edit 59 = .ok (.ifCond .eq 13, 3) := by decide +kernel
theorem dX4_edit_62 : decode cX4_edit 62 = .ok (.new 73, 3) := by decide +kernel
theorem dX4_edit_65 : decode cX4_edit 65 = .ok (.dup, 1) := by decide +kernel
theorem dX4_edit_66 : decode cX4_edit 66 = .ok (.ldc 111, 2) := by decide +kernel
theorem dX4_edit_68 : decode cX4_edit 68 = .ok (.invokespecial 77, 3) := by decide +kernel
theorem dX4_edit_71 : decode cX4_edit 71 = .ok (.athrow, 1) := by decide +kernel
theorem dX4_edit_72 : decode cX4_edit 72 = .ok (.new 80, 3) := by decide +kernel
theorem dX4_edit_75 : decode cX4_edit 75 = .ok (.dup, 1) := by decide +kernel
theorem dX4_edit_76 : decode cX4_edit 76 = .ok (.iload_n 3, 1) := by decide +kernel
theorem dX4_edit_77 : decode cX4_edit 77 = .ok (.iload 4, 2) := by decide +kernel
theorem dX4_edit_79 : decode cX4_edit 79 = .ok (.iload_n 1, 1) := by decide +kernel
theorem dX4_edit_80 : decode cX4_edit 80 = .ok (.invokespecial 82, 3) := by decide +kernel
theorem dX4_edit_83 : decode cX4_edit 83 = .ok (.astore 6, 2) := by decide +kernel
theorem dX4_edit_85 : decode cX4_edit 85 = .ok (.aload_n 0, 1) := by decide +kernel
theorem dX4_edit_86 : decode cX4_edit 86 = .ok (.getfield 16, 3) := by decide +kernel
theorem dX4_edit_89 : decode cX4_edit 89 = .ok (.iload_n 1, 1) := by decide +kernel
theorem dX4_edit_90 : decode cX4_edit 90 = .ok (.iaload, 1) := by decide +kernel
theorem dX4_edit_91 : decode cX4_edit 91 = .ok (.aload 5, 2) := by decide +kernel
theorem dX4_edit_93 : decode cX4_edit 93 = .ok (.getfield 113, 3) := by decide +kernel
theorem dX4_edit_96 : decode cX4_edit 96 = .ok (.if_icmp .ge 12, 3) := by decide +kernel
theorem dX4_edit_99 : decode cX4_edit 99 = .ok (.aload 5, 2) := by decide +kernel
theorem dX4_edit_101 : decode cX4_edit 101 = .ok (.aload 6, 2) := by decide +kernel
theorem dX4_edit_103 : decode cX4_edit 103 = .ok (.putfield 116, 3) := by decide +kernel
theorem dX4_edit_106 : decode cX4_edit 106 = .ok (.iconst 0, 1) := by decide +kernel
theorem dX4_edit_107 : decode cX4_edit 107 = .ok (.ireturn, 1) := by decide +kernel
theorem dX4_edit_108 : decode cX4_edit 108 = .ok (.aload_n 0, 1) := by decide +kernel
theorem dX4_edit_109 : decode cX4_edit 109 = .ok (.aload 5, 2) := by decide +kernel
theorem dX4_edit_111 : decode cX4_edit 111 = .ok (.aload 6, 2) := by decide +kernel
theorem dX4_edit_113 : decode cX4_edit 113 = .ok (.invokevirtual 120, 3) := by decide +kernel
theorem dX4_edit_116 : decode cX4_edit 116 = .ok (.iconst 1, 1) := by decide +kernel
theorem dX4_edit_117 : decode cX4_edit 117 = .ok (.ireturn, 1) := by decide +kernel
theorem co_mk {k d f : Nat} : sp_co (nI k) (nI d) (nI f) = nI (100 * k + 10 * d + (f + 1)) := by
  unfold sp_co
  rw [show (100 : Int32) = nI 100 from rfl, show (10 : Int32) = nI 10 from rfl, pk_mul, pk_mul, nI_add, nI_add, nI_1]
  rfl
theorem co_parts {k d f : Nat} (hk : k < 4) (hd : d < 3) (hf : f < 6) : ¬ sp_co (nI k) (nI d) (nI f) = -1 ∧ sp_co (nI k) (nI d) (nI f) / 100 = nI k ∧ sp_vd (sp_co (nI k) (nI d) (nI f)) = nI d ∧ sp_ve (sp_co (nI k) (nI d) (nI f)) = nI f := by
  rw [co_mk, vd_nI (by omega), ve_nI (by omega), show (100 : Int32) = nI 100 from rfl, pk_div (by omega) (by decide) (by decide)]
  refine ⟨nI_nm1 (by omega), by congr 1; omega, by congr 1; omega, ?_⟩
  rw [nI_m1 (by omega)]; congr 1; omega
theorem nfull {mm : q_Mem} (hI : Inv mm) (h : sp_K mm < 512) : ¬ 512 ≤ mm 10 0 := by
  rw [hI.K]
  exact nI_ge (b := 512) h (by decide)
theorem ke_X4_edit : wl_V RX4 yX4_edit cX4_edit 7 (some .boolean) 4 := ⟨wd_c_X4_edit, wd_i_X4_edit, wd_s_X4_edit, wd_n_X4, by decide, by decide +kernel⟩
set_option maxHeartbeats 4000000 in
set_option maxRecDepth 100000 in
theorem m_X4_edit (l : Launch) (hflag : l.stackTraces = false) (G : k_G) (Z : Nat → Prop) (ad : k_Ad) (mm : q_Mem) (x y k d : Int32) (hI : Inv mm) (hK1 : sp_K mm < 512) : kx_i l yX4_edit cX4_edit 7 (some .boolean) 7 111 4 19 G Z ad (k_C G ad mm) [.ref (ad 0 0), .int x, .int y, .int k, .int d] (k_po G ad (sp_edit mm x y k d)) (k_px k_n3 (sp_edit mm x y k d) mm) := by
  refine kx_of (by decide) (Nat.le_of_ble_eq_true rfl) ?_
  intro p e s m args below meth c hx hb hr hF hlk hnt hB ls hl
  obtain ⟨⟨hM, hN⟩, hK, hP, hT⟩ := hB
  have hS : va_S Z s.heap s.heap [] := va_S.rf
  have hl : lv_has ls 7 [(0, .ref (ad 0 0)), (1, .int x), (2, .int y), (3, .int k), (4, .int d)] := hl
  refine lv_iload_n hx hb dX4_edit_0 rfl (lv_at hl 1 rfl) ?_
  refine kx_vS (fr := 6) (lo := 90) (mc1 := 1) (ms1 := 6) (As := [.int x]) (rest := []) hF (m_X4_requireEditor l hflag G Z ad (k_C G ad mm) x) ke_X4_requireEditor wd_l_X4_42 (by decide) hM hN hK hP hT hS rfl hl.1 rfl (Nat.le_of_ble_eq_true rfl) dX4_edit_1 (by decide) hnt hlk (fun E hE => ⟨⟨1, by decide, by rw [sp_edit, if_neg (fun q => hE.2 q.1)], hE.1⟩, rfl, rfl⟩) (by decide) (by decide) (fun ur1 H locs hr1 hM hN hS _ _ => ?_)
  obtain ⟨cE, rfl⟩ := hr1
  replace hM : k_H G ad (k_C G ad mm) H := hM
  replace hN : k_N Z ad (k_C G ad mm) := hN
  obtain ⟨fi, hf6, hfe⟩ := nt_ed cE
  subst hfe
  refine lv_aload_n hx hb dX4_edit_4 rfl (lv_at hl 0 rfl) ?_
  refine lv_iload_n hx hb dX4_edit_5 rfl (lv_at hl 2 rfl) ?_
  refine kx_qV (fr := 6) (lo := 90) (mc1 := 1) (ms1 := 6) (As := [.int y]) (rest := []) hF (m_X4_wayAt l hflag G Z ad mm y hI) ke_X4_wayAt wd_l_X4_96 (by decide) hM hN hK hP hT hS (g_recv hK (hM 0 0 _ rfl) rfl) rfl hl.1 rfl (Nat.le_of_ble_eq_true rfl) dX4_edit_6 (by decide) hnt hlk (fun E hE => ⟨⟨1, by decide, by rw [sp_edit, if_neg (fun q => hE.2 q.2)], hE.1⟩, rfl, rfl⟩) (by decide) (by decide) (fun r2 ur2 H locs hr2 hM hN hS _ _ => ?_)
  obtain ⟨cW, hro, rfl⟩ := hr2
  replace hM : k_H G ad (k_C G ad mm) H := hM
  replace hN : k_N Z ad (k_C G ad mm) := hN
  obtain ⟨wi, hwi, hwe⟩ := nt_wy hI cW
  have hW40 := hI.W40
  have hKK := hI.K512
  subst hwe
  have hwc : (nI wi).toNatClampNeg = wi := nt_c (by omega)
  rw [hwc] at hro
  subst hro
  have hJ : sp_edit mm (nI fi) (nI wi) k d = (if (0 ≤ k ∧ k ≤ 3) ∧ (0 ≤ d ∧ d ≤ 2) then (if k = sp_vk (mm 11 (sp_L mm wi)) ∧ d = sp_vd (mm 11 (sp_L mm wi)) then (0, up2 (up2 mm 19 0 0) 19 0 3) else if mm 6 wi ≤ mm 0 fi then (1, sp_make (up2 mm 19 0 0) wi k d (nI fi)) else (0, up2 (up2 mm 19 0 0) 9 wi (sp_co k d (nI fi)))) else (0, up2 (up2 mm 19 0 0) 19 0 2)) := by
    rw [sp_edit, if_pos (And.intro cE cW), nt_c (by omega), nt_c (by omega)]; rfl
  refine bo_toV (v := .ref (ad 1 wi)) rfl ?_
  refine lv_astore (lv' := [(5, .ref (ad 1 wi)), (0, .ref (ad 0 0)), (1, .int (nI fi)), (2, .int (nI wi)), (3, .int k), (4, .int d)]) hx hb dX4_edit_9 hl (by decide) rfl (fun ls hl => ?_)
  refine lv_iload_n hx hb dX4_edit_11 rfl (lv_at hl 4 rfl) ?_
  refine rc_S (fr := 1) (lo := 22) (As := [.int k]) (rest := []) hF (m_X4_isKind l k) ke_X4_isKind wd_l_X4_54 (by decide) bl_true (fun _ _ _ => trivial) rfl hl.1 rfl (Nat.le_of_ble_eq_true rfl) dX4_edit_12 (by decide) (fun r3 hr3 => ?_)
  refine bo_eq (tgt := 26) hr3 hx hb dX4_edit_15 (by decide) (fun c3 => ?_) (fun c3 => ?_)
  · skip
    exact kx_thr (text := "kind or direction is out of range") hF hflag hP hT k_E_IAE wd_k_X4_58 (by decide) hM hN hK hS hl.1 dX4_edit_26 dX4_edit_29 dX4_edit_30 dX4_edit_32 dX4_edit_35 hnt (by decide) (Nat.le_of_ble_eq_true rfl) (by decide) (by decide) hlk (by decide) (by decide) (⟨2, by decide, by rw [hJ, if_neg (fun q => by first | exact c3 q.1 | exact c4 q.2), up2_twice], rfl⟩)
  · skip
    refine lv_iload hx hb dX4_edit_18 (lv_at hl 5 rfl) ?_
    refine rc_S (fr := 1) (lo := 22) (As := [.int d]) (rest := []) hF (m_X4_isDirection l d) ke_X4_isDirection wd_l_X4_100 (by decide) bl_true (fun _ _ _ => trivial) rfl hl.1 rfl (Nat.le_of_ble_eq_true rfl) dX4_edit_20 (by decide) (fun r4 hr4 => ?_)
    refine bo_ne (tgt := 36) hr4 hx hb dX4_edit_23 (by decide) (fun c4 => ?_) (fun c4 => ?_)
    · skip
      have cR : (0 ≤ k ∧ k ≤ 3) ∧ (0 ≤ d ∧ d ≤ 2) := ⟨c3, c4⟩
      rw [if_pos cR] at hJ
      obtain ⟨ki, hki0, hke⟩ := nt_le (n := 3) (by decide) c3
      subst hke
      obtain ⟨di, hdi0, hde⟩ := nt_le (n := 2) (by decide) c4
      subst hde
      have hki : ki < 4 := by omega
      have hdi : di < 3 := by omega
      refine lv_aload hx hb dX4_edit_36 (lv_at hl 0 rfl) ?_
      refine kr_V (fr := 0) (lo := 0) (As := []) (rest := []) hF (m_X3_kind l G Z ad mm wi hI hwi) ke_X3_kind wd_l_X4_105 (by decide) hM hK hP hT hS (g_recv hK (hM 1 wi _ (kc_w (by assumption))) rfl) rfl hl.1 rfl (Nat.le_of_ble_eq_true rfl) dX4_edit_38 (by decide) (fun r5 hr5 => ?_)
      replace hr5 : r5 = sp_vk (mm 11 (sp_L mm wi)) := hr5
      subst hr5
      refine lv_iload_n hx hb dX4_edit_41 rfl (lv_at hl 4 rfl) ?_
      refine lv_icmp_ne (tgt := 55) hx hb dX4_edit_42 (by decide) (fun c5 => ?_) (fun c5 => ?_)
      · skip
        have hNE : ¬ (nI ki = (sp_vk (mm 11 (sp_L mm wi))) ∧ nI di = (sp_vd (mm 11 (sp_L mm wi)))) := fun q => c5 q.1.symm
        refine lv_aload_n hx hb dX4_edit_55 rfl (lv_at hl 1 rfl) ?_
        refine kr_V (fr := 0) (lo := 0) (As := []) (rest := []) hF (m_X4_isFull l G Z ad mm) ke_X4_isFull wd_l_X4_69 (by decide) hM hK hP hT hS (g_recv hK (hM 0 0 _ rfl) rfl) rfl hl.1 rfl (Nat.le_of_ble_eq_true rfl) dX4_edit_56 (by decide) (fun r6 hr6 => ?_)
        refine bo_eq (tgt := 72) hr6 hx hb dX4_edit_59 (by decide) (fun c7 => ?_) (fun c7 => ?_)
        · skip
          by_cases hg : mm 6 wi ≤ mm 0 fi
          · skip
            replace hM := k_rmH 5 wi hM
            replace hN := k_rmN 5 wi hN
            refine k_new hF hK hM hN hS hT.2.2.2.2 4 (sp_K mm) ((k_rm_o (by simp)).trans (if_neg (Nat.lt_irrefl _))) (ci := 1) (fs := [.int 0, .int 0, .int 0]) rfl inlX0 tyX0 tyX0_ok wd_k_X4_80 wd_a_X0 wd_n_X0 (by decide) (by decide) (by decide) dX4_edit_72 (fun q H hM hN hS => ?_)
            refine lv_dup hx hb dX4_edit_75 rfl ?_
            refine lv_iload_n hx hb dX4_edit_76 rfl (lv_at hl 4 rfl) ?_
            refine lv_iload hx hb dX4_edit_77 (lv_at hl 5 rfl) ?_
            refine lv_iload_n hx hb dX4_edit_79 rfl (lv_at hl 2 rfl) ?_
            refine kx_vI (pX1 := fun _ => False) (post := fun u => u = ((k_ad ad 4 (sp_K mm) q), k_up (k_up (k_rm (k_C G ad mm) 5 wi) 4 (sp_K mm) (.inr (1, [.int 0, .int 0, .int 0]))) 4 (sp_K mm) (.inr (1, [.int (nI ki), .int (nI di), .int (nI fi)])))) (fr := 1) (lo := 24) (mc1 := 0) (ms1 := 0) (b := q) (As := [.int (nI ki), .int (nI di), .int (nI fi)]) (rest := [.ref q]) hF (by have h9 := m_X0_init l hflag G Z (k_ad ad 4 (sp_K mm) q) (k_up (k_rm (k_C G ad mm) 5 wi) 4 (sp_K mm) (.inr (1, [.int 0, .int 0, .int 0]))) 4 (sp_K mm) (nI ki) (nI di) (nI fi) k_up_s; rw [k_ad_s] at h9; exact h9) ke_X0_init wd_l_X4_82 (by decide) hM hN hK hP hT hS rfl hl.1 rfl (Nat.le_of_ble_eq_true rfl) dX4_edit_80 (by decide) hnt hlk (fun E hE => False.elim hE) (by decide) (by decide) (fun u1 H locs hu1 hM hN hS _ _ => ?_)
            subst hu1
            replace hM : k_H G (k_ad ad 4 (sp_K mm) q) (k_up (k_up (k_rm (k_C G ad mm) 5 wi) 4 (sp_K mm) (.inr (1, [.int 0, .int 0, .int 0]))) 4 (sp_K mm) (.inr (1, [.int (nI ki), .int (nI di), .int (nI fi)]))) H := hM
            replace hN : k_N Z (k_ad ad 4 (sp_K mm) q) (k_up (k_up (k_rm (k_C G ad mm) 5 wi) 4 (sp_K mm) (.inr (1, [.int 0, .int 0, .int 0]))) 4 (sp_K mm) (.inr (1, [.int (nI ki), .int (nI di), .int (nI fi)]))) := hN
            rw [k_up_t] at hM hN
            refine lv_astore (lv' := [(6, .ref q), (5, .ref (ad 1 wi)), (0, .ref (ad 0 0)), (1, .int (nI fi)), (2, .int (nI wi)), (3, .int (nI ki)), (4, .int (nI di))]) hx hb dX4_edit_83 hl (by decide) rfl (fun ls hl => ?_)
            refine lv_aload_n hx hb dX4_edit_85 rfl (lv_at hl 2 rfl) ?_
            refine g_get (C := RX4) (T := TX4) (N := 6) (v := .ref (ad 0 2)) hF hK (hM 0 0 _ ((k_up_o (by simp)).trans ((k_rm_o (by simp)).trans rfl))) rfl inlX4 1 (by decide) rfl wd_f_X4_16 rfl dX4_edit_86 ?_
            refine lv_iload_n hx hb dX4_edit_89 rfl (lv_at hl 3 rfl) ?_
            refine g_ald (t0 := 0) (i := fi) hF hK (hM 0 2 _ ((k_up_o (by simp)).trans ((k_rm_o (by simp)).trans rfl))) rfl rfl hf6 (by decide) dX4_edit_90 ?_
            refine bo_to (v := (mm 0 fi)) rfl ?_
            refine lv_aload hx hb dX4_edit_91 (lv_at hl 1 rfl) ?_
            refine g_get (C := RX3) (T := TX3) (N := 8) (v := .int (mm 6 wi)) hF hK (hM 1 wi _ ((k_up_o (by simp)).trans ((k_rm_o (by simp)).trans (kc_w (by assumption))))) rfl inlX3 4 (by decide) rfl wd_f_X4_113 rfl dX4_edit_93 ?_
            refine lv_icmp_ge (tgt := 108) hx hb dX4_edit_96 (by decide) (fun c8 => ?_) (fun c8 => ?_)
            · skip
              refine lv_aload_n hx hb dX4_edit_108 rfl (lv_at hl 2 rfl) ?_
              refine lv_aload hx hb dX4_edit_109 (lv_at hl 1 rfl) ?_
              refine lv_aload hx hb dX4_edit_111 (lv_at hl 0 rfl) ?_
              obtain ⟨pv1, pv2, pv3⟩ := mk_parts (w := wi) (e := fi + 1) (by omega) hki hdi (by omega) (nI_pred fi).symm
              refine kx_vV (C := RX4) (pX1 := fun _ => False) (fr := 3) (lo := 69) (mc1 := 1) (ms1 := 4) (As := [.ref (ad 1 wi), .ref q]) (rest := []) hF (m_X4_addV l hflag G Z ad mm wi q (nI ki) (nI di) (nI fi) hI hwi pv1 pv2 pv3) ke_X4_addVersion wd_l_X4_120 (by decide) hM hN hK hP hT hS (g_recv hK (hM 0 0 _ ((k_up_o (by simp)).trans ((k_rm_o (by simp)).trans rfl))) rfl) rfl hl.1 rfl (Nat.le_of_ble_eq_true rfl) dX4_edit_113 (by decide) hnt hlk (fun E hE => False.elim hE) (by decide) (by decide) (fun u1 H locs hu1 hM hN hS _ _ => ?_)
              obtain ⟨q2, rfl⟩ := hu1
              replace hM : k_H G (k_ad (k_ad ad 4 (sp_K mm) q) 3 (sp_K mm) q2) (k_C G (k_ad (k_ad ad 4 (sp_K mm) q) 3 (sp_K mm) q2) (sp_make mm wi (nI ki) (nI di) (nI fi))) H := hM
              replace hN : k_N Z (k_ad (k_ad ad 4 (sp_K mm) q) 3 (sp_K mm) q2) (k_C G (k_ad (k_ad ad 4 (sp_K mm) q) 3 (sp_K mm) q2) (sp_make mm wi (nI ki) (nI di) (nI fi))) := hN
              refine lv_iconst (v := 1) hx hb dX4_edit_116 (by decide) ?_
              exact kx_zret hx hb hr hlk hM hN hK hS (by decide) (by decide) (by first | exact Or.inl rfl | exact Or.inr rfl) (k_po.of2 (m2 := sp_make (up2 mm 19 0 0) wi (nI ki) (nI di) (nI fi)) (by rw [hJ, if_neg hNE, if_pos hg]) (by rw [mk_19, up2_s]) (by rw [mk_19, kc_19])) dX4_edit_117
            · skip
              exact absurd hg c8
          · skip
            replace hM := k_rmH 5 wi hM
            replace hN := k_rmN 5 wi hN
            refine k_new hF hK hM hN hS hT.2.2.2.2 5 wi k_rm_s (ci := 1) (fs := [.int 0, .int 0, .int 0]) rfl inlX0 tyX0 tyX0_ok wd_k_X4_80 wd_a_X0 wd_n_X0 (by decide) (by decide) (by decide) dX4_edit_72 (fun q H hM hN hS => ?_)
            refine lv_dup hx hb dX4_edit_75 rfl ?_
            refine lv_iload_n hx hb dX4_edit_76 rfl (lv_at hl 4 rfl) ?_
            refine lv_iload hx hb dX4_edit_77 (lv_at hl 5 rfl) ?_
            refine lv_iload_n hx hb dX4_edit_79 rfl (lv_at hl 2 rfl) ?_
            refine kx_vI (pX1 := fun _ => False) (post := fun u => u = ((k_ad ad 5 wi q), k_up (k_up (k_rm (k_C G ad mm) 5 wi) 5 wi (.inr (1, [.int 0, .int 0, .int 0]))) 5 wi (.inr (1, [.int (nI ki), .int (nI di), .int (nI fi)])))) (fr := 1) (lo := 24) (mc1 := 0) (ms1 := 0) (b := q) (As := [.int (nI ki), .int (nI di), .int (nI fi)]) (rest := [.ref q]) hF (by have h9 := m_X0_init l hflag G Z (k_ad ad 5 wi q) (k_up (k_rm (k_C G ad mm) 5 wi) 5 wi (.inr (1, [.int 0, .int 0, .int 0]))) 5 wi (nI ki) (nI di) (nI fi) k_up_s; rw [k_ad_s] at h9; exact h9) ke_X0_init wd_l_X4_82 (by decide) hM hN hK hP hT hS rfl hl.1 rfl (Nat.le_of_ble_eq_true rfl) dX4_edit_80 (by decide) hnt hlk (fun E hE => False.elim hE) (by decide) (by decide) (fun u1 H locs hu1 hM hN hS _ _ => ?_)
            subst hu1
            replace hM : k_H G (k_ad ad 5 wi q) (k_up (k_up (k_rm (k_C G ad mm) 5 wi) 5 wi (.inr (1, [.int 0, .int 0, .int 0]))) 5 wi (.inr (1, [.int (nI ki), .int (nI di), .int (nI fi)]))) H := hM
            replace hN : k_N Z (k_ad ad 5 wi q) (k_up (k_up (k_rm (k_C G ad mm) 5 wi) 5 wi (.inr (1, [.int 0, .int 0, .int 0]))) 5 wi (.inr (1, [.int (nI ki), .int (nI di), .int (nI fi)]))) := hN
            rw [k_up_t] at hM hN
            refine lv_astore (lv' := [(6, .ref q), (5, .ref (ad 1 wi)), (0, .ref (ad 0 0)), (1, .int (nI fi)), (2, .int (nI wi)), (3, .int (nI ki)), (4, .int (nI di))]) hx hb dX4_edit_83 hl (by decide) rfl (fun ls hl => ?_)
            refine lv_aload_n hx hb dX4_edit_85 rfl (lv_at hl 2 rfl) ?_
            refine g_get (C := RX4) (T := TX4) (N := 6) (v := .ref (ad 0 2)) hF hK (hM 0 0 _ ((k_up_o (by simp)).trans ((k_rm_o (by simp)).trans rfl))) rfl inlX4 1 (by decide) rfl wd_f_X4_16 rfl dX4_edit_86 ?_
            refine lv_iload_n hx hb dX4_edit_89 rfl (lv_at hl 3 rfl) ?_
            refine g_ald (t0 := 0) (i := fi) hF hK (hM 0 2 _ ((k_up_o (by simp)).trans ((k_rm_o (by simp)).trans rfl))) rfl rfl hf6 (by decide) dX4_edit_90 ?_
            refine bo_to (v := (mm 0 fi)) rfl ?_
            refine lv_aload hx hb dX4_edit_91 (lv_at hl 1 rfl) ?_
            refine g_get (C := RX3) (T := TX3) (N := 8) (v := .int (mm 6 wi)) hF hK (hM 1 wi _ ((k_up_o (by simp)).trans ((k_rm_o (by simp)).trans (kc_w (by assumption))))) rfl inlX3 4 (by decide) rfl wd_f_X4_113 rfl dX4_edit_93 ?_
            refine lv_icmp_ge (tgt := 108) hx hb dX4_edit_96 (by decide) (fun c8 => ?_) (fun c8 => ?_)
            · skip
              exact absurd c8 hg
            · skip
              refine lv_aload hx hb dX4_edit_99 (lv_at hl 1 rfl) ?_
              refine lv_aload hx hb dX4_edit_101 (lv_at hl 0 rfl) ?_
              obtain ⟨pv0, pv1, pv2, pv3⟩ := co_parts hki hdi hf6
              refine k_put (v := .ref q) hF hK hM hN hS 1 wi ((k_up_o (by simp)).trans ((k_rm_o (by simp)).trans (kc_w hwi))) rfl inlX3 tyX3 tyX3_ok nmX3 6 (by decide) rfl wd_f_X4_116 rfl rfl rfl (by show 6 < 8; decide) dX4_edit_103 (fun H locs hM hN hS => ?_)
              replace hM : k_H G (k_ad ad 5 wi q) (k_up (k_up (k_rm (k_C G ad mm) 5 wi) 5 wi (.inr (1, [.int (nI ki), .int (nI di), .int (nI fi)]))) 1 wi (.inr (4, [.int (mm 2 wi), .int (mm 3 wi), .int (mm 4 wi), .int (mm 5 wi), .int (mm 6 wi), .ref (ad 3 (sp_L mm wi)), .ref q, .ref (ad 2 wi)]))) H := hM
              replace hN : k_N Z (k_ad ad 5 wi q) (k_up (k_up (k_rm (k_C G ad mm) 5 wi) 5 wi (.inr (1, [.int (nI ki), .int (nI di), .int (nI fi)]))) 1 wi (.inr (4, [.int (mm 2 wi), .int (mm 3 wi), .int (mm 4 wi), .int (mm 5 wi), .int (mm 6 wi), .ref (ad 3 (sp_L mm wi)), .ref q, .ref (ad 2 wi)]))) := hN
              rw [kwait (v := sp_co (nI ki) (nI di) (nI fi)) hwi pv0 pv1 pv2 pv3] at hM hN
              refine lv_iconst (v := 0) hx hb dX4_edit_106 (by decide) ?_
              exact kx_zret hx hb hr hlk hM hN hK hS (by decide) (by decide) (by first | exact Or.inl rfl | exact Or.inr rfl) (k_po.of2 (m2 := up2 (up2 mm 19 0 0) 9 wi (sp_co (nI ki) (nI di) (nI fi))) (by rw [hJ, if_neg hNE, if_neg hg]) rfl (by rw [up2_comm (show (19 : Nat) ≠ 9 by decide), kc_19])) dX4_edit_107
        · skip
          exact absurd c7 (nfull hI hK1)
      · skip
        refine lv_aload hx hb dX4_edit_45 (lv_at hl 0 rfl) ?_
        refine kr_V (fr := 0) (lo := 0) (As := []) (rest := []) hF (m_X3_direction l G Z ad mm wi hI hwi) ke_X3_direction wd_l_X4_108 (by decide) hM hK hP hT hS (g_recv hK (hM 1 wi _ (kc_w (by assumption))) rfl) rfl hl.1 rfl (Nat.le_of_ble_eq_true rfl) dX4_edit_47 (by decide) (fun r7 hr7 => ?_)
        replace hr7 : r7 = sp_vd (mm 11 (sp_L mm wi)) := hr7
        subst hr7
        refine lv_iload hx hb dX4_edit_50 (lv_at hl 5 rfl) ?_
        refine lv_icmp_eq (tgt := 62) hx hb dX4_edit_52 (by decide) (fun c6 => ?_) (fun c6 => ?_)
        · skip
          exact kx_thr (text := "there is nothing to change") hF hflag hP hT k_E_ISE wd_k_X4_73 (by decide) hM hN hK hS hl.1 dX4_edit_62 dX4_edit_65 dX4_edit_66 dX4_edit_68 dX4_edit_71 hnt (by decide) (Nat.le_of_ble_eq_true rfl) (by decide) (by decide) hlk (by decide) (by decide) (⟨3, by decide, by rw [hJ, if_pos (And.intro c5.symm c6.symm), up2_twice], rfl⟩)
        · skip
          have hNE : ¬ (nI ki = (sp_vk (mm 11 (sp_L mm wi))) ∧ nI di = (sp_vd (mm 11 (sp_L mm wi)))) := fun q => c6 q.2.symm
          refine lv_aload_n hx hb dX4_edit_55 rfl (lv_at hl 1 rfl) ?_
          refine kr_V (fr := 0) (lo := 0) (As := []) (rest := []) hF (m_X4_isFull l G Z ad mm) ke_X4_isFull wd_l_X4_69 (by decide) hM hK hP hT hS (g_recv hK (hM 0 0 _ rfl) rfl) rfl hl.1 rfl (Nat.le_of_ble_eq_true rfl) dX4_edit_56 (by decide) (fun r8 hr8 => ?_)
          refine bo_eq (tgt := 72) hr8 hx hb dX4_edit_59 (by decide) (fun c7 => ?_) (fun c7 => ?_)
          · skip
            by_cases hg : mm 6 wi ≤ mm 0 fi
            · skip
              replace hM := k_rmH 5 wi hM
              replace hN := k_rmN 5 wi hN
              refine k_new hF hK hM hN hS hT.2.2.2.2 4 (sp_K mm) ((k_rm_o (by simp)).trans (if_neg (Nat.lt_irrefl _))) (ci := 1) (fs := [.int 0, .int 0, .int 0]) rfl inlX0 tyX0 tyX0_ok wd_k_X4_80 wd_a_X0 wd_n_X0 (by decide) (by decide) (by decide) dX4_edit_72 (fun q H hM hN hS => ?_)
              refine lv_dup hx hb dX4_edit_75 rfl ?_
              refine lv_iload_n hx hb dX4_edit_76 rfl (lv_at hl 4 rfl) ?_
              refine lv_iload hx hb dX4_edit_77 (lv_at hl 5 rfl) ?_
              refine lv_iload_n hx hb dX4_edit_79 rfl (lv_at hl 2 rfl) ?_
              refine kx_vI (pX1 := fun _ => False) (post := fun u => u = ((k_ad ad 4 (sp_K mm) q), k_up (k_up (k_rm (k_C G ad mm) 5 wi) 4 (sp_K mm) (.inr (1, [.int 0, .int 0, .int 0]))) 4 (sp_K mm) (.inr (1, [.int (nI ki), .int (nI di), .int (nI fi)])))) (fr := 1) (lo := 24) (mc1 := 0) (ms1 := 0) (b := q) (As := [.int (nI ki), .int (nI di), .int (nI fi)]) (rest := [.ref q]) hF (by have h9 := m_X0_init l hflag G Z (k_ad ad 4 (sp_K mm) q) (k_up (k_rm (k_C G ad mm) 5 wi) 4 (sp_K mm) (.inr (1, [.int 0, .int 0, .int 0]))) 4 (sp_K mm) (nI ki) (nI di) (nI fi) k_up_s; rw [k_ad_s] at h9; exact h9) ke_X0_init wd_l_X4_82 (by decide) hM hN hK hP hT hS rfl hl.1 rfl (Nat.le_of_ble_eq_true rfl) dX4_edit_80 (by decide) hnt hlk (fun E hE => False.elim hE) (by decide) (by decide) (fun u1 H locs hu1 hM hN hS _ _ => ?_)
              subst hu1
              replace hM : k_H G (k_ad ad 4 (sp_K mm) q) (k_up (k_up (k_rm (k_C G ad mm) 5 wi) 4 (sp_K mm) (.inr (1, [.int 0, .int 0, .int 0]))) 4 (sp_K mm) (.inr (1, [.int (nI ki), .int (nI di), .int (nI fi)]))) H := hM
              replace hN : k_N Z (k_ad ad 4 (sp_K mm) q) (k_up (k_up (k_rm (k_C G ad mm) 5 wi) 4 (sp_K mm) (.inr (1, [.int 0, .int 0, .int 0]))) 4 (sp_K mm) (.inr (1, [.int (nI ki), .int (nI di), .int (nI fi)]))) := hN
              rw [k_up_t] at hM hN
              refine lv_astore (lv' := [(6, .ref q), (5, .ref (ad 1 wi)), (0, .ref (ad 0 0)), (1, .int (nI fi)), (2, .int (nI wi)), (3, .int (nI ki)), (4, .int (nI di))]) hx hb dX4_edit_83 hl (by decide) rfl (fun ls hl => ?_)
              refine lv_aload_n hx hb dX4_edit_85 rfl (lv_at hl 2 rfl) ?_
              refine g_get (C := RX4) (T := TX4) (N := 6) (v := .ref (ad 0 2)) hF hK (hM 0 0 _ ((k_up_o (by simp)).trans ((k_rm_o (by simp)).trans rfl))) rfl inlX4 1 (by decide) rfl wd_f_X4_16 rfl dX4_edit_86 ?_
              refine lv_iload_n hx hb dX4_edit_89 rfl (lv_at hl 3 rfl) ?_
              refine g_ald (t0 := 0) (i := fi) hF hK (hM 0 2 _ ((k_up_o (by simp)).trans ((k_rm_o (by simp)).trans rfl))) rfl rfl hf6 (by decide) dX4_edit_90 ?_
              refine bo_to (v := (mm 0 fi)) rfl ?_
              refine lv_aload hx hb dX4_edit_91 (lv_at hl 1 rfl) ?_
              refine g_get (C := RX3) (T := TX3) (N := 8) (v := .int (mm 6 wi)) hF hK (hM 1 wi _ ((k_up_o (by simp)).trans ((k_rm_o (by simp)).trans (kc_w (by assumption))))) rfl inlX3 4 (by decide) rfl wd_f_X4_113 rfl dX4_edit_93 ?_
              refine lv_icmp_ge (tgt := 108) hx hb dX4_edit_96 (by decide) (fun c8 => ?_) (fun c8 => ?_)
              · skip
                refine lv_aload_n hx hb dX4_edit_108 rfl (lv_at hl 2 rfl) ?_
                refine lv_aload hx hb dX4_edit_109 (lv_at hl 1 rfl) ?_
                refine lv_aload hx hb dX4_edit_111 (lv_at hl 0 rfl) ?_
                obtain ⟨pv1, pv2, pv3⟩ := mk_parts (w := wi) (e := fi + 1) (by omega) hki hdi (by omega) (nI_pred fi).symm
                refine kx_vV (C := RX4) (pX1 := fun _ => False) (fr := 3) (lo := 69) (mc1 := 1) (ms1 := 4) (As := [.ref (ad 1 wi), .ref q]) (rest := []) hF (m_X4_addV l hflag G Z ad mm wi q (nI ki) (nI di) (nI fi) hI hwi pv1 pv2 pv3) ke_X4_addVersion wd_l_X4_120 (by decide) hM hN hK hP hT hS (g_recv hK (hM 0 0 _ ((k_up_o (by simp)).trans ((k_rm_o (by simp)).trans rfl))) rfl) rfl hl.1 rfl (Nat.le_of_ble_eq_true rfl) dX4_edit_113 (by decide) hnt hlk (fun E hE => False.elim hE) (by decide) (by decide) (fun u1 H locs hu1 hM hN hS _ _ => ?_)
                obtain ⟨q2, rfl⟩ := hu1
                replace hM : k_H G (k_ad (k_ad ad 4 (sp_K mm) q) 3 (sp_K mm) q2) (k_C G (k_ad (k_ad ad 4 (sp_K mm) q) 3 (sp_K mm) q2) (sp_make mm wi (nI ki) (nI di) (nI fi))) H := hM
                replace hN : k_N Z (k_ad (k_ad ad 4 (sp_K mm) q) 3 (sp_K mm) q2) (k_C G (k_ad (k_ad ad 4 (sp_K mm) q) 3 (sp_K mm) q2) (sp_make mm wi (nI ki) (nI di) (nI fi))) := hN
                refine lv_iconst (v := 1) hx hb dX4_edit_116 (by decide) ?_
                exact kx_zret hx hb hr hlk hM hN hK hS (by decide) (by decide) (by first | exact Or.inl rfl | exact Or.inr rfl) (k_po.of2 (m2 := sp_make (up2 mm 19 0 0) wi (nI ki) (nI di) (nI fi)) (by rw [hJ, if_neg hNE, if_pos hg]) (by rw [mk_19, up2_s]) (by rw [mk_19, kc_19])) dX4_edit_117
              · skip
                exact absurd hg c8
            · skip
              replace hM := k_rmH 5 wi hM
              replace hN := k_rmN 5 wi hN
              refine k_new hF hK hM hN hS hT.2.2.2.2 5 wi k_rm_s (ci := 1) (fs := [.int 0, .int 0, .int 0]) rfl inlX0 tyX0 tyX0_ok wd_k_X4_80 wd_a_X0 wd_n_X0 (by decide) (by decide) (by decide) dX4_edit_72 (fun q H hM hN hS => ?_)
              refine lv_dup hx hb dX4_edit_75 rfl ?_
              refine lv_iload_n hx hb dX4_edit_76 rfl (lv_at hl 4 rfl) ?_
              refine lv_iload hx hb dX4_edit_77 (lv_at hl 5 rfl) ?_
              refine lv_iload_n hx hb dX4_edit_79 rfl (lv_at hl 2 rfl) ?_
              refine kx_vI (pX1 := fun _ => False) (post := fun u => u = ((k_ad ad 5 wi q), k_up (k_up (k_rm (k_C G ad mm) 5 wi) 5 wi (.inr (1, [.int 0, .int 0, .int 0]))) 5 wi (.inr (1, [.int (nI ki), .int (nI di), .int (nI fi)])))) (fr := 1) (lo := 24) (mc1 := 0) (ms1 := 0) (b := q) (As := [.int (nI ki), .int (nI di), .int (nI fi)]) (rest := [.ref q]) hF (by have h9 := m_X0_init l hflag G Z (k_ad ad 5 wi q) (k_up (k_rm (k_C G ad mm) 5 wi) 5 wi (.inr (1, [.int 0, .int 0, .int 0]))) 5 wi (nI ki) (nI di) (nI fi) k_up_s; rw [k_ad_s] at h9; exact h9) ke_X0_init wd_l_X4_82 (by decide) hM hN hK hP hT hS rfl hl.1 rfl (Nat.le_of_ble_eq_true rfl) dX4_edit_80 (by decide) hnt hlk (fun E hE => False.elim hE) (by decide) (by decide) (fun u1 H locs hu1 hM hN hS _ _ => ?_)
              subst hu1
              replace hM : k_H G (k_ad ad 5 wi q) (k_up (k_up (k_rm (k_C G ad mm) 5 wi) 5 wi (.inr (1, [.int 0, .int 0, .int 0]))) 5 wi (.inr (1, [.int (nI ki), .int (nI di), .int (nI fi)]))) H := hM
              replace hN : k_N Z (k_ad ad 5 wi q) (k_up (k_up (k_rm (k_C G ad mm) 5 wi) 5 wi (.inr (1, [.int 0, .int 0, .int 0]))) 5 wi (.inr (1, [.int (nI ki), .int (nI di), .int (nI fi)]))) := hN
              rw [k_up_t] at hM hN
              refine lv_astore (lv' := [(6, .ref q), (5, .ref (ad 1 wi)), (0, .ref (ad 0 0)), (1, .int (nI fi)), (2, .int (nI wi)), (3, .int (nI ki)), (4, .int (nI di))]) hx hb dX4_edit_83 hl (by decide) rfl (fun ls hl => ?_)
              refine lv_aload_n hx hb dX4_edit_85 rfl (lv_at hl 2 rfl) ?_
              refine g_get (C := RX4) (T := TX4) (N := 6) (v := .ref (ad 0 2)) hF hK (hM 0 0 _ ((k_up_o (by simp)).trans ((k_rm_o (by simp)).trans rfl))) rfl inlX4 1 (by decide) rfl wd_f_X4_16 rfl dX4_edit_86 ?_
              refine lv_iload_n hx hb dX4_edit_89 rfl (lv_at hl 3 rfl) ?_
              refine g_ald (t0 := 0) (i := fi) hF hK (hM 0 2 _ ((k_up_o (by simp)).trans ((k_rm_o (by simp)).trans rfl))) rfl rfl hf6 (by decide) dX4_edit_90 ?_
              refine bo_to (v := (mm 0 fi)) rfl ?_
              refine lv_aload hx hb dX4_edit_91 (lv_at hl 1 rfl) ?_
              refine g_get (C := RX3) (T := TX3) (N := 8) (v := .int (mm 6 wi)) hF hK (hM 1 wi _ ((k_up_o (by simp)).trans ((k_rm_o (by simp)).trans (kc_w (by assumption))))) rfl inlX3 4 (by decide) rfl wd_f_X4_113 rfl dX4_edit_93 ?_
              refine lv_icmp_ge (tgt := 108) hx hb dX4_edit_96 (by decide) (fun c8 => ?_) (fun c8 => ?_)
              · skip
                exact absurd c8 hg
              · skip
                refine lv_aload hx hb dX4_edit_99 (lv_at hl 1 rfl) ?_
                refine lv_aload hx hb dX4_edit_101 (lv_at hl 0 rfl) ?_
                obtain ⟨pv0, pv1, pv2, pv3⟩ := co_parts hki hdi hf6
                refine k_put (v := .ref q) hF hK hM hN hS 1 wi ((k_up_o (by simp)).trans ((k_rm_o (by simp)).trans (kc_w hwi))) rfl inlX3 tyX3 tyX3_ok nmX3 6 (by decide) rfl wd_f_X4_116 rfl rfl rfl (by show 6 < 8; decide) dX4_edit_103 (fun H locs hM hN hS => ?_)
                replace hM : k_H G (k_ad ad 5 wi q) (k_up (k_up (k_rm (k_C G ad mm) 5 wi) 5 wi (.inr (1, [.int (nI ki), .int (nI di), .int (nI fi)]))) 1 wi (.inr (4, [.int (mm 2 wi), .int (mm 3 wi), .int (mm 4 wi), .int (mm 5 wi), .int (mm 6 wi), .ref (ad 3 (sp_L mm wi)), .ref q, .ref (ad 2 wi)]))) H := hM
                replace hN : k_N Z (k_ad ad 5 wi q) (k_up (k_up (k_rm (k_C G ad mm) 5 wi) 5 wi (.inr (1, [.int (nI ki), .int (nI di), .int (nI fi)]))) 1 wi (.inr (4, [.int (mm 2 wi), .int (mm 3 wi), .int (mm 4 wi), .int (mm 5 wi), .int (mm 6 wi), .ref (ad 3 (sp_L mm wi)), .ref q, .ref (ad 2 wi)]))) := hN
                rw [kwait (v := sp_co (nI ki) (nI di) (nI fi)) hwi pv0 pv1 pv2 pv3] at hM hN
                refine lv_iconst (v := 0) hx hb dX4_edit_106 (by decide) ?_
                exact kx_zret hx hb hr hlk hM hN hK hS (by decide) (by decide) (by first | exact Or.inl rfl | exact Or.inr rfl) (k_po.of2 (m2 := up2 (up2 mm 19 0 0) 9 wi (sp_co (nI ki) (nI di) (nI fi))) (by rw [hJ, if_neg hNE, if_neg hg]) rfl (by rw [up2_comm (show (19 : Nat) ≠ 9 by decide), kc_19])) dX4_edit_107
          · skip
            exact absurd c7 (nfull hI hK1)
    · skip
      exact kx_thr (text := "kind or direction is out of range") hF hflag hP hT k_E_IAE wd_k_X4_58 (by decide) hM hN hK hS hl.1 dX4_edit_26 dX4_edit_29 dX4_edit_30 dX4_edit_32 dX4_edit_35 hnt (by decide) (Nat.le_of_ble_eq_true rfl) (by decide) (by decide) hlk (by decide) (by decide) (⟨2, by decide, by rw [hJ, if_neg (fun q => by first | exact c3 q.1 | exact c4 q.2), up2_twice], rfl⟩)
