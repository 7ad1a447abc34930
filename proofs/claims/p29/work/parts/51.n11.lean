theorem dX4_judge_0 : decode cX4_judge 0 = .ok (.iload_n 1, 1) := by decide +kernel
theorem dX4_judge_1 : decode cX4_judge 1 = .ok (.invokestatic 42, 3) := by decide +kernel
theorem dX4_judge_4 : decode cX4_judge 4 = .ok (.aload_n 0, 1) := by decide +kernel
theorem dX4_judge_5 : decode cX4_judge 5 = .ok (.iload_n 2, 1) := by decide +kernel
theorem dX4_judge_6 : decode cX4_judge 6 = .ok (.invokevirtual 96, 3) := by decide +kernel
theorem dX4_judge_9 : decode cX4_judge 9 = .ok (.astore 4, 2) := by decide +kernel
theorem dX4_judge_11 : decode cX4_judge 11 = .ok (.aload 4, 2) := by decide +kernel
theorem dX4_judge_13 : decode cX4_judge 13 = .ok (.getfield 116, 3) := by decide +kernel
theorem dX4_judge_16 : decode cX4_judge 16 = .ok (.astore 5, 2) := by decide +kernel
theorem dX4_judge_18 : decode cX4_judge 18 = .ok (.aload 5, 2) := by decide +kernel
theorem dX4_judge_20 : decode cX4_judge 20 = .ok (.ifnull 33, 3) := by decide +kernel
theorem dX4_judge_23 : decode cX4_judge 23 = .ok (.aload 5, 2) := by decide +kernel
theorem dX4_judge_25 : decode cX4_judge 25 = .ok (.getfield 124, 3) := by decide +kernel
theorem dX4_judge_28 : decode cX4_judge 28 = .ok (.iload_n 1, 1) := by decide +kernel
theorem dX4_judge_29 : decode cX4_judge 29 = .ok (.if_icmp .eq 24, 3) := by decide +kernel
theorem dX4_judge_32 : decode cX4_judge 32 = .ok (.aload_n 0, 1) := by decide +kernel
theorem dX4_judge_33 : decode cX4_judge 33 = .ok (.getfield 16, 3) := by decide +kernel
theorem dX4_judge_36 : decode cX4_judge 36 = .ok (.iload_n 1, 1) := by decide +kernel
theorem dX4_judge_37 : decode cX4_judge 37 = .ok (.iaload, 1) := by decide +kernel
theorem dX4_judge_38 : decode cX4_judge 38 = .ok (.aload 4, 2) := by decide +kernel
theorem dX4_judge_40 : decode cX4_judge 40 = .ok (.getfield 113, 3) := by decide +kernel
theorem dX4_judge_43 : decode cX4_judge 43 = .ok (.if_icmp .lt 10, 3) := by decide +kernel
theorem dX4_judge_46 : decode cX4_judge 46 = .ok (.aload_n 0, 1) := by decide +kernel
theorem dX4_judge_47 : decode cX4_judge 47 = .ok (.invokevirtual 69, 3) := by decide +kernel
theorem dX4_judge_50 : decode cX4_judge 50 = .ok (.ifCond .eq 13, 3) := by decide +kernel
theorem dX4_judge_53 : decode cX4_judge 53 = .ok (.new 73, 3) := by decide +kernel
theorem dX4_judge_56 : decode cX4_judge 56 = .ok (.dup, 1) := by decide +kernel
theorem dX4_judge_57 : decode cX4_judge 57 = .ok (.ldc 127, 2) := by decide +kernel
theorem dX4_judge_59 : decode cX4_judge 59 = .ok (.invokespecial 77, 3) := by decide +kernel
theorem dX4_judge_62 : decode cX4_judge 62 = .ok (.athrow, 1) := by decide +kernel
theorem dX4_judge_63 : decode cX4_judge 63 = .ok (.iload_n 3, 1) := by decide +kernel
theorem dX4_judge_64 : decode cX4_judge 64 = .ok (.ifCond .eq 21, 3) := by decide +kernel
theorem dX4_judge_67 : decode cX4_judge 67 = .ok (.aload 4, 2) := by decide +kernel
theorem dX4_judge_69 : decode cX4_judge 69 = .ok (.aconst_null, 1) := by decide +kernel
theorem dX4_judge_70 : decode cX4_judge 70 = .ok (.putfield 116, 3) := by decide +kernel
theorem dX4_judge_73 : decode cX4_judge 73 = .ok (.aload_n 0, 1) := by decide +kernel
theorem dX4_judge_74 : decode cX4_judge 74 = .ok (.aload 5, 2) := by decide +kernel
theorem dX4_judge_76 : decode cX4_judge 76 = .ok (.getfield 124, 3) := by decide +kernel
theorem dX4_judge_79 : decode cX4_judge 79 = .ok (.bipush (-5), 2) := by decide +kernel
theorem dX4_judge_81 : decode cX4_judge 81 = .ok (.invokevirtual 129, 3) := by decide +kernel
theorem dX4_judge_84 : decode cX4_judge 84 = .ok (.ireturn, 1) := by decide +kernel
theorem dX4_judge_85 : decode cX4_judge 85 = .ok (.aload_n 0, 1) := by decide +kernel
theorem dX4_judge_86 : decode cX4_judge 86 = .ok (.aload 4, 2) := by decide +kernel
theorem dX4_judge_88 : decode cX4_judge 88 = .ok (.aload 5, 2) := by decide +kernel
theorem dX4_judge_90 : decode cX4_judge 90 = .ok (.invokevirtual 120, 3) := by decide +kernel
theorem dX4_judge_93 : decode cX4_judge 93 = .ok (.aload_n 0, 1) := by decide +kernel
theorem dX4_judge_94 : decode cX4_judge 94 = .ok (.aload 5, 2) := by decide +kernel
theorem dX4_judge_96 : decode cX4_judge 96 = .ok (.getfield 124, 3) := by decide +kernel
theorem dX4_judge_99 : decode cX4_judge 99 = .ok (.iconst 5, 1) := by decide +kernel
theorem dX4_judge_100 : decode cX4_judge 100 = .ok (.invokevirtual 129, 3) := by decide +kernel
theorem dX4_judge_103 : decode cX4_judge 103 = .ok (.ireturn, 1) := by decide +kernel
theorem dX4_revert_0 : decode cX4_revert 0 = .ok (.iload_n 1, 1) := by decide +kernel
theorem dX4_revert_1 : decode cX4_revert 1 = .ok (.invokestatic 42, 3) := by decide +kernel
theorem dX4_revert_4 : decode cX4_revert 4 = .ok (.aload_n 0, 1) := by decide +kernel
theorem dX4_revert_5 : decode cX4_revert 5 = .ok (.iload_n 2, 1) := by decide +kernel
theorem dX4_revert_6 : decode cX4_revert 6 = .ok (.invokevirtual 96, 3) := by decide +kernel
theorem dX4_revert_9 : decode cX4_revert 9 = .ok (.astore_n 3, 1) := by decide +kernel
theorem dX4_revert_10 : decode cX4_revert 10 = .ok (.aload_n 3, 1) := by decide +kernel
theorem dX4_revert_11 : decode cX4_revert 11 = .ok (.getfield 133, 3) := by decide +kernel
theorem dX4_revert_14 : decode cX4_revert 14 = .ok (.astore 4, 2) := by decide +kernel
theorem dX4_revert_16 : decode cX4_revert 16 = .ok (.aload 4, 2) := by decide +kernel
theorem dX4_revert_18 : decode cX4_revert 18 = .ok (.getfield 137, 3) := by decide +kernel
theorem dX4_revert_21 : decode cX4_revert 21 = .ok (.ifnull 10, 3) := by decide +kernel
theorem dX4_revert_24 : decode cX4_revert 24 = .ok (.aload_n 0, 1) := by decide +kernel
theorem dX4_revert_25 : decode cX4_revert 25 = .ok (.invokevirtual 69, 3) := by decide +kernel
theorem dX4_revert_28 : decode cX4_revert 28 = .ok (.ifCond .eq 13, 3) := by decide +kernel
theorem dX4_revert_31 : decode cX4_revert 31 = .ok (.new 73, 3) := by decide +kernel
theorem dX4_revert_34 : decode cX4_revert 34 = .ok (.dup, 1) := by decide +kernel
theorem dX4_revert_35 : decode cX4_revert 35 = .ok (.ldc 142, 2) := by decide +kernel
theorem dX4_revert_37 : decode cX4_revert 37 = .ok (.invokespecial 77, 3) := by decide +kernel
theorem dX4_revert_40 : decode cX4_revert 40 = .ok (.athrow, 1) := by decide +kernel
theorem dX4_revert_41 : decode cX4_revert 41 = .ok (.aload 4, 2) := by decide +kernel
theorem dX4_revert_43 : decode cX4_revert 43 = .ok (.getfield 144, 3) := by decide +kernel
theorem dX4_revert_46 : decode cX4_revert 46 = .ok (.getfield 124, 3) := by decide +kernel
theorem dX4_revert_49 : decode cX4_revert 49 = .ok (.istore 5, 2) := by decide +kernel
theorem dX4_revert_51 : decode cX4_revert 51 = .ok (.iload 5, 2) := by decide +kernel
theorem dX4_revert_53 : decode cX4_revert 53 = .ok (.iconst (-1), 1) := by decide +kernel
theorem dX4_revert_54 : decode cX4_revert 54 = .ok (.if_icmp .eq 19, 3) := by decide +kernel
theorem dX4_revert_57 : decode cX4_revert 57 = .ok (.aload_n 0, 1) := by decide +kernel
theorem dX4_revert_58 : decode cX4_revert 58 = .ok (.getfield 16, 3) := by decide +kernel
theorem dX4_revert_61 : decode cX4_revert 61 = .ok (.iload_n 1, 1) := by decide +kernel
theorem dX4_revert_62 : decode cX4_revert 62 = .ok (.iaload, 1) := by decide +kernel
theorem dX4_revert_63 : decode cX4_revert 63 = .ok (.aload_n 0, 1) := by decide +kernel
theorem dX4_revert_64 : decode cX4_revert 64 = .ok (.getfield 16, 3) := by decide +kernel
theorem dX4_revert_67 : decode cX4_revert 67 = .ok (.iload 5, 2) := by decide +kernel
theorem dX4_revert_69 : decode cX4_revert 69 = .ok (.iaload, 1) := by decide +kernel
theorem dX4_revert_70 : decode cX4_revert 70 = .ok (.if_icmp .gt 13, 3) := by decide +kernel
theorem dX4_revert_73 : decode cX4_revert 73 = .ok (.new 73, 3) := by decide +kernel
theorem dX4_revert_76 : decode cX4_revert 76 = .ok (.dup, 1) := by decide +kernel
theorem dX4_revert_77 : decode cX4_revert 77 = .ok (.ldc 147, 2) := by decide +kernel
theorem dX4_revert_79 : decode cX4_revert 79 = .ok (.invokespecial 77, 3) := by decide +kernel
theorem dX4_revert_82 : decode cX4_revert 82 = .ok (.athrow, 1) := by decide +kernel
theorem dX4_revert_83 : decode cX4_revert 83 = .ok (.aload 4, 2) := by decide +kernel
theorem dX4_revert_85 : decode cX4_revert 85 = .ok (.getfield 137, 3) := by decide +kernel
theorem dX4_revert_88 : decode cX4_revert 88 = .ok (.getfield 144, 3) := by decide +kernel
theorem dX4_revert_91 : decode cX4_revert 91 = .ok (.astore 6, 2) := by decide +kernel
theorem dX4_revert_93 : decode cX4_revert 93 = .ok (.aload_n 0, 1) := by decide +kernel
theorem dX4_revert_94 : decode cX4_revert 94 = .ok (.aload_n 3, 1) := by decide +kernel
theorem dX4_revert_95 : decode cX4_revert 95 = .ok (.new 80, 3) := by decide +kernel
theorem dX4_revert_98 : decode cX4_revert 98 = .ok (.dup, 1) := by decide +kernel
theorem dX4_revert_99 : decode cX4_revert 99 = .ok (.aload 6, 2) := by decide +kernel
theorem dX4_revert_101 : decode cX4_revert 101 = .ok (.getfield 149, 3) := by decide +kernel
theorem dX4_revert_104 : decode cX4_revert 104 = .ok (.aload 6, 2) := by decide +kernel
theorem dX4_revert_106 : decode cX4_revert 106 = .ok (.getfield 151, 3) := by decide +kernel
theorem dX4_revert_109 : decode cX4_revert 109 = .ok (.iload_n 1, 1) := by decide +kernel
theorem dX4_revert_110 : decode cX4_revert 110 = .ok (.invokespecial 82, 3) := by decide +kernel
theorem dX4_revert_113 : decode cX4_revert 113 = .ok (.invokevirtual 120, 3) := by decide +kernel
theorem dX4_revert_116 : decode cX4_revert 116 = .ok (.aload_n 0, 1) := by decide +kernel
theorem dX4_revert_117 : decode cX4_revert 117 = .ok (.iload 5, 2) := by decide +kernel
theorem dX4_revert_119 : decode cX4_revert 119 = .ok (.bipush (-10), 2) := by decide +kernel
theorem dX4_revert_121 : decode cX4_revert 121 = .ok (.invokevirtual 129, 3) := by decide +kernel
theorem dX4_revert_124 : decode cX4_revert 124 = .ok (.ireturn, 1) := by decide +kernel
theorem tru_19 {mm : q_Mem} {f : Nat} {x : Int32} : sp_tru (up2 mm 19 0 0) f x = up2 (sp_tru mm f x) 19 0 0 := by
  unfold sp_tru
  rw [up2_comm (show (19 : Nat) ≠ 0 by decide), up2_c (by decide)]
theorem k_rm_up {ct : k_Ct} {k i k2 i2 : Nat} {e : va_E} (h : ¬ (k2 = k ∧ i2 = i)) : k_rm (k_up ct k2 i2 e) k i = k_up (k_rm ct k i) k2 i2 e := by
  funext a b
  unfold k_rm k_up
  dsimp only
  by_cases z : a = k ∧ b = i
  · rw [if_pos z, if_neg (fun y => h ⟨y.1.symm.trans z.1, y.2.symm.trans z.2⟩), if_pos z]
  · rw [if_neg z]
    by_cases y : a = k2 ∧ b = i2
    · rw [if_pos y, if_pos y]
    · rw [if_neg y, if_neg y, if_neg z]
theorem kwaitN {G : k_G} {ad : k_Ad} {mm : q_Mem} {w : Nat} (hw : w < sp_W mm) : k_up (k_rm (k_C G ad mm) 5 w) 1 w (.inr (4, (k_wy ad mm w).set 6 .null)) = k_C G ad (up2 mm 9 w (-1)) := by
  have eW : sp_W (up2 mm 9 w (-1)) = sp_W mm := rfl
  refine up_of ?_ fun a b z => ?_
  · show (if w < sp_W (up2 mm 9 w (-1)) then some (.inr (4, k_wy ad (up2 mm 9 w (-1)) w)) else none : Option va_E) = _
    rw [eW, if_pos hw]
    have e : k_wy ad (up2 mm 9 w (-1)) w = (k_wy ad mm w).set 6 .null := by
      unfold k_wy
      rw [up2_s]
      rfl
    rw [e]
  · by_cases y : a = 5 ∧ b = w
    · obtain ⟨rfl, rfl⟩ := y
      rw [k_rm_s]
      show none = (if b < sp_W (up2 mm 9 b (-1)) ∧ ¬ up2 mm 9 b (-1) 9 b = -1 then some (.inr (1, k_wc (up2 mm 9 b (-1) 9 b))) else none : Option va_E)
      rw [up2_s, if_neg (fun x => x.2 rfl)]
    · rw [k_rm_o y]
      match a with
      | 0 => rfl
      | 1 =>
        have hb : b ≠ w := fun x => z ⟨rfl, x⟩
        show (if b < sp_W mm then some (.inr (4, k_wy ad mm b)) else none : Option va_E) = if b < sp_W (up2 mm 9 w (-1)) then some (.inr (4, k_wy ad (up2 mm 9 w (-1)) b)) else none
        have e : k_wy ad (up2 mm 9 w (-1)) b = k_wy ad mm b := by
          unfold k_wy
          rw [up2_i hb]
          rfl
        rw [e, eW]
      | 2 => rfl
      | 3 => rfl
      | 4 => rfl
      | 5 =>
        have hb : b ≠ w := fun x => y ⟨rfl, x⟩
        show (if b < sp_W mm ∧ ¬ mm 9 b = -1 then some (.inr (1, k_wc (mm 9 b))) else none : Option va_E) = if b < sp_W (up2 mm 9 w (-1)) ∧ ¬ up2 mm 9 w (-1) 9 b = -1 then some (.inr (1, k_wc (up2 mm 9 w (-1) 9 b))) else none
        rw [up2_i hb, eW]
      | 6 => rfl
      | n + 7 => rfl
theorem q_parts {w : Nat} {v : Int32} (hw : w < 40) (h : sp_Q v) (h1 : ¬ v = -1) : sp_vk (1000 * nI w + 100 * (v / 100) + 10 * sp_vd v + sp_ve v + 1) = v / 100 ∧ sp_vd (1000 * nI w + 100 * (v / 100) + 10 * sp_vd v + sp_ve v + 1) = sp_vd v ∧ sp_ve (1000 * nI w + 100 * (v / 100) + 10 * sp_vd v + sp_ve v + 1) = sp_ve v := by
  rcases h with h | ⟨k, d, e, hk, hd, he0, he, rfl⟩
  · exact absurd h h1
  · have e1 : nI (100 * k + 10 * d + e) / 100 = nI k := by
      show nI (100 * k + 10 * d + e) / nI 100 = _
      rw [pk_div (by omega) (by decide) (by decide)]; congr 1; omega
    have e2 : sp_vd (nI (100 * k + 10 * d + e)) = nI d := by rw [vd_nI (by omega)]; congr 1; omega
    have e3 : sp_ve (nI (100 * k + 10 * d + e)) = nI e - 1 := by rw [ve_nI (by omega)]; congr 2; omega
    rw [e1, e2, e3]
    exact mk_parts hw hk hd he rfl
theorem v_parts {w n f : Nat} {v : Int32} (hw : w < 40) (h : sp_V n v) (hn : n ≤ 40) (hf : f < 6) : sp_vk (1000 * nI w + 100 * sp_vk v + 10 * sp_vd v + nI f + 1) = sp_vk v ∧ sp_vd (1000 * nI w + 100 * sp_vk v + 10 * sp_vd v + nI f + 1) = sp_vd v ∧ sp_ve (1000 * nI w + 100 * sp_vk v + 10 * sp_vd v + nI f + 1) = nI f := by
  obtain ⟨w2, k, d, e, hw2, hk, hd, he, rfl⟩ := h
  have e1 : sp_vk (nI (1000 * w2 + 100 * k + 10 * d + e)) = nI k := by rw [vk_nI (by omega)]; congr 1; omega
  have e2 : sp_vd (nI (1000 * w2 + 100 * k + 10 * d + e)) = nI d := by rw [vd_nI (by omega)]; congr 1; omega
  rw [e1, e2]
  exact mk_parts hw hk hd (e := f + 1) (by omega) (nI_pred f).symm
theorem rev_fin {mm : q_Mem} {f w g : Nat} (hC : ¬ mm 7 w < 2 ∧ ¬ sp_ve (mm 11 (sp_L mm w)) = -1 ∧ ¬ sp_ve (mm 11 (sp_L mm w)) = nI f ∧ mm 0 (sp_ve (mm 11 (sp_L mm w))).toNatClampNeg < mm 0 f) (hg : (sp_ve (mm 11 (sp_L mm w))).toNatClampNeg = g) :
    sp_rev0 (up2 mm 19 0 0) f w = (sp_tru (sp_make mm w (sp_vk (mm 11 (sp_A mm (sp_L mm w)))) (sp_vd (mm 11 (sp_A mm (sp_L mm w)))) (nI f)) g (-10) 0 g, up2 (sp_tru (sp_make mm w (sp_vk (mm 11 (sp_A mm (sp_L mm w)))) (sp_vd (mm 11 (sp_A mm (sp_L mm w)))) (nI f)) g (-10)) 19 0 0) := by
  rw [sp_rev_yes hC hg, mk_19, tru_19, up2_c (by decide)]
theorem v7_lt {mm : q_Mem} {w : Nat} (hI : Inv mm) (hw : w < sp_W mm) : mm 12 (sp_L mm w) = -1 ↔ mm 7 w < 2 := by
  obtain ⟨n, hn, e1, e2⟩ := hI.N hw
  have hK := hI.K512
  have hLK := hI.LK hw
  rw [e2]
  rcases hI.A (hI.LK hw) with ⟨a1, a2⟩ | ⟨a1, a2, -, k, hk, -, a4⟩
  · rw [e1] at a2
    have : n = 0 := nI_inj (by omega) (by decide) a2
    subst this
    exact ⟨fun _ => by decide, fun _ => a1⟩
  · rw [e1] at a4
    have : n = k + 1 := nI_inj (by omega) (by omega) a4
    subst this
    exact ⟨fun q => by rw [a1] at q; exact absurd q (nI_nm1 (by omega)), fun q => absurd q (nI_nlt (b := 2) (by omega) (by omega))⟩
theorem ke_X4_judge : wl_V RX4 yX4_judge cX4_judge 6 (some .int) 3 := ⟨wd_c_X4_judge, wd_i_X4_judge, wd_s_X4_judge, wd_n_X4, by decide, by decide +kernel⟩
set_option maxHeartbeats 4000000 in
set_option maxRecDepth 100000 in
theorem m_X4_judge (l : Launch) (hflag : l.stackTraces = false) (G : k_G) (Z : Nat → Prop) (ad : k_Ad) (mm : q_Mem) (x y z : Int32) (ref : Prop) [Decidable ref] (hz : z = if ref then 1 else 0) (hI : Inv mm) (hK1 : sp_K mm < 512) : kx_i l yX4_judge cX4_judge 6 (some .int) 7 111 4 19 G Z ad (k_C G ad mm) [.ref (ad 0 0), .int x, .int y, .int z] (k_po G ad (sp_judge mm x y ref)) (k_px k_n2 (sp_judge mm x y ref) mm) := by
  refine kx_of (by decide) (Nat.le_of_ble_eq_true rfl) ?_
  intro p e s m args below meth c hx hb hr hF hlk hnt hB ls hl
  obtain ⟨⟨hM, hN⟩, hK, hP, hT⟩ := hB
  have hS : va_S Z s.heap s.heap [] := va_S.rf
  have hl : lv_has ls 6 [(0, .ref (ad 0 0)), (1, .int x), (2, .int y), (3, .int z)] := hl
  refine lv_iload_n hx hb dX4_judge_0 rfl (lv_at hl 1 rfl) ?_
  refine kx_vS (fr := 6) (lo := 90) (mc1 := 1) (ms1 := 6) (As := [.int x]) (rest := []) hF (m_X4_requireEditor l hflag G Z ad (k_C G ad mm) x) ke_X4_requireEditor wd_l_X4_42 (by decide) hM hN hK hP hT hS rfl hl.1 rfl (Nat.le_of_ble_eq_true rfl) dX4_judge_1 (by decide) hnt hlk (fun E hE => ⟨⟨1, by decide, by rw [sp_judge, if_neg (fun q => hE.2 q.1)], hE.1⟩, rfl, rfl⟩) (by decide) (by decide) (fun ur1 H locs hr1 hM hN hS _ _ => ?_)
  obtain ⟨cE, rfl⟩ := hr1
  replace hM : k_H G ad (k_C G ad mm) H := hM
  replace hN : k_N Z ad (k_C G ad mm) := hN
  obtain ⟨fi, hf6, hfe⟩ := nt_ed cE
  subst hfe
  refine lv_aload_n hx hb dX4_judge_4 rfl (lv_at hl 0 rfl) ?_
  refine lv_iload_n hx hb dX4_judge_5 rfl (lv_at hl 2 rfl) ?_
  refine kx_qV (fr := 6) (lo := 90) (mc1 := 1) (ms1 := 6) (As := [.int y]) (rest := []) hF (m_X4_wayAt l hflag G Z ad mm y hI) ke_X4_wayAt wd_l_X4_96 (by decide) hM hN hK hP hT hS (g_recv hK (hM 0 0 _ rfl) rfl) rfl hl.1 rfl (Nat.le_of_ble_eq_true rfl) dX4_judge_6 (by decide) hnt hlk (fun E hE => ⟨⟨1, by decide, by rw [sp_judge, if_neg (fun q => hE.2 q.2)], hE.1⟩, rfl, rfl⟩) (by decide) (by decide) (fun r2 ur2 H locs hr2 hM hN hS _ _ => ?_)
  obtain ⟨cW, hro, rfl⟩ := hr2
  replace hM : k_H G ad (k_C G ad mm) H := hM
  replace hN : k_N Z ad (k_C G ad mm) := hN
  obtain ⟨wi, hwi, hwe⟩ := nt_wy hI cW
  have hW40 := hI.W40
  have hKK := hI.K512
  subst hwe
  have hwc : (nI wi).toNatClampNeg = wi := nt_c (by omega)
  rw [hwc] at hro
  subst hro
  have hJ : sp_judge mm (nI fi) (nI wi) ref = sp_judge0 (up2 mm 19 0 0) fi wi ref := by rw [sp_judge, if_pos (And.intro cE cW), nt_c (by omega), nt_c (by omega)]
  refine bo_toV (v := .ref (ad 1 wi)) rfl ?_
  refine lv_astore (lv' := [(4, .ref (ad 1 wi)), (0, .ref (ad 0 0)), (1, .int (nI fi)), (2, .int (nI wi)), (3, .int z)]) hx hb dX4_judge_9 hl (by decide) rfl (fun ls hl => ?_)
  refine lv_aload hx hb dX4_judge_11 (lv_at hl 0 rfl) ?_
  refine g_get (C := RX3) (T := TX3) (N := 8) (v := k_rf (mm 9 wi = -1) (ad 5 wi)) hF hK (hM 1 wi _ (kc_w (by assumption))) rfl inlX3 6 (by decide) rfl wd_f_X4_116 rfl dX4_judge_13 ?_
  refine k_split (fun c3 => ?_) (fun c3 => ?_)
  · skip
    refine lv_astoreN (lv' := [(5, .null), (4, .ref (ad 1 wi)), (0, .ref (ad 0 0)), (1, .int (nI fi)), (2, .int (nI wi)), (3, .int z)]) hx hb dX4_judge_16 hl (by decide) rfl (fun ls hl => ?_)
    refine lv_aloadN hx hb dX4_judge_18 (lv_at hl 0 rfl) ?_
    refine lv_ifnullN (tgt := 53) hx hb dX4_judge_20 (by decide) ?_
    exact kx_thr (text := "this editor has nothing to judge here") hF hflag hP hT k_E_ISE wd_k_X4_73 (by decide) hM hN hK hS hl.1 dX4_judge_53 dX4_judge_56 dX4_judge_57 dX4_judge_59 dX4_judge_62 hnt (by decide) (Nat.le_of_ble_eq_true rfl) (by decide) (by decide) hlk (by decide) (by decide) (⟨2, by decide, by rw [hJ, sp_judge_no (fun q => by first | exact q.1 c3 | exact q.2.1 c4 | exact bo_nlt q.2.2 c5), up2_twice], rfl⟩)
  · skip
    obtain ⟨gi, hg6, hg⟩ := nt_q (hI.Q hwi) c3
    have hgn : (sp_ve (mm 9 wi)).toNatClampNeg = gi := by rw [hg]; exact nt_c (by omega)
    refine lv_astore (lv' := [(5, .ref (ad 5 wi)), (4, .ref (ad 1 wi)), (0, .ref (ad 0 0)), (1, .int (nI fi)), (2, .int (nI wi)), (3, .int z)]) hx hb dX4_judge_16 hl (by decide) rfl (fun ls hl => ?_)
    refine lv_aload hx hb dX4_judge_18 (lv_at hl 0 rfl) ?_
    refine lv_ifnull hx hb dX4_judge_20 ?_
    refine lv_aload hx hb dX4_judge_23 (lv_at hl 0 rfl) ?_
    refine g_get (C := RX0) (T := TX0) (N := 3) (v := .int (sp_ve (mm 9 wi))) hF hK (hM 5 wi _ (kc_q hwi c3)) rfl inlX0 2 (by decide) rfl wd_f_X4_124 rfl dX4_judge_25 ?_
    refine lv_iload_n hx hb dX4_judge_28 rfl (lv_at hl 3 rfl) ?_
    refine lv_icmp_eq (tgt := 53) hx hb dX4_judge_29 (by decide) (fun c4 => ?_) (fun c4 => ?_)
    · skip
      exact kx_thr (text := "this editor has nothing to judge here") hF hflag hP hT k_E_ISE wd_k_X4_73 (by decide) hM hN hK hS hl.1 dX4_judge_53 dX4_judge_56 dX4_judge_57 dX4_judge_59 dX4_judge_62 hnt (by decide) (Nat.le_of_ble_eq_true rfl) (by decide) (by decide) hlk (by decide) (by decide) (⟨2, by decide, by rw [hJ, sp_judge_no (fun q => by first | exact q.1 c3 | exact q.2.1 c4 | exact bo_nlt q.2.2 c5), up2_twice], rfl⟩)
    · skip
      refine lv_aload_n hx hb dX4_judge_32 rfl (lv_at hl 2 rfl) ?_
      refine g_get (C := RX4) (T := TX4) (N := 6) (v := .ref (ad 0 2)) hF hK (hM 0 0 _ rfl) rfl inlX4 1 (by decide) rfl wd_f_X4_16 rfl dX4_judge_33 ?_
      refine lv_iload_n hx hb dX4_judge_36 rfl (lv_at hl 3 rfl) ?_
      refine g_ald (t0 := 0) (i := fi) hF hK (hM 0 2 _ rfl) rfl rfl (by assumption) (by decide) dX4_judge_37 ?_
      refine bo_to (v := (mm 0 fi)) rfl ?_
      refine lv_aload hx hb dX4_judge_38 (lv_at hl 1 rfl) ?_
      refine g_get (C := RX3) (T := TX3) (N := 8) (v := .int (mm 6 wi)) hF hK (hM 1 wi _ (kc_w (by assumption))) rfl inlX3 4 (by decide) rfl wd_f_X4_113 rfl dX4_judge_40 ?_
      refine lv_icmp_lt (tgt := 53) hx hb dX4_judge_43 (by decide) (fun c5 => ?_) (fun c5 => ?_)
      · skip
        exact kx_thr (text := "this editor has nothing to judge here") hF hflag hP hT k_E_ISE wd_k_X4_73 (by decide) hM hN hK hS hl.1 dX4_judge_53 dX4_judge_56 dX4_judge_57 dX4_judge_59 dX4_judge_62 hnt (by decide) (Nat.le_of_ble_eq_true rfl) (by decide) (by decide) hlk (by decide) (by decide) (⟨2, by decide, by rw [hJ, sp_judge_no (fun q => by first | exact q.1 c3 | exact q.2.1 c4 | exact bo_nlt q.2.2 c5), up2_twice], rfl⟩)
      · skip
        refine lv_aload_n hx hb dX4_judge_46 rfl (lv_at hl 2 rfl) ?_
        refine kr_V (fr := 0) (lo := 0) (As := []) (rest := []) hF (m_X4_isFull l G Z ad mm) ke_X4_isFull wd_l_X4_69 (by decide) hM hK hP hT hS (g_recv hK (hM 0 0 _ rfl) rfl) rfl hl.1 rfl (Nat.le_of_ble_eq_true rfl) dX4_judge_47 (by decide) (fun r5 hr5 => ?_)
        refine bo_eq (tgt := 63) hr5 hx hb dX4_judge_50 (by decide) (fun c7 => ?_) (fun c7 => ?_)
        · skip
          have hC : (¬ mm 9 wi = -1 ∧ ¬ sp_ve (mm 9 wi) = nI fi ∧ mm 6 wi ≤ mm 0 fi) := ⟨c3, c4, bo_lt c5⟩
          refine lv_iload_n hx hb dX4_judge_63 rfl (lv_at hl 5 rfl) ?_
          refine bo_eq (tgt := 85) hz hx hb dX4_judge_64 (by decide) (fun c6 => ?_) (fun c6 => ?_)
          · skip
            replace hM := k_mvH (k2 := 4) (i2 := sp_K mm) hM (kc_q hwi c3)
            replace hN := k_mvN (k2 := 4) (i2 := sp_K mm) hN (kc_q hwi c3)
            refine lv_aload_n hx hb dX4_judge_85 rfl (lv_at hl 2 rfl) ?_
            refine lv_aload hx hb dX4_judge_86 (lv_at hl 1 rfl) ?_
            refine lv_aload hx hb dX4_judge_88 (lv_at hl 0 rfl) ?_
            obtain ⟨pv1, pv2, pv3⟩ := q_parts (w := wi) (by omega) (hI.Q hwi) c3
            refine kx_vV (C := RX4) (pX1 := fun _ => False) (fr := 3) (lo := 69) (mc1 := 1) (ms1 := 4) (As := [.ref (ad 1 wi), .ref (ad 5 wi)]) (rest := []) hF (m_X4_addV l hflag G Z ad mm wi (ad 5 wi) (mm 9 wi / 100) (sp_vd (mm 9 wi)) (sp_ve (mm 9 wi)) hI hwi pv1 pv2 pv3) ke_X4_addVersion wd_l_X4_120 (by decide) hM hN hK hP hT hS (g_recv hK (hM 0 0 _ ((k_up_o (by simp)).trans ((k_rm_o (by simp)).trans rfl))) rfl) rfl hl.1 rfl (Nat.le_of_ble_eq_true rfl) dX4_judge_90 (by decide) hnt hlk (fun E hE => False.elim hE) (by decide) (by decide) (fun u1 H locs hu1 hM hN hS _ _ => ?_)
            obtain ⟨q2, rfl⟩ := hu1
            replace hM : k_H G (k_ad (k_ad ad 4 (sp_K mm) (ad 5 wi)) 3 (sp_K mm) q2) (k_C G (k_ad (k_ad ad 4 (sp_K mm) (ad 5 wi)) 3 (sp_K mm) q2) (sp_make mm wi (mm 9 wi / 100) (sp_vd (mm 9 wi)) (sp_ve (mm 9 wi)))) H := hM
            replace hN : k_N Z (k_ad (k_ad ad 4 (sp_K mm) (ad 5 wi)) 3 (sp_K mm) q2) (k_C G (k_ad (k_ad ad 4 (sp_K mm) (ad 5 wi)) 3 (sp_K mm) q2) (sp_make mm wi (mm 9 wi / 100) (sp_vd (mm 9 wi)) (sp_ve (mm 9 wi)))) := hN
            refine lv_aload_n hx hb dX4_judge_93 rfl (lv_at hl 2 rfl) ?_
            refine lv_aload hx hb dX4_judge_94 (lv_at hl 0 rfl) ?_
            have hA4 : (k_ad (k_ad ad 4 (sp_K mm) (ad 5 wi)) 3 (sp_K mm) q2) 4 (sp_K mm) = ad 5 wi := by rw [k_ad_o (by simp), k_ad_s]
            have eV : sp_ve ((sp_make mm wi (mm 9 wi / 100) (sp_vd (mm 9 wi)) (sp_ve (mm 9 wi))) 11 (sp_K mm)) = nI gi := by rw [mk_11, if_pos rfl, pv3]; exact hg
            refine g_get (C := RX0) (T := TX0) (N := 3) (v := .int (sp_ve ((sp_make mm wi (mm 9 wi / 100) (sp_vd (mm 9 wi)) (sp_ve (mm 9 wi))) 11 (sp_K mm)))) hF hK (by have h9 := hM 4 (sp_K mm) _ (kc_c (by rw [mk_K hI]; omega)); rw [hA4] at h9; exact h9) rfl inlX0 2 (by decide) rfl wd_f_X4_124 rfl dX4_judge_96 ?_
            refine bo_to (v := nI gi) eV ?_
            refine lv_iconst (v := 5) hx hb dX4_judge_99 (by decide) ?_
            refine kx_iV (C := RX4) (pX1 := fun _ => False) (fr := 1) (lo := 24) (mc1 := 0) (ms1 := 0) (As := [.int (nI gi), .int 5]) (rest := []) hF (m_X4_addTrust l hflag G Z (k_ad (k_ad ad 4 (sp_K mm) (ad 5 wi)) 3 (sp_K mm) q2) (sp_make mm wi (mm 9 wi / 100) (sp_vd (mm 9 wi)) (sp_ve (mm 9 wi))) gi 5 hg6) ke_X4_addTrust wd_l_X4_129 (by decide) hM hN hK hP hT hS (g_recv hK (hM 0 0 _ rfl) rfl) rfl hl.1 rfl (Nat.le_of_ble_eq_true rfl) dX4_judge_100 (by decide) hnt hlk (fun E hE => False.elim hE) (by decide) (by decide) (fun r9 u9 H locs hr9 hM hN hS _ _ => ?_)
            obtain ⟨rfl, rfl⟩ := hr9
            replace hM : k_H G (k_ad (k_ad ad 4 (sp_K mm) (ad 5 wi)) 3 (sp_K mm) q2) (k_C G (k_ad (k_ad ad 4 (sp_K mm) (ad 5 wi)) 3 (sp_K mm) q2) (sp_tru (sp_make mm wi (mm 9 wi / 100) (sp_vd (mm 9 wi)) (sp_ve (mm 9 wi))) gi 5)) H := hM
            replace hN : k_N Z (k_ad (k_ad ad 4 (sp_K mm) (ad 5 wi)) 3 (sp_K mm) q2) (k_C G (k_ad (k_ad ad 4 (sp_K mm) (ad 5 wi)) 3 (sp_K mm) q2) (sp_tru (sp_make mm wi (mm 9 wi / 100) (sp_vd (mm 9 wi)) (sp_ve (mm 9 wi))) gi 5)) := hN
            exact kx_iret hx hb hr hlk hM hN hK hS (by decide) (by decide) (k_po.of2 (m2 := sp_tru (sp_make (up2 mm 19 0 0) wi (mm 9 wi / 100) (sp_vd (mm 9 wi)) (sp_ve (mm 9 wi))) gi 5) (by rw [hJ, sp_judge_con hC c6 hgn]; rw [mk_19, tru_19]; rfl) (by rw [mk_19, tru_19, up2_s]) (by rw [mk_19, tru_19, kc_19])) dX4_judge_103
          · skip
            refine lv_aload hx hb dX4_judge_67 (lv_at hl 1 rfl) ?_
            refine lv_null hx hb dX4_judge_69 ?_
            refine k_put (v := .null) hF hK hM hN hS 1 wi (kc_w hwi) rfl inlX3 tyX3 tyX3_ok nmX3 6 (by decide) rfl wd_f_X4_116 rfl rfl rfl (by show 6 < 8; decide) dX4_judge_70 (fun H locs hM hN hS => ?_)
            refine lv_aload_n hx hb dX4_judge_73 rfl (lv_at hl 2 rfl) ?_
            refine lv_aload hx hb dX4_judge_74 (lv_at hl 0 rfl) ?_
            refine g_get (C := RX0) (T := TX0) (N := 3) (v := .int (sp_ve (mm 9 wi))) hF hK (hM 5 wi _ ((k_up_o (by simp)).trans (kc_q hwi c3))) rfl inlX0 2 (by decide) rfl wd_f_X4_124 rfl dX4_judge_76 ?_
            refine bo_to (v := (nI gi)) (hg) ?_
            replace hM := k_rmH 5 wi hM
            replace hN := k_rmN 5 wi hN
            rw [k_rm_up (by simp), kwaitN hwi] at hM hN
            refine lv_bipush (v := (-5)) hx hb dX4_judge_79 (by decide) ?_
            refine kx_iV (C := RX4) (pX1 := fun _ => False) (fr := 1) (lo := 24) (mc1 := 0) (ms1 := 0) (As := [.int (nI gi), .int (-5)]) (rest := []) hF (m_X4_addTrust l hflag G Z ad (up2 mm 9 wi (-1)) gi (-5) hg6) ke_X4_addTrust wd_l_X4_129 (by decide) hM hN hK hP hT hS (g_recv hK (hM 0 0 _ rfl) rfl) rfl hl.1 rfl (Nat.le_of_ble_eq_true rfl) dX4_judge_81 (by decide) hnt hlk (fun E hE => False.elim hE) (by decide) (by decide) (fun r9 u9 H locs hr9 hM hN hS _ _ => ?_)
            obtain ⟨rfl, rfl⟩ := hr9
            replace hM : k_H G ad (k_C G ad (sp_tru (up2 mm 9 wi (-1)) gi (-5))) H := hM
            replace hN : k_N Z ad (k_C G ad (sp_tru (up2 mm 9 wi (-1)) gi (-5))) := hN
            exact kx_iret hx hb hr hlk hM hN hK hS (by decide) (by decide) (k_po.of2 (m2 := sp_tru (up2 (up2 mm 19 0 0) 9 wi (-1)) gi (-5)) (by rw [hJ, sp_judge_ref hC c6 hgn]; rfl) rfl (by rw [up2_comm (show (19 : Nat) ≠ 9 by decide), tru_19, kc_19])) dX4_judge_84
        · skip
          exact absurd c7 (nfull hI hK1)
theorem ke_X4_revert : wl_V RX4 yX4_revert cX4_revert 7 (some .int) 2 := ⟨wd_c_X4_revert, wd_i_X4_revert, wd_s_X4_revert, wd_n_X4, by decide, by decide +kernel⟩
set_option maxHeartbeats 4000000 in
set_option maxRecDepth 100000 in
theorem m_X4_revert (l : Launch) (hflag : l.stackTraces = false) (G : k_G) (Z : Nat → Prop) (ad : k_Ad) (mm : q_Mem) (x y : Int32) (hI : Inv mm) (hK1 : sp_K mm < 512) : kx_i l yX4_revert cX4_revert 7 (some .int) 7 111 4 19 G Z ad (k_C G ad mm) [.ref (ad 0 0), .int x, .int y] (k_po G ad (sp_rev mm x y)) (k_px k_n2 (sp_rev mm x y) mm) := by
  refine kx_of (by decide) (Nat.le_of_ble_eq_true rfl) ?_
  intro p e s m args below meth c hx hb hr hF hlk hnt hB ls hl
  obtain ⟨⟨hM, hN⟩, hK, hP, hT⟩ := hB
  have hS : va_S Z s.heap s.heap [] := va_S.rf
  have hl : lv_has ls 7 [(0, .ref (ad 0 0)), (1, .int x), (2, .int y)] := hl
  refine lv_iload_n hx hb dX4_revert_0 rfl (lv_at hl 1 rfl) ?_
  refine kx_vS (fr := 6) (lo := 90) (mc1 := 1) (ms1 := 6) (As := [.int x]) (rest := []) hF (m_X4_requireEditor l hflag G Z ad (k_C G ad mm) x) ke_X4_requireEditor wd_l_X4_42 (by decide) hM hN hK hP hT hS rfl hl.1 rfl (Nat.le_of_ble_eq_true rfl) dX4_revert_1 (by decide) hnt hlk (fun E hE => ⟨⟨1, by decide, by rw [sp_rev, if_neg (fun q => hE.2 q.1)], hE.1⟩, rfl, rfl⟩) (by decide) (by decide) (fun ur1 H locs hr1 hM hN hS _ _ => ?_)
  obtain ⟨cE, rfl⟩ := hr1
  replace hM : k_H G ad (k_C G ad mm) H := hM
  replace hN : k_N Z ad (k_C G ad mm) := hN
  obtain ⟨fi, hf6, hfe⟩ := nt_ed cE
  subst hfe
  refine lv_aload_n hx hb dX4_revert_4 rfl (lv_at hl 0 rfl) ?_
  refine lv_iload_n hx hb dX4_revert_5 rfl (lv_at hl 2 rfl) ?_
  refine kx_qV (fr := 6) (lo := 90) (mc1 := 1) (ms1 := 6) (As := [.int y]) (rest := []) hF (m_X4_wayAt l hflag G Z ad mm y hI) ke_X4_wayAt wd_l_X4_96 (by decide) hM hN hK hP hT hS (g_recv hK (hM 0 0 _ rfl) rfl) rfl hl.1 rfl (Nat.le_of_ble_eq_true rfl) dX4_revert_6 (by decide) hnt hlk (fun E hE => ⟨⟨1, by decide, by rw [sp_rev, if_neg (fun q => hE.2 q.2)], hE.1⟩, rfl, rfl⟩) (by decide) (by decide) (fun r2 ur2 H locs hr2 hM hN hS _ _ => ?_)
  obtain ⟨cW, hro, rfl⟩ := hr2
  replace hM : k_H G ad (k_C G ad mm) H := hM
  replace hN : k_N Z ad (k_C G ad mm) := hN
  obtain ⟨wi, hwi, hwe⟩ := nt_wy hI cW
  have hW40 := hI.W40
  have hKK := hI.K512
  subst hwe
  have hwc : (nI wi).toNatClampNeg = wi := nt_c (by omega)
  rw [hwc] at hro
  subst hro
  have hJ : sp_rev mm (nI fi) (nI wi) = sp_rev0 (up2 mm 19 0 0) fi wi := by rw [sp_rev, if_pos (And.intro cE cW), nt_c (by omega), nt_c (by omega)]
  have hLK := hI.LK hwi
  refine bo_toV (v := .ref (ad 1 wi)) rfl ?_
  refine lv_astore_n (lv' := [(3, .ref (ad 1 wi)), (0, .ref (ad 0 0)), (1, .int (nI fi)), (2, .int (nI wi))]) hx hb dX4_revert_9 rfl hl (by decide) rfl (fun ls hl => ?_)
  refine lv_aload_n hx hb dX4_revert_10 rfl (lv_at hl 0 rfl) ?_
  refine g_get (C := RX3) (T := TX3) (N := 8) (v := .ref (ad 3 (sp_L mm wi))) hF hK (hM 1 wi _ (kc_w (by assumption))) rfl inlX3 5 (by decide) rfl wd_f_X4_133 rfl dX4_revert_11 ?_
  refine lv_astore (lv' := [(4, .ref (ad 3 (sp_L mm wi))), (3, .ref (ad 1 wi)), (0, .ref (ad 0 0)), (1, .int (nI fi)), (2, .int (nI wi))]) hx hb dX4_revert_14 hl (by decide) rfl (fun ls hl => ?_)
  refine lv_aload hx hb dX4_revert_16 (lv_at hl 0 rfl) ?_
  refine g_get (C := RX2) (T := TX2) (N := 4) (v := k_rf (mm 12 (sp_L mm wi) = -1) (ad 3 (sp_A mm (sp_L mm wi)))) hF hK (hM 3 (sp_L mm wi) _ (kc_v (by assumption))) rfl inlX2 3 (by decide) rfl wd_f_X4_137 rfl dX4_revert_18 ?_
  refine k_split (fun c3 => ?_) (fun c3 => ?_)
  · skip
    refine lv_ifnullN (tgt := 31) hx hb dX4_revert_21 (by decide) ?_
    exact kx_thr (text := "there is nothing to revert") hF hflag hP hT k_E_ISE wd_k_X4_73 (by decide) hM hN hK hS hl.1 dX4_revert_31 dX4_revert_34 dX4_revert_35 dX4_revert_37 dX4_revert_40 hnt (by decide) (Nat.le_of_ble_eq_true rfl) (by decide) (by decide) hlk (by decide) (by decide) (⟨2, by decide, by rw [hJ, sp_rev_no (fun q => q.1 ((v7_lt hI hwi).mp c3)), up2_twice], rfl⟩)
  · skip
    have hAK : (sp_A mm (sp_L mm wi)) < sp_K mm := by rcases hI.A hLK with ⟨a, -⟩ | ⟨-, a2, -⟩; exact absurd a c3; omega
    refine lv_ifnull hx hb dX4_revert_21 ?_
    refine lv_aload_n hx hb dX4_revert_24 rfl (lv_at hl 2 rfl) ?_
    refine kr_V (fr := 0) (lo := 0) (As := []) (rest := []) hF (m_X4_isFull l G Z ad mm) ke_X4_isFull wd_l_X4_69 (by decide) hM hK hP hT hS (g_recv hK (hM 0 0 _ rfl) rfl) rfl hl.1 rfl (Nat.le_of_ble_eq_true rfl) dX4_revert_25 (by decide) (fun r5 hr5 => ?_)
    refine bo_eq (tgt := 41) hr5 hx hb dX4_revert_28 (by decide) (fun c7 => ?_) (fun c7 => ?_)
    · skip
      refine lv_aload hx hb dX4_revert_41 (lv_at hl 0 rfl) ?_
      refine g_get (C := RX2) (T := TX2) (N := 4) (v := .ref (ad 4 (sp_L mm wi))) hF hK (hM 3 (sp_L mm wi) _ (kc_v (by assumption))) rfl inlX2 0 (by decide) rfl wd_f_X4_144 rfl dX4_revert_43 ?_
      refine g_get (C := RX0) (T := TX0) (N := 3) (v := .int (sp_ve (mm 11 (sp_L mm wi)))) hF hK (hM 4 (sp_L mm wi) _ (kc_c (by assumption))) rfl inlX0 2 (by decide) rfl wd_f_X4_124 rfl dX4_revert_46 ?_
      refine lv_istore (lv' := [(5, .int (sp_ve (mm 11 (sp_L mm wi)))), (4, .ref (ad 3 (sp_L mm wi))), (3, .ref (ad 1 wi)), (0, .ref (ad 0 0)), (1, .int (nI fi)), (2, .int (nI wi))]) hx hb dX4_revert_49 hl (by decide) rfl (fun ls hl => ?_)
      refine lv_iload hx hb dX4_revert_51 (lv_at hl 0 rfl) ?_
      refine lv_iconst (v := (-1)) hx hb dX4_revert_53 (by decide) ?_
      refine lv_icmp_eq (tgt := 73) hx hb dX4_revert_54 (by decide) (fun c4 => ?_) (fun c4 => ?_)
      · skip
        exact kx_thr (text := "this editor can't revert it") hF hflag hP hT k_E_ISE wd_k_X4_73 (by decide) hM hN hK hS hl.1 dX4_revert_73 dX4_revert_76 dX4_revert_77 dX4_revert_79 dX4_revert_82 hnt (by decide) (Nat.le_of_ble_eq_true rfl) (by decide) (by decide) hlk (by decide) (by decide) (⟨2, by decide, by rw [hJ, sp_rev_no (fun q => by first | exact q.2.1 c4 | (have q2 := q.2.2.2; rw [hgn] at q2; exact c5 q2)), up2_twice], rfl⟩)
      · skip
        obtain ⟨gi, hg6, hg⟩ := nt_v (hI.V hLK) hW40 c4
        have hgn : (sp_ve (mm 11 (sp_L mm wi))).toNatClampNeg = gi := by rw [hg]; exact nt_c (by omega)
        refine lv_aload_n hx hb dX4_revert_57 rfl (lv_at hl 3 rfl) ?_
        refine g_get (C := RX4) (T := TX4) (N := 6) (v := .ref (ad 0 2)) hF hK (hM 0 0 _ rfl) rfl inlX4 1 (by decide) rfl wd_f_X4_16 rfl dX4_revert_58 ?_
        refine lv_iload_n hx hb dX4_revert_61 rfl (lv_at hl 4 rfl) ?_
        refine g_ald (t0 := 0) (i := fi) hF hK (hM 0 2 _ rfl) rfl rfl hf6 (by decide) dX4_revert_62 ?_
        refine bo_to (v := (mm 0 fi)) rfl ?_
        refine lv_aload_n hx hb dX4_revert_63 rfl (lv_at hl 3 rfl) ?_
        refine g_get (C := RX4) (T := TX4) (N := 6) (v := .ref (ad 0 2)) hF hK (hM 0 0 _ rfl) rfl inlX4 1 (by decide) rfl wd_f_X4_16 rfl dX4_revert_64 ?_
        refine lv_iload hx hb dX4_revert_67 (lv_at hl 0 rfl) ?_
        refine g_ald (t0 := 0) (i := gi) hF hK (hM 0 2 _ rfl) rfl hg hg6 (by decide) dX4_revert_69 ?_
        refine bo_to (v := (mm 0 gi)) rfl ?_
        refine lv_icmp_gt (tgt := 83) hx hb dX4_revert_70 (by decide) (fun c5 => ?_) (fun c5 => ?_)
        · skip
          have hC : (¬ mm 7 wi < 2 ∧ ¬ sp_ve (mm 11 (sp_L mm wi)) = -1 ∧ ¬ sp_ve (mm 11 (sp_L mm wi)) = nI fi ∧ mm 0 (sp_ve (mm 11 (sp_L mm wi))).toNatClampNeg < mm 0 fi) := ⟨fun q => c3 ((v7_lt hI hwi).mpr q), c4, fun q => by have e9 : gi = fi := nI_inj (by omega) (by omega) (hg.symm.trans q); rw [e9] at c5; exact Int32.lt_irrefl c5, by rw [hgn]; exact c5⟩
          refine lv_aload hx hb dX4_revert_83 (lv_at hl 1 rfl) ?_
          refine g_get (C := RX2) (T := TX2) (N := 4) (v := k_rf (mm 12 (sp_L mm wi) = -1) (ad 3 (sp_A mm (sp_L mm wi)))) hF hK (hM 3 (sp_L mm wi) _ (kc_v (by assumption))) rfl inlX2 3 (by decide) rfl wd_f_X4_137 rfl dX4_revert_85 ?_
          refine bo_toV (v := .ref (ad 3 (sp_A mm (sp_L mm wi)))) (if_neg c3) ?_
          refine g_get (C := RX2) (T := TX2) (N := 4) (v := .ref (ad 4 (sp_A mm (sp_L mm wi)))) hF hK (hM 3 (sp_A mm (sp_L mm wi)) _ (kc_v (by assumption))) rfl inlX2 0 (by decide) rfl wd_f_X4_144 rfl dX4_revert_88 ?_
          refine lv_astore (lv' := [(6, .ref (ad 4 (sp_A mm (sp_L mm wi)))), (5, .int (sp_ve (mm 11 (sp_L mm wi)))), (4, .ref (ad 3 (sp_L mm wi))), (3, .ref (ad 1 wi)), (0, .ref (ad 0 0)), (1, .int (nI fi)), (2, .int (nI wi))]) hx hb dX4_revert_91 hl (by decide) rfl (fun ls hl => ?_)
          refine lv_aload_n hx hb dX4_revert_93 rfl (lv_at hl 4 rfl) ?_
          refine lv_aload_n hx hb dX4_revert_94 rfl (lv_at hl 3 rfl) ?_
          have hne : ¬ (sp_A mm (sp_L mm wi)) = sp_K mm := by omega
          replace hM := k_rmH 5 wi hM
          replace hN := k_rmN 5 wi hN
          refine k_new hF hK hM hN hS hT.2.2.2.2 4 (sp_K mm) ((k_rm_o (by simp)).trans (if_neg (Nat.lt_irrefl _))) (ci := 1) (fs := [.int 0, .int 0, .int 0]) rfl inlX0 tyX0 tyX0_ok wd_k_X4_80 wd_a_X0 wd_n_X0 (by decide) (by decide) (by decide) dX4_revert_95 (fun q H hM hN hS => ?_)
          refine lv_dup hx hb dX4_revert_98 rfl ?_
          refine lv_aload hx hb dX4_revert_99 (lv_at hl 0 rfl) ?_
          refine g_get (C := RX0) (T := TX0) (N := 3) (v := .int (sp_vk (mm 11 (sp_A mm (sp_L mm wi))))) hF hK (by have h9 := hM 4 (sp_A mm (sp_L mm wi)) _ ((k_up_o (fun z => hne z.2)).trans ((k_rm_o (by simp)).trans (kc_c hAK))); rw [k_ad_o (fun z => hne z.2)] at h9; exact h9) rfl inlX0 0 (by decide) rfl wd_f_X4_149 rfl dX4_revert_101 ?_
          refine lv_aload hx hb dX4_revert_104 (lv_at hl 0 rfl) ?_
          refine g_get (C := RX0) (T := TX0) (N := 3) (v := .int (sp_vd (mm 11 (sp_A mm (sp_L mm wi))))) hF hK (by have h9 := hM 4 (sp_A mm (sp_L mm wi)) _ ((k_up_o (fun z => hne z.2)).trans ((k_rm_o (by simp)).trans (kc_c hAK))); rw [k_ad_o (fun z => hne z.2)] at h9; exact h9) rfl inlX0 1 (by decide) rfl wd_f_X4_151 rfl dX4_revert_106 ?_
          refine lv_iload_n hx hb dX4_revert_109 rfl (lv_at hl 5 rfl) ?_
          refine kx_vI (pX1 := fun _ => False) (post := fun u => u = ((k_ad ad 4 (sp_K mm) q), k_up (k_up (k_rm (k_C G ad mm) 5 wi) 4 (sp_K mm) (.inr (1, [.int 0, .int 0, .int 0]))) 4 (sp_K mm) (.inr (1, [.int (sp_vk (mm 11 (sp_A mm (sp_L mm wi)))), .int (sp_vd (mm 11 (sp_A mm (sp_L mm wi)))), .int (nI fi)])))) (fr := 1) (lo := 24) (mc1 := 0) (ms1 := 0) (b := q) (As := [.int (sp_vk (mm 11 (sp_A mm (sp_L mm wi)))), .int (sp_vd (mm 11 (sp_A mm (sp_L mm wi)))), .int (nI fi)]) (rest := [.ref q, .ref (ad 1 wi), .ref (ad 0 0)]) hF (by have h9 := m_X0_init l hflag G Z (k_ad ad 4 (sp_K mm) q) (k_up (k_rm (k_C G ad mm) 5 wi) 4 (sp_K mm) (.inr (1, [.int 0, .int 0, .int 0]))) 4 (sp_K mm) (sp_vk (mm 11 (sp_A mm (sp_L mm wi)))) (sp_vd (mm 11 (sp_A mm (sp_L mm wi)))) (nI fi) k_up_s; rw [k_ad_s] at h9; exact h9) ke_X0_init wd_l_X4_82 (by decide) hM hN hK hP hT hS rfl hl.1 rfl (Nat.le_of_ble_eq_true rfl) dX4_revert_110 (by decide) hnt hlk (fun E hE => False.elim hE) (by decide) (by decide) (fun u1 H locs hu1 hM hN hS _ _ => ?_)
          subst hu1
          replace hM : k_H G (k_ad ad 4 (sp_K mm) q) (k_up (k_up (k_rm (k_C G ad mm) 5 wi) 4 (sp_K mm) (.inr (1, [.int 0, .int 0, .int 0]))) 4 (sp_K mm) (.inr (1, [.int (sp_vk (mm 11 (sp_A mm (sp_L mm wi)))), .int (sp_vd (mm 11 (sp_A mm (sp_L mm wi)))), .int (nI fi)]))) H := hM
          replace hN : k_N Z (k_ad ad 4 (sp_K mm) q) (k_up (k_up (k_rm (k_C G ad mm) 5 wi) 4 (sp_K mm) (.inr (1, [.int 0, .int 0, .int 0]))) 4 (sp_K mm) (.inr (1, [.int (sp_vk (mm 11 (sp_A mm (sp_L mm wi)))), .int (sp_vd (mm 11 (sp_A mm (sp_L mm wi)))), .int (nI fi)]))) := hN
          rw [k_up_t] at hM hN
          obtain ⟨pv1, pv2, pv3⟩ := v_parts (w := wi) (f := fi) (by omega) (hI.V hAK) hW40 hf6
          refine kx_vV (C := RX4) (pX1 := fun _ => False) (fr := 3) (lo := 69) (mc1 := 1) (ms1 := 4) (As := [.ref (ad 1 wi), .ref q]) (rest := []) hF (m_X4_addV l hflag G Z ad mm wi q (sp_vk (mm 11 (sp_A mm (sp_L mm wi)))) (sp_vd (mm 11 (sp_A mm (sp_L mm wi)))) (nI fi) hI hwi pv1 pv2 pv3) ke_X4_addVersion wd_l_X4_120 (by decide) hM hN hK hP hT hS (g_recv hK (hM 0 0 _ ((k_up_o (by simp)).trans ((k_rm_o (by simp)).trans rfl))) rfl) rfl hl.1 rfl (Nat.le_of_ble_eq_true rfl) dX4_revert_113 (by decide) hnt hlk (fun E hE => False.elim hE) (by decide) (by decide) (fun u1 H locs hu1 hM hN hS _ _ => ?_)
          obtain ⟨q2, rfl⟩ := hu1
          replace hM : k_H G (k_ad (k_ad ad 4 (sp_K mm) q) 3 (sp_K mm) q2) (k_C G (k_ad (k_ad ad 4 (sp_K mm) q) 3 (sp_K mm) q2) (sp_make mm wi (sp_vk (mm 11 (sp_A mm (sp_L mm wi)))) (sp_vd (mm 11 (sp_A mm (sp_L mm wi)))) (nI fi))) H := hM
          replace hN : k_N Z (k_ad (k_ad ad 4 (sp_K mm) q) 3 (sp_K mm) q2) (k_C G (k_ad (k_ad ad 4 (sp_K mm) q) 3 (sp_K mm) q2) (sp_make mm wi (sp_vk (mm 11 (sp_A mm (sp_L mm wi)))) (sp_vd (mm 11 (sp_A mm (sp_L mm wi)))) (nI fi))) := hN
          refine lv_aload_n hx hb dX4_revert_116 rfl (lv_at hl 4 rfl) ?_
          refine lv_iload hx hb dX4_revert_117 (lv_at hl 1 rfl) ?_
          refine bo_to (v := (nI gi)) (hg) ?_
          refine lv_bipush (v := (-10)) hx hb dX4_revert_119 (by decide) ?_
          refine kx_iV (C := RX4) (pX1 := fun _ => False) (fr := 1) (lo := 24) (mc1 := 0) (ms1 := 0) (As := [.int (nI gi), .int (-10)]) (rest := []) hF (m_X4_addTrust l hflag G Z (k_ad (k_ad ad 4 (sp_K mm) q) 3 (sp_K mm) q2) (sp_make mm wi (sp_vk (mm 11 (sp_A mm (sp_L mm wi)))) (sp_vd (mm 11 (sp_A mm (sp_L mm wi)))) (nI fi)) gi (-10) hg6) ke_X4_addTrust wd_l_X4_129 (by decide) hM hN hK hP hT hS (g_recv hK (hM 0 0 _ rfl) rfl) rfl hl.1 rfl (Nat.le_of_ble_eq_true rfl) dX4_revert_121 (by decide) hnt hlk (fun E hE => False.elim hE) (by decide) (by decide) (fun r9 u9 H locs hr9 hM hN hS _ _ => ?_)
          obtain ⟨rfl, rfl⟩ := hr9
          replace hM : k_H G (k_ad (k_ad ad 4 (sp_K mm) q) 3 (sp_K mm) q2) (k_C G (k_ad (k_ad ad 4 (sp_K mm) q) 3 (sp_K mm) q2) (sp_tru (sp_make mm wi (sp_vk (mm 11 (sp_A mm (sp_L mm wi)))) (sp_vd (mm 11 (sp_A mm (sp_L mm wi)))) (nI fi)) gi (-10))) H := hM
          replace hN : k_N Z (k_ad (k_ad ad 4 (sp_K mm) q) 3 (sp_K mm) q2) (k_C G (k_ad (k_ad ad 4 (sp_K mm) q) 3 (sp_K mm) q2) (sp_tru (sp_make mm wi (sp_vk (mm 11 (sp_A mm (sp_L mm wi)))) (sp_vd (mm 11 (sp_A mm (sp_L mm wi)))) (nI fi)) gi (-10))) := hN
          exact kx_iret hx hb hr hlk hM hN hK hS (by decide) (by decide) (k_po.of2 (m2 := up2 (sp_tru (sp_make mm wi (sp_vk (mm 11 (sp_A mm (sp_L mm wi)))) (sp_vd (mm 11 (sp_A mm (sp_L mm wi)))) (nI fi)) gi (-10)) 19 0 0) (hJ.trans (rev_fin hC hgn)) up2_s kc_19.symm) dX4_revert_124
        · skip
          exact kx_thr (text := "this editor can't revert it") hF hflag hP hT k_E_ISE wd_k_X4_73 (by decide) hM hN hK hS hl.1 dX4_revert_73 dX4_revert_76 dX4_revert_77 dX4_revert_79 dX4_revert_82 hnt (by decide) (Nat.le_of_ble_eq_true rfl) (by decide) (by decide) hlk (by decide) (by decide) (⟨2, by decide, by rw [hJ, sp_rev_no (fun q => by first | exact q.2.1 c4 | (have q2 := q.2.2.2; rw [hgn] at q2; exact c5 q2)), up2_twice], rfl⟩)
    · skip
      exact absurd c7 (nfull hI hK1)
