theorem dX5_edit_0 : decode cX5_edit 0 = .ok (.aload_n 0, 1) := by decide +kernel
theorem dX5_edit_1 : decode cX5_edit 1 = .ok (.iload_n 1, 1) := by decide +kernel
theorem dX5_edit_2 : decode cX5_edit 2 = .ok (.invokestatic 75, 3) := by decide +kernel
theorem dX5_edit_5 : decode cX5_edit 5 = .ok (.ifCond .eq 15, 3) := by decide +kernel
theorem dX5_edit_8 : decode cX5_edit 8 = .ok (.aload_n 0, 1) := by decide +kernel
theorem dX5_edit_9 : decode cX5_edit 9 = .ok (.iload_n 2, 1) := by decide +kernel
theorem dX5_edit_10 : decode cX5_edit 10 = .ok (.invokevirtual 95, 3) := by decide +kernel
theorem dX5_edit_13 : decode cX5_edit 13 = .ok (.ifCond .eq 7, 3) := by decide +kernel
theorem dX5_edit_16 : decode cX5_edit 16 = .ok (.iconst 1, 1) := by decide +kernel
theorem dX5_edit_17 : decode cX5_edit 17 = .ok (.goto 4, 3) := by decide +kernel
theorem dX5_edit_20 : decode cX5_edit 20 = .ok (.iconst 0, 1) := by decide +kernel
theorem dX5_edit_21 : decode cX5_edit 21 = .ok (.invokevirtual 83, 3) := by decide +kernel
theorem dX5_edit_24 : decode cX5_edit 24 = .ok (.ifCond .ne 5, 3) := by decide +kernel
theorem dX5_edit_27 : decode cX5_edit 27 = .ok (.iconst 0, 1) := by decide +kernel
theorem dX5_edit_28 : decode cX5_edit 28 = .ok (.ireturn, 1) := by decide +kernel
theorem dX5_edit_29 : decode cX5_edit 29 = .ok (.iload_n 3, 1) := by decide +kernel
theorem dX5_edit_30 : decode cX5_edit 30 = .ok (.iconst 0, 1) := by decide +kernel
theorem dX5_edit_31 : decode cX5_edit 31 = .ok (.iconst 3, 1) := by decide +kernel
theorem dX5_edit_32 : decode cX5_edit 32 = .ok (.invokestatic 65, 3) := by decide +kernel
theorem dX5_edit_35 : decode cX5_edit 35 = .ok (.ifCond .eq 13, 3) := by decide +kernel
theorem dX5_edit_38 : decode cX5_edit 38 = .ok (.iload 4, 2) := by decide +kernel
theorem dX5_edit_40 : decode cX5_edit 40 = .ok (.iconst 0, 1) := by decide +kernel
theorem dX5_edit_41 : decode cX5_edit 41 = .ok (.iconst 2, 1) := by decide +kernel
theorem dX5_edit_42 : decode cX5_edit 42 = .ok (.invokestatic 65, 3) := by decide +kernel
theorem dX5_edit_45 : decode cX5_edit 45 = .ok (.ifCond .ne 10, 3) := by decide +kernel
theorem dX5_edit_48 : decode cX5_edit 48 = .ok (.aload_n 0, 1) := by decide +kernel
theorem dX5_edit_49 : decode cX5_edit 49 = .ok (.iconst 2, 1) := by decide +kernel
theorem dX5_edit_50 : decode cX5_edit 50 = .ok (.putfield 61, 3) := by decide +kernel
theorem dX5_edit_53 : decode cX5_edit 53 = .ok (.iconst 0, 1) := by decide +kernel
theorem dX5_edit_54 : decode cX5_edit 54 = .ok (.ireturn, 1) := by decide +kernel
theorem dX5_edit_55 : decode cX5_edit 55 = .ok (.iload_n 3, 1) := by decide +kernel
theorem dX5_edit_56 : decode cX5_edit 56 = .ok (.aload_n 0, 1) := by decide +kernel
theorem dX5_edit_57 : decode cX5_edit 57 = .ok (.iload_n 2, 1) := by decide +kernel
theorem dX5_edit_58 : decode cX5_edit 58 = .ok (.invokevirtual 98, 3) := by decide +kernel
theorem dX5_edit_61 : decode cX5_edit 61 = .ok (.if_icmp .ne 20, 3) := by decide +kernel
theorem dX5_edit_64 : decode cX5_edit 64 = .ok (.iload 4, 2) := by decide +kernel
theorem dX5_edit_66 : decode cX5_edit 66 = .ok (.aload_n 0, 1) := by decide +kernel
theorem dX5_edit_67 : decode cX5_edit 67 = .ok (.iload_n 2, 1) := by decide +kernel
theorem dX5_edit_68 : decode cX5_edit 68 = .ok (.invokevirtual 101, 3) := by decide +kernel
theorem dX5_edit_71 : decode cX5_edit 71 = .ok (.if_icmp .ne 10, 3) := by decide +kernel
theorem dX5_edit_74 : decode cX5_edit 74 = .ok (.aload_n 0, 1) := by decide +kernel
theorem dX5_edit_75 : decode cX5_edit 75 = .ok (.iconst 3, 1) := by decide +kernel
theorem dX5_edit_76 : decode cX5_edit 76 = .ok (.putfield 61, 3) := by decide +kernel
theorem dX5_edit_79 : decode cX5_edit 79 = .ok (.iconst 0, 1) := by decide +kernel
theorem dX5_edit_80 : decode cX5_edit 80 = .ok (.ireturn, 1) := by decide +kernel
theorem dX5_edit_81 : decode cX5_edit 81 = .ok (.aload_n 0, 1) := by decide +kernel
theorem dX5_edit_82 : decode cX5_edit 82 = .ok (.getfield 7, 3) := by decide +kernel
theorem dX5_edit_85 : decode cX5_edit 85 = .ok (.iload_n 1, 1) := by decide +kernel
theorem dX5_edit_86 : decode cX5_edit 86 = .ok (.iaload, 1) := by decide +kernel
theorem dX5_edit_87 : decode cX5_edit 87 = .ok (.aload_n 0, 1) := by decide +kernel
theorem dX5_edit_88 : decode cX5_edit 88 = .ok (.getfield 25, 3) := by decide +kernel
theorem dX5_edit_91 : decode cX5_edit 91 = .ok (.iload_n 2, 1) := by decide +kernel
theorem dX5_edit_92 : decode cX5_edit 92 = .ok (.iaload, 1) := by decide +kernel
theorem dX5_edit_93 : decode cX5_edit 93 = .ok (.if_icmp .lt 7, 3) := by decide +kernel
theorem dX5_edit_96 : decode cX5_edit 96 = .ok (.iconst 1, 1) := by decide +kernel
theorem dX5_edit_97 : decode cX5_edit 97 = .ok (.goto 4, 3) := by decide +kernel
theorem dX5_edit_100 : decode cX5_edit 100 = .ok (.iconst 0, 1) := by decide +kernel
theorem dX5_edit_101 : decode cX5_edit 101 = .ok (.istore 5, 2) := by decide +kernel
theorem dX5_edit_103 : decode cX5_edit 103 = .ok (.iload 5, 2) := by decide +kernel
theorem dX5_edit_105 : decode cX5_edit 105 = .ok (.ifCond .eq 15, 3) := by decide +kernel
theorem dX5_edit_108 : decode cX5_edit 108 = .ok (.aload_n 0, 1) := by decide +kernel
theorem dX5_edit_109 : decode cX5_edit 109 = .ok (.iload_n 2, 1) := by decide +kernel
theorem dX5_edit_110 : decode cX5_edit 110 = .ok (.iload_n 3, 1) := by decide +kernel
theorem dX5_edit_111 : decode cX5_edit 111 = .ok (.iload 4, 2) := by decide +kernel
theorem dX5_edit_113 : decode cX5_edit 113 = .ok (.iload_n 1, 1) := by decide +kernel
theorem dX5_edit_114 : decode cX5_edit 114 = .ok (.invokevirtual 91, 3) := by decide +kernel
theorem dX5_edit_117 : decode cX5_edit 117 = .ok (.goto 23, 3) := by decide +kernel
theorem dX5_edit_120 : decode cX5_edit 120 = .ok (.aload_n 0, 1) := by decide +kernel
theorem dX5_edit_121 : decode cX5_edit 121 = .ok (.getfield 34, 3) := by decide +kernel
theorem dX5_edit_124 : decode cX5_edit 124 = .ok (.iload_n 2, 1) := by decide +kernel
theorem dX5_edit_125 : decode cX5_edit 125 = .ok (.bipush 100, 2) := by decide +kernel
theorem dX5_edit_127 : decode cX5_edit 127 = .ok (.iload_n 3, 1) := by decide +kernel
theorem dX5_edit_128 : decode cX5_edit 128 = .ok (.imul, 1) := by decide +kernel
theorem dX5_edit_129 : decode cX5_edit 129 = .ok (.bipush 10, 2) := by decide +kernel
theorem dX5_edit_131 : decode cX5_edit 131 = .ok (.iload 4, 2) := by decide +kernel
theorem dX5_edit_133 : decode cX5_edit 133 = .ok (.imul, 1) := by decide +kernel
theorem dX5_edit_134 : decode cX5_edit 134 = .ok (.iadd, 1) := by decide +kernel
theorem dX5_edit_135 : decode cX5_edit 135 = .ok (.iload_n 1, 1) := by decide +kernel
theorem dX5_edit_136 : decode cX5_edit 136 = .ok (.iadd, 1) := by decide +kernel
theorem dX5_edit_137 : decode cX5_edit 137 = .ok (.iconst 1, 1) := by decide +kernel
theorem dX5_edit_138 : decode cX5_edit 138 = .ok (.iadd, 1) := by decide +kernel
theorem dX5_edit_139 : decode cX5_edit 139 = .ok (.iastore, 1) := by decide +kernel
theorem dX5_edit_140 : decode cX5_edit 140 = .ok (.iload 5, 2) := by decide +kernel
theorem dX5_edit_142 : decode cX5_edit 142 = .ok (.ireturn, 1) := by decide +kernel
theorem dX5_trusts_0 : decode cX5_trusts 0 = .ok (.aload_n 0, 1) := by decide +kernel
theorem dX5_trusts_1 : decode cX5_trusts 1 = .ok (.getfield 7, 3) := by decide +kernel
theorem dX5_trusts_4 : decode cX5_trusts 4 = .ok (.iload_n 1, 1) := by decide +kernel
theorem dX5_trusts_5 : decode cX5_trusts 5 = .ok (.iaload, 1) := by decide +kernel
theorem dX5_trusts_6 : decode cX5_trusts 6 = .ok (.iload_n 2, 1) := by decide +kernel
theorem dX5_trusts_7 : decode cX5_trusts 7 = .ok (.iadd, 1) := by decide +kernel
theorem dX5_trusts_8 : decode cX5_trusts 8 = .ok (.istore_n 3, 1) := by decide +kernel
theorem dX5_trusts_9 : decode cX5_trusts 9 = .ok (.aload_n 0, 1) := by decide +kernel
theorem dX5_trusts_10 : decode cX5_trusts 10 = .ok (.getfield 7, 3) := by decide +kernel
theorem dX5_trusts_13 : decode cX5_trusts 13 = .ok (.iload_n 1, 1) := by decide +kernel
theorem dX5_trusts_14 : decode cX5_trusts 14 = .ok (.iload_n 3, 1) := by decide +kernel
theorem dX5_trusts_15 : decode cX5_trusts 15 = .ok (.ifCond .ge 7, 3) := by decide +kernel
theorem dX5_trusts_18 : decode cX5_trusts 18 = .ok (.iconst 0, 1) := by decide +kernel
theorem dX5_trusts_19 : decode cX5_trusts 19 = .ok (.goto 15, 3) := by decide +kernel
theorem dX5_trusts_22 : decode cX5_trusts 22 = .ok (.iload_n 3, 1) := by decide +kernel
theorem dX5_trusts_23 : decode cX5_trusts 23 = .ok (.bipush 100, 2) := by decide +kernel
theorem dX5_trusts_25 : decode cX5_trusts 25 = .ok (.if_icmp .le 8, 3) := by decide +kernel
theorem dX5_trusts_28 : decode cX5_trusts 28 = .ok (.bipush 100, 2) := by decide +kernel
theorem dX5_trusts_30 : decode cX5_trusts 30 = .ok (.goto 4, 3) := by decide +kernel
theorem dX5_trusts_33 : decode cX5_trusts 33 = .ok (.iload_n 3, 1) := by decide +kernel
theorem dX5_trusts_34 : decode cX5_trusts 34 = .ok (.iastore, 1) := by decide +kernel
theorem dX5_trusts_35 : decode cX5_trusts 35 = .ok (.return_, 1) := by decide +kernel
theorem ke_X5_edit : wl_V RX5 yX5_edit cX5_edit 6 (some .boolean) 4 := ⟨wd_c_X5_edit, wd_i_X5_edit, wd_s_X5_edit, wd_n_X5, by decide, by decide +kernel⟩
set_option maxHeartbeats 4000000 in
set_option maxRecDepth 100000 in
theorem m_X5_edit (l : Launch) (D : va_G) (cI : ClassId) (o : Nat) (a : Nat → Nat) (mm : q_Mem) (hMD : mo_D o a) (x y k d : Int32) (hI : Inv mm) : mo_Ci l yX5_edit cX5_edit 6 (some .boolean) 1 24 D cI o a mm [.int x, .int y, .int k, .int d] (fun r m1 => (r, m1) = sp_edit mm x y k d) := by
  refine mo_ofQ (by decide) (Nat.le_of_ble_eq_true rfl) ?_
  intro p e s m args below meth c hx hb hr hF hlk hM hK hS ls hl
  have hA : ∀ q, mo_R o a q → mo_R o a q := fun _ h => h
  have hl : lv_has ls 6 [(0, .ref o), (1, .int x), (2, .int y), (3, .int k), (4, .int d)] := hl
  have hf : (0 : Nat) ≤ 0 ∧ (0 : Nat) ≤ 0 := ⟨Nat.le_refl 0, Nat.le_refl 0⟩
  refine lv_aload_n hx hb dX5_edit_0 rfl (lv_at hl 0 rfl) ?_
  refine bo_cut (ls := ls) (tgt := 21) (E := if sp_ed x ∧ sp_wy mm y then 1 else 0) (rest := [.ref o]) (fun va eva => ?_) (fun J21 => ?_)
  · skip
    refine mo_iV (fr := 0) (lo := 0) (As := [.int va]) (rest := []) hF (m_X5_asks l D cI o a mm hMD va (sp_ed x ∧ sp_wy mm y) eva) ke_X5_asks wd_l_X5_83 (by decide) hK hM hS hA rfl hl.1 rfl (Nat.le_of_ble_eq_true rfl) dX5_edit_21 hf (fun r2 mm3 H locs hr2 hM hS _ _ => ?_)
    obtain ⟨hr2, hmm3⟩ := hr2
    subst hmm3
    have hbr2 := hr2.trans eva
    refine bo_ne (tgt := 29) hbr2 hx hb dX5_edit_24 (by decide) (fun cP => ?_) (fun cP => ?_)
    · skip
      rw [if_pos cP] at hM
      have hW40 := hI.W40
      have hKK := hI.K512
      obtain ⟨fi, hf6, rfl⟩ := nt_ed cP.1
      obtain ⟨wi, hwi, rfl⟩ := nt_wy hI cP.2
      have hL := hI.L hwi
      have hL4 := hI.L4200 hwi
      have hE : sp_edit mm (nI fi) (nI wi) k d = (if (0 ≤ k ∧ k ≤ 3) ∧ (0 ≤ d ∧ d ≤ 2) then (if k = sp_vk (mm 11 (sp_L mm wi)) ∧ d = sp_vd (mm 11 (sp_L mm wi)) then (0, up2 (up2 mm 19 0 0) 19 0 3) else if mm 6 wi ≤ mm 0 fi then (1, sp_make (up2 mm 19 0 0) wi k d (nI fi)) else (0, up2 (up2 mm 19 0 0) 9 wi (sp_co k d (nI fi)))) else (0, up2 (up2 mm 19 0 0) 19 0 2)) := by
        rw [sp_edit, if_pos cP, nt_c (by omega), nt_c (by omega)]; rfl
      refine lv_iload_n hx hb dX5_edit_29 rfl (lv_at hl 3 rfl) ?_
      refine lv_iconst (v := 0) hx hb dX5_edit_30 (by decide) ?_
      refine lv_iconst (v := 3) hx hb dX5_edit_31 (by decide) ?_
      refine rc_S (fr := 0) (lo := 0) (As := [.int k, .int 0, .int 3]) (rest := []) hF (m_X5_in l k 0 3) ke_X5_in wd_l_X5_65 (by decide) bl_true (fun _ _ _ => trivial) rfl hl.1 rfl (Nat.le_of_ble_eq_true rfl) dX5_edit_32 hf (fun r4 hr4 => ?_)
      refine bo_eq (tgt := 48) hr4 hx hb dX5_edit_35 (by decide) (fun c3 => ?_) (fun c3 => ?_)
      · skip
        have hNR : ¬ ((0 ≤ k ∧ k ≤ 3) ∧ (0 ≤ d ∧ d ≤ 2)) := fun q => c3 q.1
        refine lv_aload_n hx hb dX5_edit_48 rfl (lv_at hl 0 rfl) ?_
        refine lv_iconst (v := 2) hx hb dX5_edit_49 (by decide) ?_
        refine mo_put (mm := (up2 mm 19 0 0)) hF hK hM hMD hS hA 19 (by decide) wd_f_X5_61 dX5_edit_50 (fun H locs hM hS => ?_)
        refine lv_iconst (v := 0) hx hb dX5_edit_53 (by decide) ?_
        exact mo_zret hx hb hr hlk (by first | exact Or.inl rfl | exact Or.inr rfl) hK hM hS (by rw [hE, if_neg hNR]) dX5_edit_54
      · skip
        refine lv_iload hx hb dX5_edit_38 (lv_at hl 4 rfl) ?_
        refine lv_iconst (v := 0) hx hb dX5_edit_40 (by decide) ?_
        refine lv_iconst (v := 2) hx hb dX5_edit_41 (by decide) ?_
        refine rc_S (fr := 0) (lo := 0) (As := [.int d, .int 0, .int 2]) (rest := []) hF (m_X5_in l d 0 2) ke_X5_in wd_l_X5_65 (by decide) bl_true (fun _ _ _ => trivial) rfl hl.1 rfl (Nat.le_of_ble_eq_true rfl) dX5_edit_42 hf (fun r5 hr5 => ?_)
        refine bo_ne (tgt := 55) hr5 hx hb dX5_edit_45 (by decide) (fun c4 => ?_) (fun c4 => ?_)
        · skip
          refine lv_iload_n hx hb dX5_edit_55 rfl (lv_at hl 3 rfl) ?_
          refine lv_aload_n hx hb dX5_edit_56 rfl (lv_at hl 0 rfl) ?_
          refine lv_iload_n hx hb dX5_edit_57 rfl (lv_at hl 2 rfl) ?_
          refine rc_V (fr := 0) (lo := 0) (As := [.int (nI wi)]) (rest := [.int k]) hF (m_X5_kindNow l D cI o a (up2 mm 19 0 0) wi (by omega) hL hL4) ke_X5_kindNow wd_l_X5_98 (by decide) mo_blind (fun U hU hv => ⟨by rw [hU]; exact hM, hK.moved hv⟩) (mo_recv hK hM) rfl hl.1 rfl (Nat.le_of_ble_eq_true rfl) dX5_edit_58 hf (fun r6 hr6 => ?_)
          replace hr6 : r6 = sp_vk (mm 11 (sp_L mm wi)) := hr6
          subst hr6
          refine lv_icmp_ne (tgt := 81) hx hb dX5_edit_61 (by decide) (fun c5 => ?_) (fun c5 => ?_)
          · skip
            have hNE : ¬ (k = sp_vk (mm 11 (sp_L mm wi)) ∧ d = sp_vd (mm 11 (sp_L mm wi))) := fun q => c5 q.1
            refine bo_cut (ls := ls) (tgt := 101) (E := if mm 6 wi ≤ mm 0 fi then 1 else 0) (rest := []) (fun vi evi => ?_) (fun J101 => ?_)
            · skip
              refine lv_istore (lv' := [(5, .int vi), (0, .ref o), (1, .int (nI fi)), (2, .int (nI wi)), (3, .int k), (4, .int d)]) hx hb dX5_edit_101 hl (by decide) rfl (fun ls hl => ?_)
              refine lv_iload hx hb dX5_edit_103 (lv_at hl 0 rfl) ?_
              refine bo_eq (tgt := 120) evi hx hb dX5_edit_105 (by decide) (fun c8 => ?_) (fun c8 => ?_)
              · skip
                refine lv_aload_n hx hb dX5_edit_120 rfl (lv_at hl 1 rfl) ?_
                refine mo_get hF hK hM 9 (by decide) wd_f_X5_34 rfl dX5_edit_121 ?_
                refine lv_iload_n hx hb dX5_edit_124 rfl (lv_at hl 3 rfl) ?_
                refine lv_bipush (v := 100) hx hb dX5_edit_125 (by decide) ?_
                refine lv_iload_n hx hb dX5_edit_127 rfl (lv_at hl 4 rfl) ?_
                refine lv_imul hx hb dX5_edit_128 ?_
                refine lv_bipush (v := 10) hx hb dX5_edit_129 (by decide) ?_
                refine lv_iload hx hb dX5_edit_131 (lv_at hl 5 rfl) ?_
                refine lv_imul hx hb dX5_edit_133 ?_
                refine lv_iadd hx hb dX5_edit_134 ?_
                refine lv_iload_n hx hb dX5_edit_135 rfl (lv_at hl 2 rfl) ?_
                refine lv_iadd hx hb dX5_edit_136 ?_
                refine lv_iconst (v := 1) hx hb dX5_edit_137 (by decide) ?_
                refine lv_iadd hx hb dX5_edit_138 ?_
                refine mo_ast (mm := (up2 mm 19 0 0)) hF hK hM hMD hS hA 9 wi (by decide) rfl (show wi < 40 by omega) dX5_edit_139 (fun H locs hM hS => ?_)
                refine lv_iload hx hb dX5_edit_140 (lv_at hl 0 rfl) ?_
                exact mo_zret hx hb hr hlk (bo_bit evi) hK hM hS (by rw [evi, hE, if_pos (And.intro c3 c4), if_neg hNE, if_neg c8, if_neg c8]; rfl) dX5_edit_142
              · skip
                refine lv_aload_n hx hb dX5_edit_108 rfl (lv_at hl 1 rfl) ?_
                refine lv_iload_n hx hb dX5_edit_109 rfl (lv_at hl 3 rfl) ?_
                refine lv_iload_n hx hb dX5_edit_110 rfl (lv_at hl 4 rfl) ?_
                refine lv_iload hx hb dX5_edit_111 (lv_at hl 5 rfl) ?_
                refine lv_iload_n hx hb dX5_edit_113 rfl (lv_at hl 2 rfl) ?_
                refine mo_vV (fr := 0) (lo := 0) (As := [.int (nI wi), .int k, .int d, .int (nI fi)]) (rest := []) hF (m_X5_makes l D cI o a (up2 mm 19 0 0) hMD wi k d (nI fi) (by omega) hI.K hI.K4200) ke_X5_makes wd_l_X5_91 (by decide) hK hM hS hA rfl hl.1 rfl (Nat.le_of_ble_eq_true rfl) dX5_edit_114 hf (fun mm9 H locs hmm9 hM hS => ?_)
                subst hmm9
                refine lv_goto (tgt := 140) hx hb dX5_edit_117 (by decide) ?_
                refine lv_iload hx hb dX5_edit_140 (lv_at hl 0 rfl) ?_
                exact mo_zret hx hb hr hlk (bo_bit evi) hK hM hS (by rw [evi, hE, if_pos (And.intro c3 c4), if_neg hNE, if_pos c8, if_pos c8]) dX5_edit_142
            · skip
              refine lv_aload_n hx hb dX5_edit_81 rfl (lv_at hl 0 rfl) ?_
              refine mo_get hF hK hM 0 (by decide) wd_f_X5_7 rfl dX5_edit_82 ?_
              refine lv_iload_n hx hb dX5_edit_85 rfl (lv_at hl 1 rfl) ?_
              refine mo_ald hF hK hM 0 fi (by decide) rfl (by exact hf6) dX5_edit_86 ?_
              refine bo_to (v := (mm 0 fi)) (up2_c (by decide)) ?_
              refine lv_aload_n hx hb dX5_edit_87 rfl (lv_at hl 0 rfl) ?_
              refine mo_get hF hK hM 6 (by decide) wd_f_X5_25 rfl dX5_edit_88 ?_
              refine lv_iload_n hx hb dX5_edit_91 rfl (lv_at hl 2 rfl) ?_
              refine mo_ald hF hK hM 6 wi (by decide) rfl (show wi < 40 by omega) dX5_edit_92 ?_
              refine bo_to (v := (mm 6 wi)) (up2_c (by decide)) ?_
              refine lv_icmp_lt (tgt := 100) hx hb dX5_edit_93 (by decide) (fun c7 => ?_) (fun c7 => ?_)
              · skip
                refine lv_iconst (v := 0) hx hb dX5_edit_100 (by decide) ?_
                exact J101 _ (by first | exact bo_p (bo_lt c7) | exact bo_n (bo_nle c7))
              · skip
                refine lv_iconst (v := 1) hx hb dX5_edit_96 (by decide) ?_
                refine lv_goto (tgt := 101) hx hb dX5_edit_97 (by decide) ?_
                exact J101 _ (by first | exact bo_p (bo_lt c7) | exact bo_n (bo_nle c7))
          · skip
            refine lv_iload hx hb dX5_edit_64 (lv_at hl 4 rfl) ?_
            refine lv_aload_n hx hb dX5_edit_66 rfl (lv_at hl 0 rfl) ?_
            refine lv_iload_n hx hb dX5_edit_67 rfl (lv_at hl 2 rfl) ?_
            refine rc_V (fr := 0) (lo := 0) (As := [.int (nI wi)]) (rest := [.int d]) hF (m_X5_directionNow l D cI o a (up2 mm 19 0 0) wi (by omega) hL hL4) ke_X5_directionNow wd_l_X5_101 (by decide) mo_blind (fun U hU hv => ⟨by rw [hU]; exact hM, hK.moved hv⟩) (mo_recv hK hM) rfl hl.1 rfl (Nat.le_of_ble_eq_true rfl) dX5_edit_68 hf (fun r10 hr10 => ?_)
            replace hr10 : r10 = sp_vd (mm 11 (sp_L mm wi)) := hr10
            subst hr10
            refine lv_icmp_ne (tgt := 81) hx hb dX5_edit_71 (by decide) (fun c6 => ?_) (fun c6 => ?_)
            · skip
              have hNE : ¬ (k = sp_vk (mm 11 (sp_L mm wi)) ∧ d = sp_vd (mm 11 (sp_L mm wi))) := fun q => c6 q.2
              refine bo_cut (ls := ls) (tgt := 101) (E := if mm 6 wi ≤ mm 0 fi then 1 else 0) (rest := []) (fun vi evi => ?_) (fun J101 => ?_)
              · skip
                refine lv_istore (lv' := [(5, .int vi), (0, .ref o), (1, .int (nI fi)), (2, .int (nI wi)), (3, .int k), (4, .int d)]) hx hb dX5_edit_101 hl (by decide) rfl (fun ls hl => ?_)
                refine lv_iload hx hb dX5_edit_103 (lv_at hl 0 rfl) ?_
                refine bo_eq (tgt := 120) evi hx hb dX5_edit_105 (by decide) (fun c8 => ?_) (fun c8 => ?_)
                · skip
                  refine lv_aload_n hx hb dX5_edit_120 rfl (lv_at hl 1 rfl) ?_
                  refine mo_get hF hK hM 9 (by decide) wd_f_X5_34 rfl dX5_edit_121 ?_
                  refine lv_iload_n hx hb dX5_edit_124 rfl (lv_at hl 3 rfl) ?_
                  refine lv_bipush (v := 100) hx hb dX5_edit_125 (by decide) ?_
                  refine lv_iload_n hx hb dX5_edit_127 rfl (lv_at hl 4 rfl) ?_
                  refine lv_imul hx hb dX5_edit_128 ?_
                  refine lv_bipush (v := 10) hx hb dX5_edit_129 (by decide) ?_
                  refine lv_iload hx hb dX5_edit_131 (lv_at hl 5 rfl) ?_
                  refine lv_imul hx hb dX5_edit_133 ?_
                  refine lv_iadd hx hb dX5_edit_134 ?_
                  refine lv_iload_n hx hb dX5_edit_135 rfl (lv_at hl 2 rfl) ?_
                  refine lv_iadd hx hb dX5_edit_136 ?_
                  refine lv_iconst (v := 1) hx hb dX5_edit_137 (by decide) ?_
                  refine lv_iadd hx hb dX5_edit_138 ?_
                  refine mo_ast (mm := (up2 mm 19 0 0)) hF hK hM hMD hS hA 9 wi (by decide) rfl (show wi < 40 by omega) dX5_edit_139 (fun H locs hM hS => ?_)
                  refine lv_iload hx hb dX5_edit_140 (lv_at hl 0 rfl) ?_
                  exact mo_zret hx hb hr hlk (bo_bit evi) hK hM hS (by rw [evi, hE, if_pos (And.intro c3 c4), if_neg hNE, if_neg c8, if_neg c8]; rfl) dX5_edit_142
                · skip
                  refine lv_aload_n hx hb dX5_edit_108 rfl (lv_at hl 1 rfl) ?_
                  refine lv_iload_n hx hb dX5_edit_109 rfl (lv_at hl 3 rfl) ?_
                  refine lv_iload_n hx hb dX5_edit_110 rfl (lv_at hl 4 rfl) ?_
                  refine lv_iload hx hb dX5_edit_111 (lv_at hl 5 rfl) ?_
                  refine lv_iload_n hx hb dX5_edit_113 rfl (lv_at hl 2 rfl) ?_
                  refine mo_vV (fr := 0) (lo := 0) (As := [.int (nI wi), .int k, .int d, .int (nI fi)]) (rest := []) hF (m_X5_makes l D cI o a (up2 mm 19 0 0) hMD wi k d (nI fi) (by omega) hI.K hI.K4200) ke_X5_makes wd_l_X5_91 (by decide) hK hM hS hA rfl hl.1 rfl (Nat.le_of_ble_eq_true rfl) dX5_edit_114 hf (fun mm13 H locs hmm13 hM hS => ?_)
                  subst hmm13
                  refine lv_goto (tgt := 140) hx hb dX5_edit_117 (by decide) ?_
                  refine lv_iload hx hb dX5_edit_140 (lv_at hl 0 rfl) ?_
                  exact mo_zret hx hb hr hlk (bo_bit evi) hK hM hS (by rw [evi, hE, if_pos (And.intro c3 c4), if_neg hNE, if_pos c8, if_pos c8]) dX5_edit_142
              · skip
                refine lv_aload_n hx hb dX5_edit_81 rfl (lv_at hl 0 rfl) ?_
                refine mo_get hF hK hM 0 (by decide) wd_f_X5_7 rfl dX5_edit_82 ?_
                refine lv_iload_n hx hb dX5_edit_85 rfl (lv_at hl 1 rfl) ?_
                refine mo_ald hF hK hM 0 fi (by decide) rfl (by exact hf6) dX5_edit_86 ?_
                refine bo_to (v := (mm 0 fi)) (up2_c (by decide)) ?_
                refine lv_aload_n hx hb dX5_edit_87 rfl (lv_at hl 0 rfl) ?_
                refine mo_get hF hK hM 6 (by decide) wd_f_X5_25 rfl dX5_edit_88 ?_
                refine lv_iload_n hx hb dX5_edit_91 rfl (lv_at hl 2 rfl) ?_
                refine mo_ald hF hK hM 6 wi (by decide) rfl (show wi < 40 by omega) dX5_edit_92 ?_
                refine bo_to (v := (mm 6 wi)) (up2_c (by decide)) ?_
                refine lv_icmp_lt (tgt := 100) hx hb dX5_edit_93 (by decide) (fun c7 => ?_) (fun c7 => ?_)
                · skip
                  refine lv_iconst (v := 0) hx hb dX5_edit_100 (by decide) ?_
                  exact J101 _ (by first | exact bo_p (bo_lt c7) | exact bo_n (bo_nle c7))
                · skip
                  refine lv_iconst (v := 1) hx hb dX5_edit_96 (by decide) ?_
                  refine lv_goto (tgt := 101) hx hb dX5_edit_97 (by decide) ?_
                  exact J101 _ (by first | exact bo_p (bo_lt c7) | exact bo_n (bo_nle c7))
            · skip
              refine lv_aload_n hx hb dX5_edit_74 rfl (lv_at hl 0 rfl) ?_
              refine lv_iconst (v := 3) hx hb dX5_edit_75 (by decide) ?_
              refine mo_put (mm := (up2 mm 19 0 0)) hF hK hM hMD hS hA 19 (by decide) wd_f_X5_61 dX5_edit_76 (fun H locs hM hS => ?_)
              refine lv_iconst (v := 0) hx hb dX5_edit_79 (by decide) ?_
              exact mo_zret hx hb hr hlk (by first | exact Or.inl rfl | exact Or.inr rfl) hK hM hS (by rw [hE, if_pos (And.intro c3 c4), if_pos (And.intro c5 c6)]) dX5_edit_80
        · skip
          have hNR : ¬ ((0 ≤ k ∧ k ≤ 3) ∧ (0 ≤ d ∧ d ≤ 2)) := fun q => c4 q.2
          refine lv_aload_n hx hb dX5_edit_48 rfl (lv_at hl 0 rfl) ?_
          refine lv_iconst (v := 2) hx hb dX5_edit_49 (by decide) ?_
          refine mo_put (mm := (up2 mm 19 0 0)) hF hK hM hMD hS hA 19 (by decide) wd_f_X5_61 dX5_edit_50 (fun H locs hM hS => ?_)
          refine lv_iconst (v := 0) hx hb dX5_edit_53 (by decide) ?_
          exact mo_zret hx hb hr hlk (by first | exact Or.inl rfl | exact Or.inr rfl) hK hM hS (by rw [hE, if_neg hNR]) dX5_edit_54
    · skip
      rw [if_neg cP] at hM
      refine lv_iconst (v := 0) hx hb dX5_edit_27 (by decide) ?_
      exact mo_zret hx hb hr hlk (by first | exact Or.inl rfl | exact Or.inr rfl) hK hM hS (by rw [sp_edit, if_neg cP]) dX5_edit_28
  · skip
    refine lv_iload_n hx hb dX5_edit_1 rfl (lv_at hl 1 rfl) ?_
    refine rc_S (fr := 0) (lo := 0) (As := [.int x]) (rest := [.ref o]) hF (m_X5_isEditor l x) ke_X5_isEditor wd_l_X5_75 (by decide) bl_true (fun _ _ _ => trivial) rfl hl.1 rfl (Nat.le_of_ble_eq_true rfl) dX5_edit_2 hf (fun r14 hr14 => ?_)
    refine bo_eq (tgt := 20) hr14 hx hb dX5_edit_5 (by decide) (fun c1 => ?_) (fun c1 => ?_)
    · skip
      refine lv_iconst (v := 0) hx hb dX5_edit_20 (by decide) ?_
      exact J21 _ (by first | exact bo_y c1 c2 | exact bo_n1 c1 | exact bo_n2 c2)
    · skip
      refine lv_aload_n hx hb dX5_edit_8 rfl (lv_at hl 0 rfl) ?_
      refine lv_iload_n hx hb dX5_edit_9 rfl (lv_at hl 2 rfl) ?_
      refine rc_V (fr := 0) (lo := 0) (As := [.int y]) (rest := [.ref o]) hF (m_X5_isWay l D cI o a mm y) ke_X5_isWay wd_l_X5_95 (by decide) mo_blind (fun U hU hv => ⟨by rw [hU]; exact hM, hK.moved hv⟩) (mo_recv hK hM) rfl hl.1 rfl (Nat.le_of_ble_eq_true rfl) dX5_edit_10 hf (fun r15 hr15 => ?_)
      refine bo_eq (tgt := 20) hr15 hx hb dX5_edit_13 (by decide) (fun c2 => ?_) (fun c2 => ?_)
      · skip
        refine lv_iconst (v := 0) hx hb dX5_edit_20 (by decide) ?_
        exact J21 _ (by first | exact bo_y c1 c2 | exact bo_n1 c1 | exact bo_n2 c2)
      · skip
        refine lv_iconst (v := 1) hx hb dX5_edit_16 (by decide) ?_
        refine lv_goto (tgt := 21) hx hb dX5_edit_17 (by decide) ?_
        exact J21 _ (by first | exact bo_y c1 c2 | exact bo_n1 c1 | exact bo_n2 c2)
theorem ke_X5_trusts : wl_V RX5 yX5_trusts cX5_trusts 4 none 2 := ⟨wd_c_X5_trusts, wd_i_X5_trusts, wd_s_X5_trusts, wd_n_X5, by decide, by decide +kernel⟩
set_option maxHeartbeats 4000000 in
set_option maxRecDepth 100000 in
theorem m_X5_trusts (l : Launch) (D : va_G) (cI : ClassId) (o : Nat) (a : Nat → Nat) (mm : q_Mem) (hMD : mo_D o a) (f : Nat) (x : Int32) (hf6 : f < 6) : mo_Cv l yX5_trusts cX5_trusts 4 none 0 0 D cI o a mm [.int (nI f), .int x] (fun m1 => m1 = sp_tru mm f x) := by
  refine mo_ofQ (by decide) (Nat.le_of_ble_eq_true rfl) ?_
  intro p e s m args below meth c hx hb hr hF hlk hM hK hS ls hl
  have hA : ∀ q, mo_R o a q → mo_R o a q := fun _ h => h
  have hl : lv_has ls 4 [(0, .ref o), (1, .int (nI f)), (2, .int x)] := hl
  have hf : (0 : Nat) ≤ 0 ∧ (0 : Nat) ≤ 0 := ⟨Nat.le_refl 0, Nat.le_refl 0⟩
  refine lv_aload_n hx hb dX5_trusts_0 rfl (lv_at hl 0 rfl) ?_
  refine mo_get hF hK hM 0 (by decide) wd_f_X5_7 rfl dX5_trusts_1 ?_
  refine lv_iload_n hx hb dX5_trusts_4 rfl (lv_at hl 1 rfl) ?_
  refine mo_ald hF hK hM 0 f (by decide) rfl (by exact hf6) dX5_trusts_5 ?_
  refine lv_iload_n hx hb dX5_trusts_6 rfl (lv_at hl 2 rfl) ?_
  refine lv_iadd hx hb dX5_trusts_7 ?_
  refine lv_topi (fun t0 et => ?_)
  refine lv_istore_n (lv' := [(3, .int t0), (0, .ref o), (1, .int (nI f)), (2, .int x)]) hx hb dX5_trusts_8 rfl hl (by decide) rfl (fun ls hl => ?_)
  refine lv_aload_n hx hb dX5_trusts_9 rfl (lv_at hl 1 rfl) ?_
  refine mo_get hF hK hM 0 (by decide) wd_f_X5_7 rfl dX5_trusts_10 ?_
  refine lv_iload_n hx hb dX5_trusts_13 rfl (lv_at hl 2 rfl) ?_
  refine bo_cut (ls := ls) (tgt := 34) (E := sp_lim (mm 0 f + x)) (rest := [.int (nI f), .ref (a 0)]) (fun vt evt => ?_) (fun J34 => ?_)
  · skip
    refine mo_ast (mm := mm) hF hK hM hMD hS hA 0 f (by decide) rfl (by exact hf6) dX5_trusts_34 (fun H locs hM hS => ?_)
    exact mo_vret hx hb hr hlk hK hM hS (by subst evt; rfl) dX5_trusts_35
  · skip
    refine lv_iload_n hx hb dX5_trusts_14 rfl (lv_at hl 0 rfl) ?_
    refine lv_if_ge (tgt := 22) hx hb dX5_trusts_15 (by decide) (fun c1 => ?_) (fun c1 => ?_)
    · skip
      replace c1 := bo_nlt c1
      refine lv_iload_n hx hb dX5_trusts_22 rfl (lv_at hl 0 rfl) ?_
      refine lv_bipush (v := 100) hx hb dX5_trusts_23 (by decide) ?_
      refine lv_icmp_le (tgt := 33) hx hb dX5_trusts_25 (by decide) (fun c2 => ?_) (fun c2 => ?_)
      · skip
        replace c2 := bo_nlt c2
        refine lv_iload_n hx hb dX5_trusts_33 rfl (lv_at hl 0 rfl) ?_
        exact J34 _ (by first | (rw [← et, sp_lim, if_pos c1]; done) | (rw [← et, sp_lim, if_neg c1, if_pos c2]; done) | (rw [← et, sp_lim, if_neg c1, if_neg c2]; done))
      · skip
        replace c2 := bo_le c2
        refine lv_bipush (v := 100) hx hb dX5_trusts_28 (by decide) ?_
        refine lv_goto (tgt := 34) hx hb dX5_trusts_30 (by decide) ?_
        exact J34 _ (by first | (rw [← et, sp_lim, if_pos c1]; done) | (rw [← et, sp_lim, if_neg c1, if_pos c2]; done) | (rw [← et, sp_lim, if_neg c1, if_neg c2]; done))
    · skip
      replace c1 := bo_le c1
      refine lv_iconst (v := 0) hx hb dX5_trusts_18 (by decide) ?_
      refine lv_goto (tgt := 34) hx hb dX5_trusts_19 (by decide) ?_
      exact J34 _ (by first | (rw [← et, sp_lim, if_pos c1]; done) | (rw [← et, sp_lim, if_neg c1, if_pos c2]; done) | (rw [← et, sp_lim, if_neg c1, if_neg c2]; done))
