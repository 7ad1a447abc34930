theorem dX5_makes_0 : decode cX5_makes 0 = .ok (.aload_n 0, 1) := by decide +kernel
theorem dX5_makes_1 : decode cX5_makes 1 = .ok (.getfield 37, 3) := by decide +kernel
theorem dX5_makes_4 : decode cX5_makes 4 = .ok (.aload_n 0, 1) := by decide +kernel
theorem dX5_makes_5 : decode cX5_makes 5 = .ok (.getfield 72, 3) := by decide +kernel
theorem dX5_makes_8 : decode cX5_makes 8 = .ok (.sipush 1000, 3) := by decide +kernel
theorem dX5_makes_11 : decode cX5_makes 11 = .ok (.iload_n 1, 1) := by decide +kernel
theorem dX5_makes_12 : decode cX5_makes 12 = .ok (.imul, 1) := by decide +kernel
theorem dX5_makes_13 : decode cX5_makes 13 = .ok (.bipush 100, 2) := by decide +kernel
theorem dX5_makes_15 : decode cX5_makes 15 = .ok (.iload_n 2, 1) := by decide +kernel
theorem dX5_makes_16 : decode cX5_makes 16 = .ok (.imul, 1) := by decide +kernel
theorem dX5_makes_17 : decode cX5_makes 17 = .ok (.iadd, 1) := by decide +kernel
theorem dX5_makes_18 : decode cX5_makes 18 = .ok (.bipush 10, 2) := by decide +kernel
theorem dX5_makes_20 : decode cX5_makes 20 = .ok (.iload_n 3, 1) := by decide +kernel
theorem dX5_makes_21 : decode cX5_makes 21 = .ok (.imul, 1) := by decide +kernel
theorem dX5_makes_22 : decode cX5_makes 22 = .ok (.iadd, 1) := by decide +kernel
theorem dX5_makes_23 : decode cX5_makes 23 = .ok (.iload 4, 2) := by decide +kernel
theorem dX5_makes_25 : decode cX5_makes 25 = .ok (.iadd, 1) := by decide +kernel
theorem dX5_makes_26 : decode cX5_makes 26 = .ok (.iconst 1, 1) := by decide +kernel
theorem dX5_makes_27 : decode cX5_makes 27 = .ok (.iadd, 1) := by decide +kernel
theorem dX5_makes_28 : decode cX5_makes 28 = .ok (.iastore, 1) := by decide +kernel
theorem dX5_makes_29 : decode cX5_makes 29 = .ok (.aload_n 0, 1) := by decide +kernel
theorem dX5_makes_30 : decode cX5_makes 30 = .ok (.getfield 40, 3) := by decide +kernel
theorem dX5_makes_33 : decode cX5_makes 33 = .ok (.aload_n 0, 1) := by decide +kernel
theorem dX5_makes_34 : decode cX5_makes 34 = .ok (.getfield 72, 3) := by decide +kernel
theorem dX5_makes_37 : decode cX5_makes 37 = .ok (.aload_n 0, 1) := by decide +kernel
theorem dX5_makes_38 : decode cX5_makes 38 = .ok (.getfield 28, 3) := by decide +kernel
theorem dX5_makes_41 : decode cX5_makes 41 = .ok (.iload_n 1, 1) := by decide +kernel
theorem dX5_makes_42 : decode cX5_makes 42 = .ok (.iaload, 1) := by decide +kernel
theorem dX5_makes_43 : decode cX5_makes 43 = .ok (.ifCond .ne 7, 3) := by decide +kernel
theorem dX5_makes_46 : decode cX5_makes 46 = .ok (.iconst (-1), 1) := by decide +kernel
theorem dX5_makes_47 : decode cX5_makes 47 = .ok (.goto 9, 3) := by decide +kernel
theorem dX5_makes_50 : decode cX5_makes 50 = .ok (.aload_n 0, 1) := by decide +kernel
theorem dX5_makes_51 : decode cX5_makes 51 = .ok (.getfield 31, 3) := by decide +kernel
theorem dX5_makes_54 : decode cX5_makes 54 = .ok (.iload_n 1, 1) := by decide +kernel
theorem dX5_makes_55 : decode cX5_makes 55 = .ok (.iaload, 1) := by decide +kernel
theorem dX5_makes_56 : decode cX5_makes 56 = .ok (.iastore, 1) := by decide +kernel
theorem dX5_makes_57 : decode cX5_makes 57 = .ok (.aload_n 0, 1) := by decide +kernel
theorem dX5_makes_58 : decode cX5_makes 58 = .ok (.getfield 31, 3) := by decide +kernel
theorem dX5_makes_61 : decode cX5_makes 61 = .ok (.iload_n 1, 1) := by decide +kernel
theorem dX5_makes_62 : decode cX5_makes 62 = .ok (.aload_n 0, 1) := by decide +kernel
theorem dX5_makes_63 : decode cX5_makes 63 = .ok (.getfield 72, 3) := by decide +kernel
theorem dX5_makes_66 : decode cX5_makes 66 = .ok (.iastore, 1) := by decide +kernel
theorem dX5_makes_67 : decode cX5_makes 67 = .ok (.aload_n 0, 1) := by decide +kernel
theorem dX5_makes_68 : decode cX5_makes 68 = .ok (.getfield 28, 3) := by decide +kernel
theorem dX5_makes_71 : decode cX5_makes 71 = .ok (.iload_n 1, 1) := by decide +kernel
theorem dX5_makes_72 : decode cX5_makes 72 = .ok (.dup2, 1) := by decide +kernel
theorem dX5_makes_73 : decode cX5_makes 73 = .ok (.iaload, 1) := by decide +kernel
theorem dX5_makes_74 : decode cX5_makes 74 = .ok (.iconst 1, 1) := by decide +kernel
theorem dX5_makes_75 : decode cX5_makes 75 = .ok (.iadd, 1) := by decide +kernel
theorem dX5_makes_76 : decode cX5_makes 76 = .ok (.iastore, 1) := by decide +kernel
theorem dX5_makes_77 : decode cX5_makes 77 = .ok (.aload_n 0, 1) := by decide +kernel
theorem dX5_makes_78 : decode cX5_makes 78 = .ok (.getfield 34, 3) := by decide +kernel
theorem dX5_makes_81 : decode cX5_makes 81 = .ok (.iload_n 1, 1) := by decide +kernel
theorem dX5_makes_82 : decode cX5_makes 82 = .ok (.iconst (-1), 1) := by decide +kernel
theorem dX5_makes_83 : decode cX5_makes 83 = .ok (.iastore, 1) := by decide +kernel
theorem dX5_makes_84 : decode cX5_makes 84 = .ok (.aload_n 0, 1) := by decide +kernel
theorem dX5_makes_85 : decode cX5_makes 85 = .ok (.dup, 1) := by decide +kernel
theorem dX5_makes_86 : decode cX5_makes 86 = .ok (.getfield 72, 3) := by decide +kernel
theorem dX5_makes_89 : decode cX5_makes 89 = .ok (.iconst 1, 1) := by decide +kernel
theorem dX5_makes_90 : decode cX5_makes 90 = .ok (.iadd, 1) := by decide +kernel
theorem dX5_makes_91 : decode cX5_makes 91 = .ok (.putfield 72, 3) := by decide +kernel
theorem dX5_makes_94 : decode cX5_makes 94 = .ok (.return_, 1) := by decide +kernel
theorem ke_X5_makes : wl_V RX5 yX5_makes cX5_makes 5 none 4 := ⟨wd_c_X5_makes, wd_i_X5_makes, wd_s_X5_makes, wd_n_X5, by decide, by decide +kernel⟩
set_option maxHeartbeats 4000000 in
set_option maxRecDepth 100000 in
theorem m_X5_makes (l : Launch) (D : va_G) (cI : ClassId) (o : Nat) (a : Nat → Nat) (mm : q_Mem) (hMD : mo_D o a) (w : Nat) (k d f : Int32) (hw : w < 40) (hK1 : mm 10 0 = nI (sp_K mm)) (hK2 : sp_K mm < 4200) : mo_Cv l yX5_makes cX5_makes 5 none 0 0 D cI o a mm [.int (nI w), .int k, .int d, .int f] (fun m1 => m1 = sp_make mm w k d f) := by
  refine mo_ofQ (by decide) (Nat.le_of_ble_eq_true rfl) ?_
  intro p e s m args below meth c hx hb hr hF hlk hM hK hS ls hl
  have hA : ∀ q, mo_R o a q → mo_R o a q := fun _ h => h
  have hl : lv_has ls 5 [(0, .ref o), (1, .int (nI w)), (2, .int k), (3, .int d), (4, .int f)] := hl
  have hf : (0 : Nat) ≤ 0 ∧ (0 : Nat) ≤ 0 := ⟨Nat.le_refl 0, Nat.le_refl 0⟩
  refine lv_aload_n hx hb dX5_makes_0 rfl (lv_at hl 0 rfl) ?_
  refine mo_get hF hK hM 11 (by decide) wd_f_X5_37 rfl dX5_makes_1 ?_
  refine lv_aload_n hx hb dX5_makes_4 rfl (lv_at hl 0 rfl) ?_
  refine mo_get hF hK hM 10 (by decide) wd_f_X5_72 rfl dX5_makes_5 ?_
  refine lv_sipush (v := 1000) hx hb dX5_makes_8 (by decide) ?_
  refine lv_iload_n hx hb dX5_makes_11 rfl (lv_at hl 1 rfl) ?_
  refine lv_imul hx hb dX5_makes_12 ?_
  refine lv_bipush (v := 100) hx hb dX5_makes_13 (by decide) ?_
  refine lv_iload_n hx hb dX5_makes_15 rfl (lv_at hl 2 rfl) ?_
  refine lv_imul hx hb dX5_makes_16 ?_
  refine lv_iadd hx hb dX5_makes_17 ?_
  refine lv_bipush (v := 10) hx hb dX5_makes_18 (by decide) ?_
  refine lv_iload_n hx hb dX5_makes_20 rfl (lv_at hl 3 rfl) ?_
  refine lv_imul hx hb dX5_makes_21 ?_
  refine lv_iadd hx hb dX5_makes_22 ?_
  refine lv_iload hx hb dX5_makes_23 (lv_at hl 4 rfl) ?_
  refine lv_iadd hx hb dX5_makes_25 ?_
  refine lv_iconst (v := 1) hx hb dX5_makes_26 (by decide) ?_
  refine lv_iadd hx hb dX5_makes_27 ?_
  refine mo_ast (mm := mm) hF hK hM hMD hS hA 11 (sp_K mm) (by decide) hK1 (by exact hK2) dX5_makes_28 (fun H locs hM hS => ?_)
  refine lv_aload_n hx hb dX5_makes_29 rfl (lv_at hl 0 rfl) ?_
  refine mo_get hF hK hM 12 (by decide) wd_f_X5_40 rfl dX5_makes_30 ?_
  refine lv_aload_n hx hb dX5_makes_33 rfl (lv_at hl 0 rfl) ?_
  refine mo_get hF hK hM 10 (by decide) wd_f_X5_72 rfl dX5_makes_34 ?_
  refine bo_to (v := (mm 10 0)) (up2_c (by decide)) ?_
  refine bo_cut (ls := ls) (tgt := 56) (E := if mm 7 w = 0 then -1 else mm 8 w) (rest := [.int (mm 10 0), .ref (a 12)]) (fun vj evj => ?_) (fun J56 => ?_)
  · skip
    refine mo_ast (mm := (up2 mm 11 (sp_K mm) (((((1000 * (nI w)) + (100 * k)) + (10 * d)) + f) + 1))) hF hK hM hMD hS hA 12 (sp_K mm) (by decide) hK1 (by exact hK2) dX5_makes_56 (fun H locs hM hS => ?_)
    refine lv_aload_n hx hb dX5_makes_57 rfl (lv_at hl 0 rfl) ?_
    refine mo_get hF hK hM 8 (by decide) wd_f_X5_31 rfl dX5_makes_58 ?_
    refine lv_iload_n hx hb dX5_makes_61 rfl (lv_at hl 1 rfl) ?_
    refine lv_aload_n hx hb dX5_makes_62 rfl (lv_at hl 0 rfl) ?_
    refine mo_get hF hK hM 10 (by decide) wd_f_X5_72 rfl dX5_makes_63 ?_
    refine bo_to (v := (mm 10 0)) (Eq.trans (up2_c (by decide)) (up2_c (by decide))) ?_
    refine mo_ast (mm := (up2 (up2 mm 11 (sp_K mm) (((((1000 * (nI w)) + (100 * k)) + (10 * d)) + f) + 1)) 12 (sp_K mm) vj)) hF hK hM hMD hS hA 8 w (by decide) rfl (by exact hw) dX5_makes_66 (fun H locs hM hS => ?_)
    refine lv_aload_n hx hb dX5_makes_67 rfl (lv_at hl 0 rfl) ?_
    refine mo_get hF hK hM 7 (by decide) wd_f_X5_28 rfl dX5_makes_68 ?_
    refine lv_iload_n hx hb dX5_makes_71 rfl (lv_at hl 1 rfl) ?_
    refine lv_dup2_11 hx hb dX5_makes_72 rfl rfl ?_
    refine mo_ald hF hK hM 7 w (by decide) rfl (by exact hw) dX5_makes_73 ?_
    refine bo_to (v := (mm 7 w)) (Eq.trans (up2_c (by decide)) (Eq.trans (up2_c (by decide)) (up2_c (by decide)))) ?_
    refine lv_iconst (v := 1) hx hb dX5_makes_74 (by decide) ?_
    refine lv_iadd hx hb dX5_makes_75 ?_
    refine mo_ast (mm := (up2 (up2 (up2 mm 11 (sp_K mm) (((((1000 * (nI w)) + (100 * k)) + (10 * d)) + f) + 1)) 12 (sp_K mm) vj) 8 w (mm 10 0))) hF hK hM hMD hS hA 7 w (by decide) rfl (by exact hw) dX5_makes_76 (fun H locs hM hS => ?_)
    refine lv_aload_n hx hb dX5_makes_77 rfl (lv_at hl 0 rfl) ?_
    refine mo_get hF hK hM 9 (by decide) wd_f_X5_34 rfl dX5_makes_78 ?_
    refine lv_iload_n hx hb dX5_makes_81 rfl (lv_at hl 1 rfl) ?_
    refine lv_iconst (v := (-1)) hx hb dX5_makes_82 (by decide) ?_
    refine mo_ast (mm := (up2 (up2 (up2 (up2 mm 11 (sp_K mm) (((((1000 * (nI w)) + (100 * k)) + (10 * d)) + f) + 1)) 12 (sp_K mm) vj) 8 w (mm 10 0)) 7 w ((mm 7 w) + 1))) hF hK hM hMD hS hA 9 w (by decide) rfl (by exact hw) dX5_makes_83 (fun H locs hM hS => ?_)
    refine lv_aload_n hx hb dX5_makes_84 rfl (lv_at hl 0 rfl) ?_
    refine lv_dup hx hb dX5_makes_85 rfl ?_
    refine mo_get hF hK hM 10 (by decide) wd_f_X5_72 rfl dX5_makes_86 ?_
    refine bo_to (v := (mm 10 0)) (Eq.trans (up2_c (by decide)) (Eq.trans (up2_c (by decide)) (Eq.trans (up2_c (by decide)) (Eq.trans (up2_c (by decide)) (up2_c (by decide)))))) ?_
    refine lv_iconst (v := 1) hx hb dX5_makes_89 (by decide) ?_
    refine lv_iadd hx hb dX5_makes_90 ?_
    refine mo_put (mm := (up2 (up2 (up2 (up2 (up2 mm 11 (sp_K mm) (((((1000 * (nI w)) + (100 * k)) + (10 * d)) + f) + 1)) 12 (sp_K mm) vj) 8 w (mm 10 0)) 7 w ((mm 7 w) + 1)) 9 w (-1))) hF hK hM hMD hS hA 10 (by decide) wd_f_X5_72 dX5_makes_91 (fun H locs hM hS => ?_)
    have hM := mo_gh (k := 21) (i := sp_K mm) (v := if mm 7 w = 0 then 0 else mm 21 (sp_L mm w) + 1) (by decide) hM
    exact mo_vret hx hb hr hlk hK hM hS (by subst evj; rfl) dX5_makes_94
  · skip
    refine lv_aload_n hx hb dX5_makes_37 rfl (lv_at hl 0 rfl) ?_
    refine mo_get hF hK hM 7 (by decide) wd_f_X5_28 rfl dX5_makes_38 ?_
    refine lv_iload_n hx hb dX5_makes_41 rfl (lv_at hl 1 rfl) ?_
    refine mo_ald hF hK hM 7 w (by decide) rfl (by exact hw) dX5_makes_42 ?_
    refine bo_to (v := (mm 7 w)) (up2_c (by decide)) ?_
    refine lv_if_ne (tgt := 50) hx hb dX5_makes_43 (by decide) (fun c1 => ?_) (fun c1 => ?_)
    · skip
      refine lv_aload_n hx hb dX5_makes_50 rfl (lv_at hl 0 rfl) ?_
      refine mo_get hF hK hM 8 (by decide) wd_f_X5_31 rfl dX5_makes_51 ?_
      refine lv_iload_n hx hb dX5_makes_54 rfl (lv_at hl 1 rfl) ?_
      refine mo_ald hF hK hM 8 w (by decide) rfl (by exact hw) dX5_makes_55 ?_
      refine bo_to (v := (mm 8 w)) (up2_c (by decide)) ?_
      exact J56 _ (by first | exact (if_pos c1).symm | exact (if_neg c1).symm)
    · skip
      refine lv_iconst (v := (-1)) hx hb dX5_makes_46 (by decide) ?_
      refine lv_goto (tgt := 56) hx hb dX5_makes_47 (by decide) ?_
      exact J56 _ (by first | exact (if_pos c1).symm | exact (if_neg c1).symm)
