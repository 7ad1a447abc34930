theorem dX4_draw_0 : decode cX4_draw 0 = .ok (.iload_n 1, 1) := by decide +kernel
theorem dX4_draw_1 : decode cX4_draw 1 = .ok (.iload_n 2, 1) := by decide +kernel
theorem dX4_draw_2 : decode cX4_draw 2 = .ok (.iload_n 3, 1) := by decide +kernel
theorem dX4_draw_3 : decode cX4_draw 3 = .ok (.invokestatic 168, 3) := by decide +kernel
theorem dX4_draw_6 : decode cX4_draw 6 = .ok (.istore 4, 2) := by decide +kernel
theorem dX4_draw_8 : decode cX4_draw 8 = .ok (.aload_n 0, 1) := by decide +kernel
theorem dX4_draw_9 : decode cX4_draw 9 = .ok (.getfield 28, 3) := by decide +kernel
theorem dX4_draw_12 : decode cX4_draw 12 = .ok (.iload 4, 2) := by decide +kernel
theorem dX4_draw_14 : decode cX4_draw 14 = .ok (.aaload, 1) := by decide +kernel
theorem dX4_draw_15 : decode cX4_draw 15 = .ok (.astore 5, 2) := by decide +kernel
theorem dX4_draw_17 : decode cX4_draw 17 = .ok (.aload 5, 2) := by decide +kernel
theorem dX4_draw_19 : decode cX4_draw 19 = .ok (.ifnonnull 24, 3) := by decide +kernel
theorem dX4_draw_22 : decode cX4_draw 22 = .ok (.new 26, 3) := by decide +kernel
theorem dX4_draw_25 : decode cX4_draw 25 = .ok (.dup, 1) := by decide +kernel
theorem dX4_draw_26 : decode cX4_draw 26 = .ok (.iload_n 1, 1) := by decide +kernel
theorem dX4_draw_27 : decode cX4_draw 27 = .ok (.iload_n 2, 1) := by decide +kernel
theorem dX4_draw_28 : decode cX4_draw 28 = .ok (.iload_n 3, 1) := by decide +kernel
theorem dX4_draw_29 : decode cX4_draw 29 = .ok (.invokespecial 172, 3) := by decide +kernel
theorem dX4_draw_32 : decode cX4_draw 32 = .ok (.astore 5, 2) := by decide +kernel
theorem dX4_draw_34 : decode cX4_draw 34 = .ok (.aload_n 0, 1) := by decide +kernel
theorem dX4_draw_35 : decode cX4_draw 35 = .ok (.getfield 28, 3) := by decide +kernel
theorem dX4_draw_38 : decode cX4_draw 38 = .ok (.iload 4, 2) := by decide +kernel
theorem dX4_draw_40 : decode cX4_draw 40 = .ok (.aload 5, 2) := by decide +kernel
theorem dX4_draw_42 : decode cX4_draw 42 = .ok (.aastore, 1) := by decide +kernel
theorem dX4_draw_43 : decode cX4_draw 43 = .ok (.aload_n 0, 1) := by decide +kernel
theorem dX4_draw_44 : decode cX4_draw 44 = .ok (.aload 5, 2) := by decide +kernel
theorem dX4_draw_46 : decode cX4_draw 46 = .ok (.invokevirtual 173, 3) := by decide +kernel
theorem dX4_draw_49 : decode cX4_draw 49 = .ok (.aload_n 0, 1) := by decide +kernel
theorem dX4_draw_50 : decode cX4_draw 50 = .ok (.aload 5, 2) := by decide +kernel
theorem dX4_draw_52 : decode cX4_draw 52 = .ok (.invokevirtual 177, 3) := by decide +kernel
theorem dX4_draw_55 : decode cX4_draw 55 = .ok (.ireturn, 1) := by decide +kernel
theorem draws_19 {mm : q_Mem} {t : Nat} {z x y : Int32} : sp_draws (up2 mm 19 0 0) t z x y = up2 (sp_draws mm t z x y) 19 0 0 := by
  have e : sp_pic (up2 mm 19 0 0) z x y (sp_K (up2 mm 19 0 0)) = sp_pic mm z x y (sp_K mm) := pic_x (fun k hk => up2_k (by omega)) z x y _
  have e10 : up2 mm 19 0 0 10 0 = mm 10 0 := up2_c (by decide)
  unfold sp_draws
  rw [e, e10, up2_comm (show (19 : Nat) ≠ 14 by decide), up2_comm (show (19 : Nat) ≠ 13 by decide)]
theorem draw_19 {G : k_G} {mm : q_Mem} {t : Nat} {z x y : Int32} (ad : k_Ad) : k_C G ad (sp_draws mm t z x y) = k_C G ad (sp_draws (up2 mm 19 0 0) t z x y) := by rw [draws_19, kc_19]
theorem draw_fin {mm : q_Mem} {z x y r : Int32} (hT : sp_tl z x y) (hr : r = it_n (sp_cnt1 (sp_draws mm (sp_t z x y) z x y) z x y) (sp_W (sp_draws mm (sp_t z x y) z x y)) 0) : sp_draw mm z x y = (r, sp_draws (up2 mm 19 0 0) (sp_t z x y) z x y) := by
  have eW : sp_W (sp_draws mm (sp_t z x y) z x y) = sp_W mm := by unfold sp_draws sp_W; rw [up2_c (by decide), up2_c (by decide)]
  have e : it_n (sp_cnt1 (sp_draws mm (sp_t z x y) z x y) z x y) (sp_W mm) 0 = it_n (sp_cnt1 (up2 mm 19 0 0) z x y) (sp_W mm) 0 := cnt_x (fun k hk => by unfold sp_draws; rw [up2_k (by omega), up2_k (by omega), up2_k (by omega)]) z x y _ _
  unfold sp_draw
  rw [if_pos hT, hr, eW, e]
  rfl
theorem ke_X4_draw : wl_V RX4 yX4_draw cX4_draw 6 (some .int) 3 := ⟨wd_c_X4_draw, wd_i_X4_draw, wd_s_X4_draw, wd_n_X4, by decide, by decide +kernel⟩
set_option maxHeartbeats 4000000 in
set_option maxRecDepth 100000 in
theorem m_X4_draw (l : Launch) (hflag : l.stackTraces = false) (G : k_G) (Z : Nat → Prop) (ad : k_Ad) (mm : q_Mem) (z x y : Int32) (hI : Inv mm) : kx_i l yX4_draw cX4_draw 6 (some .int) 8 133 3 19 G Z ad (k_C G ad mm) [.ref (ad 0 0), .int z, .int x, .int y] (k_po G ad (sp_draw mm z x y)) (k_px k_n3 (sp_draw mm z x y) mm) := by
  refine kx_of (by decide) (Nat.le_of_ble_eq_true rfl) ?_
  intro p e s m args below meth c hx hb hr hF hlk hnt hB ls hl
  obtain ⟨⟨hM, hN⟩, hK, hP, hT⟩ := hB
  have hS : va_S Z s.heap s.heap [] := va_S.rf
  have hl : lv_has ls 6 [(0, .ref (ad 0 0)), (1, .int z), (2, .int x), (3, .int y)] := hl
  refine lv_iload_n hx hb dX4_draw_0 rfl (lv_at hl 1 rfl) ?_
  refine lv_iload_n hx hb dX4_draw_1 rfl (lv_at hl 2 rfl) ?_
  refine lv_iload_n hx hb dX4_draw_2 rfl (lv_at hl 3 rfl) ?_
  refine kx_iS (fr := 7) (lo := 110) (mc1 := 2) (ms1 := 12) (As := [.int z, .int x, .int y]) (rest := []) hF (m_X4_tileIndex l hflag G Z ad (k_C G ad mm) z x y) ke_X4_tileIndex wd_l_X4_168 (by decide) hM hN hK hP hT hS rfl hl.1 rfl (Nat.le_of_ble_eq_true rfl) dX4_draw_3 (by decide) hnt hlk (fun E hE => ⟨⟨1, by decide, by rw [sp_draw, if_neg hE.2], hE.1⟩, rfl, rfl⟩) (by decide) (by decide) (fun r1 ur1 H locs hr1 hM hN hS _ _ => ?_)
  obtain ⟨cT, hro, rfl⟩ := hr1
  subst hro
  replace hM : k_H G ad (k_C G ad mm) H := hM
  replace hN : k_N Z ad (k_C G ad mm) := hN
  obtain ⟨tz, tx, ty, ht⟩ := tl_back cT
  refine lv_istore (lv' := [(4, .int (nI (sp_t z x y))), (0, .ref (ad 0 0)), (1, .int z), (2, .int x), (3, .int y)]) hx hb dX4_draw_6 hl (by decide) rfl (fun ls hl => ?_)
  refine lv_aload_n hx hb dX4_draw_8 rfl (lv_at hl 1 rfl) ?_
  refine g_get (C := RX4) (T := TX4) (N := 6) (v := .ref (ad 0 5)) hF hK (hM 0 0 _ rfl) rfl inlX4 4 (by decide) rfl wd_f_X4_28 rfl dX4_draw_9 ?_
  refine lv_iload hx hb dX4_draw_12 (lv_at hl 0 rfl) ?_
  refine g_aldq (t0 := 1) (i := sp_t z x y) hF hK (hM 0 5 _ rfl) rfl rfl ht (by decide) dX4_draw_14 ?_
  refine bo_toV (v := k_rf (mm 13 (sp_t z x y) = 0) (ad 6 (sp_t z x y))) (k_rf_tr _ _ _) ?_
  refine k_split (fun c1 => ?_) (fun c1 => ?_)
  · skip
    refine lv_astoreN (lv' := [(5, .null), (4, .int (nI (sp_t z x y))), (0, .ref (ad 0 0)), (1, .int z), (2, .int x), (3, .int y)]) hx hb dX4_draw_15 hl (by decide) rfl (fun ls hl => ?_)
    refine lv_aloadN hx hb dX4_draw_17 (lv_at hl 0 rfl) ?_
    refine lv_ifnonnullN hx hb dX4_draw_19 ?_
    refine k_new hF hK hM hN hS hT.2.2.2.2 6 (sp_t z x y) (if_neg (fun z => z.2 c1)) (ci := 2) (fs := [.int 0, .int 0, .int 0, .int 0, .int 0, .int 0, .int 0]) rfl inlX1 tyX1 tyX1_ok wd_k_X4_26 wd_a_X1 wd_n_X1 (by decide) (by decide) (by decide) dX4_draw_22 (fun q H hM hN hS => ?_)
    refine lv_dup hx hb dX4_draw_25 rfl ?_
    refine lv_iload_n hx hb dX4_draw_26 rfl (lv_at hl 3 rfl) ?_
    refine lv_iload_n hx hb dX4_draw_27 rfl (lv_at hl 4 rfl) ?_
    refine lv_iload_n hx hb dX4_draw_28 rfl (lv_at hl 5 rfl) ?_
    refine kx_vI (pX1 := fun _ => False) (post := fun u => u = ((k_ad ad 6 (sp_t z x y) q), k_up (k_up (k_C G ad mm) 6 (sp_t z x y) (.inr (2, [.int 0, .int 0, .int 0, .int 0, .int 0, .int 0, .int 0]))) 6 (sp_t z x y) (.inr (2, [.int (nI (tz_t (sp_t z x y))), .int ((nI (tx_t (sp_t z x y))) * sp_sd (nI (tz_t (sp_t z x y)))), .int ((nI (tx_t (sp_t z x y))) * sp_sd (nI (tz_t (sp_t z x y))) + sp_sd (nI (tz_t (sp_t z x y)))), .int ((nI (ty_t (sp_t z x y))) * sp_sd (nI (tz_t (sp_t z x y)))), .int ((nI (ty_t (sp_t z x y))) * sp_sd (nI (tz_t (sp_t z x y))) + sp_sd (nI (tz_t (sp_t z x y)))), .int 0, .int 0])))) (fr := 1) (lo := 24) (mc1 := 0) (ms1 := 0) (b := q) (As := [.int z, .int x, .int y]) (rest := [.ref q]) hF (by have h9 := m_X1_init l hflag G Z (k_ad ad 6 (sp_t z x y) q) (k_up (k_C G ad mm) 6 (sp_t z x y) (.inr (2, [.int 0, .int 0, .int 0, .int 0, .int 0, .int 0, .int 0]))) 6 (sp_t z x y) (nI (tz_t (sp_t z x y))) (nI (tx_t (sp_t z x y))) (nI (ty_t (sp_t z x y))) k_up_s; rw [k_ad_s, tz, tx, ty] at h9; rw [tz, tx, ty]; exact h9) ke_X1_init wd_l_X4_172 (by decide) hM hN hK hP hT hS rfl hl.1 rfl (Nat.le_of_ble_eq_true rfl) dX4_draw_29 (by decide) hnt hlk (fun E hE => False.elim hE) (by decide) (by decide) (fun u1 H locs hu1 hM hN hS _ _ => ?_)
    subst hu1
    replace hM : k_H G (k_ad ad 6 (sp_t z x y) q) (k_up (k_up (k_C G ad mm) 6 (sp_t z x y) (.inr (2, [.int 0, .int 0, .int 0, .int 0, .int 0, .int 0, .int 0]))) 6 (sp_t z x y) (.inr (2, [.int (nI (tz_t (sp_t z x y))), .int ((nI (tx_t (sp_t z x y))) * sp_sd (nI (tz_t (sp_t z x y)))), .int ((nI (tx_t (sp_t z x y))) * sp_sd (nI (tz_t (sp_t z x y))) + sp_sd (nI (tz_t (sp_t z x y)))), .int ((nI (ty_t (sp_t z x y))) * sp_sd (nI (tz_t (sp_t z x y)))), .int ((nI (ty_t (sp_t z x y))) * sp_sd (nI (tz_t (sp_t z x y))) + sp_sd (nI (tz_t (sp_t z x y)))), .int 0, .int 0]))) H := hM
    replace hN : k_N Z (k_ad ad 6 (sp_t z x y) q) (k_up (k_up (k_C G ad mm) 6 (sp_t z x y) (.inr (2, [.int 0, .int 0, .int 0, .int 0, .int 0, .int 0, .int 0]))) 6 (sp_t z x y) (.inr (2, [.int (nI (tz_t (sp_t z x y))), .int ((nI (tx_t (sp_t z x y))) * sp_sd (nI (tz_t (sp_t z x y)))), .int ((nI (tx_t (sp_t z x y))) * sp_sd (nI (tz_t (sp_t z x y))) + sp_sd (nI (tz_t (sp_t z x y)))), .int ((nI (ty_t (sp_t z x y))) * sp_sd (nI (tz_t (sp_t z x y)))), .int ((nI (ty_t (sp_t z x y))) * sp_sd (nI (tz_t (sp_t z x y))) + sp_sd (nI (tz_t (sp_t z x y)))), .int 0, .int 0]))) := hN
    rw [k_up_t] at hM hN
    refine lv_astore (lv' := [(5, .ref q), (4, .int (nI (sp_t z x y))), (0, .ref (ad 0 0)), (1, .int z), (2, .int x), (3, .int y)]) hx hb dX4_draw_32 hl (by decide) rfl (fun ls hl => ?_)
    refine lv_aload_n hx hb dX4_draw_34 rfl (lv_at hl 2 rfl) ?_
    refine g_get (C := RX4) (T := TX4) (N := 6) (v := .ref (ad 0 5)) hF hK (hM 0 0 _ rfl) rfl inlX4 4 (by decide) rfl wd_f_X4_28 rfl dX4_draw_35 ?_
    refine lv_iload hx hb dX4_draw_38 (lv_at hl 1 rfl) ?_
    refine lv_aload hx hb dX4_draw_40 (lv_at hl 0 rfl) ?_
    refine k_astq (t0 := 1) (ci := 2) (i := (sp_t z x y)) (v := q) hF hK hM hN hS 0 5 ((k_up_o (by simp)).trans rfl) rfl (by have h9 := hM 6 (sp_t z x y) _ k_up_s; rw [k_ad_s] at h9; exact h9) rfl rfl ht (by decide) dX4_draw_42 (fun H locs hM hN hS => ?_)
    rw [ktile ht] at hM hN
    have hI1 : Inv (up2 (up2 mm 13 (sp_t z x y) 1) 14 (sp_t z x y) 0) := Inv_pic (Inv_st (n := 1) hI (by omega))
    have hs1 : ¬ (up2 (up2 mm 13 (sp_t z x y) 1) 14 (sp_t z x y) 0) 13 (sp_t z x y) = 0 := by rw [up2_c (by decide), up2_s]; decide
    refine lv_aload_n hx hb dX4_draw_43 rfl (lv_at hl 2 rfl) ?_
    refine lv_aload hx hb dX4_draw_44 (lv_at hl 0 rfl) ?_
    refine kx_vV (C := RX4) (pX1 := fun _ => False) (post := fun u => u = ((k_ad ad 6 (sp_t z x y) q), k_C G (k_ad ad 6 (sp_t z x y) q) (sp_draws mm (sp_t z x y) z x y))) (fr := 4) (lo := 89) (mc1 := 0) (ms1 := 0) (As := [.ref q]) (rest := []) hF (by have h9 := m_X4_keepPicture l hflag G Z (k_ad ad 6 (sp_t z x y) q) (up2 (up2 mm 13 (sp_t z x y) 1) 14 (sp_t z x y) 0) (sp_t z x y) hI1 ht hs1; rw [draws_o, tz, tx, ty, k_ad_s] at h9; exact h9) ke_X4_keepPicture wd_l_X4_173 (by decide) hM hN hK hP hT hS (g_recv hK (hM 0 0 _ rfl) rfl) rfl hl.1 rfl (Nat.le_of_ble_eq_true rfl) dX4_draw_46 (by decide) hnt hlk (fun E hE => False.elim hE) (by decide) (by decide) (fun u2 H locs hu2 hM hN hS _ _ => ?_)
    subst hu2
    replace hM : k_H G (k_ad ad 6 (sp_t z x y) q) (k_C G (k_ad ad 6 (sp_t z x y) q) (sp_draws mm (sp_t z x y) z x y)) H := hM
    replace hN : k_N Z (k_ad ad 6 (sp_t z x y) q) (k_C G (k_ad ad 6 (sp_t z x y) q) (sp_draws mm (sp_t z x y) z x y)) := hN
    have hI2 : Inv (sp_draws mm (sp_t z x y) z x y) := Inv_draws hI
    have hst : (sp_draws mm (sp_t z x y) z x y) 13 (sp_t z x y) = nI (sp_K (sp_draws mm (sp_t z x y) z x y) + 1) := by unfold sp_draws; rw [up2_s, hI.K, nI_1]; rfl
    have hs2 : ¬ (sp_draws mm (sp_t z x y) z x y) 13 (sp_t z x y) = 0 := by rw [hst]; exact nI_ne0 (by omega) (by have := hI2.K512; omega)
    refine lv_aload_n hx hb dX4_draw_49 rfl (lv_at hl 2 rfl) ?_
    refine lv_aload hx hb dX4_draw_50 (lv_at hl 0 rfl) ?_
    refine kr_V (post := fun r => r = it_n (sp_cnt1 (sp_draws mm (sp_t z x y) z x y) z x y) (sp_W (sp_draws mm (sp_t z x y) z x y)) 0) (fr := 3) (lo := 64) (As := [.ref q]) (rest := []) hF (by have h9 := m_X4_countWaysIn l G Z (k_ad ad 6 (sp_t z x y) q) (sp_draws mm (sp_t z x y) z x y) (sp_t z x y) hI2 ht hs2 hst; rw [tz, tx, ty, k_ad_s] at h9; exact h9) ke_X4_countWaysIn wd_l_X4_177 (by decide) hM hK hP hT hS (g_recv hK (hM 0 0 _ rfl) rfl) rfl hl.1 rfl (Nat.le_of_ble_eq_true rfl) dX4_draw_52 (by decide) (fun r8 hr8 => ?_)
    exact kx_iret hx hb hr hlk hM hN hK hS (by decide) (by decide) (k_po.of2 (m2 := sp_draws (up2 mm 19 0 0) (sp_t z x y) z x y) (draw_fin cT hr8) rfl (draw_19 _)) dX4_draw_55
  · skip
    refine lv_astore (lv' := [(5, .ref (ad 6 (sp_t z x y))), (4, .int (nI (sp_t z x y))), (0, .ref (ad 0 0)), (1, .int z), (2, .int x), (3, .int y)]) hx hb dX4_draw_15 hl (by decide) rfl (fun ls hl => ?_)
    refine lv_aload hx hb dX4_draw_17 (lv_at hl 0 rfl) ?_
    refine lv_ifnonnull (tgt := 43) hx hb dX4_draw_19 (by decide) ?_
    refine lv_aload_n hx hb dX4_draw_43 rfl (lv_at hl 2 rfl) ?_
    refine lv_aload hx hb dX4_draw_44 (lv_at hl 0 rfl) ?_
    refine kx_vV (C := RX4) (pX1 := fun _ => False) (post := fun u => u = (ad, k_C G ad (sp_draws mm (sp_t z x y) z x y))) (fr := 4) (lo := 89) (mc1 := 0) (ms1 := 0) (As := [.ref (ad 6 (sp_t z x y))]) (rest := []) hF (by have h9 := m_X4_keepPicture l hflag G Z ad mm (sp_t z x y) hI ht c1; rw [tz, tx, ty] at h9; exact h9) ke_X4_keepPicture wd_l_X4_173 (by decide) hM hN hK hP hT hS (g_recv hK (hM 0 0 _ rfl) rfl) rfl hl.1 rfl (Nat.le_of_ble_eq_true rfl) dX4_draw_46 (by decide) hnt hlk (fun E hE => False.elim hE) (by decide) (by decide) (fun u2 H locs hu2 hM hN hS _ _ => ?_)
    subst hu2
    replace hM : k_H G ad (k_C G ad (sp_draws mm (sp_t z x y) z x y)) H := hM
    replace hN : k_N Z ad (k_C G ad (sp_draws mm (sp_t z x y) z x y)) := hN
    have hI2 : Inv (sp_draws mm (sp_t z x y) z x y) := Inv_draws hI
    have hst : (sp_draws mm (sp_t z x y) z x y) 13 (sp_t z x y) = nI (sp_K (sp_draws mm (sp_t z x y) z x y) + 1) := by unfold sp_draws; rw [up2_s, hI.K, nI_1]; rfl
    have hs2 : ¬ (sp_draws mm (sp_t z x y) z x y) 13 (sp_t z x y) = 0 := by rw [hst]; exact nI_ne0 (by omega) (by have := hI2.K512; omega)
    refine lv_aload_n hx hb dX4_draw_49 rfl (lv_at hl 2 rfl) ?_
    refine lv_aload hx hb dX4_draw_50 (lv_at hl 0 rfl) ?_
    refine kr_V (post := fun r => r = it_n (sp_cnt1 (sp_draws mm (sp_t z x y) z x y) z x y) (sp_W (sp_draws mm (sp_t z x y) z x y)) 0) (fr := 3) (lo := 64) (As := [.ref (ad 6 (sp_t z x y))]) (rest := []) hF (by have h9 := m_X4_countWaysIn l G Z ad (sp_draws mm (sp_t z x y) z x y) (sp_t z x y) hI2 ht hs2 hst; rw [tz, tx, ty] at h9; exact h9) ke_X4_countWaysIn wd_l_X4_177 (by decide) hM hK hP hT hS (g_recv hK (hM 0 0 _ rfl) rfl) rfl hl.1 rfl (Nat.le_of_ble_eq_true rfl) dX4_draw_52 (by decide) (fun r8 hr8 => ?_)
    exact kx_iret hx hb hr hlk hM hN hK hS (by decide) (by decide) (k_po.of2 (m2 := sp_draws (up2 mm 19 0 0) (sp_t z x y) z x y) (draw_fin cT hr8) rfl (draw_19 _)) dX4_draw_55
