theorem dX4_addVersion_0 : decode cX4_addVersion 0 = .ok (.aload_n 1, 1) := by decide +kernel
theorem dX4_addVersion_1 : decode cX4_addVersion 1 = .ok (.aload_n 0, 1) := by decide +kernel
theorem dX4_addVersion_2 : decode cX4_addVersion 2 = .ok (.aload_n 2, 1) := by decide +kernel
theorem dX4_addVersion_3 : decode cX4_addVersion 3 = .ok (.aload_n 1, 1) := by decide +kernel
theorem dX4_addVersion_4 : decode cX4_addVersion 4 = .ok (.getfield 133, 3) := by decide +kernel
theorem dX4_addVersion_7 : decode cX4_addVersion 7 = .ok (.invokevirtual 85, 3) := by decide +kernel
theorem dX4_addVersion_10 : decode cX4_addVersion 10 = .ok (.putfield 133, 3) := by decide +kernel
theorem dX4_addVersion_13 : decode cX4_addVersion 13 = .ok (.aload_n 1, 1) := by decide +kernel
theorem dX4_addVersion_14 : decode cX4_addVersion 14 = .ok (.aconst_null, 1) := by decide +kernel
theorem dX4_addVersion_15 : decode cX4_addVersion 15 = .ok (.putfield 116, 3) := by decide +kernel
theorem dX4_addVersion_18 : decode cX4_addVersion 18 = .ok (.return_, 1) := by decide +kernel
theorem dX4_newVersion_0 : decode cX4_newVersion 0 = .ok (.aload_n 0, 1) := by decide +kernel
theorem dX4_newVersion_1 : decode cX4_newVersion 1 = .ok (.dup, 1) := by decide +kernel
theorem dX4_newVersion_2 : decode cX4_newVersion 2 = .ok (.getfield 32, 3) := by decide +kernel
theorem dX4_newVersion_5 : decode cX4_newVersion 5 = .ok (.iconst 1, 1) := by decide +kernel
theorem dX4_newVersion_6 : decode cX4_newVersion 6 = .ok (.iadd, 1) := by decide +kernel
theorem dX4_newVersion_7 : decode cX4_newVersion 7 = .ok (.putfield 32, 3) := by decide +kernel
theorem dX4_newVersion_10 : decode cX4_newVersion 10 = .ok (.new 138, 3) := by decide +kernel
theorem dX4_newVersion_13 : decode cX4_newVersion 13 = .ok (.dup, 1) := by decide +kernel
theorem dX4_newVersion_14 : decode cX4_newVersion 14 = .ok (.aload_n 1, 1) := by decide +kernel
theorem dX4_newVersion_15 : decode cX4_newVersion 15 = .ok (.aload_n 0, 1) := by decide +kernel
theorem dX4_newVersion_16 : decode cX4_newVersion 16 = .ok (.getfield 32, 3) := by decide +kernel
theorem dX4_newVersion_19 : decode cX4_newVersion 19 = .ok (.aload_n 2, 1) := by decide +kernel
theorem dX4_newVersion_20 : decode cX4_newVersion 20 = .ok (.invokespecial 281, 3) := by decide +kernel
theorem dX4_newVersion_23 : decode cX4_newVersion 23 = .ok (.areturn, 1) := by decide +kernel
theorem ke_X4_newVersion : wl_V RX4 yX4_newVersion cX4_newVersion 3 (some (.object "SignTiles$Version")) 2 := ⟨wd_c_X4_newVersion, wd_i_X4_newVersion, wd_s_X4_newVersion, wd_n_X4, by decide, by decide +kernel⟩
set_option maxHeartbeats 4000000 in
set_option maxRecDepth 100000 in
theorem m_X4_newVersion (l : Launch) (hflag : l.stackTraces = false) (G : k_G) (Z : Nat → Prop) (ad : k_Ad) (ct : k_Ct) (i j ca : Nat) (m0 m1 m2 m3 m4 : Value) (ch : Int32) (n0 : Int32) (x0 x1 x3 : Value) (he : ct 0 0 = some (.inr (5, [m0, m1, m2, m3, m4, .int ch]))) (hfree : ct 3 i = none) (hj : ct 3 j = some (.inr (3, [x0, x1, .int n0, x3]))) (hji : ¬ j = i) : kx_q l yX4_newVersion cX4_newVersion 3 (some (.object "SignTiles$Version")) 2 47 1 4 G Z ad ct [.ref (ad 0 0), .ref ca, .ref (ad 3 j)] (fun o u => ∃ q, o = some q ∧ u = ((k_ad ad 3 i q), k_up (k_up ct 0 0 (.inr (5, [m0, m1, m2, m3, m4, .int (ch + 1)]))) 3 i (.inr (3, [.ref ca, .int (ch + 1), .int (n0 + 1), .ref (ad 3 j)])))) (fun _ => False) := by
  refine kx_of (by decide) (Nat.le_of_ble_eq_true rfl) ?_
  intro p e s m args below meth c hx hb hr hF hlk hnt hB ls hl
  obtain ⟨⟨hM, hN⟩, hK, hP, hT⟩ := hB
  have hS : va_S Z s.heap s.heap [] := va_S.rf
  have hl : lv_has ls 3 [(0, .ref (ad 0 0)), (1, .ref ca), (2, .ref (ad 3 j))] := hl
  refine lv_aload_n hx hb dX4_newVersion_0 rfl (lv_at hl 0 rfl) ?_
  refine lv_dup hx hb dX4_newVersion_1 rfl ?_
  refine g_get (C := RX4) (T := TX4) (N := 6) (v := .int ch) hF hK (hM 0 0 _ he) rfl inlX4 5 (by decide) rfl wd_f_X4_32 rfl dX4_newVersion_2 ?_
  refine lv_iconst (v := 1) hx hb dX4_newVersion_5 (by decide) ?_
  refine lv_iadd hx hb dX4_newVersion_6 ?_
  refine k_put (v := .int (ch + 1)) (fs := [m0, m1, m2, m3, m4, .int ch]) hF hK hM hN hS 0 0 he rfl inlX4 tyX4 tyX4_ok nmX4 5 (by decide) rfl wd_f_X4_32 rfl rfl rfl (by show 5 < 6; decide) dX4_newVersion_7 (fun H locs hM hN hS => ?_)
  replace hM : k_H G ad (k_up ct 0 0 (.inr (5, [m0, m1, m2, m3, m4, .int (ch + 1)]))) H := hM
  replace hN : k_N Z ad (k_up ct 0 0 (.inr (5, [m0, m1, m2, m3, m4, .int (ch + 1)]))) := hN
  refine k_new hF hK hM hN hS hT.2.2.2.2 3 i ((k_up_o (fun z => absurd z.1 (by decide))).trans hfree) (ci := 3) (fs := [.null, .int 0, .int 0, .null]) rfl inlX2 tyX2 tyX2_ok wd_k_X4_138 wd_a_X2 wd_n_X2 (by decide) (by decide) (by decide) dX4_newVersion_10 (fun q H hM hN hS => ?_)
  replace hM : k_H G (k_ad ad 3 i q) (k_up (k_up ct 0 0 (.inr (5, [m0, m1, m2, m3, m4, .int (ch + 1)]))) 3 i (.inr (3, [.null, .int 0, .int 0, .null]))) H := hM
  replace hN : k_N Z (k_ad ad 3 i q) (k_up (k_up ct 0 0 (.inr (5, [m0, m1, m2, m3, m4, .int (ch + 1)]))) 3 i (.inr (3, [.null, .int 0, .int 0, .null]))) := hN
  refine lv_dup hx hb dX4_newVersion_13 rfl ?_
  refine lv_aload_n hx hb dX4_newVersion_14 rfl (lv_at hl 1 rfl) ?_
  refine lv_aload_n hx hb dX4_newVersion_15 rfl (lv_at hl 0 rfl) ?_
  refine g_get (C := RX4) (T := TX4) (N := 6) (v := .int (ch + 1)) hF hK (hM 0 0 _ ((k_up_o (fun z => absurd z.1 (by decide))).trans k_up_s)) rfl inlX4 5 (by decide) rfl wd_f_X4_32 rfl dX4_newVersion_16 ?_
  refine lv_aload_n hx hb dX4_newVersion_19 rfl (lv_at hl 2 rfl) ?_
  refine kx_vI (pX1 := fun _ => False) (post := fun u => u = ((k_ad ad 3 i q), k_up (k_up (k_up ct 0 0 (.inr (5, [m0, m1, m2, m3, m4, .int (ch + 1)]))) 3 i (.inr (3, [.null, .int 0, .int 0, .null]))) 3 i (.inr (3, [.ref ca, .int (ch + 1), .int (n0 + 1), .ref (ad 3 j)])))) (fr := 1) (lo := 24) (mc1 := 0) (ms1 := 0) (b := q) (As := [.ref ca, .int (ch + 1), .ref (ad 3 j)]) (rest := [.ref q]) hF (by have h9 := m_X2_init l hflag G Z (k_ad ad 3 i q) (k_up (k_up ct 0 0 (.inr (5, [m0, m1, m2, m3, m4, .int (ch + 1)]))) 3 i (.inr (3, [.null, .int 0, .int 0, .null]))) i j ca (ch + 1) n0 x0 x1 x3 k_up_s ((k_up_o (fun z => hji z.2)).trans ((k_up_o (fun z => absurd z.1 (by decide))).trans hj)) hji; rw [k_ad_s, k_ad_o (fun z => hji z.2)] at h9; exact h9) ke_X2_init wd_l_X4_281 (by decide) hM hN hK hP hT hS rfl hl.1 rfl (Nat.le_of_ble_eq_true rfl) dX4_newVersion_20 (by decide) hnt hlk (fun E hE => False.elim hE) (by decide) (by decide) (fun u1 H locs hu1 hM hN hS _ _ => ?_)
  subst hu1
  replace hM : k_H G (k_ad ad 3 i q) (k_up (k_up (k_up ct 0 0 (.inr (5, [m0, m1, m2, m3, m4, .int (ch + 1)]))) 3 i (.inr (3, [.null, .int 0, .int 0, .null]))) 3 i (.inr (3, [.ref ca, .int (ch + 1), .int (n0 + 1), .ref (ad 3 j)]))) H := hM
  replace hN : k_N Z (k_ad ad 3 i q) (k_up (k_up (k_up ct 0 0 (.inr (5, [m0, m1, m2, m3, m4, .int (ch + 1)]))) 3 i (.inr (3, [.null, .int 0, .int 0, .null]))) 3 i (.inr (3, [.ref ca, .int (ch + 1), .int (n0 + 1), .ref (ad 3 j)]))) := hN
  rw [k_up_t] at hM hN
  exact kx_qret (o := (some q)) hx hb hr hlk hM hN hK hS (by decide) (by decide) (⟨q, rfl, rfl⟩) dX4_newVersion_23
set_option maxHeartbeats 4000000 in
set_option maxRecDepth 100000 in
theorem m_X4_newVersion0 (l : Launch) (hflag : l.stackTraces = false) (G : k_G) (Z : Nat → Prop) (ad : k_Ad) (ct : k_Ct) (i ca : Nat) (m0 m1 m2 m3 m4 : Value) (ch : Int32) (he : ct 0 0 = some (.inr (5, [m0, m1, m2, m3, m4, .int ch]))) (hfree : ct 3 i = none) : kx_q l yX4_newVersion cX4_newVersion 3 (some (.object "SignTiles$Version")) 2 47 1 4 G Z ad ct [.ref (ad 0 0), .ref ca, .null] (fun o u => ∃ q, o = some q ∧ u = ((k_ad ad 3 i q), k_up (k_up ct 0 0 (.inr (5, [m0, m1, m2, m3, m4, .int (ch + 1)]))) 3 i (.inr (3, [.ref ca, .int (ch + 1), .int 0, .null])))) (fun _ => False) := by
  refine kx_of (by decide) (Nat.le_of_ble_eq_true rfl) ?_
  intro p e s m args below meth c hx hb hr hF hlk hnt hB ls hl
  obtain ⟨⟨hM, hN⟩, hK, hP, hT⟩ := hB
  have hS : va_S Z s.heap s.heap [] := va_S.rf
  have hl : lv_has ls 3 [(0, .ref (ad 0 0)), (1, .ref ca), (2, .null)] := hl
  refine lv_aload_n hx hb dX4_newVersion_0 rfl (lv_at hl 0 rfl) ?_
  refine lv_dup hx hb dX4_newVersion_1 rfl ?_
  refine g_get (C := RX4) (T := TX4) (N := 6) (v := .int ch) hF hK (hM 0 0 _ he) rfl inlX4 5 (by decide) rfl wd_f_X4_32 rfl dX4_newVersion_2 ?_
  refine lv_iconst (v := 1) hx hb dX4_newVersion_5 (by decide) ?_
  refine lv_iadd hx hb dX4_newVersion_6 ?_
  refine k_put (v := .int (ch + 1)) (fs := [m0, m1, m2, m3, m4, .int ch]) hF hK hM hN hS 0 0 he rfl inlX4 tyX4 tyX4_ok nmX4 5 (by decide) rfl wd_f_X4_32 rfl rfl rfl (by show 5 < 6; decide) dX4_newVersion_7 (fun H locs hM hN hS => ?_)
  replace hM : k_H G ad (k_up ct 0 0 (.inr (5, [m0, m1, m2, m3, m4, .int (ch + 1)]))) H := hM
  replace hN : k_N Z ad (k_up ct 0 0 (.inr (5, [m0, m1, m2, m3, m4, .int (ch + 1)]))) := hN
  refine k_new hF hK hM hN hS hT.2.2.2.2 3 i ((k_up_o (fun z => absurd z.1 (by decide))).trans hfree) (ci := 3) (fs := [.null, .int 0, .int 0, .null]) rfl inlX2 tyX2 tyX2_ok wd_k_X4_138 wd_a_X2 wd_n_X2 (by decide) (by decide) (by decide) dX4_newVersion_10 (fun q H hM hN hS => ?_)
  replace hM : k_H G (k_ad ad 3 i q) (k_up (k_up ct 0 0 (.inr (5, [m0, m1, m2, m3, m4, .int (ch + 1)]))) 3 i (.inr (3, [.null, .int 0, .int 0, .null]))) H := hM
  replace hN : k_N Z (k_ad ad 3 i q) (k_up (k_up ct 0 0 (.inr (5, [m0, m1, m2, m3, m4, .int (ch + 1)]))) 3 i (.inr (3, [.null, .int 0, .int 0, .null]))) := hN
  refine lv_dup hx hb dX4_newVersion_13 rfl ?_
  refine lv_aload_n hx hb dX4_newVersion_14 rfl (lv_at hl 1 rfl) ?_
  refine lv_aload_n hx hb dX4_newVersion_15 rfl (lv_at hl 0 rfl) ?_
  refine g_get (C := RX4) (T := TX4) (N := 6) (v := .int (ch + 1)) hF hK (hM 0 0 _ ((k_up_o (fun z => absurd z.1 (by decide))).trans k_up_s)) rfl inlX4 5 (by decide) rfl wd_f_X4_32 rfl dX4_newVersion_16 ?_
  refine lv_aload_nN hx hb dX4_newVersion_19 rfl (lv_at hl 2 rfl) ?_
  refine kx_vI (pX1 := fun _ => False) (post := fun u => u = ((k_ad ad 3 i q), k_up (k_up (k_up ct 0 0 (.inr (5, [m0, m1, m2, m3, m4, .int (ch + 1)]))) 3 i (.inr (3, [.null, .int 0, .int 0, .null]))) 3 i (.inr (3, [.ref ca, .int (ch + 1), .int 0, .null])))) (fr := 1) (lo := 24) (mc1 := 0) (ms1 := 0) (b := q) (As := [.ref ca, .int (ch + 1), .null]) (rest := [.ref q]) hF (by have h9 := m_X2_init0 l hflag G Z (k_ad ad 3 i q) (k_up (k_up ct 0 0 (.inr (5, [m0, m1, m2, m3, m4, .int (ch + 1)]))) 3 i (.inr (3, [.null, .int 0, .int 0, .null]))) i ca (ch + 1) k_up_s; rw [k_ad_s] at h9; exact h9) ke_X2_init wd_l_X4_281 (by decide) hM hN hK hP hT hS rfl hl.1 rfl (Nat.le_of_ble_eq_true rfl) dX4_newVersion_20 (by decide) hnt hlk (fun E hE => False.elim hE) (by decide) (by decide) (fun u1 H locs hu1 hM hN hS _ _ => ?_)
  subst hu1
  replace hM : k_H G (k_ad ad 3 i q) (k_up (k_up (k_up ct 0 0 (.inr (5, [m0, m1, m2, m3, m4, .int (ch + 1)]))) 3 i (.inr (3, [.null, .int 0, .int 0, .null]))) 3 i (.inr (3, [.ref ca, .int (ch + 1), .int 0, .null]))) H := hM
  replace hN : k_N Z (k_ad ad 3 i q) (k_up (k_up (k_up ct 0 0 (.inr (5, [m0, m1, m2, m3, m4, .int (ch + 1)]))) 3 i (.inr (3, [.null, .int 0, .int 0, .null]))) 3 i (.inr (3, [.ref ca, .int (ch + 1), .int 0, .null]))) := hN
  rw [k_up_t] at hM hN
  exact kx_qret (o := (some q)) hx hb hr hlk hM hN hK hS (by decide) (by decide) (⟨q, rfl, rfl⟩) dX4_newVersion_23
theorem ke_X4_addVersion : wl_V RX4 yX4_addVersion cX4_addVersion 3 none 2 := ⟨wd_c_X4_addVersion, wd_i_X4_addVersion, wd_s_X4_addVersion, wd_n_X4, by decide, by decide +kernel⟩
set_option maxHeartbeats 4000000 in
set_option maxRecDepth 100000 in
theorem m_X4_addVersion (l : Launch) (hflag : l.stackTraces = false) (G : k_G) (Z : Nat → Prop) (ad : k_Ad) (ct : k_Ct) (w1 i j ca : Nat) (m0 m1 m2 m3 m4 : Value) (ch : Int32) (n0 : Int32) (x0 x1 x3 b0 b1 b2 b3 b4 b6 b7 : Value) (he : ct 0 0 = some (.inr (5, [m0, m1, m2, m3, m4, .int ch]))) (hfree : ct 3 i = none) (hj : ct 3 j = some (.inr (3, [x0, x1, .int n0, x3]))) (hji : ¬ j = i) (hw1 : ct 1 w1 = some (.inr (4, [b0, b1, b2, b3, b4, .ref (ad 3 j), b6, b7]))) : kx_v l yX4_addVersion cX4_addVersion 3 none 3 69 1 4 G Z ad ct [.ref (ad 0 0), .ref (ad 1 w1), .ref ca] (fun u => ∃ q, u = ((k_ad ad 3 i q), k_up (k_up (k_up ct 0 0 (.inr (5, [m0, m1, m2, m3, m4, .int (ch + 1)]))) 3 i (.inr (3, [.ref ca, .int (ch + 1), .int (n0 + 1), .ref (ad 3 j)]))) 1 w1 (.inr (4, [b0, b1, b2, b3, b4, .ref q, .null, b7])))) (fun _ => False) := by
  refine kx_of (by decide) (Nat.le_of_ble_eq_true rfl) ?_
  intro p e s m args below meth c hx hb hr hF hlk hnt hB ls hl
  obtain ⟨⟨hM, hN⟩, hK, hP, hT⟩ := hB
  have hS : va_S Z s.heap s.heap [] := va_S.rf
  have hl : lv_has ls 3 [(0, .ref (ad 0 0)), (1, .ref (ad 1 w1)), (2, .ref ca)] := hl
  refine lv_aload_n hx hb dX4_addVersion_0 rfl (lv_at hl 1 rfl) ?_
  refine lv_aload_n hx hb dX4_addVersion_1 rfl (lv_at hl 0 rfl) ?_
  refine lv_aload_n hx hb dX4_addVersion_2 rfl (lv_at hl 2 rfl) ?_
  refine lv_aload_n hx hb dX4_addVersion_3 rfl (lv_at hl 1 rfl) ?_
  refine g_get (C := RX3) (T := TX3) (N := 8) (v := .ref (ad 3 j)) hF hK (hM 1 w1 _ hw1) rfl inlX3 5 (by decide) rfl wd_f_X4_133 rfl dX4_addVersion_4 ?_
  refine kx_qV (C := RX4) (pX1 := fun _ => False) (fr := 2) (lo := 47) (mc1 := 1) (ms1 := 4) (As := [.ref ca, .ref (ad 3 j)]) (rest := [.ref (ad 1 w1)]) hF (m_X4_newVersion l hflag G Z ad ct i j ca m0 m1 m2 m3 m4 ch n0 x0 x1 x3 he hfree hj hji) ke_X4_newVersion wd_l_X4_85 (by decide) hM hN hK hP hT hS (g_recv hK (hM 0 0 _ he) rfl) rfl hl.1 rfl (Nat.le_of_ble_eq_true rfl) dX4_addVersion_7 (by decide) hnt hlk (fun E hE => False.elim hE) (by decide) (by decide) (fun r1 u1 H locs hr1 hM hN hS _ _ => ?_)
  obtain ⟨q, rfl, rfl⟩ := hr1
  replace hM : k_H G (k_ad ad 3 i q) (k_up (k_up ct 0 0 (.inr (5, [m0, m1, m2, m3, m4, .int (ch + 1)]))) 3 i (.inr (3, [.ref ca, .int (ch + 1), .int (n0 + 1), .ref (ad 3 j)]))) H := hM
  replace hN : k_N Z (k_ad ad 3 i q) (k_up (k_up ct 0 0 (.inr (5, [m0, m1, m2, m3, m4, .int (ch + 1)]))) 3 i (.inr (3, [.ref ca, .int (ch + 1), .int (n0 + 1), .ref (ad 3 j)]))) := hN
  refine bo_toV (v := .ref q) rfl ?_
  refine k_put (v := .ref q) (fs := [b0, b1, b2, b3, b4, .ref (ad 3 j), b6, b7]) hF hK hM hN hS 1 w1 ((k_up_o (fun z => absurd z.1 (by decide))).trans ((k_up_o (fun z => absurd z.1 (by decide))).trans hw1)) rfl inlX3 tyX3 tyX3_ok nmX3 5 (by decide) rfl wd_f_X4_133 rfl rfl rfl (by show 5 < 8; decide) dX4_addVersion_10 (fun H locs hM hN hS => ?_)
  replace hM : k_H G (k_ad ad 3 i q) (k_up (k_up (k_up ct 0 0 (.inr (5, [m0, m1, m2, m3, m4, .int (ch + 1)]))) 3 i (.inr (3, [.ref ca, .int (ch + 1), .int (n0 + 1), .ref (ad 3 j)]))) 1 w1 (.inr (4, [b0, b1, b2, b3, b4, .ref q, b6, b7]))) H := hM
  replace hN : k_N Z (k_ad ad 3 i q) (k_up (k_up (k_up ct 0 0 (.inr (5, [m0, m1, m2, m3, m4, .int (ch + 1)]))) 3 i (.inr (3, [.ref ca, .int (ch + 1), .int (n0 + 1), .ref (ad 3 j)]))) 1 w1 (.inr (4, [b0, b1, b2, b3, b4, .ref q, b6, b7]))) := hN
  refine lv_aload_n hx hb dX4_addVersion_13 rfl (lv_at hl 1 rfl) ?_
  refine lv_null hx hb dX4_addVersion_14 ?_
  refine k_put (v := .null) (fs := [b0, b1, b2, b3, b4, .ref q, b6, b7]) hF hK hM hN hS 1 w1 k_up_s rfl inlX3 tyX3 tyX3_ok nmX3 6 (by decide) rfl wd_f_X4_116 rfl rfl rfl (by show 6 < 8; decide) dX4_addVersion_15 (fun H locs hM hN hS => ?_)
  rw [k_up_t] at hM hN
  replace hM : k_H G (k_ad ad 3 i q) (k_up (k_up (k_up ct 0 0 (.inr (5, [m0, m1, m2, m3, m4, .int (ch + 1)]))) 3 i (.inr (3, [.ref ca, .int (ch + 1), .int (n0 + 1), .ref (ad 3 j)]))) 1 w1 (.inr (4, [b0, b1, b2, b3, b4, .ref q, .null, b7]))) H := hM
  replace hN : k_N Z (k_ad ad 3 i q) (k_up (k_up (k_up ct 0 0 (.inr (5, [m0, m1, m2, m3, m4, .int (ch + 1)]))) 3 i (.inr (3, [.ref ca, .int (ch + 1), .int (n0 + 1), .ref (ad 3 j)]))) 1 w1 (.inr (4, [b0, b1, b2, b3, b4, .ref q, .null, b7]))) := hN
  exact kx_vret hx hb hr hlk hM hN hK hS (by decide) (by decide) (⟨q, rfl⟩) dX4_addVersion_18
