theorem dJx4a65c_init_da8c8_0 : decode cJx4a65c_init_da8c8 0 = .ok (.aload_n 0, 1) := by decide +kernel
theorem dJx4a65c_init_da8c8_1 : decode cJx4a65c_init_da8c8 1 = .ok (.invokespecial 1, 3) := by decide +kernel
theorem dJx4a65c_init_da8c8_4 : decode cJx4a65c_init_da8c8 4 = .ok (.aload_n 0, 1) := by decide +kernel
theorem dJx4a65c_init_da8c8_5 : decode cJx4a65c_init_da8c8 5 = .ok (.getstatic 39, 3) := by decide +kernel
theorem dJx4a65c_init_da8c8_8 : decode cJx4a65c_init_da8c8 8 = .ok (.putfield 9, 3) := by decide +kernel
theorem dJx4a65c_init_da8c8_11 : decode cJx4a65c_init_da8c8 11 = .ok (.return_, 1) := by decide +kernel
theorem dJxa1e45_init_da8c8_0 : decode cJxa1e45_init_da8c8 0 = .ok (.aload_n 0, 1) := by decide +kernel
theorem dJxa1e45_init_da8c8_1 : decode cJxa1e45_init_da8c8 1 = .ok (.invokespecial 1, 3) := by decide +kernel
theorem dJxa1e45_init_da8c8_4 : decode cJxa1e45_init_da8c8 4 = .ok (.return_, 1) := by decide +kernel
theorem dJxc12de_init_da8c8_0 : decode cJxc12de_init_da8c8 0 = .ok (.aload_n 0, 1) := by decide +kernel
theorem dJxc12de_init_da8c8_1 : decode cJxc12de_init_da8c8 1 = .ok (.invokespecial 1, 3) := by decide +kernel
theorem dJxc12de_init_da8c8_4 : decode cJxc12de_init_da8c8 4 = .ok (.aload_n 0, 1) := by decide +kernel
theorem dJxc12de_init_da8c8_5 : decode cJxc12de_init_da8c8 5 = .ok (.iconst 0, 1) := by decide +kernel
theorem dJxc12de_init_da8c8_6 : decode cJxc12de_init_da8c8 6 = .ok (.putfield 7, 3) := by decide +kernel
theorem dJxc12de_init_da8c8_9 : decode cJxc12de_init_da8c8 9 = .ok (.return_, 1) := by decide +kernel
theorem ke_Jxa1e45_init_da8c8 : wl_I yJxa1e45_init_da8c8 cJxa1e45_init_da8c8 1 0 := ⟨wd_c_Jxa1e45_init_da8c8, wd_i_Jxa1e45_init_da8c8, wd_n_Jxa1e45, by decide, by decide +kernel, rfl⟩
set_option maxHeartbeats 4000000 in
set_option maxRecDepth 100000 in
theorem m_Jxa1e45_init_da8c8 (l : Launch) (hflag : l.stackTraces = false) (G : k_G) (Z : Nat → Prop) (ad : k_Ad) (ct : k_Ct) (K i : Nat) (he : ct K i = some (.inr (0, [.int 0, .null, .int 0]))) : kx_v l yJxa1e45_init_da8c8 cJxa1e45_init_da8c8 1 none 1 24 0 0 G Z ad ct [.ref (ad K i)] (fun u => u = (ad, ct)) (fun _ => False) := by
  refine kx_ofI (by decide) (Nat.le_of_ble_eq_true rfl) ?_
  intro p e s m args below meth c hx hb hr hF hlk hnt hin hB ls hl
  obtain ⟨⟨hM, hN⟩, hK, hP, hT⟩ := hB
  have hS : va_S Z s.heap s.heap [] := va_S.rf
  have hl : lv_has ls 1 [(0, .ref (ad K i))] := hl
  refine lv_aload_n hx hb dJxa1e45_init_da8c8_0 rfl (lv_at hl 0 rfl) ?_
  refine g_oini hF wd_l_Jxa1e45_1 hl.1 dJxa1e45_init_da8c8_1 (by decide) (Nat.le_of_ble_eq_true rfl) ?_
  exact kx_vret hx hb hr hlk hM hN hK hS (by decide) (by decide) (rfl) dJxa1e45_init_da8c8_4
theorem ke_Jxc12de_init_da8c8 : wl_I yJxc12de_init_da8c8 cJxc12de_init_da8c8 1 0 := ⟨wd_c_Jxc12de_init_da8c8, wd_i_Jxc12de_init_da8c8, wd_n_Jxc12de, by decide, by decide +kernel, rfl⟩
set_option maxHeartbeats 4000000 in
set_option maxRecDepth 100000 in
theorem m_Jxc12de_init_da8c8 (l : Launch) (hflag : l.stackTraces = false) (G : k_G) (Z : Nat → Prop) (ad : k_Ad) (ct : k_Ct) (K i : Nat) (he : ct K i = some (.inr (0, [.int 0, .null, .int 0]))) : kx_v l yJxc12de_init_da8c8 cJxc12de_init_da8c8 1 none 2 44 0 0 G Z ad ct [.ref (ad K i)] (fun u => u = (ad, (k_up ct K i (.inr (0, [.int 0, .null, .int 0]))))) (fun _ => False) := by
  refine kx_ofI (by decide) (Nat.le_of_ble_eq_true rfl) ?_
  intro p e s m args below meth c hx hb hr hF hlk hnt hin hB ls hl
  obtain ⟨⟨hM, hN⟩, hK, hP, hT⟩ := hB
  have hS : va_S Z s.heap s.heap [] := va_S.rf
  have hl : lv_has ls 1 [(0, .ref (ad K i))] := hl
  refine lv_aload_n hx hb dJxc12de_init_da8c8_0 rfl (lv_at hl 0 rfl) ?_
  refine kx_vI (pX1 := fun _ => False) (post := fun u => u = (ad, ct)) (fr := 1) (lo := 24) (mc1 := 0) (ms1 := 0) (b := ad K i) (As := []) (rest := []) hF (m_Jxa1e45_init_da8c8 l hflag G Z ad ct K i he) ke_Jxa1e45_init_da8c8 wd_l_Jxc12de_1 (by decide) hM hN hK hP hT hS rfl hl.1 rfl (Nat.le_of_ble_eq_true rfl) dJxc12de_init_da8c8_1 (by decide) hnt hlk (fun E hE => False.elim hE) (by decide) (by decide) (fun u1 H locs hu1 hM hN hS _ _ => ?_)
  subst hu1
  replace hM : k_H G ad ct H := hM
  replace hN : k_N Z ad ct := hN
  refine lv_aload_n hx hb dJxc12de_init_da8c8_4 rfl (lv_at hl 0 rfl) ?_
  refine lv_iconst (v := 0) hx hb dJxc12de_init_da8c8_5 (by decide) ?_
  refine k_put (v := .int 0) (fs := [.int 0, .null, .int 0]) hF hK hM hN hS K i he rfl inlJx4a65c tyJx4a65c tyJx4a65c_ok nmJx4a65c 0 (by decide) rfl wd_f_Jxc12de_7 rfl rfl rfl (by show 0 < 3; decide) dJxc12de_init_da8c8_6 (fun H locs hM hN hS => ?_)
  replace hM : k_H G ad (k_up ct K i (.inr (0, [.int 0, .null, .int 0]))) H := hM
  replace hN : k_N Z ad (k_up ct K i (.inr (0, [.int 0, .null, .int 0]))) := hN
  exact kx_vret hx hb hr hlk hM hN hK hS (by decide) (by decide) (rfl) dJxc12de_init_da8c8_9
theorem ke_Jx4a65c_init_da8c8 : wl_I yJx4a65c_init_da8c8 cJx4a65c_init_da8c8 1 0 := ⟨wd_c_Jx4a65c_init_da8c8, wd_i_Jx4a65c_init_da8c8, wd_n_Jx4a65c, by decide, by decide +kernel, rfl⟩
set_option maxHeartbeats 4000000 in
set_option maxRecDepth 100000 in
theorem m_Jx4a65c_init_da8c8 (l : Launch) (hflag : l.stackTraces = false) (G : k_G) (Z : Nat → Prop) (ad : k_Ad) (ct : k_Ct) (K i : Nat) (he : ct K i = some (.inr (0, [.int 0, .null, .int 0]))) : kx_v l yJx4a65c_init_da8c8 cJx4a65c_init_da8c8 1 none 3 64 0 0 G Z ad ct [.ref (ad K i)] (fun u => u = (ad, k_up ct K i (.inr (0, [.int 0, .ref G.2.2.2.2.1, .int 0])))) (fun _ => False) := by
  refine kx_ofI (by decide) (Nat.le_of_ble_eq_true rfl) ?_
  intro p e s m args below meth c hx hb hr hF hlk hnt hin hB ls hl
  obtain ⟨⟨hM, hN⟩, hK, hP, hT⟩ := hB
  have hS : va_S Z s.heap s.heap [] := va_S.rf
  have hl : lv_has ls 1 [(0, .ref (ad K i))] := hl
  refine lv_aload_n hx hb dJx4a65c_init_da8c8_0 rfl (lv_at hl 0 rfl) ?_
  refine kx_vI (pX1 := fun _ => False) (post := fun u => u = (ad, (k_up ct K i (.inr (0, [.int 0, .null, .int 0]))))) (fr := 2) (lo := 44) (mc1 := 0) (ms1 := 0) (b := ad K i) (As := []) (rest := []) hF (m_Jxc12de_init_da8c8 l hflag G Z ad ct K i he) ke_Jxc12de_init_da8c8 wd_l_Jx4a65c_1 (by decide) hM hN hK hP hT hS rfl hl.1 rfl (Nat.le_of_ble_eq_true rfl) dJx4a65c_init_da8c8_1 (by decide) hnt hlk (fun E hE => False.elim hE) (by decide) (by decide) (fun u1 H locs hu1 hM hN hS _ _ => ?_)
  subst hu1
  replace hM : k_H G ad (k_up ct K i (.inr (0, [.int 0, .null, .int 0]))) H := hM
  replace hN : k_N Z ad (k_up ct K i (.inr (0, [.int 0, .null, .int 0]))) := hN
  refine lv_aload_n hx hb dJx4a65c_init_da8c8_4 rfl (lv_at hl 0 rfl) ?_
  refine va_gets hF.1 hF.2.1 hT.2.2.2.1.1 hS hF.2.2.2.1 (hF.2.2.2.2 _ wd_f_Jx4a65c_39) (fun x h => h) dJx4a65c_init_da8c8_5 ?_
  refine k_put (v := .ref G.2.2.2.2.1) (fs := [.int 0, .null, .int 0]) hF hK hM hN hS K i k_up_s rfl inlJx4a65c tyJx4a65c tyJx4a65c_ok nmJx4a65c 1 (by decide) rfl wd_f_Jx4a65c_9 rfl rfl rfl (by show 1 < 3; decide) dJx4a65c_init_da8c8_8 (fun H locs hM hN hS => ?_)
  rw [k_up_t] at hM hN
  replace hM : k_H G ad (k_up ct K i (.inr (0, [.int 0, .ref G.2.2.2.2.1, .int 0]))) H := hM
  replace hN : k_N Z ad (k_up ct K i (.inr (0, [.int 0, .ref G.2.2.2.2.1, .int 0]))) := hN
  exact kx_vret hx hb hr hlk hM hN hK hS (by decide) (by decide) (rfl) dJx4a65c_init_da8c8_11
