theorem dX4_init_0 : decode cX4_init 0 = .ok (.aload_n 0, 1) := by decide +kernel
theorem dX4_init_1 : decode cX4_init 1 = .ok (.invokespecial 1, 3) := by decide +kernel
theorem dX4_init_4 : decode cX4_init 4 = .ok (.aload_n 0, 1) := by decide +kernel
theorem dX4_init_5 : decode cX4_init 5 = .ok (.new 7, 3) := by decide +kernel
theorem dX4_init_8 : decode cX4_init 8 = .ok (.dup, 1) := by decide +kernel
theorem dX4_init_9 : decode cX4_init 9 = .ok (.invokespecial 9, 3) := by decide +kernel
theorem dX4_init_12 : decode cX4_init 12 = .ok (.putfield 10, 3) := by decide +kernel
theorem dX4_init_15 : decode cX4_init 15 = .ok (.aload_n 0, 1) := by decide +kernel
theorem dX4_init_16 : decode cX4_init 16 = .ok (.bipush 6, 2) := by decide +kernel
theorem dX4_init_18 : decode cX4_init 18 = .ok (.newarray .int, 2) := by decide +kernel
theorem dX4_init_20 : decode cX4_init 20 = .ok (.putfield 16, 3) := by decide +kernel
theorem dX4_init_23 : decode cX4_init 23 = .ok (.aload_n 0, 1) := by decide +kernel
theorem dX4_init_24 : decode cX4_init 24 = .ok (.iconst 3, 1) := by decide +kernel
theorem dX4_init_25 : decode cX4_init 25 = .ok (.newarray .int, 2) := by decide +kernel
theorem dX4_init_27 : decode cX4_init 27 = .ok (.putfield 20, 3) := by decide +kernel
theorem dX4_init_30 : decode cX4_init 30 = .ok (.aload_n 0, 1) := by decide +kernel
theorem dX4_init_31 : decode cX4_init 31 = .ok (.iconst 3, 1) := by decide +kernel
theorem dX4_init_32 : decode cX4_init 32 = .ok (.newarray .int, 2) := by decide +kernel
theorem dX4_init_34 : decode cX4_init 34 = .ok (.putfield 23, 3) := by decide +kernel
theorem dX4_init_37 : decode cX4_init 37 = .ok (.aload_n 0, 1) := by decide +kernel
theorem dX4_init_38 : decode cX4_init 38 = .ok (.sipush 341, 3) := by decide +kernel
theorem dX4_init_41 : decode cX4_init 41 = .ok (.anewarray 26, 3) := by decide +kernel
theorem dX4_init_44 : decode cX4_init 44 = .ok (.putfield 28, 3) := by decide +kernel
theorem dX4_init_47 : decode cX4_init 47 = .ok (.aload_n 0, 1) := by decide +kernel
theorem dX4_init_48 : decode cX4_init 48 = .ok (.iconst 0, 1) := by decide +kernel
theorem dX4_init_49 : decode cX4_init 49 = .ok (.putfield 32, 3) := by decide +kernel
theorem dX4_init_52 : decode cX4_init 52 = .ok (.aload_n 0, 1) := by decide +kernel
theorem dX4_init_53 : decode cX4_init 53 = .ok (.getfield 16, 3) := by decide +kernel
theorem dX4_init_56 : decode cX4_init 56 = .ok (.bipush 50, 2) := by decide +kernel
theorem dX4_init_58 : decode cX4_init 58 = .ok (.invokestatic 36, 3) := by decide +kernel
theorem dX4_init_61 : decode cX4_init 61 = .ok (.return_, 1) := by decide +kernel
theorem ke_X4_init : wl_I yX4_init cX4_init 1 0 := ⟨wd_c_X4_init, wd_i_X4_init, wd_n_X4, by decide, by decide +kernel, rfl⟩
set_option maxHeartbeats 4000000 in
set_option maxRecDepth 100000 in
theorem m_X4_init (l : Launch) (hflag : l.stackTraces = false) (G : k_G) (Z : Nat → Prop) (ad : k_Ad) (ct : k_Ct) (he : ct 0 0 = some (.inr (5, [.null, .null, .null, .null, .null, .int 0]))) (hfree : ∀ i, 0 < i → i < 6 → ct 0 i = none) : kx_v l yX4_init cX4_init 1 none 4 84 5 356 G Z ad ct [.ref (ad 0 0)] (fun u => ∃ q1 q2 q3 q4 q5, u = ((k_ad (k_ad (k_ad (k_ad (k_ad ad 0 1 q1) 0 2 q2) 0 3 q3) 0 4 q4) 0 5 q5), (k_up (k_up (k_up (k_up (k_up (k_up (k_up ct 0 1 (.inr (0, [.int 0, .ref G.2.2.2.2.1, .int 0]))) 0 2 (.inl (G.2.1, 6, .inl (fun _ => 0)))) 0 3 (.inl (G.2.1, 3, .inl (fun _ => 0)))) 0 4 (.inl (G.2.1, 3, .inl (fun _ => 0)))) 0 5 (.inl (G.2.2.1, 341, .inr (.inr (.inr (.inr (fun _ => none))))))) 0 0 (.inr (5, [.ref q1, .ref q2, .ref q3, .ref q4, .ref q5, .int 0]))) 0 2 (.inl (G.2.1, 6, .inl (fun j => if j < 6 then 50 else 0)))))) (fun _ => False) := by
  refine kx_ofI (by decide) (Nat.le_of_ble_eq_true rfl) ?_
  intro p e s m args below meth c hx hb hr hF hlk hnt hin hB ls hl
  obtain ⟨⟨hM, hN⟩, hK, hP, hT⟩ := hB
  have hS : va_S Z s.heap s.heap [] := va_S.rf
  have hl : lv_has ls 1 [(0, .ref (ad 0 0))] := hl
  rw [show ct = k_up ct 0 0 (.inr (5, [.null, .null, .null, .null, .null, .int 0])) from (up_of he (fun _ _ _ => rfl)).symm] at hM hN
  refine lv_aload_n hx hb dX4_init_0 rfl (lv_at hl 0 rfl) ?_
  refine g_oini hF wd_l_X4_1 hl.1 dX4_init_1 (by decide) (Nat.le_of_ble_eq_true rfl) ?_
  refine lv_aload_n hx hb dX4_init_4 rfl (lv_at hl 0 rfl) ?_
  refine k_new hF hK hM hN hS hT.2.2.2.2 0 1 ((k_up_o (by simp)).trans (hfree 1 (by decide) (by decide))) (ci := 0) (fs := [.int 0, .null, .int 0]) rfl inlJx4a65c tyJx4a65c tyJx4a65c_ok wd_k_X4_7 wd_a_Jx4a65c wd_n_Jx4a65c (by decide) (by decide) (by decide) dX4_init_5 (fun q1 H hM hN hS => ?_)
  rw [k_up_c (by simp)] at hM hN
  replace hM : k_H G (k_ad ad 0 1 q1) (k_up (k_up ct 0 1 (.inr (0, [.int 0, .null, .int 0]))) 0 0 (.inr (5, [.null, .null, .null, .null, .null, .int 0]))) H := hM
  replace hN : k_N Z (k_ad ad 0 1 q1) (k_up (k_up ct 0 1 (.inr (0, [.int 0, .null, .int 0]))) 0 0 (.inr (5, [.null, .null, .null, .null, .null, .int 0]))) := hN
  refine lv_dup hx hb dX4_init_8 rfl ?_
  refine kx_vI (pX1 := fun _ => False) (post := fun u => u = ((k_ad ad 0 1 q1), k_up (k_up (k_up ct 0 1 (.inr (0, [.int 0, .null, .int 0]))) 0 0 (.inr (5, [.null, .null, .null, .null, .null, .int 0]))) 0 1 (.inr (0, [.int 0, .ref G.2.2.2.2.1, .int 0])))) (fr := 3) (lo := 64) (mc1 := 0) (ms1 := 0) (b := q1) (As := []) (rest := [.ref q1, .ref (ad 0 0)]) hF (by have h9 := m_Jx4a65c_init_da8c8 l hflag G Z (k_ad ad 0 1 q1) (k_up (k_up ct 0 1 (.inr (0, [.int 0, .null, .int 0]))) 0 0 (.inr (5, [.null, .null, .null, .null, .null, .int 0]))) 0 1 ((k_up_o (by simp)).trans k_up_s); rw [k_ad_s] at h9; exact h9) ke_Jx4a65c_init_da8c8 wd_l_X4_9 (by decide) hM hN hK hP hT hS rfl hl.1 rfl (Nat.le_of_ble_eq_true rfl) dX4_init_9 (by decide) hnt hlk (fun E hE => False.elim hE) (by decide) (by decide) (fun u1 H locs hu1 hM hN hS _ _ => ?_)
  subst hu1
  replace hM : k_H G (k_ad ad 0 1 q1) (k_up (k_up (k_up ct 0 1 (.inr (0, [.int 0, .null, .int 0]))) 0 0 (.inr (5, [.null, .null, .null, .null, .null, .int 0]))) 0 1 (.inr (0, [.int 0, .ref G.2.2.2.2.1, .int 0]))) H := hM
  replace hN : k_N Z (k_ad ad 0 1 q1) (k_up (k_up (k_up ct 0 1 (.inr (0, [.int 0, .null, .int 0]))) 0 0 (.inr (5, [.null, .null, .null, .null, .null, .int 0]))) 0 1 (.inr (0, [.int 0, .ref G.2.2.2.2.1, .int 0]))) := hN
  rw [k_up_c (k := 0) (i := 0) (by simp), k_up_t] at hM hN
  replace hM : k_H G (k_ad ad 0 1 q1) (k_up (k_up ct 0 1 (.inr (0, [.int 0, .ref G.2.2.2.2.1, .int 0]))) 0 0 (.inr (5, [.null, .null, .null, .null, .null, .int 0]))) H := hM
  replace hN : k_N Z (k_ad ad 0 1 q1) (k_up (k_up ct 0 1 (.inr (0, [.int 0, .ref G.2.2.2.2.1, .int 0]))) 0 0 (.inr (5, [.null, .null, .null, .null, .null, .int 0]))) := hN
  refine k_putF (v := .ref q1) (fs := [.null, .null, .null, .null, .null, .int 0]) hF hK hM hN hS 0 0 k_up_s rfl inlX4 tyX4 tyX4_ok nmX4 0 (by decide) rfl wd_f_X4_10 rfl hin rfl rfl rfl (by show 0 < 6; decide) dX4_init_12 (fun H locs hM hN hS => ?_)
  rw [k_up_t] at hM hN
  replace hM : k_H G (k_ad ad 0 1 q1) (k_up (k_up ct 0 1 (.inr (0, [.int 0, .ref G.2.2.2.2.1, .int 0]))) 0 0 (.inr (5, [.ref q1, .null, .null, .null, .null, .int 0]))) H := hM
  replace hN : k_N Z (k_ad ad 0 1 q1) (k_up (k_up ct 0 1 (.inr (0, [.int 0, .ref G.2.2.2.2.1, .int 0]))) 0 0 (.inr (5, [.ref q1, .null, .null, .null, .null, .int 0]))) := hN
  refine lv_aload_n hx hb dX4_init_15 rfl (lv_at hl 0 rfl) ?_
  refine lv_bipush (v := 6) hx hb dX4_init_16 (by decide) ?_
  refine k_newa hF hK hM hN hS hT.2.2.2.2 0 2 ((k_up_o (by simp)).trans ((k_up_o (by simp)).trans (hfree 2 (by decide) (by decide)))) 6 (by decide) (by decide) (by decide) (by decide) (by decide) dX4_init_18 (fun q2 H hM hN hS => ?_)
  rw [k_up_c (by simp)] at hM hN
  replace hM : k_H G (k_ad (k_ad ad 0 1 q1) 0 2 q2) (k_up (k_up (k_up ct 0 1 (.inr (0, [.int 0, .ref G.2.2.2.2.1, .int 0]))) 0 2 (.inl (G.2.1, 6, .inl (fun _ => 0)))) 0 0 (.inr (5, [.ref q1, .null, .null, .null, .null, .int 0]))) H := hM
  replace hN : k_N Z (k_ad (k_ad ad 0 1 q1) 0 2 q2) (k_up (k_up (k_up ct 0 1 (.inr (0, [.int 0, .ref G.2.2.2.2.1, .int 0]))) 0 2 (.inl (G.2.1, 6, .inl (fun _ => 0)))) 0 0 (.inr (5, [.ref q1, .null, .null, .null, .null, .int 0]))) := hN
  refine k_putF (v := .ref q2) (fs := [.ref q1, .null, .null, .null, .null, .int 0]) hF hK hM hN hS 0 0 k_up_s rfl inlX4 tyX4 tyX4_ok nmX4 1 (by decide) rfl wd_f_X4_16 rfl hin rfl rfl rfl (by show 1 < 6; decide) dX4_init_20 (fun H locs hM hN hS => ?_)
  rw [k_up_t] at hM hN
  replace hM : k_H G (k_ad (k_ad ad 0 1 q1) 0 2 q2) (k_up (k_up (k_up ct 0 1 (.inr (0, [.int 0, .ref G.2.2.2.2.1, .int 0]))) 0 2 (.inl (G.2.1, 6, .inl (fun _ => 0)))) 0 0 (.inr (5, [.ref q1, .ref q2, .null, .null, .null, .int 0]))) H := hM
  replace hN : k_N Z (k_ad (k_ad ad 0 1 q1) 0 2 q2) (k_up (k_up (k_up ct 0 1 (.inr (0, [.int 0, .ref G.2.2.2.2.1, .int 0]))) 0 2 (.inl (G.2.1, 6, .inl (fun _ => 0)))) 0 0 (.inr (5, [.ref q1, .ref q2, .null, .null, .null, .int 0]))) := hN
  refine lv_aload_n hx hb dX4_init_23 rfl (lv_at hl 0 rfl) ?_
  refine lv_iconst (v := 3) hx hb dX4_init_24 (by decide) ?_
  refine k_newa hF hK hM hN hS hT.2.2.2.2 0 3 ((k_up_o (by simp)).trans ((k_up_o (by simp)).trans ((k_up_o (by simp)).trans (hfree 3 (by decide) (by decide))))) 3 (by decide) (by decide) (by decide) (by decide) (by decide) dX4_init_25 (fun q3 H hM hN hS => ?_)
  rw [k_up_c (by simp)] at hM hN
  replace hM : k_H G (k_ad (k_ad (k_ad ad 0 1 q1) 0 2 q2) 0 3 q3) (k_up (k_up (k_up (k_up ct 0 1 (.inr (0, [.int 0, .ref G.2.2.2.2.1, .int 0]))) 0 2 (.inl (G.2.1, 6, .inl (fun _ => 0)))) 0 3 (.inl (G.2.1, 3, .inl (fun _ => 0)))) 0 0 (.inr (5, [.ref q1, .ref q2, .null, .null, .null, .int 0]))) H := hM
  replace hN : k_N Z (k_ad (k_ad (k_ad ad 0 1 q1) 0 2 q2) 0 3 q3) (k_up (k_up (k_up (k_up ct 0 1 (.inr (0, [.int 0, .ref G.2.2.2.2.1, .int 0]))) 0 2 (.inl (G.2.1, 6, .inl (fun _ => 0)))) 0 3 (.inl (G.2.1, 3, .inl (fun _ => 0)))) 0 0 (.inr (5, [.ref q1, .ref q2, .null, .null, .null, .int 0]))) := hN
  refine k_putF (v := .ref q3) (fs := [.ref q1, .ref q2, .null, .null, .null, .int 0]) hF hK hM hN hS 0 0 k_up_s rfl inlX4 tyX4 tyX4_ok nmX4 2 (by decide) rfl wd_f_X4_20 rfl hin rfl rfl rfl (by show 2 < 6; decide) dX4_init_27 (fun H locs hM hN hS => ?_)
  rw [k_up_t] at hM hN
  replace hM : k_H G (k_ad (k_ad (k_ad ad 0 1 q1) 0 2 q2) 0 3 q3) (k_up (k_up (k_up (k_up ct 0 1 (.inr (0, [.int 0, .ref G.2.2.2.2.1, .int 0]))) 0 2 (.inl (G.2.1, 6, .inl (fun _ => 0)))) 0 3 (.inl (G.2.1, 3, .inl (fun _ => 0)))) 0 0 (.inr (5, [.ref q1, .ref q2, .ref q3, .null, .null, .int 0]))) H := hM
  replace hN : k_N Z (k_ad (k_ad (k_ad ad 0 1 q1) 0 2 q2) 0 3 q3) (k_up (k_up (k_up (k_up ct 0 1 (.inr (0, [.int 0, .ref G.2.2.2.2.1, .int 0]))) 0 2 (.inl (G.2.1, 6, .inl (fun _ => 0)))) 0 3 (.inl (G.2.1, 3, .inl (fun _ => 0)))) 0 0 (.inr (5, [.ref q1, .ref q2, .ref q3, .null, .null, .int 0]))) := hN
  refine lv_aload_n hx hb dX4_init_30 rfl (lv_at hl 0 rfl) ?_
  refine lv_iconst (v := 3) hx hb dX4_init_31 (by decide) ?_
  refine k_newa hF hK hM hN hS hT.2.2.2.2 0 4 ((k_up_o (by simp)).trans ((k_up_o (by simp)).trans ((k_up_o (by simp)).trans ((k_up_o (by simp)).trans (hfree 4 (by decide) (by decide)))))) 3 (by decide) (by decide) (by decide) (by decide) (by decide) dX4_init_32 (fun q4 H hM hN hS => ?_)
  rw [k_up_c (by simp)] at hM hN
  replace hM : k_H G (k_ad (k_ad (k_ad (k_ad ad 0 1 q1) 0 2 q2) 0 3 q3) 0 4 q4) (k_up (k_up (k_up (k_up (k_up ct 0 1 (.inr (0, [.int 0, .ref G.2.2.2.2.1, .int 0]))) 0 2 (.inl (G.2.1, 6, .inl (fun _ => 0)))) 0 3 (.inl (G.2.1, 3, .inl (fun _ => 0)))) 0 4 (.inl (G.2.1, 3, .inl (fun _ => 0)))) 0 0 (.inr (5, [.ref q1, .ref q2, .ref q3, .null, .null, .int 0]))) H := hM
  replace hN : k_N Z (k_ad (k_ad (k_ad (k_ad ad 0 1 q1) 0 2 q2) 0 3 q3) 0 4 q4) (k_up (k_up (k_up (k_up (k_up ct 0 1 (.inr (0, [.int 0, .ref G.2.2.2.2.1, .int 0]))) 0 2 (.inl (G.2.1, 6, .inl (fun _ => 0)))) 0 3 (.inl (G.2.1, 3, .inl (fun _ => 0)))) 0 4 (.inl (G.2.1, 3, .inl (fun _ => 0)))) 0 0 (.inr (5, [.ref q1, .ref q2, .ref q3, .null, .null, .int 0]))) := hN
  refine k_putF (v := .ref q4) (fs := [.ref q1, .ref q2, .ref q3, .null, .null, .int 0]) hF hK hM hN hS 0 0 k_up_s rfl inlX4 tyX4 tyX4_ok nmX4 3 (by decide) rfl wd_f_X4_23 rfl hin rfl rfl rfl (by show 3 < 6; decide) dX4_init_34 (fun H locs hM hN hS => ?_)
  rw [k_up_t] at hM hN
  replace hM : k_H G (k_ad (k_ad (k_ad (k_ad ad 0 1 q1) 0 2 q2) 0 3 q3) 0 4 q4) (k_up (k_up (k_up (k_up (k_up ct 0 1 (.inr (0, [.int 0, .ref G.2.2.2.2.1, .int 0]))) 0 2 (.inl (G.2.1, 6, .inl (fun _ => 0)))) 0 3 (.inl (G.2.1, 3, .inl (fun _ => 0)))) 0 4 (.inl (G.2.1, 3, .inl (fun _ => 0)))) 0 0 (.inr (5, [.ref q1, .ref q2, .ref q3, .ref q4, .null, .int 0]))) H := hM
  replace hN : k_N Z (k_ad (k_ad (k_ad (k_ad ad 0 1 q1) 0 2 q2) 0 3 q3) 0 4 q4) (k_up (k_up (k_up (k_up (k_up ct 0 1 (.inr (0, [.int 0, .ref G.2.2.2.2.1, .int 0]))) 0 2 (.inl (G.2.1, 6, .inl (fun _ => 0)))) 0 3 (.inl (G.2.1, 3, .inl (fun _ => 0)))) 0 4 (.inl (G.2.1, 3, .inl (fun _ => 0)))) 0 0 (.inr (5, [.ref q1, .ref q2, .ref q3, .ref q4, .null, .int 0]))) := hN
  refine lv_aload_n hx hb dX4_init_37 rfl (lv_at hl 0 rfl) ?_
  refine lv_sipush (v := 341) hx hb dX4_init_38 (by decide) ?_
  refine k_newq (t0 := 1) (C := "SignTiles$Tile") hF hK hM hN hS hT.2.2.2.2 0 5 ((k_up_o (by simp)).trans ((k_up_o (by simp)).trans ((k_up_o (by simp)).trans ((k_up_o (by simp)).trans ((k_up_o (by simp)).trans (hfree 5 (by decide) (by decide))))))) rfl wd_k_X4_26 hP.2.2.2.2.2.1 341 (by decide) (by decide) (by decide) (by decide) (by decide) dX4_init_41 (fun q5 H hM hN hS => ?_)
  rw [k_up_c (by simp)] at hM hN
  replace hM : k_H G (k_ad (k_ad (k_ad (k_ad (k_ad ad 0 1 q1) 0 2 q2) 0 3 q3) 0 4 q4) 0 5 q5) (k_up (k_up (k_up (k_up (k_up (k_up ct 0 1 (.inr (0, [.int 0, .ref G.2.2.2.2.1, .int 0]))) 0 2 (.inl (G.2.1, 6, .inl (fun _ => 0)))) 0 3 (.inl (G.2.1, 3, .inl (fun _ => 0)))) 0 4 (.inl (G.2.1, 3, .inl (fun _ => 0)))) 0 5 (.inl (G.2.2.1, 341, .inr (.inr (.inr (.inr (fun _ => none))))))) 0 0 (.inr (5, [.ref q1, .ref q2, .ref q3, .ref q4, .null, .int 0]))) H := hM
  replace hN : k_N Z (k_ad (k_ad (k_ad (k_ad (k_ad ad 0 1 q1) 0 2 q2) 0 3 q3) 0 4 q4) 0 5 q5) (k_up (k_up (k_up (k_up (k_up (k_up ct 0 1 (.inr (0, [.int 0, .ref G.2.2.2.2.1, .int 0]))) 0 2 (.inl (G.2.1, 6, .inl (fun _ => 0)))) 0 3 (.inl (G.2.1, 3, .inl (fun _ => 0)))) 0 4 (.inl (G.2.1, 3, .inl (fun _ => 0)))) 0 5 (.inl (G.2.2.1, 341, .inr (.inr (.inr (.inr (fun _ => none))))))) 0 0 (.inr (5, [.ref q1, .ref q2, .ref q3, .ref q4, .null, .int 0]))) := hN
  refine k_putF (v := .ref q5) (fs := [.ref q1, .ref q2, .ref q3, .ref q4, .null, .int 0]) hF hK hM hN hS 0 0 k_up_s rfl inlX4 tyX4 tyX4_ok nmX4 4 (by decide) rfl wd_f_X4_28 rfl hin rfl rfl rfl (by show 4 < 6; decide) dX4_init_44 (fun H locs hM hN hS => ?_)
  rw [k_up_t] at hM hN
  replace hM : k_H G (k_ad (k_ad (k_ad (k_ad (k_ad ad 0 1 q1) 0 2 q2) 0 3 q3) 0 4 q4) 0 5 q5) (k_up (k_up (k_up (k_up (k_up (k_up ct 0 1 (.inr (0, [.int 0, .ref G.2.2.2.2.1, .int 0]))) 0 2 (.inl (G.2.1, 6, .inl (fun _ => 0)))) 0 3 (.inl (G.2.1, 3, .inl (fun _ => 0)))) 0 4 (.inl (G.2.1, 3, .inl (fun _ => 0)))) 0 5 (.inl (G.2.2.1, 341, .inr (.inr (.inr (.inr (fun _ => none))))))) 0 0 (.inr (5, [.ref q1, .ref q2, .ref q3, .ref q4, .ref q5, .int 0]))) H := hM
  replace hN : k_N Z (k_ad (k_ad (k_ad (k_ad (k_ad ad 0 1 q1) 0 2 q2) 0 3 q3) 0 4 q4) 0 5 q5) (k_up (k_up (k_up (k_up (k_up (k_up ct 0 1 (.inr (0, [.int 0, .ref G.2.2.2.2.1, .int 0]))) 0 2 (.inl (G.2.1, 6, .inl (fun _ => 0)))) 0 3 (.inl (G.2.1, 3, .inl (fun _ => 0)))) 0 4 (.inl (G.2.1, 3, .inl (fun _ => 0)))) 0 5 (.inl (G.2.2.1, 341, .inr (.inr (.inr (.inr (fun _ => none))))))) 0 0 (.inr (5, [.ref q1, .ref q2, .ref q3, .ref q4, .ref q5, .int 0]))) := hN
  refine lv_aload_n hx hb dX4_init_47 rfl (lv_at hl 0 rfl) ?_
  refine lv_iconst (v := 0) hx hb dX4_init_48 (by decide) ?_
  refine k_put (v := .int 0) (fs := [.ref q1, .ref q2, .ref q3, .ref q4, .ref q5, .int 0]) hF hK hM hN hS 0 0 k_up_s rfl inlX4 tyX4 tyX4_ok nmX4 5 (by decide) rfl wd_f_X4_32 rfl rfl rfl (by show 5 < 6; decide) dX4_init_49 (fun H locs hM hN hS => ?_)
  rw [k_up_t] at hM hN
  replace hM : k_H G (k_ad (k_ad (k_ad (k_ad (k_ad ad 0 1 q1) 0 2 q2) 0 3 q3) 0 4 q4) 0 5 q5) (k_up (k_up (k_up (k_up (k_up (k_up ct 0 1 (.inr (0, [.int 0, .ref G.2.2.2.2.1, .int 0]))) 0 2 (.inl (G.2.1, 6, .inl (fun _ => 0)))) 0 3 (.inl (G.2.1, 3, .inl (fun _ => 0)))) 0 4 (.inl (G.2.1, 3, .inl (fun _ => 0)))) 0 5 (.inl (G.2.2.1, 341, .inr (.inr (.inr (.inr (fun _ => none))))))) 0 0 (.inr (5, [.ref q1, .ref q2, .ref q3, .ref q4, .ref q5, .int 0]))) H := hM
  replace hN : k_N Z (k_ad (k_ad (k_ad (k_ad (k_ad ad 0 1 q1) 0 2 q2) 0 3 q3) 0 4 q4) 0 5 q5) (k_up (k_up (k_up (k_up (k_up (k_up ct 0 1 (.inr (0, [.int 0, .ref G.2.2.2.2.1, .int 0]))) 0 2 (.inl (G.2.1, 6, .inl (fun _ => 0)))) 0 3 (.inl (G.2.1, 3, .inl (fun _ => 0)))) 0 4 (.inl (G.2.1, 3, .inl (fun _ => 0)))) 0 5 (.inl (G.2.2.1, 341, .inr (.inr (.inr (.inr (fun _ => none))))))) 0 0 (.inr (5, [.ref q1, .ref q2, .ref q3, .ref q4, .ref q5, .int 0]))) := hN
  refine lv_aload_n hx hb dX4_init_52 rfl (lv_at hl 0 rfl) ?_
  refine g_get (C := RX4) (T := TX4) (N := 6) (v := .ref q2) hF hK (hM 0 0 _ k_up_s) rfl inlX4 1 (by decide) rfl wd_f_X4_16 rfl dX4_init_53 ?_
  refine lv_bipush (v := 50) hx hb dX4_init_56 (by decide) ?_
  have hq2 : (k_ad (k_ad (k_ad (k_ad (k_ad ad 0 1 q1) 0 2 q2) 0 3 q3) 0 4 q4) 0 5 q5) 0 2 = q2 := by rw [k_ad_o (by simp), k_ad_o (by simp), k_ad_o (by simp), k_ad_s]
  refine kx_vS (pX1 := fun _ => False) (post := fun u => u = ((k_ad (k_ad (k_ad (k_ad (k_ad ad 0 1 q1) 0 2 q2) 0 3 q3) 0 4 q4) 0 5 q5), k_up (k_up (k_up (k_up (k_up (k_up (k_up ct 0 1 (.inr (0, [.int 0, .ref G.2.2.2.2.1, .int 0]))) 0 2 (.inl (G.2.1, 6, .inl (fun _ => 0)))) 0 3 (.inl (G.2.1, 3, .inl (fun _ => 0)))) 0 4 (.inl (G.2.1, 3, .inl (fun _ => 0)))) 0 5 (.inl (G.2.2.1, 341, .inr (.inr (.inr (.inr (fun _ => none))))))) 0 0 (.inr (5, [.ref q1, .ref q2, .ref q3, .ref q4, .ref q5, .int 0]))) 0 2 (.inl (G.2.1, 6, .inl (fun j => if j < 6 then 50 else 0))))) (fr := 0) (lo := 0) (mc1 := 0) (ms1 := 0) (As := [.ref q2, .int 50]) (rest := []) hF (by have h9 := m_J7_fill_53178 l hflag G Z (k_ad (k_ad (k_ad (k_ad (k_ad ad 0 1 q1) 0 2 q2) 0 3 q3) 0 4 q4) 0 5 q5) (k_up (k_up (k_up (k_up (k_up (k_up ct 0 1 (.inr (0, [.int 0, .ref G.2.2.2.2.1, .int 0]))) 0 2 (.inl (G.2.1, 6, .inl (fun _ => 0)))) 0 3 (.inl (G.2.1, 3, .inl (fun _ => 0)))) 0 4 (.inl (G.2.1, 3, .inl (fun _ => 0)))) 0 5 (.inl (G.2.2.1, 341, .inr (.inr (.inr (.inr (fun _ => none))))))) 0 0 (.inr (5, [.ref q1, .ref q2, .ref q3, .ref q4, .ref q5, .int 0]))) 0 2 6 (fun _ => 0) 50 (by rw [k_up_o (by simp), k_up_o (by simp), k_up_o (by simp), k_up_o (by simp), k_up_s]) (by decide); rw [hq2] at h9; exact h9) ke_J7_fill_53178 wd_l_X4_36 (by decide) hM hN hK hP hT hS rfl hl.1 rfl (Nat.le_of_ble_eq_true rfl) dX4_init_58 (by decide) hnt hlk (fun E hE => False.elim hE) (by decide) (by decide) (fun u1 H locs hu1 hM hN hS _ _ => ?_)
  subst hu1
  exact kx_vret hx hb hr hlk hM hN hK hS (by decide) (by decide) (⟨q1, q2, q3, q4, q5, rfl⟩) dX4_init_61
