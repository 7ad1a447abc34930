theorem dX0_init_0 : decode cX0_init 0 = .ok (.aload_n 0, 1) := by decide +kernel
theorem dX0_init_1 : decode cX0_init 1 = .ok (.invokespecial 1, 3) := by decide +kernel
theorem dX0_init_4 : decode cX0_init 4 = .ok (.aload_n 0, 1) := by decide +kernel
theorem dX0_init_5 : decode cX0_init 5 = .ok (.iload_n 1, 1) := by decide +kernel
theorem dX0_init_6 : decode cX0_init 6 = .ok (.putfield 7, 3) := by decide +kernel
theorem dX0_init_9 : decode cX0_init 9 = .ok (.aload_n 0, 1) := by decide +kernel
theorem dX0_init_10 : decode cX0_init 10 = .ok (.iload_n 2, 1) := by decide +kernel
theorem dX0_init_11 : decode cX0_init 11 = .ok (.putfield 13, 3) := by decide +kernel
theorem dX0_init_14 : decode cX0_init 14 = .ok (.aload_n 0, 1) := by decide +kernel
theorem dX0_init_15 : decode cX0_init 15 = .ok (.iload_n 3, 1) := by decide +kernel
theorem dX0_init_16 : decode cX0_init 16 = .ok (.putfield 16, 3) := by decide +kernel
theorem dX0_init_19 : decode cX0_init 19 = .ok (.return_, 1) := by decide +kernel
theorem dX1_init_0 : decode cX1_init 0 = .ok (.aload_n 0, 1) := by decide +kernel
theorem dX1_init_1 : decode cX1_init 1 = .ok (.invokespecial 3, 3) := by decide +kernel
theorem dX1_init_4 : decode cX1_init 4 = .ok (.aload_n 0, 1) := by decide +kernel
theorem dX1_init_5 : decode cX1_init 5 = .ok (.iconst 0, 1) := by decide +kernel
theorem dX1_init_6 : decode cX1_init 6 = .ok (.putfield 9, 3) := by decide +kernel
theorem dX1_init_9 : decode cX1_init 9 = .ok (.aload_n 0, 1) := by decide +kernel
theorem dX1_init_10 : decode cX1_init 10 = .ok (.iconst 0, 1) := by decide +kernel
theorem dX1_init_11 : decode cX1_init 11 = .ok (.putfield 15, 3) := by decide +kernel
theorem dX1_init_14 : decode cX1_init 14 = .ok (.bipush 16, 2) := by decide +kernel
theorem dX1_init_16 : decode cX1_init 16 = .ok (.iload_n 1, 1) := by decide +kernel
theorem dX1_init_17 : decode cX1_init 17 = .ok (.ishr, 1) := by decide +kernel
theorem dX1_init_18 : decode cX1_init 18 = .ok (.istore 4, 2) := by decide +kernel
theorem dX1_init_20 : decode cX1_init 20 = .ok (.aload_n 0, 1) := by decide +kernel
theorem dX1_init_21 : decode cX1_init 21 = .ok (.iload_n 1, 1) := by decide +kernel
theorem dX1_init_22 : decode cX1_init 22 = .ok (.putfield 18, 3) := by decide +kernel
theorem dX1_init_25 : decode cX1_init 25 = .ok (.aload_n 0, 1) := by decide +kernel
theorem dX1_init_26 : decode cX1_init 26 = .ok (.iload_n 2, 1) := by decide +kernel
theorem dX1_init_27 : decode cX1_init 27 = .ok (.iload 4, 2) := by decide +kernel
theorem dX1_init_29 : decode cX1_init 29 = .ok (.imul, 1) := by decide +kernel
theorem dX1_init_30 : decode cX1_init 30 = .ok (.putfield 21, 3) := by decide +kernel
theorem dX1_init_33 : decode cX1_init 33 = .ok (.aload_n 0, 1) := by decide +kernel
theorem dX1_init_34 : decode cX1_init 34 = .ok (.aload_n 0, 1) := by decide +kernel
theorem dX1_init_35 : decode cX1_init 35 = .ok (.getfield 21, 3) := by decide +kernel
theorem dX1_init_38 : decode cX1_init 38 = .ok (.iload 4, 2) := by decide +kernel
theorem dX1_init_40 : decode cX1_init 40 = .ok (.iadd, 1) := by decide +kernel
theorem dX1_init_41 : decode cX1_init 41 = .ok (.putfield 24, 3) := by decide +kernel
theorem dX1_init_44 : decode cX1_init 44 = .ok (.aload_n 0, 1) := by decide +kernel
theorem dX1_init_45 : decode cX1_init 45 = .ok (.iload_n 3, 1) := by decide +kernel
theorem dX1_init_46 : decode cX1_init 46 = .ok (.iload 4, 2) := by decide +kernel
theorem dX1_init_48 : decode cX1_init 48 = .ok (.imul, 1) := by decide +kernel
theorem dX1_init_49 : decode cX1_init 49 = .ok (.putfield 27, 3) := by decide +kernel
theorem dX1_init_52 : decode cX1_init 52 = .ok (.aload_n 0, 1) := by decide +kernel
theorem dX1_init_53 : decode cX1_init 53 = .ok (.aload_n 0, 1) := by decide +kernel
theorem dX1_init_54 : decode cX1_init 54 = .ok (.getfield 27, 3) := by decide +kernel
theorem dX1_init_57 : decode cX1_init 57 = .ok (.iload 4, 2) := by decide +kernel
theorem dX1_init_59 : decode cX1_init 59 = .ok (.iadd, 1) := by decide +kernel
theorem dX1_init_60 : decode cX1_init 60 = .ok (.putfield 30, 3) := by decide +kernel
theorem dX1_init_63 : decode cX1_init 63 = .ok (.return_, 1) := by decide +kernel
theorem dX2_init_0 : decode cX2_init 0 = .ok (.aload_n 0, 1) := by decide +kernel
theorem dX2_init_1 : decode cX2_init 1 = .ok (.invokespecial 1, 3) := by decide +kernel
theorem dX2_init_4 : decode cX2_init 4 = .ok (.aload_n 0, 1) := by decide +kernel
theorem dX2_init_5 : decode cX2_init 5 = .ok (.aload_n 1, 1) := by decide +kernel
theorem dX2_init_6 : decode cX2_init 6 = .ok (.putfield 7, 3) := by decide +kernel
theorem dX2_init_9 : decode cX2_init 9 = .ok (.aload_n 0, 1) := by decide +kernel
theorem dX2_init_10 : decode cX2_init 10 = .ok (.iload_n 2, 1) := by decide +kernel
theorem dX2_init_11 : decode cX2_init 11 = .ok (.putfield 13, 3) := by decide +kernel
theorem dX2_init_14 : decode cX2_init 14 = .ok (.aload_n 0, 1) := by decide +kernel
theorem dX2_init_15 : decode cX2_init 15 = .ok (.aload_n 3, 1) := by decide +kernel
theorem dX2_init_16 : decode cX2_init 16 = .ok (.ifnonnull 7, 3) := by decide +kernel
theorem dX2_init_19 : decode cX2_init 19 = .ok (.iconst 0, 1) := by decide +kernel
theorem dX2_init_20 : decode cX2_init 20 = .ok (.goto 9, 3) := by decide +kernel
theorem dX2_init_23 : decode cX2_init 23 = .ok (.aload_n 3, 1) := by decide +kernel
theorem dX2_init_24 : decode cX2_init 24 = .ok (.getfield 17, 3) := by decide +kernel
theorem dX2_init_27 : decode cX2_init 27 = .ok (.iconst 1, 1) := by decide +kernel
theorem dX2_init_28 : decode cX2_init 28 = .ok (.iadd, 1) := by decide +kernel
theorem dX2_init_29 : decode cX2_init 29 = .ok (.putfield 17, 3) := by decide +kernel
theorem dX2_init_32 : decode cX2_init 32 = .ok (.aload_n 0, 1) := by decide +kernel
theorem dX2_init_33 : decode cX2_init 33 = .ok (.aload_n 3, 1) := by decide +kernel
theorem dX2_init_34 : decode cX2_init 34 = .ok (.putfield 20, 3) := by decide +kernel
theorem dX2_init_37 : decode cX2_init 37 = .ok (.return_, 1) := by decide +kernel
theorem dX3_init_0 : decode cX3_init 0 = .ok (.aload_n 0, 1) := by decide +kernel
theorem dX3_init_1 : decode cX3_init 1 = .ok (.invokespecial 3, 3) := by decide +kernel
theorem dX3_init_4 : decode cX3_init 4 = .ok (.aload_n 0, 1) := by decide +kernel
theorem dX3_init_5 : decode cX3_init 5 = .ok (.iconst 0, 1) := by decide +kernel
theorem dX3_init_6 : decode cX3_init 6 = .ok (.putfield 9, 3) := by decide +kernel
theorem dX3_init_9 : decode cX3_init 9 = .ok (.aload_n 0, 1) := by decide +kernel
theorem dX3_init_10 : decode cX3_init 10 = .ok (.aconst_null, 1) := by decide +kernel
theorem dX3_init_11 : decode cX3_init 11 = .ok (.putfield 15, 3) := by decide +kernel
theorem dX3_init_14 : decode cX3_init 14 = .ok (.aload_n 0, 1) := by decide +kernel
theorem dX3_init_15 : decode cX3_init 15 = .ok (.bipush 9, 2) := by decide +kernel
theorem dX3_init_17 : decode cX3_init 17 = .ok (.newarray .int, 2) := by decide +kernel
theorem dX3_init_19 : decode cX3_init 19 = .ok (.putfield 19, 3) := by decide +kernel
theorem dX3_init_22 : decode cX3_init 22 = .ok (.aload_n 0, 1) := by decide +kernel
theorem dX3_init_23 : decode cX3_init 23 = .ok (.iload_n 1, 1) := by decide +kernel
theorem dX3_init_24 : decode cX3_init 24 = .ok (.putfield 23, 3) := by decide +kernel
theorem dX3_init_27 : decode cX3_init 27 = .ok (.aload_n 0, 1) := by decide +kernel
theorem dX3_init_28 : decode cX3_init 28 = .ok (.iload_n 2, 1) := by decide +kernel
theorem dX3_init_29 : decode cX3_init 29 = .ok (.putfield 26, 3) := by decide +kernel
theorem dX3_init_32 : decode cX3_init 32 = .ok (.aload_n 0, 1) := by decide +kernel
theorem dX3_init_33 : decode cX3_init 33 = .ok (.iload_n 3, 1) := by decide +kernel
theorem dX3_init_34 : decode cX3_init 34 = .ok (.putfield 29, 3) := by decide +kernel
theorem dX3_init_37 : decode cX3_init 37 = .ok (.aload_n 0, 1) := by decide +kernel
theorem dX3_init_38 : decode cX3_init 38 = .ok (.iload 4, 2) := by decide +kernel
theorem dX3_init_40 : decode cX3_init 40 = .ok (.putfield 32, 3) := by decide +kernel
theorem dX3_init_43 : decode cX3_init 43 = .ok (.aload_n 0, 1) := by decide +kernel
theorem dX3_init_44 : decode cX3_init 44 = .ok (.aload 5, 2) := by decide +kernel
theorem dX3_init_46 : decode cX3_init 46 = .ok (.putfield 35, 3) := by decide +kernel
theorem dX3_init_49 : decode cX3_init 49 = .ok (.aload_n 0, 1) := by decide +kernel
theorem dX3_init_50 : decode cX3_init 50 = .ok (.getfield 19, 3) := by decide +kernel
theorem dX3_init_53 : decode cX3_init 53 = .ok (.iconst (-1), 1) := by decide +kernel
theorem dX3_init_54 : decode cX3_init 54 = .ok (.invokestatic 39, 3) := by decide +kernel
theorem dX3_init_57 : decode cX3_init 57 = .ok (.return_, 1) := by decide +kernel
theorem ke_X0_init : wl_I yX0_init cX0_init 4 3 := ⟨wd_c_X0_init, wd_i_X0_init, wd_n_X0, by decide, by decide +kernel, rfl⟩
set_option maxHeartbeats 4000000 in
set_option maxRecDepth 100000 in
theorem m_X0_init (l : Launch) (hflag : l.stackTraces = false) (G : k_G) (Z : Nat → Prop) (ad : k_Ad) (ct : k_Ct) (K i : Nat) (k d f : Int32) (he : ct K i = some (.inr (1, [.int 0, .int 0, .int 0]))) : kx_v l yX0_init cX0_init 4 none 1 24 0 0 G Z ad ct [.ref (ad K i), .int k, .int d, .int f] (fun u => u = (ad, (k_up ct K i (.inr (1, [.int k, .int d, .int f]))))) (fun _ => False) := by
  refine kx_ofI (by decide) (Nat.le_of_ble_eq_true rfl) ?_
  intro p e s m args below meth c hx hb hr hF hlk hnt hin hB ls hl
  obtain ⟨⟨hM, hN⟩, hK, hP, hT⟩ := hB
  have hS : va_S Z s.heap s.heap [] := va_S.rf
  have hl : lv_has ls 4 [(0, .ref (ad K i)), (1, .int k), (2, .int d), (3, .int f)] := hl
  refine lv_aload_n hx hb dX0_init_0 rfl (lv_at hl 0 rfl) ?_
  refine g_oini hF wd_l_X0_1 hl.1 dX0_init_1 (by decide) (Nat.le_of_ble_eq_true rfl) ?_
  refine lv_aload_n hx hb dX0_init_4 rfl (lv_at hl 0 rfl) ?_
  refine lv_iload_n hx hb dX0_init_5 rfl (lv_at hl 1 rfl) ?_
  refine k_putF (v := .int k) (fs := [.int 0, .int 0, .int 0]) hF hK hM hN hS K i he rfl inlX0 tyX0 tyX0_ok nmX0 0 (by decide) rfl wd_f_X0_7 rfl hin rfl rfl rfl (by show 0 < 3; decide) dX0_init_6 (fun H locs hM hN hS => ?_)
  replace hM : k_H G ad (k_up ct K i (.inr (1, [.int k, .int 0, .int 0]))) H := hM
  replace hN : k_N Z ad (k_up ct K i (.inr (1, [.int k, .int 0, .int 0]))) := hN
  refine lv_aload_n hx hb dX0_init_9 rfl (lv_at hl 0 rfl) ?_
  refine lv_iload_n hx hb dX0_init_10 rfl (lv_at hl 2 rfl) ?_
  refine k_putF (v := .int d) (fs := [.int k, .int 0, .int 0]) hF hK hM hN hS K i k_up_s rfl inlX0 tyX0 tyX0_ok nmX0 1 (by decide) rfl wd_f_X0_13 rfl hin rfl rfl rfl (by show 1 < 3; decide) dX0_init_11 (fun H locs hM hN hS => ?_)
  rw [k_up_t] at hM hN
  replace hM : k_H G ad (k_up ct K i (.inr (1, [.int k, .int d, .int 0]))) H := hM
  replace hN : k_N Z ad (k_up ct K i (.inr (1, [.int k, .int d, .int 0]))) := hN
  refine lv_aload_n hx hb dX0_init_14 rfl (lv_at hl 0 rfl) ?_
  refine lv_iload_n hx hb dX0_init_15 rfl (lv_at hl 3 rfl) ?_
  refine k_putF (v := .int f) (fs := [.int k, .int d, .int 0]) hF hK hM hN hS K i k_up_s rfl inlX0 tyX0 tyX0_ok nmX0 2 (by decide) rfl wd_f_X0_16 rfl hin rfl rfl rfl (by show 2 < 3; decide) dX0_init_16 (fun H locs hM hN hS => ?_)
  rw [k_up_t] at hM hN
  replace hM : k_H G ad (k_up ct K i (.inr (1, [.int k, .int d, .int f]))) H := hM
  replace hN : k_N Z ad (k_up ct K i (.inr (1, [.int k, .int d, .int f]))) := hN
  exact kx_vret hx hb hr hlk hM hN hK hS (by decide) (by decide) (rfl) dX0_init_19
theorem ke_X1_init : wl_I yX1_init cX1_init 5 3 := ⟨wd_c_X1_init, wd_i_X1_init, wd_n_X1, by decide, by decide +kernel, rfl⟩
set_option maxHeartbeats 4000000 in
set_option maxRecDepth 100000 in
theorem m_X1_init (l : Launch) (hflag : l.stackTraces = false) (G : k_G) (Z : Nat → Prop) (ad : k_Ad) (ct : k_Ct) (K i : Nat) (z x y : Int32) (he : ct K i = some (.inr (2, [.int 0, .int 0, .int 0, .int 0, .int 0, .int 0, .int 0]))) : kx_v l yX1_init cX1_init 5 none 1 24 0 0 G Z ad ct [.ref (ad K i), .int z, .int x, .int y] (fun u => u = (ad, (k_up ct K i (.inr (2, [.int z, .int (x * sp_sd z), .int (x * sp_sd z + sp_sd z), .int (y * sp_sd z), .int (y * sp_sd z + sp_sd z), .int 0, .int 0]))))) (fun _ => False) := by
  refine kx_ofI (by decide) (Nat.le_of_ble_eq_true rfl) ?_
  intro p e s m args below meth c hx hb hr hF hlk hnt hin hB ls hl
  obtain ⟨⟨hM, hN⟩, hK, hP, hT⟩ := hB
  have hS : va_S Z s.heap s.heap [] := va_S.rf
  have hl : lv_has ls 5 [(0, .ref (ad K i)), (1, .int z), (2, .int x), (3, .int y)] := hl
  refine lv_aload_n hx hb dX1_init_0 rfl (lv_at hl 0 rfl) ?_
  refine g_oini hF wd_l_X1_3 hl.1 dX1_init_1 (by decide) (Nat.le_of_ble_eq_true rfl) ?_
  refine lv_aload_n hx hb dX1_init_4 rfl (lv_at hl 0 rfl) ?_
  refine lv_iconst (v := 0) hx hb dX1_init_5 (by decide) ?_
  refine k_put (v := .int 0) (fs := [.int 0, .int 0, .int 0, .int 0, .int 0, .int 0, .int 0]) hF hK hM hN hS K i he rfl inlX1 tyX1 tyX1_ok nmX1 5 (by decide) rfl wd_f_X1_9 rfl rfl rfl (by show 5 < 7; decide) dX1_init_6 (fun H locs hM hN hS => ?_)
  replace hM : k_H G ad (k_up ct K i (.inr (2, [.int 0, .int 0, .int 0, .int 0, .int 0, .int 0, .int 0]))) H := hM
  replace hN : k_N Z ad (k_up ct K i (.inr (2, [.int 0, .int 0, .int 0, .int 0, .int 0, .int 0, .int 0]))) := hN
  refine lv_aload_n hx hb dX1_init_9 rfl (lv_at hl 0 rfl) ?_
  refine lv_iconst (v := 0) hx hb dX1_init_10 (by decide) ?_
  refine k_put (v := .int 0) (fs := [.int 0, .int 0, .int 0, .int 0, .int 0, .int 0, .int 0]) hF hK hM hN hS K i k_up_s rfl inlX1 tyX1 tyX1_ok nmX1 6 (by decide) rfl wd_f_X1_15 rfl rfl rfl (by show 6 < 7; decide) dX1_init_11 (fun H locs hM hN hS => ?_)
  rw [k_up_t] at hM hN
  replace hM : k_H G ad (k_up ct K i (.inr (2, [.int 0, .int 0, .int 0, .int 0, .int 0, .int 0, .int 0]))) H := hM
  replace hN : k_N Z ad (k_up ct K i (.inr (2, [.int 0, .int 0, .int 0, .int 0, .int 0, .int 0, .int 0]))) := hN
  refine lv_bipush (v := 16) hx hb dX1_init_14 (by decide) ?_
  refine lv_iload_n hx hb dX1_init_16 rfl (lv_at hl 1 rfl) ?_
  refine lv_ishr hx hb dX1_init_17 ?_
  refine bo_to (v := (sp_sd z)) (rfl) ?_
  refine lv_istore (lv' := [(4, .int (sp_sd z)), (0, .ref (ad K i)), (1, .int z), (2, .int x), (3, .int y)]) hx hb dX1_init_18 hl (by decide) rfl (fun ls hl => ?_)
  refine lv_aload_n hx hb dX1_init_20 rfl (lv_at hl 1 rfl) ?_
  refine lv_iload_n hx hb dX1_init_21 rfl (lv_at hl 2 rfl) ?_
  refine k_putF (v := .int z) (fs := [.int 0, .int 0, .int 0, .int 0, .int 0, .int 0, .int 0]) hF hK hM hN hS K i k_up_s rfl inlX1 tyX1 tyX1_ok nmX1 0 (by decide) rfl wd_f_X1_18 rfl hin rfl rfl rfl (by show 0 < 7; decide) dX1_init_22 (fun H locs hM hN hS => ?_)
  rw [k_up_t] at hM hN
  replace hM : k_H G ad (k_up ct K i (.inr (2, [.int z, .int 0, .int 0, .int 0, .int 0, .int 0, .int 0]))) H := hM
  replace hN : k_N Z ad (k_up ct K i (.inr (2, [.int z, .int 0, .int 0, .int 0, .int 0, .int 0, .int 0]))) := hN
  refine lv_aload_n hx hb dX1_init_25 rfl (lv_at hl 1 rfl) ?_
  refine lv_iload_n hx hb dX1_init_26 rfl (lv_at hl 3 rfl) ?_
  refine lv_iload hx hb dX1_init_27 (lv_at hl 0 rfl) ?_
  refine lv_imul hx hb dX1_init_29 ?_
  refine k_putF (v := .int (x * (sp_sd z))) (fs := [.int z, .int 0, .int 0, .int 0, .int 0, .int 0, .int 0]) hF hK hM hN hS K i k_up_s rfl inlX1 tyX1 tyX1_ok nmX1 1 (by decide) rfl wd_f_X1_21 rfl hin rfl rfl rfl (by show 1 < 7; decide) dX1_init_30 (fun H locs hM hN hS => ?_)
  rw [k_up_t] at hM hN
  replace hM : k_H G ad (k_up ct K i (.inr (2, [.int z, .int (x * (sp_sd z)), .int 0, .int 0, .int 0, .int 0, .int 0]))) H := hM
  replace hN : k_N Z ad (k_up ct K i (.inr (2, [.int z, .int (x * (sp_sd z)), .int 0, .int 0, .int 0, .int 0, .int 0]))) := hN
  refine lv_aload_n hx hb dX1_init_33 rfl (lv_at hl 1 rfl) ?_
  refine lv_aload_n hx hb dX1_init_34 rfl (lv_at hl 1 rfl) ?_
  refine g_get (C := RX1) (T := TX1) (N := 7) (v := .int (x * (sp_sd z))) hF hK (hM K i _ k_up_s) rfl inlX1 1 (by decide) rfl wd_f_X1_21 rfl dX1_init_35 ?_
  refine lv_iload hx hb dX1_init_38 (lv_at hl 0 rfl) ?_
  refine lv_iadd hx hb dX1_init_40 ?_
  refine k_putF (v := .int ((x * (sp_sd z)) + (sp_sd z))) (fs := [.int z, .int (x * (sp_sd z)), .int 0, .int 0, .int 0, .int 0, .int 0]) hF hK hM hN hS K i k_up_s rfl inlX1 tyX1 tyX1_ok nmX1 2 (by decide) rfl wd_f_X1_24 rfl hin rfl rfl rfl (by show 2 < 7; decide) dX1_init_41 (fun H locs hM hN hS => ?_)
  rw [k_up_t] at hM hN
  replace hM : k_H G ad (k_up ct K i (.inr (2, [.int z, .int (x * (sp_sd z)), .int ((x * (sp_sd z)) + (sp_sd z)), .int 0, .int 0, .int 0, .int 0]))) H := hM
  replace hN : k_N Z ad (k_up ct K i (.inr (2, [.int z, .int (x * (sp_sd z)), .int ((x * (sp_sd z)) + (sp_sd z)), .int 0, .int 0, .int 0, .int 0]))) := hN
  refine lv_aload_n hx hb dX1_init_44 rfl (lv_at hl 1 rfl) ?_
  refine lv_iload_n hx hb dX1_init_45 rfl (lv_at hl 4 rfl) ?_
  refine lv_iload hx hb dX1_init_46 (lv_at hl 0 rfl) ?_
  refine lv_imul hx hb dX1_init_48 ?_
  refine k_putF (v := .int (y * (sp_sd z))) (fs := [.int z, .int (x * (sp_sd z)), .int ((x * (sp_sd z)) + (sp_sd z)), .int 0, .int 0, .int 0, .int 0]) hF hK hM hN hS K i k_up_s rfl inlX1 tyX1 tyX1_ok nmX1 3 (by decide) rfl wd_f_X1_27 rfl hin rfl rfl rfl (by show 3 < 7; decide) dX1_init_49 (fun H locs hM hN hS => ?_)
  rw [k_up_t] at hM hN
  replace hM : k_H G ad (k_up ct K i (.inr (2, [.int z, .int (x * (sp_sd z)), .int ((x * (sp_sd z)) + (sp_sd z)), .int (y * (sp_sd z)), .int 0, .int 0, .int 0]))) H := hM
  replace hN : k_N Z ad (k_up ct K i (.inr (2, [.int z, .int (x * (sp_sd z)), .int ((x * (sp_sd z)) + (sp_sd z)), .int (y * (sp_sd z)), .int 0, .int 0, .int 0]))) := hN
  refine lv_aload_n hx hb dX1_init_52 rfl (lv_at hl 1 rfl) ?_
  refine lv_aload_n hx hb dX1_init_53 rfl (lv_at hl 1 rfl) ?_
  refine g_get (C := RX1) (T := TX1) (N := 7) (v := .int (y * (sp_sd z))) hF hK (hM K i _ k_up_s) rfl inlX1 3 (by decide) rfl wd_f_X1_27 rfl dX1_init_54 ?_
  refine lv_iload hx hb dX1_init_57 (lv_at hl 0 rfl) ?_
  refine lv_iadd hx hb dX1_init_59 ?_
  refine k_putF (v := .int ((y * (sp_sd z)) + (sp_sd z))) (fs := [.int z, .int (x * (sp_sd z)), .int ((x * (sp_sd z)) + (sp_sd z)), .int (y * (sp_sd z)), .int 0, .int 0, .int 0]) hF hK hM hN hS K i k_up_s rfl inlX1 tyX1 tyX1_ok nmX1 4 (by decide) rfl wd_f_X1_30 rfl hin rfl rfl rfl (by show 4 < 7; decide) dX1_init_60 (fun H locs hM hN hS => ?_)
  rw [k_up_t] at hM hN
  replace hM : k_H G ad (k_up ct K i (.inr (2, [.int z, .int (x * (sp_sd z)), .int ((x * (sp_sd z)) + (sp_sd z)), .int (y * (sp_sd z)), .int ((y * (sp_sd z)) + (sp_sd z)), .int 0, .int 0]))) H := hM
  replace hN : k_N Z ad (k_up ct K i (.inr (2, [.int z, .int (x * (sp_sd z)), .int ((x * (sp_sd z)) + (sp_sd z)), .int (y * (sp_sd z)), .int ((y * (sp_sd z)) + (sp_sd z)), .int 0, .int 0]))) := hN
  exact kx_vret hx hb hr hlk hM hN hK hS (by decide) (by decide) (rfl) dX1_init_63
theorem ke_X2_init : wl_I yX2_init cX2_init 4 3 := ⟨wd_c_X2_init, wd_i_X2_init, wd_n_X2, by decide, by decide +kernel, rfl⟩
set_option maxHeartbeats 4000000 in
set_option maxRecDepth 100000 in
theorem m_X2_init (l : Launch) (hflag : l.stackTraces = false) (G : k_G) (Z : Nat → Prop) (ad : k_Ad) (ct : k_Ct) (i j ca : Nat) (v n0 : Int32) (x0 x1 x3 : Value) (he : ct 3 i = some (.inr (3, [.null, .int 0, .int 0, .null]))) (hj : ct 3 j = some (.inr (3, [x0, x1, .int n0, x3]))) (hji : ¬ j = i) : kx_v l yX2_init cX2_init 4 none 1 24 0 0 G Z ad ct [.ref (ad 3 i), .ref ca, .int v, .ref (ad 3 j)] (fun u => u = (ad, (k_up ct 3 i (.inr (3, [.ref ca, .int v, .int (n0 + 1), .ref (ad 3 j)]))))) (fun _ => False) := by
  refine kx_ofI (by decide) (Nat.le_of_ble_eq_true rfl) ?_
  intro p e s m args below meth c hx hb hr hF hlk hnt hin hB ls hl
  obtain ⟨⟨hM, hN⟩, hK, hP, hT⟩ := hB
  have hS : va_S Z s.heap s.heap [] := va_S.rf
  have hl : lv_has ls 4 [(0, .ref (ad 3 i)), (1, .ref ca), (2, .int v), (3, .ref (ad 3 j))] := hl
  refine lv_aload_n hx hb dX2_init_0 rfl (lv_at hl 0 rfl) ?_
  refine g_oini hF wd_l_X2_1 hl.1 dX2_init_1 (by decide) (Nat.le_of_ble_eq_true rfl) ?_
  refine lv_aload_n hx hb dX2_init_4 rfl (lv_at hl 0 rfl) ?_
  refine lv_aload_n hx hb dX2_init_5 rfl (lv_at hl 1 rfl) ?_
  refine k_putF (v := .ref ca) (fs := [.null, .int 0, .int 0, .null]) hF hK hM hN hS 3 i he rfl inlX2 tyX2 tyX2_ok nmX2 0 (by decide) rfl wd_f_X2_7 rfl hin rfl rfl rfl (by show 0 < 4; decide) dX2_init_6 (fun H locs hM hN hS => ?_)
  replace hM : k_H G ad (k_up ct 3 i (.inr (3, [.ref ca, .int 0, .int 0, .null]))) H := hM
  replace hN : k_N Z ad (k_up ct 3 i (.inr (3, [.ref ca, .int 0, .int 0, .null]))) := hN
  refine lv_aload_n hx hb dX2_init_9 rfl (lv_at hl 0 rfl) ?_
  refine lv_iload_n hx hb dX2_init_10 rfl (lv_at hl 2 rfl) ?_
  refine k_putF (v := .int v) (fs := [.ref ca, .int 0, .int 0, .null]) hF hK hM hN hS 3 i k_up_s rfl inlX2 tyX2 tyX2_ok nmX2 1 (by decide) rfl wd_f_X2_13 rfl hin rfl rfl rfl (by show 1 < 4; decide) dX2_init_11 (fun H locs hM hN hS => ?_)
  rw [k_up_t] at hM hN
  replace hM : k_H G ad (k_up ct 3 i (.inr (3, [.ref ca, .int v, .int 0, .null]))) H := hM
  replace hN : k_N Z ad (k_up ct 3 i (.inr (3, [.ref ca, .int v, .int 0, .null]))) := hN
  refine lv_aload_n hx hb dX2_init_14 rfl (lv_at hl 0 rfl) ?_
  refine lv_aload_n hx hb dX2_init_15 rfl (lv_at hl 3 rfl) ?_
  refine lv_ifnonnull (tgt := 23) hx hb dX2_init_16 (by decide) ?_
  refine lv_aload_n hx hb dX2_init_23 rfl (lv_at hl 3 rfl) ?_
  refine g_get (C := RX2) (T := TX2) (N := 4) (v := .int n0) hF hK (hM 3 j _ ((k_up_o (fun z => hji z.2)).trans hj)) rfl inlX2 2 (by decide) rfl wd_f_X2_17 rfl dX2_init_24 ?_
  refine lv_iconst (v := 1) hx hb dX2_init_27 (by decide) ?_
  refine lv_iadd hx hb dX2_init_28 ?_
  refine k_putF (v := .int (n0 + 1)) (fs := [.ref ca, .int v, .int 0, .null]) hF hK hM hN hS 3 i k_up_s rfl inlX2 tyX2 tyX2_ok nmX2 2 (by decide) rfl wd_f_X2_17 rfl hin rfl rfl rfl (by show 2 < 4; decide) dX2_init_29 (fun H locs hM hN hS => ?_)
  rw [k_up_t] at hM hN
  replace hM : k_H G ad (k_up ct 3 i (.inr (3, [.ref ca, .int v, .int (n0 + 1), .null]))) H := hM
  replace hN : k_N Z ad (k_up ct 3 i (.inr (3, [.ref ca, .int v, .int (n0 + 1), .null]))) := hN
  refine lv_aload_n hx hb dX2_init_32 rfl (lv_at hl 0 rfl) ?_
  refine lv_aload_n hx hb dX2_init_33 rfl (lv_at hl 3 rfl) ?_
  refine k_putF (v := .ref (ad 3 j)) (fs := [.ref ca, .int v, .int (n0 + 1), .null]) hF hK hM hN hS 3 i k_up_s rfl inlX2 tyX2 tyX2_ok nmX2 3 (by decide) rfl wd_f_X2_20 rfl hin rfl rfl rfl (by show 3 < 4; decide) dX2_init_34 (fun H locs hM hN hS => ?_)
  rw [k_up_t] at hM hN
  replace hM : k_H G ad (k_up ct 3 i (.inr (3, [.ref ca, .int v, .int (n0 + 1), .ref (ad 3 j)]))) H := hM
  replace hN : k_N Z ad (k_up ct 3 i (.inr (3, [.ref ca, .int v, .int (n0 + 1), .ref (ad 3 j)]))) := hN
  exact kx_vret hx hb hr hlk hM hN hK hS (by decide) (by decide) (rfl) dX2_init_37
set_option maxHeartbeats 4000000 in
set_option maxRecDepth 100000 in
theorem m_X2_init0 (l : Launch) (hflag : l.stackTraces = false) (G : k_G) (Z : Nat → Prop) (ad : k_Ad) (ct : k_Ct) (i ca : Nat) (v : Int32) (he : ct 3 i = some (.inr (3, [.null, .int 0, .int 0, .null]))) : kx_v l yX2_init cX2_init 4 none 1 24 0 0 G Z ad ct [.ref (ad 3 i), .ref ca, .int v, .null] (fun u => u = (ad, (k_up ct 3 i (.inr (3, [.ref ca, .int v, .int 0, .null]))))) (fun _ => False) := by
  refine kx_ofI (by decide) (Nat.le_of_ble_eq_true rfl) ?_
  intro p e s m args below meth c hx hb hr hF hlk hnt hin hB ls hl
  obtain ⟨⟨hM, hN⟩, hK, hP, hT⟩ := hB
  have hS : va_S Z s.heap s.heap [] := va_S.rf
  have hl : lv_has ls 4 [(0, .ref (ad 3 i)), (1, .ref ca), (2, .int v), (3, .null)] := hl
  refine lv_aload_n hx hb dX2_init_0 rfl (lv_at hl 0 rfl) ?_
  refine g_oini hF wd_l_X2_1 hl.1 dX2_init_1 (by decide) (Nat.le_of_ble_eq_true rfl) ?_
  refine lv_aload_n hx hb dX2_init_4 rfl (lv_at hl 0 rfl) ?_
  refine lv_aload_n hx hb dX2_init_5 rfl (lv_at hl 1 rfl) ?_
  refine k_putF (v := .ref ca) (fs := [.null, .int 0, .int 0, .null]) hF hK hM hN hS 3 i he rfl inlX2 tyX2 tyX2_ok nmX2 0 (by decide) rfl wd_f_X2_7 rfl hin rfl rfl rfl (by show 0 < 4; decide) dX2_init_6 (fun H locs hM hN hS => ?_)
  replace hM : k_H G ad (k_up ct 3 i (.inr (3, [.ref ca, .int 0, .int 0, .null]))) H := hM
  replace hN : k_N Z ad (k_up ct 3 i (.inr (3, [.ref ca, .int 0, .int 0, .null]))) := hN
  refine lv_aload_n hx hb dX2_init_9 rfl (lv_at hl 0 rfl) ?_
  refine lv_iload_n hx hb dX2_init_10 rfl (lv_at hl 2 rfl) ?_
  refine k_putF (v := .int v) (fs := [.ref ca, .int 0, .int 0, .null]) hF hK hM hN hS 3 i k_up_s rfl inlX2 tyX2 tyX2_ok nmX2 1 (by decide) rfl wd_f_X2_13 rfl hin rfl rfl rfl (by show 1 < 4; decide) dX2_init_11 (fun H locs hM hN hS => ?_)
  rw [k_up_t] at hM hN
  replace hM : k_H G ad (k_up ct 3 i (.inr (3, [.ref ca, .int v, .int 0, .null]))) H := hM
  replace hN : k_N Z ad (k_up ct 3 i (.inr (3, [.ref ca, .int v, .int 0, .null]))) := hN
  refine lv_aload_n hx hb dX2_init_14 rfl (lv_at hl 0 rfl) ?_
  refine lv_aload_nN hx hb dX2_init_15 rfl (lv_at hl 3 rfl) ?_
  refine lv_ifnonnullN hx hb dX2_init_16 ?_
  refine lv_iconst (v := 0) hx hb dX2_init_19 (by decide) ?_
  refine lv_goto (tgt := 29) hx hb dX2_init_20 (by decide) ?_
  refine k_putF (v := .int 0) (fs := [.ref ca, .int v, .int 0, .null]) hF hK hM hN hS 3 i k_up_s rfl inlX2 tyX2 tyX2_ok nmX2 2 (by decide) rfl wd_f_X2_17 rfl hin rfl rfl rfl (by show 2 < 4; decide) dX2_init_29 (fun H locs hM hN hS => ?_)
  rw [k_up_t] at hM hN
  replace hM : k_H G ad (k_up ct 3 i (.inr (3, [.ref ca, .int v, .int 0, .null]))) H := hM
  replace hN : k_N Z ad (k_up ct 3 i (.inr (3, [.ref ca, .int v, .int 0, .null]))) := hN
  refine lv_aload_n hx hb dX2_init_32 rfl (lv_at hl 0 rfl) ?_
  refine lv_aload_nN hx hb dX2_init_33 rfl (lv_at hl 3 rfl) ?_
  refine k_putF (v := .null) (fs := [.ref ca, .int v, .int 0, .null]) hF hK hM hN hS 3 i k_up_s rfl inlX2 tyX2 tyX2_ok nmX2 3 (by decide) rfl wd_f_X2_20 rfl hin rfl rfl rfl (by show 3 < 4; decide) dX2_init_34 (fun H locs hM hN hS => ?_)
  rw [k_up_t] at hM hN
  replace hM : k_H G ad (k_up ct 3 i (.inr (3, [.ref ca, .int v, .int 0, .null]))) H := hM
  replace hN : k_N Z ad (k_up ct 3 i (.inr (3, [.ref ca, .int v, .int 0, .null]))) := hN
  exact kx_vret hx hb hr hlk hM hN hK hS (by decide) (by decide) (rfl) dX2_init_37
theorem ke_X3_init : wl_I yX3_init cX3_init 6 5 := ⟨wd_c_X3_init, wd_i_X3_init, wd_n_X3, by decide, by decide +kernel, rfl⟩
set_option maxHeartbeats 4000000 in
set_option maxRecDepth 100000 in
theorem m_X3_init (l : Launch) (hflag : l.stackTraces = false) (G : k_G) (Z : Nat → Prop) (ad : k_Ad) (ct : k_Ct) (i va : Nat) (bx by1 ex ey : Int32) (he : ct 1 i = some (.inr (4, [.int 0, .int 0, .int 0, .int 0, .int 0, .null, .null, .null]))) (hfree : ct 2 i = none)  : kx_v l yX3_init cX3_init 6 none 1 24 1 9 G Z ad ct [.ref (ad 1 i), .int bx, .int by1, .int ex, .int ey, .ref va] (fun u => ∃ q, u = (k_ad ad 2 i q, k_up (k_up ct 2 i (.inl (G.2.1, 9, .inl (fun j => if j < 9 then -1 else 0)))) 1 i (.inr (4, [.int bx, .int by1, .int ex, .int ey, .int 0, .ref va, .null, .ref q])))) (fun _ => False) := by
  refine kx_ofI (by decide) (Nat.le_of_ble_eq_true rfl) ?_
  intro p e s m args below meth c hx hb hr hF hlk hnt hin hB ls hl
  obtain ⟨⟨hM, hN⟩, hK, hP, hT⟩ := hB
  have hS : va_S Z s.heap s.heap [] := va_S.rf
  have hl : lv_has ls 6 [(0, .ref (ad 1 i)), (1, .int bx), (2, .int by1), (3, .int ex), (4, .int ey), (5, .ref va)] := hl
  refine lv_aload_n hx hb dX3_init_0 rfl (lv_at hl 0 rfl) ?_
  refine g_oini hF wd_l_X3_3 hl.1 dX3_init_1 (by decide) (Nat.le_of_ble_eq_true rfl) ?_
  refine lv_aload_n hx hb dX3_init_4 rfl (lv_at hl 0 rfl) ?_
  refine lv_iconst (v := 0) hx hb dX3_init_5 (by decide) ?_
  refine k_put (v := .int 0) (fs := [.int 0, .int 0, .int 0, .int 0, .int 0, .null, .null, .null]) hF hK hM hN hS 1 i he rfl inlX3 tyX3 tyX3_ok nmX3 4 (by decide) rfl wd_f_X3_9 rfl rfl rfl (by show 4 < 8; decide) dX3_init_6 (fun H locs hM hN hS => ?_)
  replace hM : k_H G ad (k_up ct 1 i (.inr (4, [.int 0, .int 0, .int 0, .int 0, .int 0, .null, .null, .null]))) H := hM
  replace hN : k_N Z ad (k_up ct 1 i (.inr (4, [.int 0, .int 0, .int 0, .int 0, .int 0, .null, .null, .null]))) := hN
  refine lv_aload_n hx hb dX3_init_9 rfl (lv_at hl 0 rfl) ?_
  refine lv_null hx hb dX3_init_10 ?_
  refine k_put (v := .null) (fs := [.int 0, .int 0, .int 0, .int 0, .int 0, .null, .null, .null]) hF hK hM hN hS 1 i k_up_s rfl inlX3 tyX3 tyX3_ok nmX3 6 (by decide) rfl wd_f_X3_15 rfl rfl rfl (by show 6 < 8; decide) dX3_init_11 (fun H locs hM hN hS => ?_)
  rw [k_up_t] at hM hN
  replace hM : k_H G ad (k_up ct 1 i (.inr (4, [.int 0, .int 0, .int 0, .int 0, .int 0, .null, .null, .null]))) H := hM
  replace hN : k_N Z ad (k_up ct 1 i (.inr (4, [.int 0, .int 0, .int 0, .int 0, .int 0, .null, .null, .null]))) := hN
  refine lv_aload_n hx hb dX3_init_14 rfl (lv_at hl 0 rfl) ?_
  refine lv_bipush (v := 9) hx hb dX3_init_15 (by decide) ?_
  refine k_newa hF hK hM hN hS hT.2.2.2.2 2 i ((k_up_o (fun z => absurd z.1 (by decide))).trans hfree) 9 (by decide) (by decide) (by decide) (by decide) (by decide) dX3_init_17 (fun q H hM hN hS => ?_)
  rw [k_up_c (fun z => absurd z.1 (by decide))] at hM hN
  replace hM : k_H G (k_ad ad 2 i q) (k_up (k_up ct 2 i (.inl (G.2.1, 9, .inl (fun _ => 0)))) 1 i (.inr (4, [.int 0, .int 0, .int 0, .int 0, .int 0, .null, .null, .null]))) H := hM
  replace hN : k_N Z (k_ad ad 2 i q) (k_up (k_up ct 2 i (.inl (G.2.1, 9, .inl (fun _ => 0)))) 1 i (.inr (4, [.int 0, .int 0, .int 0, .int 0, .int 0, .null, .null, .null]))) := hN
  refine k_putF (v := .ref q) (fs := [.int 0, .int 0, .int 0, .int 0, .int 0, .null, .null, .null]) hF hK hM hN hS 1 i k_up_s rfl inlX3 tyX3 tyX3_ok nmX3 7 (by decide) rfl wd_f_X3_19 rfl hin rfl rfl rfl (by show 7 < 8; decide) dX3_init_19 (fun H locs hM hN hS => ?_)
  rw [k_up_t] at hM hN
  replace hM : k_H G (k_ad ad 2 i q) (k_up (k_up ct 2 i (.inl (G.2.1, 9, .inl (fun _ => 0)))) 1 i (.inr (4, [.int 0, .int 0, .int 0, .int 0, .int 0, .null, .null, .ref q]))) H := hM
  replace hN : k_N Z (k_ad ad 2 i q) (k_up (k_up ct 2 i (.inl (G.2.1, 9, .inl (fun _ => 0)))) 1 i (.inr (4, [.int 0, .int 0, .int 0, .int 0, .int 0, .null, .null, .ref q]))) := hN
  refine lv_aload_n hx hb dX3_init_22 rfl (lv_at hl 0 rfl) ?_
  refine lv_iload_n hx hb dX3_init_23 rfl (lv_at hl 1 rfl) ?_
  refine k_putF (v := .int bx) (fs := [.int 0, .int 0, .int 0, .int 0, .int 0, .null, .null, .ref q]) hF hK hM hN hS 1 i k_up_s rfl inlX3 tyX3 tyX3_ok nmX3 0 (by decide) rfl wd_f_X3_23 rfl hin rfl rfl rfl (by show 0 < 8; decide) dX3_init_24 (fun H locs hM hN hS => ?_)
  rw [k_up_t] at hM hN
  replace hM : k_H G (k_ad ad 2 i q) (k_up (k_up ct 2 i (.inl (G.2.1, 9, .inl (fun _ => 0)))) 1 i (.inr (4, [.int bx, .int 0, .int 0, .int 0, .int 0, .null, .null, .ref q]))) H := hM
  replace hN : k_N Z (k_ad ad 2 i q) (k_up (k_up ct 2 i (.inl (G.2.1, 9, .inl (fun _ => 0)))) 1 i (.inr (4, [.int bx, .int 0, .int 0, .int 0, .int 0, .null, .null, .ref q]))) := hN
  refine lv_aload_n hx hb dX3_init_27 rfl (lv_at hl 0 rfl) ?_
  refine lv_iload_n hx hb dX3_init_28 rfl (lv_at hl 2 rfl) ?_
  refine k_putF (v := .int by1) (fs := [.int bx, .int 0, .int 0, .int 0, .int 0, .null, .null, .ref q]) hF hK hM hN hS 1 i k_up_s rfl inlX3 tyX3 tyX3_ok nmX3 1 (by decide) rfl wd_f_X3_26 rfl hin rfl rfl rfl (by show 1 < 8; decide) dX3_init_29 (fun H locs hM hN hS => ?_)
  rw [k_up_t] at hM hN
  replace hM : k_H G (k_ad ad 2 i q) (k_up (k_up ct 2 i (.inl (G.2.1, 9, .inl (fun _ => 0)))) 1 i (.inr (4, [.int bx, .int by1, .int 0, .int 0, .int 0, .null, .null, .ref q]))) H := hM
  replace hN : k_N Z (k_ad ad 2 i q) (k_up (k_up ct 2 i (.inl (G.2.1, 9, .inl (fun _ => 0)))) 1 i (.inr (4, [.int bx, .int by1, .int 0, .int 0, .int 0, .null, .null, .ref q]))) := hN
  refine lv_aload_n hx hb dX3_init_32 rfl (lv_at hl 0 rfl) ?_
  refine lv_iload_n hx hb dX3_init_33 rfl (lv_at hl 3 rfl) ?_
  refine k_putF (v := .int ex) (fs := [.int bx, .int by1, .int 0, .int 0, .int 0, .null, .null, .ref q]) hF hK hM hN hS 1 i k_up_s rfl inlX3 tyX3 tyX3_ok nmX3 2 (by decide) rfl wd_f_X3_29 rfl hin rfl rfl rfl (by show 2 < 8; decide) dX3_init_34 (fun H locs hM hN hS => ?_)
  rw [k_up_t] at hM hN
  replace hM : k_H G (k_ad ad 2 i q) (k_up (k_up ct 2 i (.inl (G.2.1, 9, .inl (fun _ => 0)))) 1 i (.inr (4, [.int bx, .int by1, .int ex, .int 0, .int 0, .null, .null, .ref q]))) H := hM
  replace hN : k_N Z (k_ad ad 2 i q) (k_up (k_up ct 2 i (.inl (G.2.1, 9, .inl (fun _ => 0)))) 1 i (.inr (4, [.int bx, .int by1, .int ex, .int 0, .int 0, .null, .null, .ref q]))) := hN
  refine lv_aload_n hx hb dX3_init_37 rfl (lv_at hl 0 rfl) ?_
  refine lv_iload hx hb dX3_init_38 (lv_at hl 4 rfl) ?_
  refine k_putF (v := .int ey) (fs := [.int bx, .int by1, .int ex, .int 0, .int 0, .null, .null, .ref q]) hF hK hM hN hS 1 i k_up_s rfl inlX3 tyX3 tyX3_ok nmX3 3 (by decide) rfl wd_f_X3_32 rfl hin rfl rfl rfl (by show 3 < 8; decide) dX3_init_40 (fun H locs hM hN hS => ?_)
  rw [k_up_t] at hM hN
  replace hM : k_H G (k_ad ad 2 i q) (k_up (k_up ct 2 i (.inl (G.2.1, 9, .inl (fun _ => 0)))) 1 i (.inr (4, [.int bx, .int by1, .int ex, .int ey, .int 0, .null, .null, .ref q]))) H := hM
  replace hN : k_N Z (k_ad ad 2 i q) (k_up (k_up ct 2 i (.inl (G.2.1, 9, .inl (fun _ => 0)))) 1 i (.inr (4, [.int bx, .int by1, .int ex, .int ey, .int 0, .null, .null, .ref q]))) := hN
  refine lv_aload_n hx hb dX3_init_43 rfl (lv_at hl 0 rfl) ?_
  refine lv_aload hx hb dX3_init_44 (lv_at hl 5 rfl) ?_
  refine k_put (v := .ref va) (fs := [.int bx, .int by1, .int ex, .int ey, .int 0, .null, .null, .ref q]) hF hK hM hN hS 1 i k_up_s rfl inlX3 tyX3 tyX3_ok nmX3 5 (by decide) rfl wd_f_X3_35 rfl rfl rfl (by show 5 < 8; decide) dX3_init_46 (fun H locs hM hN hS => ?_)
  rw [k_up_t] at hM hN
  replace hM : k_H G (k_ad ad 2 i q) (k_up (k_up ct 2 i (.inl (G.2.1, 9, .inl (fun _ => 0)))) 1 i (.inr (4, [.int bx, .int by1, .int ex, .int ey, .int 0, .ref va, .null, .ref q]))) H := hM
  replace hN : k_N Z (k_ad ad 2 i q) (k_up (k_up ct 2 i (.inl (G.2.1, 9, .inl (fun _ => 0)))) 1 i (.inr (4, [.int bx, .int by1, .int ex, .int ey, .int 0, .ref va, .null, .ref q]))) := hN
  refine lv_aload_n hx hb dX3_init_49 rfl (lv_at hl 0 rfl) ?_
  refine g_get (C := RX3) (T := TX3) (N := 8) (v := .ref q) hF hK (hM 1 i _ k_up_s) rfl inlX3 7 (by decide) rfl wd_f_X3_19 rfl dX3_init_50 ?_
  refine lv_iconst (v := (-1)) hx hb dX3_init_53 (by decide) ?_
  refine kx_vS (pX1 := fun _ => False) (post := fun u => u = (k_ad ad 2 i q, k_up (k_up (k_up ct 2 i (.inl (G.2.1, 9, .inl (fun _ => 0)))) 1 i (.inr (4, [.int bx, .int by1, .int ex, .int ey, .int 0, .ref va, .null, .ref q]))) 2 i (.inl (G.2.1, 9, .inl (fun j => if j < 9 then -1 else 0))))) (fr := 0) (lo := 0) (mc1 := 0) (ms1 := 0) (As := [.ref q, .int (-1)]) (rest := []) hF (by have h9 := m_J7_fill_53178 l hflag G Z (k_ad ad 2 i q) (k_up (k_up ct 2 i (.inl (G.2.1, 9, .inl (fun _ => 0)))) 1 i (.inr (4, [.int bx, .int by1, .int ex, .int ey, .int 0, .ref va, .null, .ref q]))) 2 i 9 (fun _ => 0) (-1) ((k_up_o (fun z => absurd z.1 (by decide))).trans k_up_s) (by decide); rw [k_ad_s] at h9; exact h9) ke_J7_fill_53178 wd_l_X3_39 (by decide) hM hN hK hP hT hS rfl hl.1 rfl (Nat.le_of_ble_eq_true rfl) dX3_init_54 (by decide) hnt hlk (fun E hE => False.elim hE) (by decide) (by decide) (fun u1 H locs hu1 hM hN hS _ _ => ?_)
  subst hu1
  have eC : k_up (k_up (k_up ct 2 i (.inl (G.2.1, 9, .inl (fun _ => 0)))) 1 i (.inr (4, [.int bx, .int by1, .int ex, .int ey, .int 0, .ref va, .null, .ref q]))) 2 i (.inl (G.2.1, 9, .inl (fun j => if j < 9 then -1 else 0))) = (k_up (k_up ct 2 i (.inl (G.2.1, 9, .inl (fun j => if j < 9 then -1 else 0)))) 1 i (.inr (4, [.int bx, .int by1, .int ex, .int ey, .int 0, .ref va, .null, .ref q]))) := by rw [k_up_c (fun z => absurd z.1 (by decide)), k_up_t]
  replace hM : k_H G (k_ad ad 2 i q) (k_up (k_up (k_up ct 2 i (.inl (G.2.1, 9, .inl (fun _ => 0)))) 1 i (.inr (4, [.int bx, .int by1, .int ex, .int ey, .int 0, .ref va, .null, .ref q]))) 2 i (.inl (G.2.1, 9, .inl (fun j => if j < 9 then -1 else 0)))) H := hM
  replace hN : k_N Z (k_ad ad 2 i q) (k_up (k_up (k_up ct 2 i (.inl (G.2.1, 9, .inl (fun _ => 0)))) 1 i (.inr (4, [.int bx, .int by1, .int ex, .int ey, .int 0, .ref va, .null, .ref q]))) 2 i (.inl (G.2.1, 9, .inl (fun j => if j < 9 then -1 else 0)))) := hN
  rw [eC] at hM hN
  exact kx_vret hx hb hr hlk hM hN hK hS (by decide) (by decide) (⟨q, rfl⟩) dX3_init_57
