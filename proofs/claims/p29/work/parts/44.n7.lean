theorem dJ7_fill_53178_0 : decode cJ7_fill_53178 0 = .ok (.iconst 0, 1) := by decide +kernel
theorem dJ7_fill_53178_1 : decode cJ7_fill_53178 1 = .ok (.istore_n 2, 1) := by decide +kernel
theorem dJ7_fill_53178_2 : decode cJ7_fill_53178 2 = .ok (.aload_n 0, 1) := by decide +kernel
theorem dJ7_fill_53178_3 : decode cJ7_fill_53178 3 = .ok (.arraylength, 1) := by decide +kernel
theorem dJ7_fill_53178_4 : decode cJ7_fill_53178 4 = .ok (.istore_n 3, 1) := by decide +kernel
theorem dJ7_fill_53178_5 : decode cJ7_fill_53178 5 = .ok (.iload_n 2, 1) := by decide +kernel
theorem dJ7_fill_53178_6 : decode cJ7_fill_53178 6 = .ok (.iload_n 3, 1) := by decide +kernel
theorem dJ7_fill_53178_7 : decode cJ7_fill_53178 7 = .ok (.if_icmp .ge 13, 3) := by decide +kernel
theorem dJ7_fill_53178_10 : decode cJ7_fill_53178 10 = .ok (.aload_n 0, 1) := by decide +kernel
theorem dJ7_fill_53178_11 : decode cJ7_fill_53178 11 = .ok (.iload_n 2, 1) := by decide +kernel
theorem dJ7_fill_53178_12 : decode cJ7_fill_53178 12 = .ok (.iload_n 1, 1) := by decide +kernel
theorem dJ7_fill_53178_13 : decode cJ7_fill_53178 13 = .ok (.iastore, 1) := by decide +kernel
theorem dJ7_fill_53178_14 : decode cJ7_fill_53178 14 = .ok (.iinc 2 1, 3) := by decide +kernel
theorem dJ7_fill_53178_17 : decode cJ7_fill_53178 17 = .ok (.goto (-12), 3) := by decide +kernel
theorem dJ7_fill_53178_20 : decode cJ7_fill_53178 20 = .ok (.return_, 1) := by decide +kernel
theorem dX3_forgetSightings_0 : decode cX3_forgetSightings 0 = .ok (.aload_n 0, 1) := by decide +kernel
theorem dX3_forgetSightings_1 : decode cX3_forgetSightings 1 = .ok (.getfield 19, 3) := by decide +kernel
theorem dX3_forgetSightings_4 : decode cX3_forgetSightings 4 = .ok (.iconst (-1), 1) := by decide +kernel
theorem dX3_forgetSightings_5 : decode cX3_forgetSightings 5 = .ok (.invokestatic 39, 3) := by decide +kernel
theorem dX3_forgetSightings_8 : decode cX3_forgetSightings 8 = .ok (.return_, 1) := by decide +kernel
theorem dX3_keepSighting_0 : decode cX3_keepSighting 0 = .ok (.iconst 0, 1) := by decide +kernel
theorem dX3_keepSighting_1 : decode cX3_keepSighting 1 = .ok (.istore 4, 2) := by decide +kernel
theorem dX3_keepSighting_3 : decode cX3_keepSighting 3 = .ok (.iload 4, 2) := by decide +kernel
theorem dX3_keepSighting_5 : decode cX3_keepSighting 5 = .ok (.aload_n 0, 1) := by decide +kernel
theorem dX3_keepSighting_6 : decode cX3_keepSighting 6 = .ok (.getfield 19, 3) := by decide +kernel
theorem dX3_keepSighting_9 : decode cX3_keepSighting 9 = .ok (.arraylength, 1) := by decide +kernel
theorem dX3_keepSighting_10 : decode cX3_keepSighting 10 = .ok (.if_icmp .ge 36, 3) := by decide +kernel
theorem dX3_keepSighting_13 : decode cX3_keepSighting 13 = .ok (.iload 4, 2) := by decide +kernel
theorem dX3_keepSighting_15 : decode cX3_keepSighting 15 = .ok (.iconst 3, 1) := by decide +kernel
theorem dX3_keepSighting_16 : decode cX3_keepSighting 16 = .ok (.irem, 1) := by decide +kernel
theorem dX3_keepSighting_17 : decode cX3_keepSighting 17 = .ok (.iload_n 2, 1) := by decide +kernel
theorem dX3_keepSighting_18 : decode cX3_keepSighting 18 = .ok (.if_icmp .eq 22, 3) := by decide +kernel
theorem dX3_keepSighting_21 : decode cX3_keepSighting 21 = .ok (.aload_n 0, 1) := by decide +kernel
theorem dX3_keepSighting_22 : decode cX3_keepSighting 22 = .ok (.getfield 19, 3) := by decide +kernel
theorem dX3_keepSighting_25 : decode cX3_keepSighting 25 = .ok (.iload 4, 2) := by decide +kernel
theorem dX3_keepSighting_27 : decode cX3_keepSighting 27 = .ok (.iaload, 1) := by decide +kernel
theorem dX3_keepSighting_28 : decode cX3_keepSighting 28 = .ok (.iload_n 3, 1) := by decide +kernel
theorem dX3_keepSighting_29 : decode cX3_keepSighting 29 = .ok (.if_icmp .le 11, 3) := by decide +kernel
theorem dX3_keepSighting_32 : decode cX3_keepSighting 32 = .ok (.aload_n 0, 1) := by decide +kernel
theorem dX3_keepSighting_33 : decode cX3_keepSighting 33 = .ok (.getfield 19, 3) := by decide +kernel
theorem dX3_keepSighting_36 : decode cX3_keepSighting 36 = .ok (.iload 4, 2) := by decide +kernel
theorem dX3_keepSighting_38 : decode cX3_keepSighting 38 = .ok (.iconst (-1), 1) := by decide +kernel
theorem dX3_keepSighting_39 : decode cX3_keepSighting 39 = .ok (.iastore, 1) := by decide +kernel
theorem dX3_keepSighting_40 : decode cX3_keepSighting 40 = .ok (.iinc 4 1, 3) := by decide +kernel
theorem dX3_keepSighting_43 : decode cX3_keepSighting 43 = .ok (.goto (-40), 3) := by decide +kernel
theorem dX3_keepSighting_46 : decode cX3_keepSighting 46 = .ok (.aload_n 0, 1) := by decide +kernel
theorem dX3_keepSighting_47 : decode cX3_keepSighting 47 = .ok (.getfield 19, 3) := by decide +kernel
theorem dX3_keepSighting_50 : decode cX3_keepSighting 50 = .ok (.iload_n 1, 1) := by decide +kernel
theorem dX3_keepSighting_51 : decode cX3_keepSighting 51 = .ok (.iconst 3, 1) := by decide +kernel
theorem dX3_keepSighting_52 : decode cX3_keepSighting 52 = .ok (.imul, 1) := by decide +kernel
theorem dX3_keepSighting_53 : decode cX3_keepSighting 53 = .ok (.iload_n 2, 1) := by decide +kernel
theorem dX3_keepSighting_54 : decode cX3_keepSighting 54 = .ok (.iadd, 1) := by decide +kernel
theorem dX3_keepSighting_55 : decode cX3_keepSighting 55 = .ok (.iload_n 3, 1) := by decide +kernel
theorem dX3_keepSighting_56 : decode cX3_keepSighting 56 = .ok (.iastore, 1) := by decide +kernel
theorem dX3_keepSighting_57 : decode cX3_keepSighting 57 = .ok (.return_, 1) := by decide +kernel
theorem dX4_addTrust_0 : decode cX4_addTrust 0 = .ok (.aload_n 0, 1) := by decide +kernel
theorem dX4_addTrust_1 : decode cX4_addTrust 1 = .ok (.getfield 16, 3) := by decide +kernel
theorem dX4_addTrust_4 : decode cX4_addTrust 4 = .ok (.iload_n 1, 1) := by decide +kernel
theorem dX4_addTrust_5 : decode cX4_addTrust 5 = .ok (.iconst 0, 1) := by decide +kernel
theorem dX4_addTrust_6 : decode cX4_addTrust 6 = .ok (.bipush 100, 2) := by decide +kernel
theorem dX4_addTrust_8 : decode cX4_addTrust 8 = .ok (.aload_n 0, 1) := by decide +kernel
theorem dX4_addTrust_9 : decode cX4_addTrust 9 = .ok (.getfield 16, 3) := by decide +kernel
theorem dX4_addTrust_12 : decode cX4_addTrust 12 = .ok (.iload_n 1, 1) := by decide +kernel
theorem dX4_addTrust_13 : decode cX4_addTrust 13 = .ok (.iaload, 1) := by decide +kernel
theorem dX4_addTrust_14 : decode cX4_addTrust 14 = .ok (.iload_n 2, 1) := by decide +kernel
theorem dX4_addTrust_15 : decode cX4_addTrust 15 = .ok (.iadd, 1) := by decide +kernel
theorem dX4_addTrust_16 : decode cX4_addTrust 16 = .ok (.invokestatic 284, 3) := by decide +kernel
theorem dX4_addTrust_19 : decode cX4_addTrust 19 = .ok (.invokestatic 289, 3) := by decide +kernel
theorem dX4_addTrust_22 : decode cX4_addTrust 22 = .ok (.iastore, 1) := by decide +kernel
theorem dX4_addTrust_23 : decode cX4_addTrust 23 = .ok (.aload_n 0, 1) := by decide +kernel
theorem dX4_addTrust_24 : decode cX4_addTrust 24 = .ok (.getfield 16, 3) := by decide +kernel
theorem dX4_addTrust_27 : decode cX4_addTrust 27 = .ok (.iload_n 1, 1) := by decide +kernel
theorem dX4_addTrust_28 : decode cX4_addTrust 28 = .ok (.iaload, 1) := by decide +kernel
theorem dX4_addTrust_29 : decode cX4_addTrust 29 = .ok (.ireturn, 1) := by decide +kernel
theorem dX4_keepPicture_0 : decode cX4_keepPicture 0 = .ok (.aload_n 1, 1) := by decide +kernel
theorem dX4_keepPicture_1 : decode cX4_keepPicture 1 = .ok (.aload_n 0, 1) := by decide +kernel
theorem dX4_keepPicture_2 : decode cX4_keepPicture 2 = .ok (.getfield 32, 3) := by decide +kernel
theorem dX4_keepPicture_5 : decode cX4_keepPicture 5 = .ok (.putfield 188, 3) := by decide +kernel
theorem dX4_keepPicture_8 : decode cX4_keepPicture 8 = .ok (.aload_n 1, 1) := by decide +kernel
theorem dX4_keepPicture_9 : decode cX4_keepPicture 9 = .ok (.aload_n 0, 1) := by decide +kernel
theorem dX4_keepPicture_10 : decode cX4_keepPicture 10 = .ok (.aload_n 1, 1) := by decide +kernel
theorem dX4_keepPicture_11 : decode cX4_keepPicture 11 = .ok (.aload_n 0, 1) := by decide +kernel
theorem dX4_keepPicture_12 : decode cX4_keepPicture 12 = .ok (.getfield 32, 3) := by decide +kernel
theorem dX4_keepPicture_15 : decode cX4_keepPicture 15 = .ok (.invokevirtual 189, 3) := by decide +kernel
theorem dX4_keepPicture_18 : decode cX4_keepPicture 18 = .ok (.putfield 185, 3) := by decide +kernel
theorem dX4_keepPicture_21 : decode cX4_keepPicture 21 = .ok (.return_, 1) := by decide +kernel
theorem dX4_refresh_0 : decode cX4_refresh 0 = .ok (.iconst 0, 1) := by decide +kernel
theorem dX4_refresh_1 : decode cX4_refresh 1 = .ok (.istore_n 1, 1) := by decide +kernel
theorem dX4_refresh_2 : decode cX4_refresh 2 = .ok (.iconst 0, 1) := by decide +kernel
theorem dX4_refresh_3 : decode cX4_refresh 3 = .ok (.istore_n 2, 1) := by decide +kernel
theorem dX4_refresh_4 : decode cX4_refresh 4 = .ok (.iload_n 2, 1) := by decide +kernel
theorem dX4_refresh_5 : decode cX4_refresh 5 = .ok (.aload_n 0, 1) := by decide +kernel
theorem dX4_refresh_6 : decode cX4_refresh 6 = .ok (.getfield 28, 3) := by decide +kernel
theorem dX4_refresh_9 : decode cX4_refresh 9 = .ok (.arraylength, 1) := by decide +kernel
theorem dX4_refresh_10 : decode cX4_refresh 10 = .ok (.if_icmp .ge 36, 3) := by decide +kernel
theorem dX4_refresh_13 : decode cX4_refresh 13 = .ok (.aload_n 0, 1) := by decide +kernel
theorem dX4_refresh_14 : decode cX4_refresh 14 = .ok (.getfield 28, 3) := by decide +kernel
theorem dX4_refresh_17 : decode cX4_refresh 17 = .ok (.iload_n 2, 1) := by decide +kernel
theorem dX4_refresh_18 : decode cX4_refresh 18 = .ok (.aaload, 1) := by decide +kernel
theorem dX4_refresh_19 : decode cX4_refresh 19 = .ok (.astore_n 3, 1) := by decide +kernel
theorem dX4_refresh_20 : decode cX4_refresh 20 = .ok (.aload_n 3, 1) := by decide +kernel
theorem dX4_refresh_21 : decode cX4_refresh 21 = .ok (.ifnull 19, 3) := by decide +kernel
theorem dX4_refresh_24 : decode cX4_refresh 24 = .ok (.aload_n 0, 1) := by decide +kernel
theorem dX4_refresh_25 : decode cX4_refresh 25 = .ok (.aload_n 3, 1) := by decide +kernel
theorem dX4_refresh_26 : decode cX4_refresh 26 = .ok (.invokevirtual 193, 3) := by decide +kernel
theorem dX4_refresh_29 : decode cX4_refresh 29 = .ok (.ifCond .eq 11, 3) := by decide +kernel
theorem dX4_refresh_32 : decode cX4_refresh 32 = .ok (.aload_n 0, 1) := by decide +kernel
theorem dX4_refresh_33 : decode cX4_refresh 33 = .ok (.aload_n 3, 1) := by decide +kernel
theorem dX4_refresh_34 : decode cX4_refresh 34 = .ok (.invokevirtual 173, 3) := by decide +kernel
theorem dX4_refresh_37 : decode cX4_refresh 37 = .ok (.iinc 1 1, 3) := by decide +kernel
theorem dX4_refresh_40 : decode cX4_refresh 40 = .ok (.iinc 2 1, 3) := by decide +kernel
theorem dX4_refresh_43 : decode cX4_refresh 43 = .ok (.goto (-39), 3) := by decide +kernel
theorem dX4_refresh_46 : decode cX4_refresh 46 = .ok (.iload_n 1, 1) := by decide +kernel
theorem dX4_refresh_47 : decode cX4_refresh 47 = .ok (.ireturn, 1) := by decide +kernel
theorem ke_X4_keepPicture : wl_V RX4 yX4_keepPicture cX4_keepPicture 2 none 1 := ⟨wd_c_X4_keepPicture, wd_i_X4_keepPicture, wd_s_X4_keepPicture, wd_n_X4, by decide, by decide +kernel⟩
set_option maxHeartbeats 4000000 in
set_option maxRecDepth 100000 in
theorem m_X4_keepPicture (l : Launch) (hflag : l.stackTraces = false) (G : k_G) (Z : Nat → Prop) (ad : k_Ad) (mm : q_Mem) (t : Nat) (hI : Inv mm) (ht : t < 341) (hs : ¬ mm 13 t = 0) : kx_v l yX4_keepPicture cX4_keepPicture 2 none 4 89 0 0 G Z ad (k_C G ad mm) [.ref (ad 0 0), .ref (ad 6 t)] (fun u => u = (ad, k_C G ad (sp_draws mm t (nI (tz_t t)) (nI (tx_t t)) (nI (ty_t t))))) (fun _ => False) := by
  refine kx_of (by decide) (Nat.le_of_ble_eq_true rfl) ?_
  intro p e s m args below meth c hx hb hr hF hlk hnt hB ls hl
  obtain ⟨⟨hM, hN⟩, hK, hP, hT⟩ := hB
  have hS : va_S Z s.heap s.heap [] := va_S.rf
  have hl : lv_has ls 2 [(0, .ref (ad 0 0)), (1, .ref (ad 6 t))] := hl
  have hKK := hI.K512
  have hk0 : ¬ (nI (sp_K mm + 1)) = 0 := nI_ne0 (by omega) (by omega)
  have hs1 : ¬ (up2 mm 13 t (nI (sp_K mm + 1))) 13 t = 0 := by rw [up2_s]; exact hk0
  refine lv_aload_n hx hb dX4_keepPicture_0 rfl (lv_at hl 1 rfl) ?_
  refine lv_aload_n hx hb dX4_keepPicture_1 rfl (lv_at hl 0 rfl) ?_
  refine g_get (C := RX4) (T := TX4) (N := 6) (v := .int (mm 10 0)) hF hK (hM 0 0 _ rfl) rfl inlX4 5 (by decide) rfl wd_f_X4_32 rfl dX4_keepPicture_2 ?_
  refine bo_to (v := ((nI (sp_K mm + 1)) - 1)) (by rw [hI.K]; exact (nI_pred _).symm) ?_
  refine k_put (v := .int ((nI (sp_K mm + 1)) - 1)) hF hK hM hN hS 6 t (kc_t ht hs) rfl inlX1 tyX1 tyX1_ok nmX1 5 (by decide) rfl wd_f_X4_188 rfl rfl rfl (by show 5 < 7; decide) dX4_keepPicture_5 (fun H locs hM hN hS => ?_)
  rw [kcu_stamp (v := (nI (sp_K mm + 1))) ht hs hk0] at hM hN
  refine lv_aload_n hx hb dX4_keepPicture_8 rfl (lv_at hl 1 rfl) ?_
  refine lv_aload_n hx hb dX4_keepPicture_9 rfl (lv_at hl 0 rfl) ?_
  refine lv_aload_n hx hb dX4_keepPicture_10 rfl (lv_at hl 1 rfl) ?_
  refine lv_aload_n hx hb dX4_keepPicture_11 rfl (lv_at hl 0 rfl) ?_
  refine g_get (C := RX4) (T := TX4) (N := 6) (v := .int ((up2 mm 13 t (nI (sp_K mm + 1))) 10 0)) hF hK (hM 0 0 _ rfl) rfl inlX4 5 (by decide) rfl wd_f_X4_32 rfl dX4_keepPicture_12 ?_
  refine bo_to (v := (nI (sp_K mm))) (hI.K) ?_
  refine kr_V (fr := 3) (lo := 64) (As := [.ref (ad 6 t), .int (nI (sp_K mm))]) (rest := [.ref (ad 6 t)]) hF (m_X4_pictureAt l G Z ad (up2 mm 13 t (nI (sp_K mm + 1))) t (sp_K mm) (Inv_st hI (Nat.le_refl _)) ht hs1 (by omega)) ke_X4_pictureAt wd_l_X4_189 (by decide) hM hK hP hT hS (g_recv hK (hM 0 0 _ rfl) rfl) rfl hl.1 rfl (Nat.le_of_ble_eq_true rfl) dX4_keepPicture_15 (by decide) (fun r1 hr1 => ?_)
  rw [pic_x (B := mm) (fun k hk => up2_k (by omega))] at hr1
  replace hr1 : r1 = sp_pic mm (nI (tz_t t)) (nI (tx_t t)) (nI (ty_t t)) (sp_K mm) := hr1
  subst hr1
  refine k_put (v := .int (sp_pic mm (nI (tz_t t)) (nI (tx_t t)) (nI (ty_t t)) (sp_K mm))) hF hK hM hN hS 6 t (kc_t ht hs1) rfl inlX1 tyX1 tyX1_ok nmX1 6 (by decide) rfl wd_f_X4_185 rfl rfl rfl (by show 6 < 7; decide) dX4_keepPicture_18 (fun H locs hM hN hS => ?_)
  rw [kcu_picture ht hs1] at hM hN
  exact kx_vret hx hb hr hlk hM hN hK hS (by decide) (by decide) (by unfold sp_draws; rw [hI.K, nI_1, up2_comm (show (13 : Nat) ≠ 14 by decide)]) dX4_keepPicture_21
theorem ke_X4_refresh : wl_V RX4 yX4_refresh cX4_refresh 4 (some .int) 0 := ⟨wd_c_X4_refresh, wd_i_X4_refresh, wd_s_X4_refresh, wd_n_X4, by decide, by decide +kernel⟩
set_option maxHeartbeats 4000000 in
set_option maxRecDepth 100000 in
theorem m_X4_refresh (l : Launch) (hflag : l.stackTraces = false) (G : k_G) (Z : Nat → Prop) (ad : k_Ad) (mm : q_Mem) (hI : Inv mm) : kx_i l yX4_refresh cX4_refresh 4 (some .int) 5 110 0 0 G Z ad (k_C G ad mm) [.ref (ad 0 0)] (k_po G ad (sp_refr mm)) (fun _ => False) := by
  refine kx_of (by decide) (Nat.le_of_ble_eq_true rfl) ?_
  intro p e s m args below meth c hx hb hr hF hlk hnt hB ls hl
  obtain ⟨⟨hM, hN⟩, hK, hP, hT⟩ := hB
  have hS : va_S Z s.heap s.heap [] := va_S.rf
  have hl : lv_has ls 4 [(0, .ref (ad 0 0))] := hl
  refine lv_iconst (v := 0) hx hb dX4_refresh_0 (by decide) ?_
  refine lv_istore_n (lv' := [(1, .int 0), (0, .ref (ad 0 0))]) hx hb dX4_refresh_1 rfl hl (by decide) rfl (fun ls hl => ?_)
  refine lv_iconst (v := 0) hx hb dX4_refresh_2 (by decide) ?_
  refine lv_istore_n (lv' := [(2, .int 0), (1, .int 0), (0, .ref (ad 0 0))]) hx hb dX4_refresh_3 rfl hl (by decide) rfl (fun ls hl => ?_)
  refine bo_loop (σ := Nat) (μ := fun (i : Nat) => 341 - i) (I := fun (i : Nat) (H : Heap) (locs : List Loc) (ls : Array Slot) => k_H G ad (k_C G ad ((rfn mm i).2)) H ∧ k_N Z ad (k_C G ad ((rfn mm i).2)) ∧ va_S Z s.heap H locs ∧ lv_has ls 4 [(1, .int ((rfn mm i).1)), (2, .int (nI i)), (0, .ref (ad 0 0))] ∧ (i ≤ 341)) (0) ⟨hM, hN, hS, lv_sub hl [1, 0, 2] rfl, Nat.zero_le _⟩ ?_
  intro x4 H locs ls hI4 ih4
  obtain ⟨i, ex4⟩ : ∃ z, z = x4 := ⟨_, rfl⟩
  subst ex4
  obtain ⟨hM, hN, hS, hl, hi⟩ := hI4
  have hI2 := rfn_I hI i
  refine lv_iload_n hx hb dX4_refresh_4 rfl (lv_at hl 1 rfl) ?_
  refine lv_aload_n hx hb dX4_refresh_5 rfl (lv_at hl 2 rfl) ?_
  refine g_get (C := RX4) (T := TX4) (N := 6) (v := .ref (ad 0 5)) hF hK (hM 0 0 _ rfl) rfl inlX4 4 (by decide) rfl wd_f_X4_28 rfl dX4_refresh_6 ?_
  refine g_alen (t0 := 1) hF hK (hM 0 5 _ rfl) rfl dX4_refresh_9 ?_
  refine bo_to (v := (nI 341)) rfl ?_
  refine lv_icmp_ge (tgt := 46) hx hb dX4_refresh_10 (by decide) (fun c1 => ?_) (fun c1 => ?_)
  · skip
    have hie : i = 341 := by have := (nI_leI (by decide) (by omega)).mp c1; omega
    refine lv_iload_n hx hb dX4_refresh_46 rfl (lv_at hl 0 rfl) ?_
    exact kx_iret hx hb hr hlk hM hN hK hS (by decide) (by decide) (k_po.of2 (m2 := (rfn mm i).2) (by rw [hie]; exact rfn_end) (rfn_19 i) rfl) dX4_refresh_47
  · skip
    have hil : i < 341 := by have : ¬ 341 ≤ i := fun q => c1 (nI_le q (by omega)); omega
    refine lv_aload_n hx hb dX4_refresh_13 rfl (lv_at hl 2 rfl) ?_
    refine g_get (C := RX4) (T := TX4) (N := 6) (v := .ref (ad 0 5)) hF hK (hM 0 0 _ rfl) rfl inlX4 4 (by decide) rfl wd_f_X4_28 rfl dX4_refresh_14 ?_
    refine lv_iload_n hx hb dX4_refresh_17 rfl (lv_at hl 1 rfl) ?_
    refine g_aldq (t0 := 1) (i := i) hF hK (hM 0 5 _ rfl) rfl rfl hil (by decide) dX4_refresh_18 ?_
    refine bo_toV (v := k_rf (((rfn mm i).2) 13 i = 0) (ad 6 i)) (k_rf_tr _ _ _) ?_
    refine k_split (fun c2 => ?_) (fun c2 => ?_)
    · skip
      have hno : ¬ sp_oldt (rfn mm i).2 i = true := by rw [old_0 c2]; exact Bool.false_ne_true
      refine lv_astore_nN (lv' := [(3, .null), (1, .int ((rfn mm i).1)), (2, .int (nI i)), (0, .ref (ad 0 0))]) hx hb dX4_refresh_19 rfl hl (by decide) rfl (fun ls hl => ?_)
      refine lv_aload_nN hx hb dX4_refresh_20 rfl (lv_at hl 0 rfl) ?_
      refine lv_ifnullN (tgt := 40) hx hb dX4_refresh_21 (by decide) ?_
      rw [show (rfn mm i).1 = (rfn mm (i + 1)).1 by rw [rfn_n hno]] at hl
      rw [show (rfn mm i).2 = (rfn mm (i + 1)).2 by rw [rfn_n hno]] at hM hN
      refine lv_iinc (v := (nI (i + 1))) (lv' := [(2, .int (nI (i + 1))), (3, .null), (1, .int (rfn mm (i + 1)).1), (0, .ref (ad 0 0))]) hx hb dX4_refresh_40 hl (k := 2) rfl (nI_1 i) (by decide) rfl (fun ls hl => ?_)
      refine lv_goto (tgt := 4) hx hb dX4_refresh_43 (by decide) ?_
      exact ih4 (i + 1) _ _ _ (by show 341 - (i + 1) < 341 - i; omega) ⟨hM, hN, hS, lv_sub hl [2, 0, 3] rfl, by omega⟩
    · skip
      refine lv_astore_n (lv' := [(3, .ref (ad 6 i)), (1, .int ((rfn mm i).1)), (2, .int (nI i)), (0, .ref (ad 0 0))]) hx hb dX4_refresh_19 rfl hl (by decide) rfl (fun ls hl => ?_)
      refine lv_aload_n hx hb dX4_refresh_20 rfl (lv_at hl 0 rfl) ?_
      refine lv_ifnull hx hb dX4_refresh_21 ?_
      refine lv_aload_n hx hb dX4_refresh_24 rfl (lv_at hl 3 rfl) ?_
      refine lv_aload_n hx hb dX4_refresh_25 rfl (lv_at hl 0 rfl) ?_
      refine kr_V (fr := 3) (lo := 64) (As := [.ref (ad 6 i)]) (rest := []) hF (m_X4_isOutdated l G Z ad (rfn mm i).2 i hI2 hil c2) ke_X4_isOutdated wd_l_X4_193 (by decide) hM hK hP hT hS (g_recv hK (hM 0 0 _ rfl) rfl) rfl hl.1 rfl (Nat.le_of_ble_eq_true rfl) dX4_refresh_26 (by decide) (fun r3 hr3 => ?_)
      refine bo_eq (tgt := 40) hr3 hx hb dX4_refresh_29 (by decide) (fun c3 => ?_) (fun c3 => ?_)
      · skip
        have hno := c3
        rw [show (rfn mm i).1 = (rfn mm (i + 1)).1 by rw [rfn_n hno]] at hl
        rw [show (rfn mm i).2 = (rfn mm (i + 1)).2 by rw [rfn_n hno]] at hM hN
        refine lv_iinc (v := (nI (i + 1))) (lv' := [(2, .int (nI (i + 1))), (3, .ref (ad 6 i)), (1, .int (rfn mm (i + 1)).1), (0, .ref (ad 0 0))]) hx hb dX4_refresh_40 hl (k := 2) rfl (nI_1 i) (by decide) rfl (fun ls hl => ?_)
        refine lv_goto (tgt := 4) hx hb dX4_refresh_43 (by decide) ?_
        exact ih4 (i + 1) _ _ _ (by show 341 - (i + 1) < 341 - i; omega) ⟨hM, hN, hS, lv_sub hl [2, 0, 3] rfl, by omega⟩
      · skip
        refine lv_aload_n hx hb dX4_refresh_32 rfl (lv_at hl 3 rfl) ?_
        refine lv_aload_n hx hb dX4_refresh_33 rfl (lv_at hl 0 rfl) ?_
        refine kx_vV (fr := 4) (lo := 89) (mc1 := 0) (ms1 := 0) (As := [.ref (ad 6 i)]) (rest := []) hF (m_X4_keepPicture l hflag G Z ad (rfn mm i).2 i hI2 hil c2) ke_X4_keepPicture wd_l_X4_173 (by decide) hM hN hK hP hT hS (g_recv hK (hM 0 0 _ rfl) rfl) rfl hl.1 rfl (Nat.le_of_ble_eq_true rfl) dX4_refresh_34 (by decide) hnt hlk (fun E hE => hE.elim) (by decide) (by decide) (fun ur4 H locs hr4 hM hN hS _ _ => ?_)
        subst hr4
        replace hM : k_H G ad (k_C G ad (sp_draws (rfn mm i).2 i (nI (tz_t i)) (nI (tx_t i)) (nI (ty_t i)))) H := hM
        replace hN : k_N Z ad (k_C G ad (sp_draws (rfn mm i).2 i (nI (tz_t i)) (nI (tx_t i)) (nI (ty_t i)))) := hN
        have eR : sp_draws (rfn mm i).2 i (nI (tz_t i)) (nI (tx_t i)) (nI (ty_t i)) = (rfn mm (i + 1)).2 := by rw [rfn_y c3]
        rw [eR] at hM hN
        refine lv_iinc (v := (rfn mm (i + 1)).1) (lv' := [(1, .int (rfn mm (i + 1)).1), (3, .ref (ad 6 i)), (2, .int (nI i)), (0, .ref (ad 0 0))]) hx hb dX4_refresh_37 hl (k := 1) rfl (by rw [rfn_y c3]; rfl) (by decide) rfl (fun ls hl => ?_)
        refine lv_iinc (v := (nI (i + 1))) (lv' := [(2, .int (nI (i + 1))), (1, .int (rfn mm (i + 1)).1), (3, .ref (ad 6 i)), (0, .ref (ad 0 0))]) hx hb dX4_refresh_40 hl (k := 2) rfl (nI_1 i) (by decide) rfl (fun ls hl => ?_)
        refine lv_goto (tgt := 4) hx hb dX4_refresh_43 (by decide) ?_
        exact ih4 (i + 1) _ _ _ (by show 341 - (i + 1) < 341 - i; omega) ⟨hM, hN, hS, lv_sub hl [1, 0, 3] rfl, by omega⟩
theorem ke_X4_addTrust : wl_V RX4 yX4_addTrust cX4_addTrust 3 (some .int) 2 := ⟨wd_c_X4_addTrust, wd_i_X4_addTrust, wd_s_X4_addTrust, wd_n_X4, by decide, by decide +kernel⟩
set_option maxHeartbeats 4000000 in
set_option maxRecDepth 100000 in
theorem m_X4_addTrust (l : Launch) (hflag : l.stackTraces = false) (G : k_G) (Z : Nat → Prop) (ad : k_Ad) (mm : q_Mem) (f : Nat) (x : Int32) (hf6 : f < 6) : kx_i l yX4_addTrust cX4_addTrust 3 (some .int) 1 24 0 0 G Z ad (k_C G ad mm) [.ref (ad 0 0), .int (nI f), .int x] (fun r u => r = sp_tru mm f x 0 f ∧ u = (ad, k_C G ad (sp_tru mm f x))) (fun _ => False) := by
  refine kx_of (by decide) (Nat.le_of_ble_eq_true rfl) ?_
  intro p e s m args below meth c hx hb hr hF hlk hnt hB ls hl
  obtain ⟨⟨hM, hN⟩, hK, hP, hT⟩ := hB
  have hS : va_S Z s.heap s.heap [] := va_S.rf
  have hl : lv_has ls 3 [(0, .ref (ad 0 0)), (1, .int (nI f)), (2, .int x)] := hl
  refine lv_aload_n hx hb dX4_addTrust_0 rfl (lv_at hl 0 rfl) ?_
  refine g_get (C := RX4) (T := TX4) (N := 6) (v := .ref (ad 0 2)) hF hK (hM 0 0 _ rfl) rfl inlX4 1 (by decide) rfl wd_f_X4_16 rfl dX4_addTrust_1 ?_
  refine lv_iload_n hx hb dX4_addTrust_4 rfl (lv_at hl 1 rfl) ?_
  refine lv_iconst (v := 0) hx hb dX4_addTrust_5 (by decide) ?_
  refine lv_bipush (v := 100) hx hb dX4_addTrust_6 (by decide) ?_
  refine lv_aload_n hx hb dX4_addTrust_8 rfl (lv_at hl 0 rfl) ?_
  refine g_get (C := RX4) (T := TX4) (N := 6) (v := .ref (ad 0 2)) hF hK (hM 0 0 _ rfl) rfl inlX4 1 (by decide) rfl wd_f_X4_16 rfl dX4_addTrust_9 ?_
  refine lv_iload_n hx hb dX4_addTrust_12 rfl (lv_at hl 1 rfl) ?_
  refine g_ald (t0 := 0) (i := f) hF hK (hM 0 2 _ rfl) rfl rfl hf6 (by decide) dX4_addTrust_13 ?_
  refine bo_to (v := (mm 0 f)) rfl ?_
  refine lv_iload_n hx hb dX4_addTrust_14 rfl (lv_at hl 2 rfl) ?_
  refine lv_iadd hx hb dX4_addTrust_15 ?_
  refine va_mmin hF.1 hF.2.1 (hF.2.2.1.trans hl.1.symm) hF.2.2.2.1 (hF.2.2.2.2 _ wd_l_X4_284) (hF.2.2.2.2 _ wd_x18) (hF.2.2.2.2 _ wd_x19) (hF.2.2.2.2 _ wd_x20) (by decide) (Nat.le_of_ble_eq_true rfl) (by decide) (by decide) dX4_addTrust_16 ?_
  refine va_mmax hF.1 hF.2.1 (hF.2.2.1.trans hl.1.symm) hF.2.2.2.1 (hF.2.2.2.2 _ wd_l_X4_289) (hF.2.2.2.2 _ wd_x27) (hF.2.2.2.2 _ wd_x19) (hF.2.2.2.2 _ wd_x28) (by decide) (Nat.le_of_ble_eq_true rfl) (by decide) (by decide) dX4_addTrust_19 ?_
  refine bo_to (v := (sp_lim (mm 0 f + x))) (lim_eq _) ?_
  refine k_ast (v := (sp_lim (mm 0 f + x))) (i := f) hF hK hM hN hS 0 2 rfl rfl hf6 (by decide) dX4_addTrust_22 (fun H locs hM hN hS => ?_)
  rw [kcu_trust] at hM hN
  refine lv_aload_n hx hb dX4_addTrust_23 rfl (lv_at hl 0 rfl) ?_
  refine g_get (C := RX4) (T := TX4) (N := 6) (v := .ref (ad 0 2)) hF hK (hM 0 0 _ rfl) rfl inlX4 1 (by decide) rfl wd_f_X4_16 rfl dX4_addTrust_24 ?_
  refine lv_iload_n hx hb dX4_addTrust_27 rfl (lv_at hl 1 rfl) ?_
  refine g_ald (t0 := 0) (i := f) hF hK (hM 0 2 _ rfl) rfl rfl hf6 (by decide) dX4_addTrust_28 ?_
  refine bo_to (v := ((up2 mm 0 f (sp_lim (mm 0 f + x))) 0 f)) rfl ?_
  exact kx_iret hx hb hr hlk hM hN hK hS (by decide) (by decide) (⟨rfl, rfl⟩) dX4_addTrust_29
theorem ke_J7_fill_53178 : wl_S yJ7_fill_53178 cJ7_fill_53178 4 none 2 := ⟨wd_c_J7_fill_53178, wd_t_J7_fill_53178, wd_n_J7, by decide, by decide +kernel⟩
set_option maxHeartbeats 4000000 in
set_option maxRecDepth 100000 in
theorem m_J7_fill_53178 (l : Launch) (hflag : l.stackTraces = false) (G : k_G) (Z : Nat → Prop) (ad : k_Ad) (ct : k_Ct) (k i n : Nat) (f : Nat → Int32) (v : Int32) (he : ct k i = some (.inl (G.2.1, n, .inl f))) (hn : n < 2 ^ 31) : kx_v l yJ7_fill_53178 cJ7_fill_53178 4 none 0 0 0 0 G Z ad ct [.ref (ad k i), .int v] (fun u => u = (ad, (k_up ct k i (.inl (G.2.1, n, .inl (fun j => if j < n then v else f j)))))) (fun _ => False) := by
  refine kx_of (by decide) (Nat.le_of_ble_eq_true rfl) ?_
  intro p e s m args below meth c hx hb hr hF hlk hnt hB ls hl
  obtain ⟨⟨hM, hN⟩, hK, hP, hT⟩ := hB
  have hS : va_S Z s.heap s.heap [] := va_S.rf
  have hl : lv_has ls 4 [(0, .ref (ad k i)), (1, .int v)] := hl
  refine lv_iconst (v := 0) hx hb dJ7_fill_53178_0 (by decide) ?_
  refine lv_istore_n (lv' := [(2, .int 0), (0, .ref (ad k i)), (1, .int v)]) hx hb dJ7_fill_53178_1 rfl hl (by decide) rfl (fun ls hl => ?_)
  refine lv_aload_n hx hb dJ7_fill_53178_2 rfl (lv_at hl 1 rfl) ?_
  refine g_alen (t0 := 0) hF hK (hM k i _ he) rfl dJ7_fill_53178_3 ?_
  refine bo_to (v := (nI n)) rfl ?_
  refine lv_istore_n (lv' := [(3, .int (nI n)), (2, .int 0), (0, .ref (ad k i)), (1, .int v)]) hx hb dJ7_fill_53178_4 rfl hl (by decide) rfl (fun ls hl => ?_)
  replace hM : k_H G ad (k_up ct k i (.inl (G.2.1, n, .inl (fun j => if j < 0 then v else f j)))) s.heap := by rw [fill_0 he]; exact hM
  replace hN : k_N Z ad (k_up ct k i (.inl (G.2.1, n, .inl (fun j => if j < 0 then v else f j)))) := by rw [fill_0 he]; exact hN
  refine bo_loop (σ := Nat) (μ := fun (t1 : Nat) => n - t1) (I := fun (t1 : Nat) (H : Heap) (locs : List Loc) (ls : Array Slot) => k_H G ad (k_up ct k i (.inl (G.2.1, n, .inl (fun j => if j < t1 then v else f j)))) H ∧ k_N Z ad (k_up ct k i (.inl (G.2.1, n, .inl (fun j => if j < t1 then v else f j)))) ∧ va_S Z s.heap H locs ∧ lv_has ls 4 [(2, .int (nI t1)), (0, .ref (ad k i)), (1, .int v), (3, .int (nI n))] ∧ (t1 ≤ n)) (0) ⟨hM, hN, hS, lv_sub hl [1, 2, 3, 0] rfl, Nat.zero_le _⟩ ?_
  intro x5 H locs ls hI5 ih5
  obtain ⟨t1, ex5⟩ : ∃ z, z = x5 := ⟨_, rfl⟩
  subst ex5
  obtain ⟨hM, hN, hS, hl, ht1⟩ := hI5
  refine lv_iload_n hx hb dJ7_fill_53178_5 rfl (lv_at hl 0 rfl) ?_
  refine lv_iload_n hx hb dJ7_fill_53178_6 rfl (lv_at hl 3 rfl) ?_
  refine lv_icmp_ge (tgt := 20) hx hb dJ7_fill_53178_7 (by decide) (fun c1 => ?_) (fun c1 => ?_)
  · skip
    have hte : t1 = n := by have := (nI_leI (by omega) (by omega)).mp c1; omega
    subst hte
    exact kx_vret hx hb hr hlk hM hN hK hS (by decide) (by decide) (rfl) dJ7_fill_53178_20
  · skip
    have htn : t1 < n := by have : ¬ n ≤ t1 := fun q => c1 (nI_le q (by omega)); omega
    refine lv_aload_n hx hb dJ7_fill_53178_10 rfl (lv_at hl 1 rfl) ?_
    refine lv_iload_n hx hb dJ7_fill_53178_11 rfl (lv_at hl 0 rfl) ?_
    refine lv_iload_n hx hb dJ7_fill_53178_12 rfl (lv_at hl 2 rfl) ?_
    refine k_ast (v := v) (i := t1) hF hK hM hN hS k i k_up_s rfl htn hn dJ7_fill_53178_13 (fun H locs hM hN hS => ?_)
    rw [k_up_t, fill_s] at hM hN
    refine lv_iinc (v := (nI (t1 + 1))) (lv' := [(2, .int (nI (t1 + 1))), (0, .ref (ad k i)), (1, .int v), (3, .int (nI n))]) hx hb dJ7_fill_53178_14 hl (k := 0) rfl (nI_1 t1) (by decide) rfl (fun ls hl => ?_)
    refine lv_goto (tgt := 5) hx hb dJ7_fill_53178_17 (by decide) ?_
    exact ih5 (t1 + 1) _ _ _ (by show n - (t1 + 1) < n - t1; omega) ⟨hM, hN, hS, lv_sub hl [0, 1, 2, 3] rfl, by omega⟩
theorem ke_X3_forgetSightings : wl_V RX3 yX3_forgetSightings cX3_forgetSightings 1 none 0 := ⟨wd_c_X3_forgetSightings, wd_i_X3_forgetSightings, wd_s_X3_forgetSightings, wd_n_X3, by decide, by decide +kernel⟩
set_option maxHeartbeats 4000000 in
set_option maxRecDepth 100000 in
theorem m_X3_forgetSightings (l : Launch) (hflag : l.stackTraces = false) (G : k_G) (Z : Nat → Prop) (ad : k_Ad) (mm : q_Mem) (w : Nat) (hw : w < sp_W mm) : kx_v l yX3_forgetSightings cX3_forgetSightings 1 none 1 23 0 0 G Z ad (k_C G ad mm) [.ref (ad 1 w)] (fun u => u = (ad, k_C G ad (sp_forg mm w))) (fun _ => False) := by
  refine kx_of (by decide) (Nat.le_of_ble_eq_true rfl) ?_
  intro p e s m args below meth c hx hb hr hF hlk hnt hB ls hl
  obtain ⟨⟨hM, hN⟩, hK, hP, hT⟩ := hB
  have hS : va_S Z s.heap s.heap [] := va_S.rf
  have hl : lv_has ls 1 [(0, .ref (ad 1 w))] := hl
  refine lv_aload_n hx hb dX3_forgetSightings_0 rfl (lv_at hl 0 rfl) ?_
  refine g_get (C := RX3) (T := TX3) (N := 8) (v := .ref (ad 2 w)) hF hK (hM 1 w _ (kc_w (by assumption))) rfl inlX3 7 (by decide) rfl wd_f_X3_19 rfl dX3_forgetSightings_1 ?_
  refine lv_iconst (v := (-1)) hx hb dX3_forgetSightings_4 (by decide) ?_
  refine kx_vS (fr := 0) (lo := 0) (mc1 := 0) (ms1 := 0) (As := [.ref (ad 2 w), .int (-1)]) (rest := []) hF (m_J7_fill_53178 l hflag G Z ad (k_C G ad mm) 2 w 9 (k_db mm w) (-1) (kc_d hw) (by decide)) ke_J7_fill_53178 wd_l_X3_39 (by decide) hM hN hK hP hT hS rfl hl.1 rfl (Nat.le_of_ble_eq_true rfl) dX3_forgetSightings_5 (by decide) hnt hlk (fun E hE => hE.elim) (by decide) (by decide) (fun ur1 H locs hr1 hM hN hS _ _ => ?_)
  subst hr1
  replace hM : k_H G ad (k_up (k_C G ad mm) 2 w (.inl (G.2.1, 9, .inl (fun j => if j < 9 then -1 else k_db mm w j)))) H := hM
  replace hN : k_N Z ad (k_up (k_C G ad mm) 2 w (.inl (G.2.1, 9, .inl (fun j => if j < 9 then -1 else k_db mm w j)))) := hN
  rw [kcu_forg hw] at hM hN
  exact kx_vret hx hb hr hlk hM hN hK hS (by decide) (by decide) (rfl) dX3_forgetSightings_8
theorem ke_X3_keepSighting : wl_V RX3 yX3_keepSighting cX3_keepSighting 5 none 3 := ⟨wd_c_X3_keepSighting, wd_i_X3_keepSighting, wd_s_X3_keepSighting, wd_n_X3, by decide, by decide +kernel⟩
set_option maxHeartbeats 4000000 in
set_option maxRecDepth 100000 in
theorem m_X3_keepSighting (l : Launch) (hflag : l.stackTraces = false) (G : k_G) (Z : Nat → Prop) (ad : k_Ad) (mm : q_Mem) (w c1 d q : Nat) (hw : w < sp_W mm) (hc : c1 < 3) (hd : d < 3) (hq : q < 100) : kx_v l yX3_keepSighting cX3_keepSighting 5 none 0 0 0 0 G Z ad (k_C G ad mm) [.ref (ad 1 w), .int (nI c1), .int (nI d), .int (nI q)] (fun u => u = (ad, k_C G ad (sp_keep mm w c1 d (nI q)))) (fun _ => False) := by
  refine kx_of (by decide) (Nat.le_of_ble_eq_true rfl) ?_
  intro p e s m args below meth c hx hb hr hF hlk hnt hB ls hl
  obtain ⟨⟨hM, hN⟩, hK, hP, hT⟩ := hB
  have hS : va_S Z s.heap s.heap [] := va_S.rf
  have hl : lv_has ls 5 [(0, .ref (ad 1 w)), (1, .int (nI c1)), (2, .int (nI d)), (3, .int (nI q))] := hl
  refine lv_iconst (v := 0) hx hb dX3_keepSighting_0 (by decide) ?_
  refine lv_istore (lv' := [(4, .int 0), (0, .ref (ad 1 w)), (1, .int (nI c1)), (2, .int (nI d)), (3, .int (nI q))]) hx hb dX3_keepSighting_1 hl (by decide) rfl (fun ls hl => ?_)
  replace hM : k_H G ad (k_C G ad (sp_kp mm w d q 0)) s.heap := by rw [kp_0]; exact hM
  replace hN : k_N Z ad (k_C G ad (sp_kp mm w d q 0)) := by rw [kp_0]; exact hN
  refine bo_loop (σ := Nat) (μ := fun (i : Nat) => 9 - i) (I := fun (i : Nat) (H : Heap) (locs : List Loc) (ls : Array Slot) => k_H G ad (k_C G ad (sp_kp mm w d q i)) H ∧ k_N Z ad (k_C G ad (sp_kp mm w d q i)) ∧ va_S Z s.heap H locs ∧ lv_has ls 5 [(4, .int (nI i)), (0, .ref (ad 1 w)), (1, .int (nI c1)), (2, .int (nI d)), (3, .int (nI q))] ∧ (i ≤ 9)) (0) ⟨hM, hN, hS, lv_sub hl [0, 1, 2, 3, 4] rfl, Nat.zero_le _⟩ ?_
  intro x3 H locs ls hI3 ih3
  obtain ⟨i, ex3⟩ : ∃ z, z = x3 := ⟨_, rfl⟩
  subst ex3
  obtain ⟨hM, hN, hS, hl, hi⟩ := hI3
  refine lv_iload hx hb dX3_keepSighting_3 (lv_at hl 0 rfl) ?_
  refine lv_aload_n hx hb dX3_keepSighting_5 rfl (lv_at hl 1 rfl) ?_
  refine g_get (C := RX3) (T := TX3) (N := 8) (v := .ref (ad 2 w)) hF hK (hM 1 w _ (kc_w hw)) rfl inlX3 7 (by decide) rfl wd_f_X3_19 rfl dX3_keepSighting_6 ?_
  refine g_alen (t0 := 0) hF hK (hM 2 w _ (kc_d hw)) rfl dX3_keepSighting_9 ?_
  refine bo_to (v := (nI 9)) rfl ?_
  refine lv_icmp_ge (tgt := 46) hx hb dX3_keepSighting_10 (by decide) (fun ce => ?_) (fun ce => ?_)
  · skip
    have hie : i = 9 := by have := (nI_leI (by decide) (by omega)).mp ce; omega
    refine lv_aload_n hx hb dX3_keepSighting_46 rfl (lv_at hl 1 rfl) ?_
    refine g_get (C := RX3) (T := TX3) (N := 8) (v := .ref (ad 2 w)) hF hK (hM 1 w _ (kc_w hw)) rfl inlX3 7 (by decide) rfl wd_f_X3_19 rfl dX3_keepSighting_47 ?_
    refine lv_iload_n hx hb dX3_keepSighting_50 rfl (lv_at hl 2 rfl) ?_
    refine lv_iconst (v := 3) hx hb dX3_keepSighting_51 (by decide) ?_
    refine lv_imul hx hb dX3_keepSighting_52 ?_
    refine bo_to (v := (nI (c1 * 3))) (pk_mul _ _) ?_
    refine lv_iload_n hx hb dX3_keepSighting_53 rfl (lv_at hl 3 rfl) ?_
    refine lv_iadd hx hb dX3_keepSighting_54 ?_
    refine bo_to (v := (nI (3 * c1 + d))) (by rw [nI_add]; congr 1; omega) ?_
    refine lv_iload_n hx hb dX3_keepSighting_55 rfl (lv_at hl 4 rfl) ?_
    subst hie
    refine k_ast (v := (nI q)) (i := 3 * c1 + d) hF hK hM hN hS 2 w (kc_d hw) rfl (by omega) (by decide) dX3_keepSighting_56 (fun H locs hM hN hS => ?_)
    rw [kcu_dbt (mm := sp_kp mm w d q 9) (i := 3 * c1 + d) hw (by omega), kp_end hc hd] at hM hN
    exact kx_vret hx hb hr hlk hM hN hK hS (by decide) (by decide) (rfl) dX3_keepSighting_57
  · skip
    have hi9 : i < 9 := by have : ¬ 9 ≤ i := fun z => ce (nI_le z (by omega)); omega
    refine lv_iload hx hb dX3_keepSighting_13 (lv_at hl 0 rfl) ?_
    refine lv_iconst (v := 3) hx hb dX3_keepSighting_15 (by decide) ?_
    refine lv_irem hx hb dX3_keepSighting_16 (by decide) ?_
    refine bo_to (v := (nI (i % 3))) (pk_rem (by omega) (by decide) (by decide)) ?_
    refine lv_iload_n hx hb dX3_keepSighting_17 rfl (lv_at hl 3 rfl) ?_
    refine lv_icmp_eq (tgt := 40) hx hb dX3_keepSighting_18 (by decide) (fun c2 => ?_) (fun c2 => ?_)
    · skip
      have hno : ¬ (¬ i % 3 = d ∧ nI q < mm 20 (9 * w + i)) := fun z => z.1 (nI_inj (by omega) (by omega) c2)
      refine lv_iinc (v := (nI (i + 1))) (lv' := [(4, .int (nI (i + 1))), (0, .ref (ad 1 w)), (1, .int (nI c1)), (2, .int (nI d)), (3, .int (nI q))]) hx hb dX3_keepSighting_40 hl (k := 0) rfl (nI_1 i) (by decide) rfl (fun ls hl => ?_)
      refine lv_goto (tgt := 3) hx hb dX3_keepSighting_43 (by decide) ?_
      rw [kp_n hno] at hM hN
      exact ih3 (i + 1) _ _ _ (by show 9 - (i + 1) < 9 - i; omega) ⟨hM, hN, hS, lv_sub hl [0, 1, 2, 3, 4] rfl, by omega⟩
    · skip
      have c2b : ¬ i % 3 = d := fun z => c2 (by rw [z])
      refine lv_aload_n hx hb dX3_keepSighting_21 rfl (lv_at hl 1 rfl) ?_
      refine g_get (C := RX3) (T := TX3) (N := 8) (v := .ref (ad 2 w)) hF hK (hM 1 w _ (kc_w hw)) rfl inlX3 7 (by decide) rfl wd_f_X3_19 rfl dX3_keepSighting_22 ?_
      refine lv_iload hx hb dX3_keepSighting_25 (lv_at hl 0 rfl) ?_
      refine g_ald (t0 := 0) (i := i) hF hK (hM 2 w _ (kc_d hw)) rfl rfl hi9 (by decide) dX3_keepSighting_27 ?_
      refine bo_to (v := ((sp_kp mm w d q i) 20 (9 * w + i))) (if_pos hi9) ?_
      refine bo_to (v := (mm 20 (9 * w + i))) (kp_rd) ?_
      refine lv_iload_n hx hb dX3_keepSighting_28 rfl (lv_at hl 4 rfl) ?_
      refine lv_icmp_le (tgt := 40) hx hb dX3_keepSighting_29 (by decide) (fun c3 => ?_) (fun c3 => ?_)
      · skip
        have hno : ¬ (¬ i % 3 = d ∧ nI q < mm 20 (9 * w + i)) := fun z => bo_nlt c3 z.2
        refine lv_iinc (v := (nI (i + 1))) (lv' := [(4, .int (nI (i + 1))), (0, .ref (ad 1 w)), (1, .int (nI c1)), (2, .int (nI d)), (3, .int (nI q))]) hx hb dX3_keepSighting_40 hl (k := 0) rfl (nI_1 i) (by decide) rfl (fun ls hl => ?_)
        refine lv_goto (tgt := 3) hx hb dX3_keepSighting_43 (by decide) ?_
        rw [kp_n hno] at hM hN
        exact ih3 (i + 1) _ _ _ (by show 9 - (i + 1) < 9 - i; omega) ⟨hM, hN, hS, lv_sub hl [0, 1, 2, 3, 4] rfl, by omega⟩
      · skip
        refine lv_aload_n hx hb dX3_keepSighting_32 rfl (lv_at hl 1 rfl) ?_
        refine g_get (C := RX3) (T := TX3) (N := 8) (v := .ref (ad 2 w)) hF hK (hM 1 w _ (kc_w hw)) rfl inlX3 7 (by decide) rfl wd_f_X3_19 rfl dX3_keepSighting_33 ?_
        refine lv_iload hx hb dX3_keepSighting_36 (lv_at hl 0 rfl) ?_
        refine lv_iconst (v := (-1)) hx hb dX3_keepSighting_38 (by decide) ?_
        refine k_ast (v := (-1)) (i := i) hF hK hM hN hS 2 w (kc_d hw) rfl hi9 (by decide) dX3_keepSighting_39 (fun H locs hM hN hS => ?_)
        rw [kcu_dbt (mm := sp_kp mm w d q i) (i := i) hw hi9, kp_y c2b (bo_le c3)] at hM hN
        refine lv_iinc (v := (nI (i + 1))) (lv' := [(4, .int (nI (i + 1))), (0, .ref (ad 1 w)), (1, .int (nI c1)), (2, .int (nI d)), (3, .int (nI q))]) hx hb dX3_keepSighting_40 hl (k := 0) rfl (nI_1 i) (by decide) rfl (fun ls hl => ?_)
        refine lv_goto (tgt := 3) hx hb dX3_keepSighting_43 (by decide) ?_
        exact ih3 (i + 1) _ _ _ (by show 9 - (i + 1) < 9 - i; omega) ⟨hM, hN, hS, lv_sub hl [0, 1, 2, 3, 4] rfl, by omega⟩
