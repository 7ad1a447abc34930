theorem dX4_dear_0 : decode cX4_dear 0 = .ok (.aload_n 0, 1) := by decide +kernel
theorem dX4_dear_1 : decode cX4_dear 1 = .ok (.iload_n 1, 1) := by decide +kernel
theorem dX4_dear_2 : decode cX4_dear 2 = .ok (.invokevirtual 96, 3) := by decide +kernel
theorem dX4_dear_5 : decode cX4_dear 5 = .ok (.invokevirtual 233, 3) := by decide +kernel
theorem dX4_dear_8 : decode cX4_dear 8 = .ok (.ireturn, 1) := by decide +kernel
theorem dX4_drawnTile_0 : decode cX4_drawnTile 0 = .ok (.aload_n 0, 1) := by decide +kernel
theorem dX4_drawnTile_1 : decode cX4_drawnTile 1 = .ok (.getfield 28, 3) := by decide +kernel
theorem dX4_drawnTile_4 : decode cX4_drawnTile 4 = .ok (.iload_n 1, 1) := by decide +kernel
theorem dX4_drawnTile_5 : decode cX4_drawnTile 5 = .ok (.iload_n 2, 1) := by decide +kernel
theorem dX4_drawnTile_6 : decode cX4_drawnTile 6 = .ok (.iload_n 3, 1) := by decide +kernel
theorem dX4_drawnTile_7 : decode cX4_drawnTile 7 = .ok (.invokestatic 168, 3) := by decide +kernel
theorem dX4_drawnTile_10 : decode cX4_drawnTile 10 = .ok (.aaload, 1) := by decide +kernel
theorem dX4_drawnTile_11 : decode cX4_drawnTile 11 = .ok (.astore 4, 2) := by decide +kernel
theorem dX4_drawnTile_13 : decode cX4_drawnTile 13 = .ok (.aload 4, 2) := by decide +kernel
theorem dX4_drawnTile_15 : decode cX4_drawnTile 15 = .ok (.ifnonnull 14, 3) := by decide +kernel
theorem dX4_drawnTile_18 : decode cX4_drawnTile 18 = .ok (.new 73, 3) := by decide +kernel
theorem dX4_drawnTile_21 : decode cX4_drawnTile 21 = .ok (.dup, 1) := by decide +kernel
theorem dX4_drawnTile_22 : decode cX4_drawnTile 22 = .ok (.ldc_w 294, 3) := by decide +kernel
theorem dX4_drawnTile_25 : decode cX4_drawnTile 25 = .ok (.invokespecial 77, 3) := by decide +kernel
theorem dX4_drawnTile_28 : decode cX4_drawnTile 28 = .ok (.athrow, 1) := by decide +kernel
theorem dX4_drawnTile_29 : decode cX4_drawnTile 29 = .ok (.aload 4, 2) := by decide +kernel
theorem dX4_drawnTile_31 : decode cX4_drawnTile 31 = .ok (.areturn, 1) := by decide +kernel
theorem dX4_picture_0 : decode cX4_picture 0 = .ok (.aload_n 0, 1) := by decide +kernel
theorem dX4_picture_1 : decode cX4_picture 1 = .ok (.iload_n 1, 1) := by decide +kernel
theorem dX4_picture_2 : decode cX4_picture 2 = .ok (.iload_n 2, 1) := by decide +kernel
theorem dX4_picture_3 : decode cX4_picture 3 = .ok (.iload_n 3, 1) := by decide +kernel
theorem dX4_picture_4 : decode cX4_picture 4 = .ok (.invokevirtual 181, 3) := by decide +kernel
theorem dX4_picture_7 : decode cX4_picture 7 = .ok (.getfield 185, 3) := by decide +kernel
theorem dX4_picture_10 : decode cX4_picture 10 = .ok (.ireturn, 1) := by decide +kernel
theorem dX4_pictureAnew_0 : decode cX4_pictureAnew 0 = .ok (.aload_n 0, 1) := by decide +kernel
theorem dX4_pictureAnew_1 : decode cX4_pictureAnew 1 = .ok (.iload_n 1, 1) := by decide +kernel
theorem dX4_pictureAnew_2 : decode cX4_pictureAnew 2 = .ok (.iload_n 2, 1) := by decide +kernel
theorem dX4_pictureAnew_3 : decode cX4_pictureAnew 3 = .ok (.iload_n 3, 1) := by decide +kernel
theorem dX4_pictureAnew_4 : decode cX4_pictureAnew 4 = .ok (.invokevirtual 181, 3) := by decide +kernel
theorem dX4_pictureAnew_7 : decode cX4_pictureAnew 7 = .ok (.astore 4, 2) := by decide +kernel
theorem dX4_pictureAnew_9 : decode cX4_pictureAnew 9 = .ok (.aload_n 0, 1) := by decide +kernel
theorem dX4_pictureAnew_10 : decode cX4_pictureAnew 10 = .ok (.aload 4, 2) := by decide +kernel
theorem dX4_pictureAnew_12 : decode cX4_pictureAnew 12 = .ok (.aload 4, 2) := by decide +kernel
theorem dX4_pictureAnew_14 : decode cX4_pictureAnew 14 = .ok (.getfield 188, 3) := by decide +kernel
theorem dX4_pictureAnew_17 : decode cX4_pictureAnew 17 = .ok (.invokevirtual 189, 3) := by decide +kernel
theorem dX4_pictureAnew_20 : decode cX4_pictureAnew 20 = .ok (.ireturn, 1) := by decide +kernel
theorem dX4_sightings_0 : decode cX4_sightings 0 = .ok (.aload_n 0, 1) := by decide +kernel
theorem dX4_sightings_1 : decode cX4_sightings 1 = .ok (.iload_n 1, 1) := by decide +kernel
theorem dX4_sightings_2 : decode cX4_sightings 2 = .ok (.invokevirtual 96, 3) := by decide +kernel
theorem dX4_sightings_5 : decode cX4_sightings 5 = .ok (.invokevirtual 230, 3) := by decide +kernel
theorem dX4_sightings_8 : decode cX4_sightings 8 = .ok (.ireturn, 1) := by decide +kernel
theorem dX4_stampOf_0 : decode cX4_stampOf 0 = .ok (.aload_n 0, 1) := by decide +kernel
theorem dX4_stampOf_1 : decode cX4_stampOf 1 = .ok (.iload_n 1, 1) := by decide +kernel
theorem dX4_stampOf_2 : decode cX4_stampOf 2 = .ok (.invokevirtual 96, 3) := by decide +kernel
theorem dX4_stampOf_5 : decode cX4_stampOf 5 = .ok (.iload_n 2, 1) := by decide +kernel
theorem dX4_stampOf_6 : decode cX4_stampOf 6 = .ok (.invokestatic 158, 3) := by decide +kernel
theorem dX4_stampOf_9 : decode cX4_stampOf 9 = .ok (.getfield 165, 3) := by decide +kernel
theorem dX4_stampOf_12 : decode cX4_stampOf 12 = .ok (.ireturn, 1) := by decide +kernel
theorem dX4_tileIndex_0 : decode cX4_tileIndex 0 = .ok (.iload_n 0, 1) := by decide +kernel
theorem dX4_tileIndex_1 : decode cX4_tileIndex 1 = .ok (.invokestatic 197, 3) := by decide +kernel
theorem dX4_tileIndex_4 : decode cX4_tileIndex 4 = .ok (.iload_n 0, 1) := by decide +kernel
theorem dX4_tileIndex_5 : decode cX4_tileIndex 5 = .ok (.invokestatic 203, 3) := by decide +kernel
theorem dX4_tileIndex_8 : decode cX4_tileIndex 8 = .ok (.istore_n 3, 1) := by decide +kernel
theorem dX4_tileIndex_9 : decode cX4_tileIndex 9 = .ok (.iload_n 1, 1) := by decide +kernel
theorem dX4_tileIndex_10 : decode cX4_tileIndex 10 = .ok (.iconst 0, 1) := by decide +kernel
theorem dX4_tileIndex_11 : decode cX4_tileIndex 11 = .ok (.iload_n 3, 1) := by decide +kernel
theorem dX4_tileIndex_12 : decode cX4_tileIndex 12 = .ok (.iconst 1, 1) := by decide +kernel
theorem dX4_tileIndex_13 : decode cX4_tileIndex 13 = .ok (.isub, 1) := by decide +kernel
theorem dX4_tileIndex_14 : decode cX4_tileIndex 14 = .ok (.invokestatic 50, 3) := by decide +kernel
theorem dX4_tileIndex_17 : decode cX4_tileIndex 17 = .ok (.ifCond .eq 14, 3) := by decide +kernel
theorem dX4_tileIndex_20 : decode cX4_tileIndex 20 = .ok (.iload_n 2, 1) := by decide +kernel
theorem dX4_tileIndex_21 : decode cX4_tileIndex 21 = .ok (.iconst 0, 1) := by decide +kernel
theorem dX4_tileIndex_22 : decode cX4_tileIndex 22 = .ok (.iload_n 3, 1) := by decide +kernel
theorem dX4_tileIndex_23 : decode cX4_tileIndex 23 = .ok (.iconst 1, 1) := by decide +kernel
theorem dX4_tileIndex_24 : decode cX4_tileIndex 24 = .ok (.isub, 1) := by decide +kernel
theorem dX4_tileIndex_25 : decode cX4_tileIndex 25 = .ok (.invokestatic 50, 3) := by decide +kernel
theorem dX4_tileIndex_28 : decode cX4_tileIndex 28 = .ok (.ifCond .ne 14, 3) := by decide +kernel
theorem dX4_tileIndex_31 : decode cX4_tileIndex 31 = .ok (.new 259, 3) := by decide +kernel
theorem dX4_tileIndex_34 : decode cX4_tileIndex 34 = .ok (.dup, 1) := by decide +kernel
theorem dX4_tileIndex_35 : decode cX4_tileIndex 35 = .ok (.ldc_w 292, 3) := by decide +kernel
theorem dX4_tileIndex_38 : decode cX4_tileIndex 38 = .ok (.invokespecial 263, 3) := by decide +kernel
theorem dX4_tileIndex_41 : decode cX4_tileIndex 41 = .ok (.athrow, 1) := by decide +kernel
theorem dX4_tileIndex_42 : decode cX4_tileIndex 42 = .ok (.getstatic 200, 3) := by decide +kernel
theorem dX4_tileIndex_45 : decode cX4_tileIndex 45 = .ok (.iload_n 0, 1) := by decide +kernel
theorem dX4_tileIndex_46 : decode cX4_tileIndex 46 = .ok (.iaload, 1) := by decide +kernel
theorem dX4_tileIndex_47 : decode cX4_tileIndex 47 = .ok (.iload_n 2, 1) := by decide +kernel
theorem dX4_tileIndex_48 : decode cX4_tileIndex 48 = .ok (.iload_n 3, 1) := by decide +kernel
theorem dX4_tileIndex_49 : decode cX4_tileIndex 49 = .ok (.imul, 1) := by decide +kernel
theorem dX4_tileIndex_50 : decode cX4_tileIndex 50 = .ok (.iadd, 1) := by decide +kernel
theorem dX4_tileIndex_51 : decode cX4_tileIndex 51 = .ok (.iload_n 1, 1) := by decide +kernel
theorem dX4_tileIndex_52 : decode cX4_tileIndex 52 = .ok (.iadd, 1) := by decide +kernel
theorem dX4_tileIndex_53 : decode cX4_tileIndex 53 = .ok (.ireturn, 1) := by decide +kernel
theorem dX4_tileStamp_0 : decode cX4_tileStamp 0 = .ok (.aload_n 0, 1) := by decide +kernel
theorem dX4_tileStamp_1 : decode cX4_tileStamp 1 = .ok (.getfield 28, 3) := by decide +kernel
theorem dX4_tileStamp_4 : decode cX4_tileStamp 4 = .ok (.iload_n 1, 1) := by decide +kernel
theorem dX4_tileStamp_5 : decode cX4_tileStamp 5 = .ok (.iload_n 2, 1) := by decide +kernel
theorem dX4_tileStamp_6 : decode cX4_tileStamp 6 = .ok (.iload_n 3, 1) := by decide +kernel
theorem dX4_tileStamp_7 : decode cX4_tileStamp 7 = .ok (.invokestatic 168, 3) := by decide +kernel
theorem dX4_tileStamp_10 : decode cX4_tileStamp 10 = .ok (.aaload, 1) := by decide +kernel
theorem dX4_tileStamp_11 : decode cX4_tileStamp 11 = .ok (.astore 4, 2) := by decide +kernel
theorem dX4_tileStamp_13 : decode cX4_tileStamp 13 = .ok (.aload 4, 2) := by decide +kernel
theorem dX4_tileStamp_15 : decode cX4_tileStamp 15 = .ok (.ifnonnull 7, 3) := by decide +kernel
theorem dX4_tileStamp_18 : decode cX4_tileStamp 18 = .ok (.iconst (-1), 1) := by decide +kernel
theorem dX4_tileStamp_19 : decode cX4_tileStamp 19 = .ok (.goto 8, 3) := by decide +kernel
theorem dX4_tileStamp_22 : decode cX4_tileStamp 22 = .ok (.aload 4, 2) := by decide +kernel
theorem dX4_tileStamp_24 : decode cX4_tileStamp 24 = .ok (.getfield 188, 3) := by decide +kernel
theorem dX4_tileStamp_27 : decode cX4_tileStamp 27 = .ok (.ireturn, 1) := by decide +kernel
theorem dX4_version_0 : decode cX4_version 0 = .ok (.aload_n 0, 1) := by decide +kernel
theorem dX4_version_1 : decode cX4_version 1 = .ok (.iload_n 1, 1) := by decide +kernel
theorem dX4_version_2 : decode cX4_version 2 = .ok (.invokevirtual 96, 3) := by decide +kernel
theorem dX4_version_5 : decode cX4_version 5 = .ok (.iload_n 2, 1) := by decide +kernel
theorem dX4_version_6 : decode cX4_version 6 = .ok (.invokestatic 158, 3) := by decide +kernel
theorem dX4_version_9 : decode cX4_version 9 = .ok (.getfield 144, 3) := by decide +kernel
theorem dX4_version_12 : decode cX4_version 12 = .ok (.invokevirtual 162, 3) := by decide +kernel
theorem dX4_version_15 : decode cX4_version 15 = .ok (.ireturn, 1) := by decide +kernel
theorem dX4_versionAt_0 : decode cX4_versionAt 0 = .ok (.aload_n 0, 1) := by decide +kernel
theorem dX4_versionAt_1 : decode cX4_versionAt 1 = .ok (.getfield 133, 3) := by decide +kernel
theorem dX4_versionAt_4 : decode cX4_versionAt 4 = .ok (.astore_n 2, 1) := by decide +kernel
theorem dX4_versionAt_5 : decode cX4_versionAt 5 = .ok (.aload_n 2, 1) := by decide +kernel
theorem dX4_versionAt_6 : decode cX4_versionAt 6 = .ok (.ifnull 21, 3) := by decide +kernel
theorem dX4_versionAt_9 : decode cX4_versionAt 9 = .ok (.aload_n 2, 1) := by decide +kernel
theorem dX4_versionAt_10 : decode cX4_versionAt 10 = .ok (.getfield 276, 3) := by decide +kernel
theorem dX4_versionAt_13 : decode cX4_versionAt 13 = .ok (.iload_n 1, 1) := by decide +kernel
theorem dX4_versionAt_14 : decode cX4_versionAt 14 = .ok (.if_icmp .ne 5, 3) := by decide +kernel
theorem dX4_versionAt_17 : decode cX4_versionAt 17 = .ok (.aload_n 2, 1) := by decide +kernel
theorem dX4_versionAt_18 : decode cX4_versionAt 18 = .ok (.areturn, 1) := by decide +kernel
theorem dX4_versionAt_19 : decode cX4_versionAt 19 = .ok (.aload_n 2, 1) := by decide +kernel
theorem dX4_versionAt_20 : decode cX4_versionAt 20 = .ok (.getfield 137, 3) := by decide +kernel
theorem dX4_versionAt_23 : decode cX4_versionAt 23 = .ok (.astore_n 2, 1) := by decide +kernel
theorem dX4_versionAt_24 : decode cX4_versionAt 24 = .ok (.goto (-19), 3) := by decide +kernel
theorem dX4_versionAt_27 : decode cX4_versionAt 27 = .ok (.new 259, 3) := by decide +kernel
theorem dX4_versionAt_30 : decode cX4_versionAt 30 = .ok (.dup, 1) := by decide +kernel
theorem dX4_versionAt_31 : decode cX4_versionAt 31 = .ok (.ldc_w 279, 3) := by decide +kernel
theorem dX4_versionAt_34 : decode cX4_versionAt 34 = .ok (.invokespecial 263, 3) := by decide +kernel
theorem dX4_versionAt_37 : decode cX4_versionAt 37 = .ok (.athrow, 1) := by decide +kernel
theorem dX4_versions_0 : decode cX4_versions 0 = .ok (.aload_n 0, 1) := by decide +kernel
theorem dX4_versions_1 : decode cX4_versions 1 = .ok (.iload_n 1, 1) := by decide +kernel
theorem dX4_versions_2 : decode cX4_versions 2 = .ok (.invokevirtual 96, 3) := by decide +kernel
theorem dX4_versions_5 : decode cX4_versions 5 = .ok (.invokevirtual 155, 3) := by decide +kernel
theorem dX4_versions_8 : decode cX4_versions 8 = .ok (.ireturn, 1) := by decide +kernel
theorem dX4_waiting_0 : decode cX4_waiting 0 = .ok (.aload_n 0, 1) := by decide +kernel
theorem dX4_waiting_1 : decode cX4_waiting 1 = .ok (.iload_n 1, 1) := by decide +kernel
theorem dX4_waiting_2 : decode cX4_waiting 2 = .ok (.invokevirtual 96, 3) := by decide +kernel
theorem dX4_waiting_5 : decode cX4_waiting 5 = .ok (.getfield 116, 3) := by decide +kernel
theorem dX4_waiting_8 : decode cX4_waiting 8 = .ok (.astore_n 2, 1) := by decide +kernel
theorem dX4_waiting_9 : decode cX4_waiting 9 = .ok (.aload_n 2, 1) := by decide +kernel
theorem dX4_waiting_10 : decode cX4_waiting 10 = .ok (.ifnonnull 7, 3) := by decide +kernel
theorem dX4_waiting_13 : decode cX4_waiting 13 = .ok (.iconst (-1), 1) := by decide +kernel
theorem dX4_waiting_14 : decode cX4_waiting 14 = .ok (.goto 7, 3) := by decide +kernel
theorem dX4_waiting_17 : decode cX4_waiting 17 = .ok (.aload_n 2, 1) := by decide +kernel
theorem dX4_waiting_18 : decode cX4_waiting 18 = .ok (.invokevirtual 162, 3) := by decide +kernel
theorem dX4_waiting_21 : decode cX4_waiting 21 = .ok (.ireturn, 1) := by decide +kernel
theorem tl_back {z x y : Int32} (h : sp_tl z x y) : nI (tz_t (sp_t z x y)) = z ∧ nI (tx_t (sp_t z x y)) = x ∧ nI (ty_t (sp_t z x y)) = y ∧ sp_t z x y < 341 := by
  obtain ⟨zi, xi, yi, hz, hx, hy, rfl, rfl, rfl⟩ := nt_tl h
  have h1 := pw_le zi hz
  obtain ⟨a1, a2, a3, a4⟩ := tb_all zi hz xi hx yi hy
  have e : sp_t (nI zi) (nI xi) (nI yi) = tb_i zi xi yi := by unfold sp_t; rw [nt_c (by omega), nt_c (by omega), nt_c (by omega)]
  rw [e, a2, a3, a4]
  exact ⟨rfl, rfl, rfl, a1⟩
theorem tix {z x y : Nat} : nI (tb_z z) + nI y * nI (2 ^ z) + nI x = nI (tb_i z x y) := by
  rw [pk_mul, nI_add, nI_add, Nat.mul_comm y]; rfl
theorem co_q {v : Int32} (h : sp_Q v) (h1 : ¬ v = -1) : 100 * (v / 100) + 10 * sp_vd v + sp_ve v + 1 = v := by
  rcases h with h | ⟨k, d, e, hk, hd, he0, he, rfl⟩
  · exact absurd h h1
  · have e1 : nI (100 * k + 10 * d + e) / 100 = nI k := by
      show nI (100 * k + 10 * d + e) / nI 100 = _
      rw [pk_div (by omega) (by decide) (by decide)]; congr 1; omega
    have e2 : sp_vd (nI (100 * k + 10 * d + e)) = nI d := by rw [vd_nI (by omega)]; congr 1; omega
    have e3 : sp_ve (nI (100 * k + 10 * d + e)) = nI (e - 1) := by rw [ve_nI (by omega), show (100 * k + 10 * d + e) % 10 = e by omega]; exact nI_m1 he0
    rw [e1, e2, e3, show (100 : Int32) = nI 100 from rfl, show (10 : Int32) = nI 10 from rfl, pk_mul, pk_mul, nI_add, nI_add, nI_1]
    congr 1; omega
theorem co_v {n : Nat} {v : Int32} (h : sp_V n v) (hn : n ≤ 40) : sp_co (sp_vk v) (sp_vd v) (sp_ve v) = v - v / 1000 * 1000 := by
  obtain ⟨w, k, d, e, hw, hk, hd, he, rfl⟩ := h
  have e1 : sp_vk (nI (1000 * w + 100 * k + 10 * d + e)) = nI k := by rw [vk_nI (by omega)]; congr 1; omega
  have e2 : sp_vd (nI (1000 * w + 100 * k + 10 * d + e)) = nI d := by rw [vd_nI (by omega)]; congr 1; omega
  have e3 : sp_ve (nI (1000 * w + 100 * k + 10 * d + e)) = nI e - 1 := by rw [ve_nI (by omega)]; congr 2; omega
  unfold sp_co
  rw [e1, e2, e3, show (1000 : Int32) = nI 1000 from rfl, pk_rem (by omega) (by decide) (by decide), show (100 : Int32) = nI 100 from rfl, show (10 : Int32) = nI 10 from rfl, pk_mul, pk_mul, nI_add, Int32.add_assoc, Int32.sub_add_cancel, nI_add]
  congr 1; omega
theorem at_of {mm : q_Mem} {w n v : Nat} (hw : w < 2 ^ 31) (h7 : mm 7 w = nI (n + 1)) (hn : n < 1000) (hv : v ≤ n) : sp_at mm (nI w) (nI v) = sp_back mm (n - v) (sp_L mm w) := by
  unfold sp_at
  rw [nI_clamp hw, h7, nI_clamp (by omega), nI_clamp (by omega), Nat.add_sub_cancel]
theorem ke_X4_versionAt : wl_S yX4_versionAt cX4_versionAt 3 (some (.object "SignTiles$Version")) 2 := ⟨wd_c_X4_versionAt, wd_t_X4_versionAt, wd_n_X4, by decide, by decide +kernel⟩
set_option maxHeartbeats 4000000 in
set_option maxRecDepth 100000 in
theorem m_X4_versionAt (l : Launch) (hflag : l.stackTraces = false) (G : k_G) (Z : Nat → Prop) (ad : k_Ad) (mm : q_Mem) (w : Nat) (y : Int32) (hI : Inv mm) (hw : w < sp_W mm) : kx_q l yX4_versionAt cX4_versionAt 3 (some (.object "SignTiles$Version")) 6 90 1 6 G Z ad (k_C G ad mm) [.ref (ad 1 w), .int y] (fun o u => (0 ≤ y ∧ y < mm 7 w) ∧ o = some (ad 3 (sp_at mm (nI w) y)) ∧ u = (ad, k_C G ad mm)) (fun E => E = k_IOB ∧ ¬ (0 ≤ y ∧ y < mm 7 w)) := by
  refine kx_of (by decide) (Nat.le_of_ble_eq_true rfl) ?_
  intro p e s m args below meth c hx hb hr hF hlk hnt hB ls hl
  obtain ⟨⟨hM, hN⟩, hK, hP, hT⟩ := hB
  have hS : va_S Z s.heap s.heap [] := va_S.rf
  have hl : lv_has ls 3 [(0, .ref (ad 1 w)), (1, .int y)] := hl
  have hW40 := hI.W40
  have hKK := hI.K512
  have hLK := hI.LK hw
  obtain ⟨n, hnK, hn, h7⟩ := hI.N hw
  have hn31 : n < 2 ^ 31 := by omega
  refine lv_aload_n hx hb dX4_versionAt_0 rfl (lv_at hl 0 rfl) ?_
  refine g_get (C := RX3) (T := TX3) (N := 8) (v := .ref (ad 3 (sp_L mm w))) hF hK (hM 1 w _ (kc_w (by assumption))) rfl inlX3 5 (by decide) rfl wd_f_X4_133 rfl dX4_versionAt_1 ?_
  refine bo_toV (v := k_rf (n < 0) (ad 3 (sp_back mm 0 (sp_L mm w)))) ((if_neg (Nat.not_lt_zero n)).symm) ?_
  refine lv_astore_nV (lv' := [(2, k_rf (n < 0) (ad 3 (sp_back mm 0 (sp_L mm w)))), (0, .ref (ad 1 w)), (1, .int y)]) hx hb dX4_versionAt_4 rfl hl (by decide) rfl (fun ls hl => ?_)
  refine bo_loop (σ := Nat) (μ := fun (t1 : Nat) => n + 1 - t1) (I := fun (t1 : Nat) (H : Heap) (locs : List Loc) (ls : Array Slot) => k_H G ad (k_C G ad mm) H ∧ k_N Z ad (k_C G ad mm) ∧ va_S Z s.heap H locs ∧ lv_has ls 3 [(2, k_rf (n < t1) (ad 3 (sp_back mm t1 (sp_L mm w)))), (0, .ref (ad 1 w)), (1, .int y)] ∧ (t1 ≤ n + 1) ∧ (∀ s1, s1 < t1 → ¬ nI (n - s1) = y)) (0) ⟨hM, hN, hS, lv_sub hl [0, 1, 2] rfl, Nat.zero_le _, fun s1 q => absurd q (Nat.not_lt_zero s1)⟩ ?_
  intro x5 H locs ls hI5 ih5
  obtain ⟨t1, ex5⟩ : ∃ z, z = x5 := ⟨_, rfl⟩
  subst ex5
  obtain ⟨hM, hN, hS, hl, hp1, hp⟩ := hI5
  refine lv_aload_nV hx hb dX4_versionAt_5 rfl (lv_at hl 0 rfl) ?_
  refine k_ifnull (tgt := 27) hx hb dX4_versionAt_6 (by decide) (fun c2 => ?_) (fun c2 => ?_)
  · skip
    exact kx_thrW (text := "there is no such version") hF hflag hP hT k_E_IOB wd_k_X4_259 (by decide) hM hN hK hS hl.1 dX4_versionAt_27 dX4_versionAt_30 dX4_versionAt_31 dX4_versionAt_34 dX4_versionAt_37 hnt (by decide) (Nat.le_of_ble_eq_true rfl) (by decide) (by decide) hlk (by decide) (by decide) (⟨rfl, fun q => by
        rw [h7] at q
        obtain ⟨v, hv, rfl⟩ := nt_lt (by omega) q
        exact hp (n - v) (by omega) (by congr 1; omega)⟩)
  · skip
    have ht1 : t1 ≤ n := by omega
    have e3 : k_rf (n < t1) (ad 3 (sp_back mm t1 (sp_L mm w))) = .ref (ad 3 (sp_back mm t1 (sp_L mm w))) := if_neg c2
    rw [e3] at hl
    obtain ⟨hbk, hbnum, hbn⟩ := hI.back (hI.LK hw) hn hn31 t1 ht1
    refine lv_aload_n hx hb dX4_versionAt_9 rfl (lv_at hl 0 rfl) ?_
    refine g_get (C := RX2) (T := TX2) (N := 4) (v := .int (mm 21 (sp_back mm t1 (sp_L mm w)))) hF hK (hM 3 (sp_back mm t1 (sp_L mm w)) _ (kc_v (by assumption))) rfl inlX2 2 (by decide) rfl wd_f_X4_276 rfl dX4_versionAt_10 ?_
    refine bo_to (v := (nI (n - t1))) (hbnum) ?_
    refine lv_iload_n hx hb dX4_versionAt_13 rfl (lv_at hl 2 rfl) ?_
    refine lv_icmp_ne (tgt := 19) hx hb dX4_versionAt_14 (by decide) (fun c4 => ?_) (fun c4 => ?_)
    · skip
      refine lv_aload_n hx hb dX4_versionAt_19 rfl (lv_at hl 0 rfl) ?_
      refine g_get (C := RX2) (T := TX2) (N := 4) (v := k_rf (mm 12 (sp_back mm t1 (sp_L mm w)) = -1) (ad 3 (sp_A mm (sp_back mm t1 (sp_L mm w))))) hF hK (hM 3 (sp_back mm t1 (sp_L mm w)) _ (kc_v (by assumption))) rfl inlX2 3 (by decide) rfl wd_f_X4_137 rfl dX4_versionAt_20 ?_
      refine bo_toV (v := k_rf (n < t1 + 1) (ad 3 (sp_back mm (t1 + 1) (sp_L mm w)))) (kb_step hI hw hn hn31 ht1) ?_
      refine lv_astore_nV (lv' := [(2, k_rf (n < t1 + 1) (ad 3 (sp_back mm (t1 + 1) (sp_L mm w)))), (0, .ref (ad 1 w)), (1, .int y)]) hx hb dX4_versionAt_23 rfl hl (by decide) rfl (fun ls hl => ?_)
      refine lv_goto (tgt := 5) hx hb dX4_versionAt_24 (by decide) ?_
      exact ih5 (t1 + 1) _ _ _ (by show n + 1 - (t1 + 1) < n + 1 - t1; omega) ⟨hM, hN, hS, lv_sub hl [0, 1, 2] rfl, by omega, fun s1 hs1 => by
        rcases Nat.lt_or_ge s1 t1 with q | q
        · exact hp s1 q
        · have e5 : s1 = t1 := by omega
          subst e5; exact c4⟩
    · skip
      refine lv_aload_n hx hb dX4_versionAt_17 rfl (lv_at hl 0 rfl) ?_
      exact kx_qret (o := (some (ad 3 (sp_back mm t1 (sp_L mm w))))) hx hb hr hlk hM hN hK hS (by decide) (by decide) (by subst c4; exact ⟨⟨bo_lt (nI_pos (by omega)), by rw [h7]; exact nI_lt (by omega) (by omega)⟩, by rw [at_of (by omega) h7 (by omega) (by omega)]; congr 3; omega, rfl⟩) dX4_versionAt_18
theorem ke_X4_tileIndex : wl_S yX4_tileIndex cX4_tileIndex 4 (some .int) 3 := ⟨wd_c_X4_tileIndex, wd_t_X4_tileIndex, wd_n_X4, by decide, by decide +kernel⟩
set_option maxHeartbeats 4000000 in
set_option maxRecDepth 100000 in
theorem m_X4_tileIndex (l : Launch) (hflag : l.stackTraces = false) (G : k_G) (Z : Nat → Prop) (ad : k_Ad) (ct : k_Ct) (z x y : Int32)  : kx_i l yX4_tileIndex cX4_tileIndex 4 (some .int) 7 110 2 12 G Z ad ct [.int z, .int x, .int y] (fun r u => sp_tl z x y ∧ r = nI (sp_t z x y) ∧ u = (ad, ct)) (fun E => E = k_IOB ∧ ¬ sp_tl z x y) := by
  refine kx_of (by decide) (Nat.le_of_ble_eq_true rfl) ?_
  intro p e s m args below meth c hx hb hr hF hlk hnt hB ls hl
  obtain ⟨⟨hM, hN⟩, hK, hP, hT⟩ := hB
  have hS : va_S Z s.heap s.heap [] := va_S.rf
  have hl : lv_has ls 4 [(0, .int z), (1, .int x), (2, .int y)] := hl
  refine lv_iload_n hx hb dX4_tileIndex_0 rfl (lv_at hl 0 rfl) ?_
  refine kx_vS (fr := 6) (lo := 90) (mc1 := 1) (ms1 := 6) (As := [.int z]) (rest := []) hF (m_X4_requireZoom l hflag G Z ad ct z) ke_X4_requireZoom wd_l_X4_197 (by decide) hM hN hK hP hT hS rfl hl.1 rfl (Nat.le_of_ble_eq_true rfl) dX4_tileIndex_1 (by decide) hnt hlk (fun E hE => ⟨⟨hE.1, fun q => hE.2 q.1⟩, rfl, rfl⟩) (by decide) (by decide) (fun ur1 H locs hr1 hM hN hS _ _ => ?_)
  obtain ⟨cZ, rfl⟩ := hr1
  replace hM : k_H G ad ct H := hM
  replace hN : k_N Z ad ct := hN
  obtain ⟨zi, hz, hze⟩ := nt_zm cZ
  subst hze
  have hp16 := pw_le zi hz
  refine lv_iload_n hx hb dX4_tileIndex_4 rfl (lv_at hl 0 rfl) ?_
  refine rc_S (fr := 0) (lo := 0) (As := [.int (nI zi)]) (rest := []) hF (m_X4_tilesAcross l (nI zi)) ke_X4_tilesAcross wd_l_X4_203 (by decide) bl_true (fun _ _ _ => trivial) rfl hl.1 rfl (Nat.le_of_ble_eq_true rfl) dX4_tileIndex_5 (by decide) (fun r2 hr2 => ?_)
  replace hr2 : r2 = sp_mn (nI zi) := hr2
  subst hr2
  refine bo_to (v := (nI (2 ^ zi))) (sp_mn_nI zi hz) ?_
  refine lv_istore_n (lv' := [(3, .int (nI (2 ^ zi))), (0, .int (nI zi)), (1, .int x), (2, .int y)]) hx hb dX4_tileIndex_8 rfl hl (by decide) rfl (fun ls hl => ?_)
  refine lv_iload_n hx hb dX4_tileIndex_9 rfl (lv_at hl 2 rfl) ?_
  refine lv_iconst (v := 0) hx hb dX4_tileIndex_10 (by decide) ?_
  refine lv_iload_n hx hb dX4_tileIndex_11 rfl (lv_at hl 0 rfl) ?_
  refine lv_iconst (v := 1) hx hb dX4_tileIndex_12 (by decide) ?_
  refine lv_isub hx hb dX4_tileIndex_13 ?_
  refine rc_S (fr := 0) (lo := 0) (As := [.int x, .int 0, .int ((nI (2 ^ zi)) - 1)]) (rest := []) hF (m_X4_isIn l x 0 ((nI (2 ^ zi)) - 1)) ke_X4_isIn wd_l_X4_50 (by decide) bl_true (fun _ _ _ => trivial) rfl hl.1 rfl (Nat.le_of_ble_eq_true rfl) dX4_tileIndex_14 (by decide) (fun r3 hr3 => ?_)
  refine bo_eq (tgt := 31) hr3 hx hb dX4_tileIndex_17 (by decide) (fun c1 => ?_) (fun c1 => ?_)
  · skip
    exact kx_thrW (text := "there is no such tile") hF hflag hP hT k_E_IOB wd_k_X4_259 (by decide) hM hN hK hS hl.1 dX4_tileIndex_31 dX4_tileIndex_34 dX4_tileIndex_35 dX4_tileIndex_38 dX4_tileIndex_41 hnt (by decide) (Nat.le_of_ble_eq_true rfl) (by decide) (by decide) hlk (by decide) (by decide) (⟨rfl, fun q => by first | exact c1 (by have q2 := q.2.1; rw [sp_mn_nI zi hz] at q2; exact q2) | exact c2 (by have q2 := q.2.2; rw [sp_mn_nI zi hz] at q2; exact q2)⟩)
  · skip
    refine lv_iload_n hx hb dX4_tileIndex_20 rfl (lv_at hl 3 rfl) ?_
    refine lv_iconst (v := 0) hx hb dX4_tileIndex_21 (by decide) ?_
    refine lv_iload_n hx hb dX4_tileIndex_22 rfl (lv_at hl 0 rfl) ?_
    refine lv_iconst (v := 1) hx hb dX4_tileIndex_23 (by decide) ?_
    refine lv_isub hx hb dX4_tileIndex_24 ?_
    refine rc_S (fr := 0) (lo := 0) (As := [.int y, .int 0, .int ((nI (2 ^ zi)) - 1)]) (rest := []) hF (m_X4_isIn l y 0 ((nI (2 ^ zi)) - 1)) ke_X4_isIn wd_l_X4_50 (by decide) bl_true (fun _ _ _ => trivial) rfl hl.1 rfl (Nat.le_of_ble_eq_true rfl) dX4_tileIndex_25 (by decide) (fun r4 hr4 => ?_)
    refine bo_ne (tgt := 42) hr4 hx hb dX4_tileIndex_28 (by decide) (fun c2 => ?_) (fun c2 => ?_)
    · skip
      have cT : sp_tl (nI zi) x y := ⟨cZ, by rw [sp_mn_nI zi hz]; exact c1, by rw [sp_mn_nI zi hz]; exact c2⟩
      obtain ⟨xi, hxi, hxe⟩ := nt_pm hz cT.2.1
      obtain ⟨yi, hyi, hye⟩ := nt_pm hz cT.2.2
      subst hxe
      subst hye
      refine va_gets hF.1 hF.2.1 hT.2.2.1.1 hS hF.2.2.2.1 (hF.2.2.2.2 _ wd_f_X4_200) (fun x h => h) dX4_tileIndex_42 ?_
      refine lv_iload_n hx hb dX4_tileIndex_45 rfl (lv_at hl 1 rfl) ?_
      refine va_ti hF.1 hF.2.1 hT.2.2.1.2 hS (v := .int (nI (tb_z zi))) (vp_in_nI hz (by decide)) (by show Value.int (k_first (nI zi).toNatClampNeg) = _; rw [nI_clamp (by omega)]; rfl) dX4_tileIndex_46 ?_
      refine lv_iload_n hx hb dX4_tileIndex_47 rfl (lv_at hl 3 rfl) ?_
      refine lv_iload_n hx hb dX4_tileIndex_48 rfl (lv_at hl 0 rfl) ?_
      refine lv_imul hx hb dX4_tileIndex_49 ?_
      refine lv_iadd hx hb dX4_tileIndex_50 ?_
      refine lv_iload_n hx hb dX4_tileIndex_51 rfl (lv_at hl 2 rfl) ?_
      refine lv_iadd hx hb dX4_tileIndex_52 ?_
      refine bo_to (v := (nI (tb_i zi xi yi))) (tix) ?_
      exact kx_iret hx hb hr hlk hM hN hK hS (by decide) (by decide) (⟨cT, by rw [sp_t, nt_c (by omega), nt_c (by omega), nt_c (by omega)], rfl⟩) dX4_tileIndex_53
    · skip
      exact kx_thrW (text := "there is no such tile") hF hflag hP hT k_E_IOB wd_k_X4_259 (by decide) hM hN hK hS hl.1 dX4_tileIndex_31 dX4_tileIndex_34 dX4_tileIndex_35 dX4_tileIndex_38 dX4_tileIndex_41 hnt (by decide) (Nat.le_of_ble_eq_true rfl) (by decide) (by decide) hlk (by decide) (by decide) (⟨rfl, fun q => by first | exact c1 (by have q2 := q.2.1; rw [sp_mn_nI zi hz] at q2; exact q2) | exact c2 (by have q2 := q.2.2; rw [sp_mn_nI zi hz] at q2; exact q2)⟩)
theorem ke_X4_drawnTile : wl_V RX4 yX4_drawnTile cX4_drawnTile 5 (some (.object "SignTiles$Tile")) 3 := ⟨wd_c_X4_drawnTile, wd_i_X4_drawnTile, wd_s_X4_drawnTile, wd_n_X4, by decide, by decide +kernel⟩
set_option maxHeartbeats 4000000 in
set_option maxRecDepth 100000 in
theorem m_X4_drawnTile (l : Launch) (hflag : l.stackTraces = false) (G : k_G) (Z : Nat → Prop) (ad : k_Ad) (mm : q_Mem) (z x y : Int32)  : kx_q l yX4_drawnTile cX4_drawnTile 5 (some (.object "SignTiles$Tile")) 8 133 3 18 G Z ad (k_C G ad mm) [.ref (ad 0 0), .int z, .int x, .int y] (fun o u => sp_tl z x y ∧ ¬ mm 13 (sp_t z x y) = 0 ∧ o = some (ad 6 (sp_t z x y)) ∧ u = (ad, k_C G ad mm)) (fun E => (E = k_IOB ∧ ¬ sp_tl z x y) ∨ (E = k_ISE ∧ sp_tl z x y ∧ mm 13 (sp_t z x y) = 0)) := by
  refine kx_of (by decide) (Nat.le_of_ble_eq_true rfl) ?_
  intro p e s m args below meth c hx hb hr hF hlk hnt hB ls hl
  obtain ⟨⟨hM, hN⟩, hK, hP, hT⟩ := hB
  have hS : va_S Z s.heap s.heap [] := va_S.rf
  have hl : lv_has ls 5 [(0, .ref (ad 0 0)), (1, .int z), (2, .int x), (3, .int y)] := hl
  refine lv_aload_n hx hb dX4_drawnTile_0 rfl (lv_at hl 0 rfl) ?_
  refine g_get (C := RX4) (T := TX4) (N := 6) (v := .ref (ad 0 5)) hF hK (hM 0 0 _ rfl) rfl inlX4 4 (by decide) rfl wd_f_X4_28 rfl dX4_drawnTile_1 ?_
  refine lv_iload_n hx hb dX4_drawnTile_4 rfl (lv_at hl 1 rfl) ?_
  refine lv_iload_n hx hb dX4_drawnTile_5 rfl (lv_at hl 2 rfl) ?_
  refine lv_iload_n hx hb dX4_drawnTile_6 rfl (lv_at hl 3 rfl) ?_
  refine kx_iS (fr := 7) (lo := 110) (mc1 := 2) (ms1 := 12) (As := [.int z, .int x, .int y]) (rest := [.ref (ad 0 5)]) hF (m_X4_tileIndex l hflag G Z ad (k_C G ad mm) z x y) ke_X4_tileIndex wd_l_X4_168 (by decide) hM hN hK hP hT hS rfl hl.1 rfl (Nat.le_of_ble_eq_true rfl) dX4_drawnTile_7 (by decide) hnt hlk (fun E hE => ⟨Or.inl ⟨hE.1, hE.2⟩, rfl, rfl⟩) (by decide) (by decide) (fun r1 ur1 H locs hr1 hM hN hS _ _ => ?_)
  obtain ⟨cT, hro, rfl⟩ := hr1
  subst hro
  replace hM : k_H G ad (k_C G ad mm) H := hM
  replace hN : k_N Z ad (k_C G ad mm) := hN
  obtain ⟨tz, tx, ty, ht⟩ := tl_back cT
  refine g_aldq (t0 := 1) (i := sp_t z x y) hF hK (hM 0 5 _ rfl) rfl rfl ht (by decide) dX4_drawnTile_10 ?_
  refine bo_toV (v := k_rf (mm 13 (sp_t z x y) = 0) (ad 6 (sp_t z x y))) (k_rf_tr _ _ _) ?_
  refine k_split (fun c1 => ?_) (fun c1 => ?_)
  · skip
    refine lv_astoreN (lv' := [(4, .null), (0, .ref (ad 0 0)), (1, .int z), (2, .int x), (3, .int y)]) hx hb dX4_drawnTile_11 hl (by decide) rfl (fun ls hl => ?_)
    refine lv_aloadN hx hb dX4_drawnTile_13 (lv_at hl 0 rfl) ?_
    refine lv_ifnonnullN hx hb dX4_drawnTile_15 ?_
    exact kx_thrW (text := "the tile was not drawn") hF hflag hP hT k_E_ISE wd_k_X4_73 (by decide) hM hN hK hS hl.1 dX4_drawnTile_18 dX4_drawnTile_21 dX4_drawnTile_22 dX4_drawnTile_25 dX4_drawnTile_28 hnt (by decide) (Nat.le_of_ble_eq_true rfl) (by decide) (by decide) hlk (by decide) (by decide) (Or.inr ⟨rfl, cT, c1⟩)
  · skip
    refine lv_astore (lv' := [(4, .ref (ad 6 (sp_t z x y))), (0, .ref (ad 0 0)), (1, .int z), (2, .int x), (3, .int y)]) hx hb dX4_drawnTile_11 hl (by decide) rfl (fun ls hl => ?_)
    refine lv_aload hx hb dX4_drawnTile_13 (lv_at hl 0 rfl) ?_
    refine lv_ifnonnull (tgt := 29) hx hb dX4_drawnTile_15 (by decide) ?_
    refine lv_aload hx hb dX4_drawnTile_29 (lv_at hl 0 rfl) ?_
    exact kx_qret (o := (some (ad 6 (sp_t z x y)))) hx hb hr hlk hM hN hK hS (by decide) (by decide) (⟨cT, c1, rfl, rfl⟩) dX4_drawnTile_31
theorem ke_X4_versions : wl_V RX4 yX4_versions cX4_versions 2 (some .int) 1 := ⟨wd_c_X4_versions, wd_i_X4_versions, wd_s_X4_versions, wd_n_X4, by decide, by decide +kernel⟩
set_option maxHeartbeats 4000000 in
set_option maxRecDepth 100000 in
theorem m_X4_versions (l : Launch) (hflag : l.stackTraces = false) (G : k_G) (Z : Nat → Prop) (ad : k_Ad) (mm : q_Mem) (x : Int32) (hI : Inv mm) : kx_i l yX4_versions cX4_versions 2 (some .int) 7 111 1 6 G Z ad (k_C G ad mm) [.ref (ad 0 0), .int x] (k_po G ad (sp_ofway 7 mm x)) (k_px k_n3 (sp_ofway 7 mm x) mm) := by
  refine kx_of (by decide) (Nat.le_of_ble_eq_true rfl) ?_
  intro p e s m args below meth c hx hb hr hF hlk hnt hB ls hl
  obtain ⟨⟨hM, hN⟩, hK, hP, hT⟩ := hB
  have hS : va_S Z s.heap s.heap [] := va_S.rf
  have hl : lv_has ls 2 [(0, .ref (ad 0 0)), (1, .int x)] := hl
  refine lv_aload_n hx hb dX4_versions_0 rfl (lv_at hl 0 rfl) ?_
  refine lv_iload_n hx hb dX4_versions_1 rfl (lv_at hl 1 rfl) ?_
  refine kx_qV (fr := 6) (lo := 90) (mc1 := 1) (ms1 := 6) (As := [.int x]) (rest := []) hF (m_X4_wayAt l hflag G Z ad mm x hI) ke_X4_wayAt wd_l_X4_96 (by decide) hM hN hK hP hT hS (g_recv hK (hM 0 0 _ rfl) rfl) rfl hl.1 rfl (Nat.le_of_ble_eq_true rfl) dX4_versions_2 (by decide) hnt hlk (fun E hE => ⟨⟨1, by decide, by rw [sp_ofway, if_neg hE.2], hE.1⟩, rfl, rfl⟩) (by decide) (by decide) (fun r1 ur1 H locs hr1 hM hN hS _ _ => ?_)
  obtain ⟨cW, hro, rfl⟩ := hr1
  replace hM : k_H G ad (k_C G ad mm) H := hM
  replace hN : k_N Z ad (k_C G ad mm) := hN
  obtain ⟨wi, hwi, hwe⟩ := nt_wy hI cW
  have hW40 := hI.W40
  have hKK := hI.K512
  subst hwe
  have hwc : (nI wi).toNatClampNeg = wi := nt_c (by omega)
  rw [hwc] at hro
  subst hro
  refine bo_toV (v := .ref (ad 1 wi)) rfl ?_
  refine kr_V (fr := 0) (lo := 0) (As := []) (rest := []) hF (m_X3_versionCount l G Z ad mm wi hI hwi) ke_X3_versionCount wd_l_X4_155 (by decide) hM hK hP hT hS (g_recv hK (hM 1 wi _ (kc_w (by assumption))) rfl) rfl hl.1 rfl (Nat.le_of_ble_eq_true rfl) dX4_versions_5 (by decide) (fun r2 hr2 => ?_)
  replace hr2 : r2 = mm 7 wi := hr2
  subst hr2
  exact kx_iret hx hb hr hlk hM hN hK hS (by decide) (by decide) (k_po.of19 (by rw [sp_ofway, if_pos cW, hwc])) dX4_versions_8
theorem ke_X4_sightings : wl_V RX4 yX4_sightings cX4_sightings 2 (some .int) 1 := ⟨wd_c_X4_sightings, wd_i_X4_sightings, wd_s_X4_sightings, wd_n_X4, by decide, by decide +kernel⟩
set_option maxHeartbeats 4000000 in
set_option maxRecDepth 100000 in
theorem m_X4_sightings (l : Launch) (hflag : l.stackTraces = false) (G : k_G) (Z : Nat → Prop) (ad : k_Ad) (mm : q_Mem) (x : Int32) (hI : Inv mm) : kx_i l yX4_sightings cX4_sightings 2 (some .int) 7 111 1 6 G Z ad (k_C G ad mm) [.ref (ad 0 0), .int x] (k_po G ad (sp_sgt mm x)) (k_px k_n3 (sp_sgt mm x) mm) := by
  refine kx_of (by decide) (Nat.le_of_ble_eq_true rfl) ?_
  intro p e s m args below meth c hx hb hr hF hlk hnt hB ls hl
  obtain ⟨⟨hM, hN⟩, hK, hP, hT⟩ := hB
  have hS : va_S Z s.heap s.heap [] := va_S.rf
  have hl : lv_has ls 2 [(0, .ref (ad 0 0)), (1, .int x)] := hl
  refine lv_aload_n hx hb dX4_sightings_0 rfl (lv_at hl 0 rfl) ?_
  refine lv_iload_n hx hb dX4_sightings_1 rfl (lv_at hl 1 rfl) ?_
  refine kx_qV (fr := 6) (lo := 90) (mc1 := 1) (ms1 := 6) (As := [.int x]) (rest := []) hF (m_X4_wayAt l hflag G Z ad mm x hI) ke_X4_wayAt wd_l_X4_96 (by decide) hM hN hK hP hT hS (g_recv hK (hM 0 0 _ rfl) rfl) rfl hl.1 rfl (Nat.le_of_ble_eq_true rfl) dX4_sightings_2 (by decide) hnt hlk (fun E hE => ⟨⟨1, by decide, by rw [sp_sgt, if_neg hE.2], hE.1⟩, rfl, rfl⟩) (by decide) (by decide) (fun r1 ur1 H locs hr1 hM hN hS _ _ => ?_)
  obtain ⟨cW, hro, rfl⟩ := hr1
  replace hM : k_H G ad (k_C G ad mm) H := hM
  replace hN : k_N Z ad (k_C G ad mm) := hN
  obtain ⟨wi, hwi, hwe⟩ := nt_wy hI cW
  have hW40 := hI.W40
  have hKK := hI.K512
  subst hwe
  have hwc : (nI wi).toNatClampNeg = wi := nt_c (by omega)
  rw [hwc] at hro
  subst hro
  refine bo_toV (v := .ref (ad 1 wi)) rfl ?_
  refine kr_V (fr := 0) (lo := 0) (As := []) (rest := []) hF (m_X3_countSightings l G Z ad mm wi hI hwi) ke_X3_countSightings wd_l_X4_230 (by decide) hM hK hP hT hS (g_recv hK (hM 1 wi _ (kc_w (by assumption))) rfl) rfl hl.1 rfl (Nat.le_of_ble_eq_true rfl) dX4_sightings_5 (by decide) (fun r2 hr2 => ?_)
  replace hr2 : r2 = sp_dc mm wi := hr2
  subst hr2
  exact kx_iret hx hb hr hlk hM hN hK hS (by decide) (by decide) (k_po.of19 (by rw [sp_sgt, if_pos cW, hwc])) dX4_sightings_8
theorem ke_X4_dear : wl_V RX4 yX4_dear cX4_dear 2 (some .int) 1 := ⟨wd_c_X4_dear, wd_i_X4_dear, wd_s_X4_dear, wd_n_X4, by decide, by decide +kernel⟩
set_option maxHeartbeats 4000000 in
set_option maxRecDepth 100000 in
theorem m_X4_dear (l : Launch) (hflag : l.stackTraces = false) (G : k_G) (Z : Nat → Prop) (ad : k_Ad) (mm : q_Mem) (x : Int32) (hI : Inv mm) : kx_i l yX4_dear cX4_dear 2 (some .int) 7 111 1 6 G Z ad (k_C G ad mm) [.ref (ad 0 0), .int x] (k_po G ad (sp_dear mm x)) (k_px k_n3 (sp_dear mm x) mm) := by
  refine kx_of (by decide) (Nat.le_of_ble_eq_true rfl) ?_
  intro p e s m args below meth c hx hb hr hF hlk hnt hB ls hl
  obtain ⟨⟨hM, hN⟩, hK, hP, hT⟩ := hB
  have hS : va_S Z s.heap s.heap [] := va_S.rf
  have hl : lv_has ls 2 [(0, .ref (ad 0 0)), (1, .int x)] := hl
  refine lv_aload_n hx hb dX4_dear_0 rfl (lv_at hl 0 rfl) ?_
  refine lv_iload_n hx hb dX4_dear_1 rfl (lv_at hl 1 rfl) ?_
  refine kx_qV (fr := 6) (lo := 90) (mc1 := 1) (ms1 := 6) (As := [.int x]) (rest := []) hF (m_X4_wayAt l hflag G Z ad mm x hI) ke_X4_wayAt wd_l_X4_96 (by decide) hM hN hK hP hT hS (g_recv hK (hM 0 0 _ rfl) rfl) rfl hl.1 rfl (Nat.le_of_ble_eq_true rfl) dX4_dear_2 (by decide) hnt hlk (fun E hE => ⟨⟨1, by decide, by rw [sp_dear, if_neg hE.2], hE.1⟩, rfl, rfl⟩) (by decide) (by decide) (fun r1 ur1 H locs hr1 hM hN hS _ _ => ?_)
  obtain ⟨cW, hro, rfl⟩ := hr1
  replace hM : k_H G ad (k_C G ad mm) H := hM
  replace hN : k_N Z ad (k_C G ad mm) := hN
  obtain ⟨wi, hwi, hwe⟩ := nt_wy hI cW
  have hW40 := hI.W40
  have hKK := hI.K512
  subst hwe
  have hwc : (nI wi).toNatClampNeg = wi := nt_c (by omega)
  rw [hwc] at hro
  subst hro
  refine bo_toV (v := .ref (ad 1 wi)) rfl ?_
  refine kr_V (fr := 1) (lo := 20) (As := []) (rest := []) hF (m_X3_dearness l G Z ad mm wi hI hwi) ke_X3_dearness wd_l_X4_233 (by decide) hM hK hP hT hS (g_recv hK (hM 1 wi _ (kc_w (by assumption))) rfl) rfl hl.1 rfl (Nat.le_of_ble_eq_true rfl) dX4_dear_5 (by decide) (fun r2 hr2 => ?_)
  replace hr2 : r2 = sp_dv mm wi := hr2
  subst hr2
  exact kx_iret hx hb hr hlk hM hN hK hS (by decide) (by decide) (k_po.of19 (by rw [sp_dear, if_pos cW, hwc])) dX4_dear_8
set_option maxHeartbeats 4000000 in
set_option maxRecDepth 100000 in
theorem m_X0_codedQ (l : Launch) (G : k_G) (Z : Nat → Prop) (ad : k_Ad) (mm : q_Mem) (i : Nat) (hI : Inv mm) (hi : i < sp_W mm) (h2 : ¬ mm 9 i = -1) : rc_C l yX0_coded cX0_coded 1 (some .int) 0 0 [.ref (ad 5 i)] (k_R G Z ad mm) (fun r => r = mm 9 i) := by
  refine rc_of (by decide) (Nat.le_of_ble_eq_true rfl) ?_
  intro p e s m args below meth c hx hb hr hF hlk hB ls hl
  obtain ⟨hM, hK, hP, hT⟩ := hB
  have hS : va_S Z s.heap s.heap [] := va_S.rf
  have hl : lv_has ls 1 [(0, .ref (ad 5 i))] := hl
  have hf : (0 : Nat) ≤ 0 ∧ (0 : Nat) ≤ 0 := ⟨Nat.le_refl 0, Nat.le_refl 0⟩
  refine lv_bipush (v := 100) hx hb dX0_coded_0 (by decide) ?_
  refine lv_aload_n hx hb dX0_coded_2 rfl (lv_at hl 0 rfl) ?_
  refine g_get (C := RX0) (T := TX0) (N := 3) (v := .int (mm 9 i / 100)) hF hK (hM 5 i _ (kc_q hi h2)) rfl inlX0 0 (by decide) rfl wd_f_X0_7 rfl dX0_coded_3 ?_
  refine lv_imul hx hb dX0_coded_6 ?_
  refine lv_bipush (v := 10) hx hb dX0_coded_7 (by decide) ?_
  refine lv_aload_n hx hb dX0_coded_9 rfl (lv_at hl 0 rfl) ?_
  refine g_get (C := RX0) (T := TX0) (N := 3) (v := .int (sp_vd (mm 9 i))) hF hK (hM 5 i _ (kc_q hi h2)) rfl inlX0 1 (by decide) rfl wd_f_X0_13 rfl dX0_coded_10 ?_
  refine lv_imul hx hb dX0_coded_13 ?_
  refine lv_iadd hx hb dX0_coded_14 ?_
  refine lv_aload_n hx hb dX0_coded_15 rfl (lv_at hl 0 rfl) ?_
  refine g_get (C := RX0) (T := TX0) (N := 3) (v := .int (sp_ve (mm 9 i))) hF hK (hM 5 i _ (kc_q hi h2)) rfl inlX0 2 (by decide) rfl wd_f_X0_16 rfl dX0_coded_16 ?_
  refine lv_iadd hx hb dX0_coded_19 ?_
  refine lv_iconst (v := 1) hx hb dX0_coded_20 (by decide) ?_
  refine lv_iadd hx hb dX0_coded_21 ?_
  exact rc_iret hx hb hr hlk (co_q (hI.Q hi) h2) dX0_coded_22
theorem ke_X4_waiting : wl_V RX4 yX4_waiting cX4_waiting 3 (some .int) 1 := ⟨wd_c_X4_waiting, wd_i_X4_waiting, wd_s_X4_waiting, wd_n_X4, by decide, by decide +kernel⟩
set_option maxHeartbeats 4000000 in
set_option maxRecDepth 100000 in
theorem m_X4_waiting (l : Launch) (hflag : l.stackTraces = false) (G : k_G) (Z : Nat → Prop) (ad : k_Ad) (mm : q_Mem) (x : Int32) (hI : Inv mm) : kx_i l yX4_waiting cX4_waiting 3 (some .int) 7 111 1 6 G Z ad (k_C G ad mm) [.ref (ad 0 0), .int x] (k_po G ad (sp_ofway 9 mm x)) (k_px k_n3 (sp_ofway 9 mm x) mm) := by
  refine kx_of (by decide) (Nat.le_of_ble_eq_true rfl) ?_
  intro p e s m args below meth c hx hb hr hF hlk hnt hB ls hl
  obtain ⟨⟨hM, hN⟩, hK, hP, hT⟩ := hB
  have hS : va_S Z s.heap s.heap [] := va_S.rf
  have hl : lv_has ls 3 [(0, .ref (ad 0 0)), (1, .int x)] := hl
  refine lv_aload_n hx hb dX4_waiting_0 rfl (lv_at hl 0 rfl) ?_
  refine lv_iload_n hx hb dX4_waiting_1 rfl (lv_at hl 1 rfl) ?_
  refine kx_qV (fr := 6) (lo := 90) (mc1 := 1) (ms1 := 6) (As := [.int x]) (rest := []) hF (m_X4_wayAt l hflag G Z ad mm x hI) ke_X4_wayAt wd_l_X4_96 (by decide) hM hN hK hP hT hS (g_recv hK (hM 0 0 _ rfl) rfl) rfl hl.1 rfl (Nat.le_of_ble_eq_true rfl) dX4_waiting_2 (by decide) hnt hlk (fun E hE => ⟨⟨1, by decide, by rw [sp_ofway, if_neg hE.2], hE.1⟩, rfl, rfl⟩) (by decide) (by decide) (fun r1 ur1 H locs hr1 hM hN hS _ _ => ?_)
  obtain ⟨cW, hro, rfl⟩ := hr1
  replace hM : k_H G ad (k_C G ad mm) H := hM
  replace hN : k_N Z ad (k_C G ad mm) := hN
  obtain ⟨wi, hwi, hwe⟩ := nt_wy hI cW
  have hW40 := hI.W40
  have hKK := hI.K512
  subst hwe
  have hwc : (nI wi).toNatClampNeg = wi := nt_c (by omega)
  rw [hwc] at hro
  subst hro
  refine bo_toV (v := .ref (ad 1 wi)) rfl ?_
  refine g_get (C := RX3) (T := TX3) (N := 8) (v := k_rf (mm 9 wi = -1) (ad 5 wi)) hF hK (hM 1 wi _ (kc_w (by assumption))) rfl inlX3 6 (by decide) rfl wd_f_X4_116 rfl dX4_waiting_5 ?_
  refine k_split (fun c1 => ?_) (fun c1 => ?_)
  · skip
    refine lv_astore_nN (lv' := [(2, .null), (0, .ref (ad 0 0)), (1, .int (nI wi))]) hx hb dX4_waiting_8 rfl hl (by decide) rfl (fun ls hl => ?_)
    refine lv_aload_nN hx hb dX4_waiting_9 rfl (lv_at hl 0 rfl) ?_
    refine lv_ifnonnullN hx hb dX4_waiting_10 ?_
    refine lv_iconst (v := (-1)) hx hb dX4_waiting_13 (by decide) ?_
    refine lv_goto (tgt := 21) hx hb dX4_waiting_14 (by decide) ?_
    exact kx_iret hx hb hr hlk hM hN hK hS (by decide) (by decide) (k_po.of19 (by first | (rw [sp_ofway, if_pos cW, hwc]; done) | rw [sp_ofway, if_pos cW, hwc, c1])) dX4_waiting_21
  · skip
    refine lv_astore_n (lv' := [(2, .ref (ad 5 wi)), (0, .ref (ad 0 0)), (1, .int (nI wi))]) hx hb dX4_waiting_8 rfl hl (by decide) rfl (fun ls hl => ?_)
    refine lv_aload_n hx hb dX4_waiting_9 rfl (lv_at hl 0 rfl) ?_
    refine lv_ifnonnull (tgt := 17) hx hb dX4_waiting_10 (by decide) ?_
    refine lv_aload_n hx hb dX4_waiting_17 rfl (lv_at hl 0 rfl) ?_
    refine kr_V (fr := 0) (lo := 0) (As := []) (rest := []) hF (m_X0_codedQ l G Z ad mm wi hI hwi c1) ke_X0_coded wd_l_X4_162 (by decide) hM hK hP hT hS (g_recv hK (hM 5 wi _ (kc_q hwi c1)) rfl) rfl hl.1 rfl (Nat.le_of_ble_eq_true rfl) dX4_waiting_18 (by decide) (fun r4 hr4 => ?_)
    replace hr4 : r4 = mm 9 wi := hr4
    subst hr4
    exact kx_iret hx hb hr hlk hM hN hK hS (by decide) (by decide) (k_po.of19 (by first | (rw [sp_ofway, if_pos cW, hwc]; done) | rw [sp_ofway, if_pos cW, hwc, c1])) dX4_waiting_21
theorem ke_X4_version : wl_V RX4 yX4_version cX4_version 3 (some .int) 2 := ⟨wd_c_X4_version, wd_i_X4_version, wd_s_X4_version, wd_n_X4, by decide, by decide +kernel⟩
set_option maxHeartbeats 4000000 in
set_option maxRecDepth 100000 in
theorem m_X4_version (l : Launch) (hflag : l.stackTraces = false) (G : k_G) (Z : Nat → Prop) (ad : k_Ad) (mm : q_Mem) (x y : Int32) (hI : Inv mm) : kx_i l yX4_version cX4_version 3 (some .int) 7 112 2 12 G Z ad (k_C G ad mm) [.ref (ad 0 0), .int x, .int y] (k_po G ad (sp_ver mm x y)) (k_px k_n3 (sp_ver mm x y) mm) := by
  refine kx_of (by decide) (Nat.le_of_ble_eq_true rfl) ?_
  intro p e s m args below meth c hx hb hr hF hlk hnt hB ls hl
  obtain ⟨⟨hM, hN⟩, hK, hP, hT⟩ := hB
  have hS : va_S Z s.heap s.heap [] := va_S.rf
  have hl : lv_has ls 3 [(0, .ref (ad 0 0)), (1, .int x), (2, .int y)] := hl
  refine lv_aload_n hx hb dX4_version_0 rfl (lv_at hl 0 rfl) ?_
  refine lv_iload_n hx hb dX4_version_1 rfl (lv_at hl 1 rfl) ?_
  refine kx_qV (fr := 6) (lo := 90) (mc1 := 1) (ms1 := 6) (As := [.int x]) (rest := []) hF (m_X4_wayAt l hflag G Z ad mm x hI) ke_X4_wayAt wd_l_X4_96 (by decide) hM hN hK hP hT hS (g_recv hK (hM 0 0 _ rfl) rfl) rfl hl.1 rfl (Nat.le_of_ble_eq_true rfl) dX4_version_2 (by decide) hnt hlk (fun E hE => ⟨⟨1, by decide, by rw [sp_ver, if_neg (fun q => hE.2 q.1)], hE.1⟩, rfl, rfl⟩) (by decide) (by decide) (fun r1 ur1 H locs hr1 hM hN hS _ _ => ?_)
  obtain ⟨cW, hro, rfl⟩ := hr1
  replace hM : k_H G ad (k_C G ad mm) H := hM
  replace hN : k_N Z ad (k_C G ad mm) := hN
  obtain ⟨wi, hwi, hwe⟩ := nt_wy hI cW
  have hW40 := hI.W40
  have hKK := hI.K512
  subst hwe
  have hwc : (nI wi).toNatClampNeg = wi := nt_c (by omega)
  rw [hwc] at hro
  subst hro
  refine bo_toV (v := .ref (ad 1 wi)) rfl ?_
  refine lv_iload_n hx hb dX4_version_5 rfl (lv_at hl 2 rfl) ?_
  refine kx_qS (fr := 6) (lo := 90) (mc1 := 1) (ms1 := 6) (As := [.ref (ad 1 wi), .int y]) (rest := []) hF (m_X4_versionAt l hflag G Z ad mm wi y hI hwi) ke_X4_versionAt wd_l_X4_158 (by decide) hM hN hK hP hT hS rfl hl.1 rfl (Nat.le_of_ble_eq_true rfl) dX4_version_6 (by decide) hnt hlk (fun E hE => ⟨⟨1, by decide, by rw [sp_ver, if_neg (fun q => hE.2 ⟨q.2.1, by have q2 := q.2.2; rw [hwc] at q2; exact q2⟩)], hE.1⟩, rfl, rfl⟩) (by decide) (by decide) (fun r2 ur2 H locs hr2 hM hN hS _ _ => ?_)
  obtain ⟨cV, hro, rfl⟩ := hr2
  subst hro
  replace hM : k_H G ad (k_C G ad mm) H := hM
  replace hN : k_N Z ad (k_C G ad mm) := hN
  have cA : sp_isv mm (nI wi) y := ⟨cW, cV.1, by rw [hwc]; exact cV.2⟩
  obtain ⟨n, hnK, hn21, hn7⟩ := hI.N hwi
  have hjK : sp_at mm (nI wi) y < sp_K mm := by
    rw [hn7] at cV
    obtain ⟨v, hv, rfl⟩ := nt_lt (by omega) cV
    rw [at_of (by omega) hn7 (by omega) (by omega)]
    exact (hI.back (hI.LK hwi) hn21 (by omega) _ (by omega)).1
  refine bo_toV (v := .ref (ad 3 (sp_at mm (nI wi) y))) rfl ?_
  refine g_get (C := RX2) (T := TX2) (N := 4) (v := .ref (ad 4 (sp_at mm (nI wi) y))) hF hK (hM 3 (sp_at mm (nI wi) y) _ (kc_v hjK)) rfl inlX2 0 (by decide) rfl wd_f_X4_144 rfl dX4_version_9 ?_
  refine kr_V (fr := 0) (lo := 0) (As := []) (rest := []) hF (m_X0_coded l G Z ad mm (sp_at mm (nI wi) y) hjK) ke_X0_coded wd_l_X4_162 (by decide) hM hK hP hT hS (g_recv hK (hM 4 (sp_at mm (nI wi) y) _ (kc_c hjK)) rfl) rfl hl.1 rfl (Nat.le_of_ble_eq_true rfl) dX4_version_12 (by decide) (fun r3 hr3 => ?_)
  replace hr3 : r3 = sp_co (sp_vk (mm 11 (sp_at mm (nI wi) y))) (sp_vd (mm 11 (sp_at mm (nI wi) y))) (sp_ve (mm 11 (sp_at mm (nI wi) y))) := hr3
  subst hr3
  exact kx_iret hx hb hr hlk hM hN hK hS (by decide) (by decide) (k_po.of19 (by rw [sp_ver, if_pos cA, co_v (hI.V hjK) hW40])) dX4_version_15
theorem ke_X4_stampOf : wl_V RX4 yX4_stampOf cX4_stampOf 3 (some .int) 2 := ⟨wd_c_X4_stampOf, wd_i_X4_stampOf, wd_s_X4_stampOf, wd_n_X4, by decide, by decide +kernel⟩
set_option maxHeartbeats 4000000 in
set_option maxRecDepth 100000 in
theorem m_X4_stampOf (l : Launch) (hflag : l.stackTraces = false) (G : k_G) (Z : Nat → Prop) (ad : k_Ad) (mm : q_Mem) (x y : Int32) (hI : Inv mm) : kx_i l yX4_stampOf cX4_stampOf 3 (some .int) 7 112 2 12 G Z ad (k_C G ad mm) [.ref (ad 0 0), .int x, .int y] (k_po G ad (sp_sta mm x y)) (k_px k_n3 (sp_sta mm x y) mm) := by
  refine kx_of (by decide) (Nat.le_of_ble_eq_true rfl) ?_
  intro p e s m args below meth c hx hb hr hF hlk hnt hB ls hl
  obtain ⟨⟨hM, hN⟩, hK, hP, hT⟩ := hB
  have hS : va_S Z s.heap s.heap [] := va_S.rf
  have hl : lv_has ls 3 [(0, .ref (ad 0 0)), (1, .int x), (2, .int y)] := hl
  refine lv_aload_n hx hb dX4_stampOf_0 rfl (lv_at hl 0 rfl) ?_
  refine lv_iload_n hx hb dX4_stampOf_1 rfl (lv_at hl 1 rfl) ?_
  refine kx_qV (fr := 6) (lo := 90) (mc1 := 1) (ms1 := 6) (As := [.int x]) (rest := []) hF (m_X4_wayAt l hflag G Z ad mm x hI) ke_X4_wayAt wd_l_X4_96 (by decide) hM hN hK hP hT hS (g_recv hK (hM 0 0 _ rfl) rfl) rfl hl.1 rfl (Nat.le_of_ble_eq_true rfl) dX4_stampOf_2 (by decide) hnt hlk (fun E hE => ⟨⟨1, by decide, by rw [sp_sta, if_neg (fun q => hE.2 q.1)], hE.1⟩, rfl, rfl⟩) (by decide) (by decide) (fun r1 ur1 H locs hr1 hM hN hS _ _ => ?_)
  obtain ⟨cW, hro, rfl⟩ := hr1
  replace hM : k_H G ad (k_C G ad mm) H := hM
  replace hN : k_N Z ad (k_C G ad mm) := hN
  obtain ⟨wi, hwi, hwe⟩ := nt_wy hI cW
  have hW40 := hI.W40
  have hKK := hI.K512
  subst hwe
  have hwc : (nI wi).toNatClampNeg = wi := nt_c (by omega)
  rw [hwc] at hro
  subst hro
  refine bo_toV (v := .ref (ad 1 wi)) rfl ?_
  refine lv_iload_n hx hb dX4_stampOf_5 rfl (lv_at hl 2 rfl) ?_
  refine kx_qS (fr := 6) (lo := 90) (mc1 := 1) (ms1 := 6) (As := [.ref (ad 1 wi), .int y]) (rest := []) hF (m_X4_versionAt l hflag G Z ad mm wi y hI hwi) ke_X4_versionAt wd_l_X4_158 (by decide) hM hN hK hP hT hS rfl hl.1 rfl (Nat.le_of_ble_eq_true rfl) dX4_stampOf_6 (by decide) hnt hlk (fun E hE => ⟨⟨1, by decide, by rw [sp_sta, if_neg (fun q => hE.2 ⟨q.2.1, by have q2 := q.2.2; rw [hwc] at q2; exact q2⟩)], hE.1⟩, rfl, rfl⟩) (by decide) (by decide) (fun r2 ur2 H locs hr2 hM hN hS _ _ => ?_)
  obtain ⟨cV, hro, rfl⟩ := hr2
  subst hro
  replace hM : k_H G ad (k_C G ad mm) H := hM
  replace hN : k_N Z ad (k_C G ad mm) := hN
  have cA : sp_isv mm (nI wi) y := ⟨cW, cV.1, by rw [hwc]; exact cV.2⟩
  obtain ⟨n, hnK, hn21, hn7⟩ := hI.N hwi
  have hjK : sp_at mm (nI wi) y < sp_K mm := by
    rw [hn7] at cV
    obtain ⟨v, hv, rfl⟩ := nt_lt (by omega) cV
    rw [at_of (by omega) hn7 (by omega) (by omega)]
    exact (hI.back (hI.LK hwi) hn21 (by omega) _ (by omega)).1
  refine bo_toV (v := .ref (ad 3 (sp_at mm (nI wi) y))) rfl ?_
  refine g_get (C := RX2) (T := TX2) (N := 4) (v := .int (nI (sp_at mm (nI wi) y + 1))) hF hK (hM 3 (sp_at mm (nI wi) y) _ (kc_v hjK)) rfl inlX2 1 (by decide) rfl wd_f_X4_165 rfl dX4_stampOf_9 ?_
  exact kx_iret hx hb hr hlk hM hN hK hS (by decide) (by decide) (k_po.of19 (by rw [sp_sta, if_pos cA, nI_1])) dX4_stampOf_12
theorem ke_X4_picture : wl_V RX4 yX4_picture cX4_picture 4 (some .int) 3 := ⟨wd_c_X4_picture, wd_i_X4_picture, wd_s_X4_picture, wd_n_X4, by decide, by decide +kernel⟩
set_option maxHeartbeats 4000000 in
set_option maxRecDepth 100000 in
theorem m_X4_picture (l : Launch) (hflag : l.stackTraces = false) (G : k_G) (Z : Nat → Prop) (ad : k_Ad) (mm : q_Mem) (z x y : Int32)  : kx_i l yX4_picture cX4_picture 4 (some .int) 9 157 3 18 G Z ad (k_C G ad mm) [.ref (ad 0 0), .int z, .int x, .int y] (k_po G ad (sp_ptr mm z x y)) (k_px k_n2 (sp_ptr mm z x y) mm) := by
  refine kx_of (by decide) (Nat.le_of_ble_eq_true rfl) ?_
  intro p e s m args below meth c hx hb hr hF hlk hnt hB ls hl
  obtain ⟨⟨hM, hN⟩, hK, hP, hT⟩ := hB
  have hS : va_S Z s.heap s.heap [] := va_S.rf
  have hl : lv_has ls 4 [(0, .ref (ad 0 0)), (1, .int z), (2, .int x), (3, .int y)] := hl
  refine lv_aload_n hx hb dX4_picture_0 rfl (lv_at hl 0 rfl) ?_
  refine lv_iload_n hx hb dX4_picture_1 rfl (lv_at hl 1 rfl) ?_
  refine lv_iload_n hx hb dX4_picture_2 rfl (lv_at hl 2 rfl) ?_
  refine lv_iload_n hx hb dX4_picture_3 rfl (lv_at hl 3 rfl) ?_
  refine kx_qV (fr := 8) (lo := 133) (mc1 := 3) (ms1 := 18) (As := [.int z, .int x, .int y]) (rest := []) hF (m_X4_drawnTile l hflag G Z ad mm z x y) ke_X4_drawnTile wd_l_X4_181 (by decide) hM hN hK hP hT hS (g_recv hK (hM 0 0 _ rfl) rfl) rfl hl.1 rfl (Nat.le_of_ble_eq_true rfl) dX4_picture_4 (by decide) hnt hlk (fun E hE => hE.elim (fun hE => ⟨⟨1, by decide, by rw [sp_ptr, if_neg hE.2], hE.1⟩, rfl, rfl⟩) (fun hE => ⟨⟨2, by decide, by rw [sp_ptr, if_pos hE.2.1, if_pos hE.2.2], hE.1⟩, rfl, rfl⟩)) (by decide) (by decide) (fun r1 ur1 H locs hr1 hM hN hS _ _ => ?_)
  obtain ⟨cT, c0, hro, rfl⟩ := hr1
  subst hro
  replace hM : k_H G ad (k_C G ad mm) H := hM
  replace hN : k_N Z ad (k_C G ad mm) := hN
  obtain ⟨tz, tx, ty, ht⟩ := tl_back cT
  refine bo_toV (v := .ref (ad 6 (sp_t z x y))) rfl ?_
  refine g_get (C := RX1) (T := TX1) (N := 7) (v := .int (mm 14 (sp_t z x y))) hF hK (hM 6 (sp_t z x y) _ (kc_t ht c0)) rfl inlX1 6 (by decide) rfl wd_f_X4_185 rfl dX4_picture_7 ?_
  exact kx_iret hx hb hr hlk hM hN hK hS (by decide) (by decide) (k_po.of19 (by rw [sp_ptr, if_pos cT, if_neg c0])) dX4_picture_10
theorem ke_X4_pictureAnew : wl_V RX4 yX4_pictureAnew cX4_pictureAnew 5 (some .int) 3 := ⟨wd_c_X4_pictureAnew, wd_i_X4_pictureAnew, wd_s_X4_pictureAnew, wd_n_X4, by decide, by decide +kernel⟩
set_option maxHeartbeats 4000000 in
set_option maxRecDepth 100000 in
theorem m_X4_pictureAnew (l : Launch) (hflag : l.stackTraces = false) (G : k_G) (Z : Nat → Prop) (ad : k_Ad) (mm : q_Mem) (z x y : Int32) (hI : Inv mm) : kx_i l yX4_pictureAnew cX4_pictureAnew 5 (some .int) 9 157 3 18 G Z ad (k_C G ad mm) [.ref (ad 0 0), .int z, .int x, .int y] (k_po G ad (sp_anew mm z x y)) (k_px k_n2 (sp_anew mm z x y) mm) := by
  refine kx_of (by decide) (Nat.le_of_ble_eq_true rfl) ?_
  intro p e s m args below meth c hx hb hr hF hlk hnt hB ls hl
  obtain ⟨⟨hM, hN⟩, hK, hP, hT⟩ := hB
  have hS : va_S Z s.heap s.heap [] := va_S.rf
  have hl : lv_has ls 5 [(0, .ref (ad 0 0)), (1, .int z), (2, .int x), (3, .int y)] := hl
  refine lv_aload_n hx hb dX4_pictureAnew_0 rfl (lv_at hl 0 rfl) ?_
  refine lv_iload_n hx hb dX4_pictureAnew_1 rfl (lv_at hl 1 rfl) ?_
  refine lv_iload_n hx hb dX4_pictureAnew_2 rfl (lv_at hl 2 rfl) ?_
  refine lv_iload_n hx hb dX4_pictureAnew_3 rfl (lv_at hl 3 rfl) ?_
  refine kx_qV (fr := 8) (lo := 133) (mc1 := 3) (ms1 := 18) (As := [.int z, .int x, .int y]) (rest := []) hF (m_X4_drawnTile l hflag G Z ad mm z x y) ke_X4_drawnTile wd_l_X4_181 (by decide) hM hN hK hP hT hS (g_recv hK (hM 0 0 _ rfl) rfl) rfl hl.1 rfl (Nat.le_of_ble_eq_true rfl) dX4_pictureAnew_4 (by decide) hnt hlk (fun E hE => hE.elim (fun hE => ⟨⟨1, by decide, by rw [sp_anew, if_neg hE.2], hE.1⟩, rfl, rfl⟩) (fun hE => ⟨⟨2, by decide, by rw [sp_anew, if_pos hE.2.1, if_pos hE.2.2], hE.1⟩, rfl, rfl⟩)) (by decide) (by decide) (fun r1 ur1 H locs hr1 hM hN hS _ _ => ?_)
  obtain ⟨cT, c0, hro, rfl⟩ := hr1
  subst hro
  replace hM : k_H G ad (k_C G ad mm) H := hM
  replace hN : k_N Z ad (k_C G ad mm) := hN
  obtain ⟨tz, tx, ty, ht⟩ := tl_back cT
  refine bo_toV (v := .ref (ad 6 (sp_t z x y))) rfl ?_
  refine lv_astore (lv' := [(4, .ref (ad 6 (sp_t z x y))), (0, .ref (ad 0 0)), (1, .int z), (2, .int x), (3, .int y)]) hx hb dX4_pictureAnew_7 hl (by decide) rfl (fun ls hl => ?_)
  obtain ⟨v, hv, hv2⟩ := hI.2.2.2.2.2.2.2.2.2.1 _ ht
  have hKK := hI.K512
  have hv0 : 0 < v := by
    rcases Nat.eq_zero_or_pos v with q | q
    · subst q; exact absurd hv2 c0
    · exact q
  refine lv_aload_n hx hb dX4_pictureAnew_9 rfl (lv_at hl 1 rfl) ?_
  refine lv_aload hx hb dX4_pictureAnew_10 (lv_at hl 0 rfl) ?_
  refine lv_aload hx hb dX4_pictureAnew_12 (lv_at hl 0 rfl) ?_
  refine g_get (C := RX1) (T := TX1) (N := 7) (v := .int (mm 13 (sp_t z x y) - 1)) hF hK (hM 6 (sp_t z x y) _ (kc_t ht c0)) rfl inlX1 5 (by decide) rfl wd_f_X4_188 rfl dX4_pictureAnew_14 ?_
  refine bo_to (v := (nI (v - 1))) (by rw [hv2]; exact nI_m1 hv0) ?_
  refine kr_V (fr := 3) (lo := 64) (As := [.ref (ad 6 (sp_t z x y)), .int (nI (v - 1))]) (rest := []) hF (m_X4_pictureAt l G Z ad mm (sp_t z x y) (v - 1) hI ht c0 (by omega)) ke_X4_pictureAt wd_l_X4_189 (by decide) hM hK hP hT hS (g_recv hK (hM 0 0 _ rfl) rfl) rfl hl.1 rfl (Nat.le_of_ble_eq_true rfl) dX4_pictureAnew_17 (by decide) (fun r2 hr2 => ?_)
  rw [tz, tx, ty] at hr2
  replace hr2 : r2 = sp_pic mm z x y (v - 1) := hr2
  subst hr2
  exact kx_iret hx hb hr hlk hM hN hK hS (by decide) (by decide) (k_po.of19 (by rw [sp_anew, if_pos cT, if_neg c0, hv2, nt_c (by omega)])) dX4_pictureAnew_20
theorem ke_X4_tileStamp : wl_V RX4 yX4_tileStamp cX4_tileStamp 5 (some .int) 3 := ⟨wd_c_X4_tileStamp, wd_i_X4_tileStamp, wd_s_X4_tileStamp, wd_n_X4, by decide, by decide +kernel⟩
set_option maxHeartbeats 4000000 in
set_option maxRecDepth 100000 in
theorem m_X4_tileStamp (l : Launch) (hflag : l.stackTraces = false) (G : k_G) (Z : Nat → Prop) (ad : k_Ad) (mm : q_Mem) (z x y : Int32)  : kx_i l yX4_tileStamp cX4_tileStamp 5 (some .int) 8 133 3 18 G Z ad (k_C G ad mm) [.ref (ad 0 0), .int z, .int x, .int y] (k_po G ad (sp_tst mm z x y)) (k_px k_n3 (sp_tst mm z x y) mm) := by
  refine kx_of (by decide) (Nat.le_of_ble_eq_true rfl) ?_
  intro p e s m args below meth c hx hb hr hF hlk hnt hB ls hl
  obtain ⟨⟨hM, hN⟩, hK, hP, hT⟩ := hB
  have hS : va_S Z s.heap s.heap [] := va_S.rf
  have hl : lv_has ls 5 [(0, .ref (ad 0 0)), (1, .int z), (2, .int x), (3, .int y)] := hl
  refine lv_aload_n hx hb dX4_tileStamp_0 rfl (lv_at hl 0 rfl) ?_
  refine g_get (C := RX4) (T := TX4) (N := 6) (v := .ref (ad 0 5)) hF hK (hM 0 0 _ rfl) rfl inlX4 4 (by decide) rfl wd_f_X4_28 rfl dX4_tileStamp_1 ?_
  refine lv_iload_n hx hb dX4_tileStamp_4 rfl (lv_at hl 1 rfl) ?_
  refine lv_iload_n hx hb dX4_tileStamp_5 rfl (lv_at hl 2 rfl) ?_
  refine lv_iload_n hx hb dX4_tileStamp_6 rfl (lv_at hl 3 rfl) ?_
  refine kx_iS (fr := 7) (lo := 110) (mc1 := 2) (ms1 := 12) (As := [.int z, .int x, .int y]) (rest := [.ref (ad 0 5)]) hF (m_X4_tileIndex l hflag G Z ad (k_C G ad mm) z x y) ke_X4_tileIndex wd_l_X4_168 (by decide) hM hN hK hP hT hS rfl hl.1 rfl (Nat.le_of_ble_eq_true rfl) dX4_tileStamp_7 (by decide) hnt hlk (fun E hE => ⟨⟨1, by decide, by rw [sp_tst, if_neg hE.2], hE.1⟩, rfl, rfl⟩) (by decide) (by decide) (fun r1 ur1 H locs hr1 hM hN hS _ _ => ?_)
  obtain ⟨cT, hro, rfl⟩ := hr1
  subst hro
  replace hM : k_H G ad (k_C G ad mm) H := hM
  replace hN : k_N Z ad (k_C G ad mm) := hN
  obtain ⟨tz, tx, ty, ht⟩ := tl_back cT
  refine g_aldq (t0 := 1) (i := sp_t z x y) hF hK (hM 0 5 _ rfl) rfl rfl ht (by decide) dX4_tileStamp_10 ?_
  refine bo_toV (v := k_rf (mm 13 (sp_t z x y) = 0) (ad 6 (sp_t z x y))) (k_rf_tr _ _ _) ?_
  refine k_split (fun c1 => ?_) (fun c1 => ?_)
  · skip
    refine lv_astoreN (lv' := [(4, .null), (0, .ref (ad 0 0)), (1, .int z), (2, .int x), (3, .int y)]) hx hb dX4_tileStamp_11 hl (by decide) rfl (fun ls hl => ?_)
    refine lv_aloadN hx hb dX4_tileStamp_13 (lv_at hl 0 rfl) ?_
    refine lv_ifnonnullN hx hb dX4_tileStamp_15 ?_
    refine lv_iconst (v := (-1)) hx hb dX4_tileStamp_18 (by decide) ?_
    refine lv_goto (tgt := 27) hx hb dX4_tileStamp_19 (by decide) ?_
    exact kx_iret hx hb hr hlk hM hN hK hS (by decide) (by decide) (k_po.of19 (by first | (rw [sp_tst, if_pos cT]; done) | (rw [sp_tst, if_pos cT, c1]; rfl))) dX4_tileStamp_27
  · skip
    refine lv_astore (lv' := [(4, .ref (ad 6 (sp_t z x y))), (0, .ref (ad 0 0)), (1, .int z), (2, .int x), (3, .int y)]) hx hb dX4_tileStamp_11 hl (by decide) rfl (fun ls hl => ?_)
    refine lv_aload hx hb dX4_tileStamp_13 (lv_at hl 0 rfl) ?_
    refine lv_ifnonnull (tgt := 22) hx hb dX4_tileStamp_15 (by decide) ?_
    refine lv_aload hx hb dX4_tileStamp_22 (lv_at hl 0 rfl) ?_
    refine g_get (C := RX1) (T := TX1) (N := 7) (v := .int (mm 13 (sp_t z x y) - 1)) hF hK (hM 6 (sp_t z x y) _ (kc_t ht c1)) rfl inlX1 5 (by decide) rfl wd_f_X4_188 rfl dX4_tileStamp_24 ?_
    exact kx_iret hx hb hr hlk hM hN hK hS (by decide) (by decide) (k_po.of19 (by first | (rw [sp_tst, if_pos cT]; done) | (rw [sp_tst, if_pos cT, c1]; rfl))) dX4_tileStamp_27
