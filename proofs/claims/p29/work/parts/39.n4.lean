theorem dX4_requireCar_0 : decode cX4_requireCar 0 = .ok (.iload_n 0, 1) := by decide +kernel
theorem dX4_requireCar_1 : decode cX4_requireCar 1 = .ok (.iconst 0, 1) := by decide +kernel
theorem dX4_requireCar_2 : decode cX4_requireCar 2 = .ok (.iconst 2, 1) := by decide +kernel
theorem dX4_requireCar_3 : decode cX4_requireCar 3 = .ok (.invokestatic 50, 3) := by decide +kernel
theorem dX4_requireCar_6 : decode cX4_requireCar 6 = .ok (.ifCond .ne 14, 3) := by decide +kernel
theorem dX4_requireCar_9 : decode cX4_requireCar 9 = .ok (.new 259, 3) := by decide +kernel
theorem dX4_requireCar_12 : decode cX4_requireCar 12 = .ok (.dup, 1) := by decide +kernel
theorem dX4_requireCar_13 : decode cX4_requireCar 13 = .ok (.ldc_w 266, 3) := by decide +kernel
theorem dX4_requireCar_16 : decode cX4_requireCar 16 = .ok (.invokespecial 263, 3) := by decide +kernel
theorem dX4_requireCar_19 : decode cX4_requireCar 19 = .ok (.athrow, 1) := by decide +kernel
theorem dX4_requireCar_20 : decode cX4_requireCar 20 = .ok (.return_, 1) := by decide +kernel
theorem dX4_requireCrossing_0 : decode cX4_requireCrossing 0 = .ok (.iload_n 0, 1) := by decide +kernel
theorem dX4_requireCrossing_1 : decode cX4_requireCrossing 1 = .ok (.iconst 0, 1) := by decide +kernel
theorem dX4_requireCrossing_2 : decode cX4_requireCrossing 2 = .ok (.bipush 16, 2) := by decide +kernel
theorem dX4_requireCrossing_4 : decode cX4_requireCrossing 4 = .ok (.invokestatic 50, 3) := by decide +kernel
theorem dX4_requireCrossing_7 : decode cX4_requireCrossing 7 = .ok (.ifCond .eq 13, 3) := by decide +kernel
theorem dX4_requireCrossing_10 : decode cX4_requireCrossing 10 = .ok (.iload_n 1, 1) := by decide +kernel
theorem dX4_requireCrossing_11 : decode cX4_requireCrossing 11 = .ok (.iconst 0, 1) := by decide +kernel
theorem dX4_requireCrossing_12 : decode cX4_requireCrossing 12 = .ok (.bipush 16, 2) := by decide +kernel
theorem dX4_requireCrossing_14 : decode cX4_requireCrossing 14 = .ok (.invokestatic 50, 3) := by decide +kernel
theorem dX4_requireCrossing_17 : decode cX4_requireCrossing 17 = .ok (.ifCond .ne 14, 3) := by decide +kernel
theorem dX4_requireCrossing_20 : decode cX4_requireCrossing 20 = .ok (.new 259, 3) := by decide +kernel
theorem dX4_requireCrossing_23 : decode cX4_requireCrossing 23 = .ok (.dup, 1) := by decide +kernel
theorem dX4_requireCrossing_24 : decode cX4_requireCrossing 24 = .ok (.ldc_w 264, 3) := by decide +kernel
theorem dX4_requireCrossing_27 : decode cX4_requireCrossing 27 = .ok (.invokespecial 263, 3) := by decide +kernel
theorem dX4_requireCrossing_30 : decode cX4_requireCrossing 30 = .ok (.athrow, 1) := by decide +kernel
theorem dX4_requireCrossing_31 : decode cX4_requireCrossing 31 = .ok (.return_, 1) := by decide +kernel
theorem dX4_requireEditor_0 : decode cX4_requireEditor 0 = .ok (.iload_n 0, 1) := by decide +kernel
theorem dX4_requireEditor_1 : decode cX4_requireEditor 1 = .ok (.iconst 0, 1) := by decide +kernel
theorem dX4_requireEditor_2 : decode cX4_requireEditor 2 = .ok (.iconst 5, 1) := by decide +kernel
theorem dX4_requireEditor_3 : decode cX4_requireEditor 3 = .ok (.invokestatic 50, 3) := by decide +kernel
theorem dX4_requireEditor_6 : decode cX4_requireEditor 6 = .ok (.ifCond .ne 14, 3) := by decide +kernel
theorem dX4_requireEditor_9 : decode cX4_requireEditor 9 = .ok (.new 259, 3) := by decide +kernel
theorem dX4_requireEditor_12 : decode cX4_requireEditor 12 = .ok (.dup, 1) := by decide +kernel
theorem dX4_requireEditor_13 : decode cX4_requireEditor 13 = .ok (.ldc_w 261, 3) := by decide +kernel
theorem dX4_requireEditor_16 : decode cX4_requireEditor 16 = .ok (.invokespecial 263, 3) := by decide +kernel
theorem dX4_requireEditor_19 : decode cX4_requireEditor 19 = .ok (.athrow, 1) := by decide +kernel
theorem dX4_requireEditor_20 : decode cX4_requireEditor 20 = .ok (.return_, 1) := by decide +kernel
theorem dX4_requireZoom_0 : decode cX4_requireZoom 0 = .ok (.iload_n 0, 1) := by decide +kernel
theorem dX4_requireZoom_1 : decode cX4_requireZoom 1 = .ok (.iconst 0, 1) := by decide +kernel
theorem dX4_requireZoom_2 : decode cX4_requireZoom 2 = .ok (.iconst 4, 1) := by decide +kernel
theorem dX4_requireZoom_3 : decode cX4_requireZoom 3 = .ok (.invokestatic 50, 3) := by decide +kernel
theorem dX4_requireZoom_6 : decode cX4_requireZoom 6 = .ok (.ifCond .ne 14, 3) := by decide +kernel
theorem dX4_requireZoom_9 : decode cX4_requireZoom 9 = .ok (.new 259, 3) := by decide +kernel
theorem dX4_requireZoom_12 : decode cX4_requireZoom 12 = .ok (.dup, 1) := by decide +kernel
theorem dX4_requireZoom_13 : decode cX4_requireZoom 13 = .ok (.ldc_w 268, 3) := by decide +kernel
theorem dX4_requireZoom_16 : decode cX4_requireZoom 16 = .ok (.invokespecial 263, 3) := by decide +kernel
theorem dX4_requireZoom_19 : decode cX4_requireZoom 19 = .ok (.athrow, 1) := by decide +kernel
theorem dX4_requireZoom_20 : decode cX4_requireZoom 20 = .ok (.return_, 1) := by decide +kernel
theorem dX4_wayAt_0 : decode cX4_wayAt 0 = .ok (.iload_n 1, 1) := by decide +kernel
theorem dX4_wayAt_1 : decode cX4_wayAt 1 = .ok (.ifCond .lt 14, 3) := by decide +kernel
theorem dX4_wayAt_4 : decode cX4_wayAt 4 = .ok (.iload_n 1, 1) := by decide +kernel
theorem dX4_wayAt_5 : decode cX4_wayAt 5 = .ok (.aload_n 0, 1) := by decide +kernel
theorem dX4_wayAt_6 : decode cX4_wayAt 6 = .ok (.getfield 10, 3) := by decide +kernel
theorem dX4_wayAt_9 : decode cX4_wayAt 9 = .ok (.invokevirtual 65, 3) := by decide +kernel
theorem dX4_wayAt_12 : decode cX4_wayAt 12 = .ok (.if_icmp .lt 14, 3) := by decide +kernel
theorem dX4_wayAt_15 : decode cX4_wayAt 15 = .ok (.new 259, 3) := by decide +kernel
theorem dX4_wayAt_18 : decode cX4_wayAt 18 = .ok (.dup, 1) := by decide +kernel
theorem dX4_wayAt_19 : decode cX4_wayAt 19 = .ok (.ldc_w 270, 3) := by decide +kernel
theorem dX4_wayAt_22 : decode cX4_wayAt 22 = .ok (.invokespecial 263, 3) := by decide +kernel
theorem dX4_wayAt_25 : decode cX4_wayAt 25 = .ok (.athrow, 1) := by decide +kernel
theorem dX4_wayAt_26 : decode cX4_wayAt 26 = .ok (.aload_n 0, 1) := by decide +kernel
theorem dX4_wayAt_27 : decode cX4_wayAt 27 = .ok (.getfield 10, 3) := by decide +kernel
theorem dX4_wayAt_30 : decode cX4_wayAt 30 = .ok (.iload_n 1, 1) := by decide +kernel
theorem dX4_wayAt_31 : decode cX4_wayAt 31 = .ok (.invokevirtual 272, 3) := by decide +kernel
theorem dX4_wayAt_34 : decode cX4_wayAt 34 = .ok (.checkcast 78, 3) := by decide +kernel
theorem dX4_wayAt_37 : decode cX4_wayAt 37 = .ok (.areturn, 1) := by decide +kernel
abbrev k_IOB : String := "java/lang/IndexOutOfBoundsException"
abbrev k_IAE : String := "java/lang/IllegalArgumentException"
abbrev k_ISE : String := "java/lang/IllegalStateException"
def k_n3 (v : Int32) : String := if v = 1 then k_IOB else if v = 2 then k_IAE else k_ISE
def k_n2 (v : Int32) : String := if v = 1 then k_IOB else k_ISE
/-- a call's answer, and what it leaves -/
def k_po (G : k_G) (ad0 : k_Ad) (res : Int32 × q_Mem) : Int32 → k_Ad × k_Ct → Prop := fun r u => u.2 = k_C G u.1 res.2 ∧ r = res.1 ∧ res.2 19 0 = 0 ∧ u.1 0 0 = ad0 0 0
abbrev k_okT (nm : Int32 → String) (v : Int32) : Prop := v = 1 ∨ v = 2 ∨ (v = 3 ∧ nm 2 = k_IAE)
def k_px (nm : Int32 → String) (res : Int32 × q_Mem) (mm : q_Mem) : String → Prop := fun E => ∃ v : Int32, k_okT nm v ∧ res = (0, up2 mm 19 0 v) ∧ E = nm v
theorem k_po.of {G : k_G} {ad : k_Ad} {res : Int32 × q_Mem} {r : Int32} {m2 : q_Mem} (h : res = (r, m2)) (h0 : m2 19 0 = 0) : k_po G ad res r (ad, k_C G ad m2) := by subst h; exact ⟨rfl, rfl, h0, rfl⟩
theorem k_po.of19 {G : k_G} {ad : k_Ad} {res : Int32 × q_Mem} {r : Int32} {mm : q_Mem} (h : res = (r, up2 mm 19 0 0)) : k_po G ad res r (ad, k_C G ad mm) := by subst h; exact ⟨rfl, rfl, rfl, rfl⟩
theorem le_lt6 {x : Int32} : x ≤ 5 ↔ x < 6 := by
  rw [Int32.le_iff_toInt_le, Int32.lt_iff_toInt_lt]
  have h1 : (5 : Int32).toInt = 5 := by decide
  have h2 : (6 : Int32).toInt = 6 := by decide
  omega
theorem le_lt3 {x : Int32} : x ≤ 2 ↔ x < 3 := by
  rw [Int32.le_iff_toInt_le, Int32.lt_iff_toInt_lt]
  have h1 : (2 : Int32).toInt = 2 := by decide
  have h2 : (3 : Int32).toInt = 3 := by decide
  omega
theorem le_lt5 {x : Int32} : x ≤ 4 ↔ x < 5 := by
  rw [Int32.le_iff_toInt_le, Int32.lt_iff_toInt_lt]
  have h1 : (4 : Int32).toInt = 4 := by decide
  have h2 : (5 : Int32).toInt = 5 := by decide
  omega
theorem ke_X4_requireEditor : wl_S yX4_requireEditor cX4_requireEditor 1 none 1 := ⟨wd_c_X4_requireEditor, wd_t_X4_requireEditor, wd_n_X4, by decide, by decide +kernel⟩
set_option maxHeartbeats 4000000 in
set_option maxRecDepth 100000 in
theorem m_X4_requireEditor (l : Launch) (hflag : l.stackTraces = false) (G : k_G) (Z : Nat → Prop) (ad : k_Ad) (ct : k_Ct) (x : Int32)  : kx_v l yX4_requireEditor cX4_requireEditor 1 none 6 90 1 6 G Z ad ct [.int x] (fun u => sp_ed x ∧ u = (ad, ct)) (fun E => E = k_IOB ∧ ¬ sp_ed x) := by
  refine kx_of (by decide) (Nat.le_of_ble_eq_true rfl) ?_
  intro p e s m args below meth c hx hb hr hF hlk hnt hB ls hl
  obtain ⟨⟨hM, hN⟩, hK, hP, hT⟩ := hB
  have hS : va_S Z s.heap s.heap [] := va_S.rf
  have hl : lv_has ls 1 [(0, .int x)] := hl
  refine lv_iload_n hx hb dX4_requireEditor_0 rfl (lv_at hl 0 rfl) ?_
  refine lv_iconst (v := 0) hx hb dX4_requireEditor_1 (by decide) ?_
  refine lv_iconst (v := 5) hx hb dX4_requireEditor_2 (by decide) ?_
  refine rc_S (fr := 0) (lo := 0) (As := [.int x, .int 0, .int 5]) (rest := []) hF (m_X4_isIn l x 0 5) ke_X4_isIn wd_l_X4_50 (by decide) bl_true (fun _ _ _ => trivial) rfl hl.1 rfl (Nat.le_of_ble_eq_true rfl) dX4_requireEditor_3 (by decide) (fun r1 hr1 => ?_)
  refine bo_ne (tgt := 20) hr1 hx hb dX4_requireEditor_6 (by decide) (fun c1 => ?_) (fun c1 => ?_)
  · skip
    exact kx_vret hx hb hr hlk hM hN hK hS (by decide) (by decide) (⟨⟨c1.1, le_lt6.mp c1.2⟩, rfl⟩) dX4_requireEditor_20
  · skip
    exact kx_thrW (text := "there is no such editor") hF hflag hP hT k_E_IOB wd_k_X4_259 (by decide) hM hN hK hS hl.1 dX4_requireEditor_9 dX4_requireEditor_12 dX4_requireEditor_13 dX4_requireEditor_16 dX4_requireEditor_19 hnt (by decide) (Nat.le_of_ble_eq_true rfl) (by decide) (by decide) hlk (by decide) (by decide) (⟨rfl, fun q => c1 ⟨q.1, le_lt6.mpr q.2⟩⟩)
theorem ke_X4_requireCar : wl_S yX4_requireCar cX4_requireCar 1 none 1 := ⟨wd_c_X4_requireCar, wd_t_X4_requireCar, wd_n_X4, by decide, by decide +kernel⟩
set_option maxHeartbeats 4000000 in
set_option maxRecDepth 100000 in
theorem m_X4_requireCar (l : Launch) (hflag : l.stackTraces = false) (G : k_G) (Z : Nat → Prop) (ad : k_Ad) (ct : k_Ct) (x : Int32)  : kx_v l yX4_requireCar cX4_requireCar 1 none 6 90 1 6 G Z ad ct [.int x] (fun u => sp_car x ∧ u = (ad, ct)) (fun E => E = k_IOB ∧ ¬ sp_car x) := by
  refine kx_of (by decide) (Nat.le_of_ble_eq_true rfl) ?_
  intro p e s m args below meth c hx hb hr hF hlk hnt hB ls hl
  obtain ⟨⟨hM, hN⟩, hK, hP, hT⟩ := hB
  have hS : va_S Z s.heap s.heap [] := va_S.rf
  have hl : lv_has ls 1 [(0, .int x)] := hl
  refine lv_iload_n hx hb dX4_requireCar_0 rfl (lv_at hl 0 rfl) ?_
  refine lv_iconst (v := 0) hx hb dX4_requireCar_1 (by decide) ?_
  refine lv_iconst (v := 2) hx hb dX4_requireCar_2 (by decide) ?_
  refine rc_S (fr := 0) (lo := 0) (As := [.int x, .int 0, .int 2]) (rest := []) hF (m_X4_isIn l x 0 2) ke_X4_isIn wd_l_X4_50 (by decide) bl_true (fun _ _ _ => trivial) rfl hl.1 rfl (Nat.le_of_ble_eq_true rfl) dX4_requireCar_3 (by decide) (fun r1 hr1 => ?_)
  refine bo_ne (tgt := 20) hr1 hx hb dX4_requireCar_6 (by decide) (fun c1 => ?_) (fun c1 => ?_)
  · skip
    exact kx_vret hx hb hr hlk hM hN hK hS (by decide) (by decide) (⟨⟨c1.1, le_lt3.mp c1.2⟩, rfl⟩) dX4_requireCar_20
  · skip
    exact kx_thrW (text := "there is no such car") hF hflag hP hT k_E_IOB wd_k_X4_259 (by decide) hM hN hK hS hl.1 dX4_requireCar_9 dX4_requireCar_12 dX4_requireCar_13 dX4_requireCar_16 dX4_requireCar_19 hnt (by decide) (Nat.le_of_ble_eq_true rfl) (by decide) (by decide) hlk (by decide) (by decide) (⟨rfl, fun q => c1 ⟨q.1, le_lt3.mpr q.2⟩⟩)
theorem ke_X4_requireZoom : wl_S yX4_requireZoom cX4_requireZoom 1 none 1 := ⟨wd_c_X4_requireZoom, wd_t_X4_requireZoom, wd_n_X4, by decide, by decide +kernel⟩
set_option maxHeartbeats 4000000 in
set_option maxRecDepth 100000 in
theorem m_X4_requireZoom (l : Launch) (hflag : l.stackTraces = false) (G : k_G) (Z : Nat → Prop) (ad : k_Ad) (ct : k_Ct) (x : Int32)  : kx_v l yX4_requireZoom cX4_requireZoom 1 none 6 90 1 6 G Z ad ct [.int x] (fun u => sp_zm x ∧ u = (ad, ct)) (fun E => E = k_IOB ∧ ¬ sp_zm x) := by
  refine kx_of (by decide) (Nat.le_of_ble_eq_true rfl) ?_
  intro p e s m args below meth c hx hb hr hF hlk hnt hB ls hl
  obtain ⟨⟨hM, hN⟩, hK, hP, hT⟩ := hB
  have hS : va_S Z s.heap s.heap [] := va_S.rf
  have hl : lv_has ls 1 [(0, .int x)] := hl
  refine lv_iload_n hx hb dX4_requireZoom_0 rfl (lv_at hl 0 rfl) ?_
  refine lv_iconst (v := 0) hx hb dX4_requireZoom_1 (by decide) ?_
  refine lv_iconst (v := 4) hx hb dX4_requireZoom_2 (by decide) ?_
  refine rc_S (fr := 0) (lo := 0) (As := [.int x, .int 0, .int 4]) (rest := []) hF (m_X4_isIn l x 0 4) ke_X4_isIn wd_l_X4_50 (by decide) bl_true (fun _ _ _ => trivial) rfl hl.1 rfl (Nat.le_of_ble_eq_true rfl) dX4_requireZoom_3 (by decide) (fun r1 hr1 => ?_)
  refine bo_ne (tgt := 20) hr1 hx hb dX4_requireZoom_6 (by decide) (fun c1 => ?_) (fun c1 => ?_)
  · skip
    exact kx_vret hx hb hr hlk hM hN hK hS (by decide) (by decide) (⟨⟨c1.1, le_lt5.mp c1.2⟩, rfl⟩) dX4_requireZoom_20
  · skip
    exact kx_thrW (text := "there is no such zoom") hF hflag hP hT k_E_IOB wd_k_X4_259 (by decide) hM hN hK hS hl.1 dX4_requireZoom_9 dX4_requireZoom_12 dX4_requireZoom_13 dX4_requireZoom_16 dX4_requireZoom_19 hnt (by decide) (Nat.le_of_ble_eq_true rfl) (by decide) (by decide) hlk (by decide) (by decide) (⟨rfl, fun q => c1 ⟨q.1, le_lt5.mpr q.2⟩⟩)
theorem ke_X4_requireCrossing : wl_S yX4_requireCrossing cX4_requireCrossing 2 none 2 := ⟨wd_c_X4_requireCrossing, wd_t_X4_requireCrossing, wd_n_X4, by decide, by decide +kernel⟩
set_option maxHeartbeats 4000000 in
set_option maxRecDepth 100000 in
theorem m_X4_requireCrossing (l : Launch) (hflag : l.stackTraces = false) (G : k_G) (Z : Nat → Prop) (ad : k_Ad) (ct : k_Ct) (x y : Int32)  : kx_v l yX4_requireCrossing cX4_requireCrossing 2 none 6 90 1 6 G Z ad ct [.int x, .int y] (fun u => sp_cr x y ∧ u = (ad, ct)) (fun E => E = k_IOB ∧ ¬ sp_cr x y) := by
  refine kx_of (by decide) (Nat.le_of_ble_eq_true rfl) ?_
  intro p e s m args below meth c hx hb hr hF hlk hnt hB ls hl
  obtain ⟨⟨hM, hN⟩, hK, hP, hT⟩ := hB
  have hS : va_S Z s.heap s.heap [] := va_S.rf
  have hl : lv_has ls 2 [(0, .int x), (1, .int y)] := hl
  refine lv_iload_n hx hb dX4_requireCrossing_0 rfl (lv_at hl 0 rfl) ?_
  refine lv_iconst (v := 0) hx hb dX4_requireCrossing_1 (by decide) ?_
  refine lv_bipush (v := 16) hx hb dX4_requireCrossing_2 (by decide) ?_
  refine rc_S (fr := 0) (lo := 0) (As := [.int x, .int 0, .int 16]) (rest := []) hF (m_X4_isIn l x 0 16) ke_X4_isIn wd_l_X4_50 (by decide) bl_true (fun _ _ _ => trivial) rfl hl.1 rfl (Nat.le_of_ble_eq_true rfl) dX4_requireCrossing_4 (by decide) (fun r1 hr1 => ?_)
  refine bo_eq (tgt := 20) hr1 hx hb dX4_requireCrossing_7 (by decide) (fun c1 => ?_) (fun c1 => ?_)
  · skip
    exact kx_thrW (text := "there is no such crossing") hF hflag hP hT k_E_IOB wd_k_X4_259 (by decide) hM hN hK hS hl.1 dX4_requireCrossing_20 dX4_requireCrossing_23 dX4_requireCrossing_24 dX4_requireCrossing_27 dX4_requireCrossing_30 hnt (by decide) (Nat.le_of_ble_eq_true rfl) (by decide) (by decide) hlk (by decide) (by decide) (⟨rfl, fun q => by first | exact c1 q.1 | exact c2 q.2⟩)
  · skip
    refine lv_iload_n hx hb dX4_requireCrossing_10 rfl (lv_at hl 1 rfl) ?_
    refine lv_iconst (v := 0) hx hb dX4_requireCrossing_11 (by decide) ?_
    refine lv_bipush (v := 16) hx hb dX4_requireCrossing_12 (by decide) ?_
    refine rc_S (fr := 0) (lo := 0) (As := [.int y, .int 0, .int 16]) (rest := []) hF (m_X4_isIn l y 0 16) ke_X4_isIn wd_l_X4_50 (by decide) bl_true (fun _ _ _ => trivial) rfl hl.1 rfl (Nat.le_of_ble_eq_true rfl) dX4_requireCrossing_14 (by decide) (fun r2 hr2 => ?_)
    refine bo_ne (tgt := 31) hr2 hx hb dX4_requireCrossing_17 (by decide) (fun c2 => ?_) (fun c2 => ?_)
    · skip
      exact kx_vret hx hb hr hlk hM hN hK hS (by decide) (by decide) (⟨⟨c1, c2⟩, rfl⟩) dX4_requireCrossing_31
    · skip
      exact kx_thrW (text := "there is no such crossing") hF hflag hP hT k_E_IOB wd_k_X4_259 (by decide) hM hN hK hS hl.1 dX4_requireCrossing_20 dX4_requireCrossing_23 dX4_requireCrossing_24 dX4_requireCrossing_27 dX4_requireCrossing_30 hnt (by decide) (Nat.le_of_ble_eq_true rfl) (by decide) (by decide) hlk (by decide) (by decide) (⟨rfl, fun q => by first | exact c1 q.1 | exact c2 q.2⟩)
theorem ke_X4_wayAt : wl_V RX4 yX4_wayAt cX4_wayAt 2 (some (.object "SignTiles$Way")) 1 := ⟨wd_c_X4_wayAt, wd_i_X4_wayAt, wd_s_X4_wayAt, wd_n_X4, by decide, by decide +kernel⟩
set_option maxHeartbeats 4000000 in
set_option maxRecDepth 100000 in
theorem m_X4_wayAt (l : Launch) (hflag : l.stackTraces = false) (G : k_G) (Z : Nat → Prop) (ad : k_Ad) (mm : q_Mem) (x : Int32) (hI : Inv mm) : kx_q l yX4_wayAt cX4_wayAt 2 (some (.object "SignTiles$Way")) 6 90 1 6 G Z ad (k_C G ad mm) [.ref (ad 0 0), .int x] (fun o u => sp_wy mm x ∧ o = some (ad 1 x.toNatClampNeg) ∧ u = (ad, k_C G ad mm)) (fun E => E = k_IOB ∧ ¬ sp_wy mm x) := by
  refine kx_of (by decide) (Nat.le_of_ble_eq_true rfl) ?_
  intro p e s m args below meth c hx hb hr hF hlk hnt hB ls hl
  obtain ⟨⟨hM, hN⟩, hK, hP, hT⟩ := hB
  have hS : va_S Z s.heap s.heap [] := va_S.rf
  have hl : lv_has ls 2 [(0, .ref (ad 0 0)), (1, .int x)] := hl
  refine lv_iload_n hx hb dX4_wayAt_0 rfl (lv_at hl 1 rfl) ?_
  refine lv_if_lt (tgt := 15) hx hb dX4_wayAt_1 (by decide) (fun c1 => ?_) (fun c1 => ?_)
  · skip
    exact kx_thrW (text := "there is no such way") hF hflag hP hT k_E_IOB wd_k_X4_259 (by decide) hM hN hK hS hl.1 dX4_wayAt_15 dX4_wayAt_18 dX4_wayAt_19 dX4_wayAt_22 dX4_wayAt_25 hnt (by decide) (Nat.le_of_ble_eq_true rfl) (by decide) (by decide) hlk (by decide) (by decide) (⟨rfl, fun q => by first | exact bo_nlt q.1 c1 | exact c2 q.2⟩)
  · skip
    refine lv_iload_n hx hb dX4_wayAt_4 rfl (lv_at hl 1 rfl) ?_
    refine lv_aload_n hx hb dX4_wayAt_5 rfl (lv_at hl 0 rfl) ?_
    refine g_get (C := RX4) (T := TX4) (N := 6) (v := .ref (ad 0 1)) hF hK (hM 0 0 _ rfl) rfl inlX4 0 (by decide) rfl wd_f_X4_10 rfl dX4_wayAt_6 ?_
    refine kr_V (fr := 0) (lo := 0) (As := []) (rest := [.int x]) hF (m_Jx4a65c_size_8abf5 l G Z ad mm) ke_Jx4a65c_size_8abf5 wd_l_X4_65 (by decide) hM hK hP hT hS (g_recv hK (hM 0 1 _ rfl) rfl) rfl hl.1 rfl (Nat.le_of_ble_eq_true rfl) dX4_wayAt_9 (by decide) (fun r1 hr1 => ?_)
    replace hr1 : r1 = mm 1 0 := hr1
    subst hr1
    refine lv_icmp_lt (tgt := 26) hx hb dX4_wayAt_12 (by decide) (fun c2 => ?_) (fun c2 => ?_)
    · skip
      obtain ⟨wi, hwi, hx0⟩ := nt_wy hI (x := x) ⟨bo_lt c1, c2⟩
      have hW40 := hI.W40
      subst hx0
      refine lv_aload_n hx hb dX4_wayAt_26 rfl (lv_at hl 0 rfl) ?_
      refine g_get (C := RX4) (T := TX4) (N := 6) (v := .ref (ad 0 1)) hF hK (hM 0 0 _ rfl) rfl inlX4 0 (by decide) rfl wd_f_X4_10 rfl dX4_wayAt_27 ?_
      refine lv_iload_n hx hb dX4_wayAt_30 rfl (lv_at hl 1 rfl) ?_
      refine kq_V (fr := 2) (lo := 43) (As := [.int (nI wi)]) (rest := []) hF (m_Jx4a65c_get_915e3 l G Z ad mm wi hI hwi) ke_Jx4a65c_get_915e3 wd_l_X4_272 (by decide) hM hK hP hT hS (g_recv hK (hM 0 1 _ rfl) rfl) rfl hl.1 rfl (Nat.le_of_ble_eq_true rfl) dX4_wayAt_31 (by decide) (fun r2 hr2 => ?_)
      obtain rfl := hr2
      refine bo_toV (v := .ref (ad 1 wi)) rfl ?_
      refine g_cast (C := RX3) hF hK (hM 1 wi _ (kc_w (by assumption))) rfl wd_k_X4_78_b dX4_wayAt_34 ?_
      exact kx_qret (o := (some (ad 1 wi))) hx hb hr hlk hM hN hK hS (by decide) (by decide) (⟨⟨bo_lt c1, c2⟩, by rw [nt_c (by omega)], rfl⟩) dX4_wayAt_37
    · skip
      exact kx_thrW (text := "there is no such way") hF hflag hP hT k_E_IOB wd_k_X4_259 (by decide) hM hN hK hS hl.1 dX4_wayAt_15 dX4_wayAt_18 dX4_wayAt_19 dX4_wayAt_22 dX4_wayAt_25 hnt (by decide) (Nat.le_of_ble_eq_true rfl) (by decide) (by decide) hlk (by decide) (by decide) (⟨rfl, fun q => by first | exact bo_nlt q.1 c1 | exact c2 q.2⟩)
