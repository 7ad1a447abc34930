/-! ===== refreshes ===== -/
theorem dL_refreshes_0 : decode cL_refreshes 0 = .ok (.iconst 0, 1) := by decide +kernel
theorem dL_refreshes_1 : decode cL_refreshes 1 = .ok (.istore_n 2, 1) := by decide +kernel
theorem dL_refreshes_2 : decode cL_refreshes 2 = .ok (.iconst 0, 1) := by decide +kernel
theorem dL_refreshes_3 : decode cL_refreshes 3 = .ok (.istore_n 3, 1) := by decide +kernel
theorem dL_refreshes_4 : decode cL_refreshes 4 = .ok (.iload_n 3, 1) := by decide +kernel
theorem dL_refreshes_5 : decode cL_refreshes 5 = .ok (.iconst 5, 1) := by decide +kernel
theorem dL_refreshes_6 : decode cL_refreshes 6 = .ok (.if_icmp .ge 17, 3) := by decide +kernel
theorem dL_refreshes_9 : decode cL_refreshes 9 = .ok (.iload_n 2, 1) := by decide +kernel
theorem dL_refreshes_10 : decode cL_refreshes 10 = .ok (.aload_n 0, 1) := by decide +kernel
theorem dL_refreshes_11 : decode cL_refreshes 11 = .ok (.iload_n 3, 1) := by decide +kernel
theorem dL_refreshes_12 : decode cL_refreshes 12 = .ok (.invokevirtual 78, 3) := by decide +kernel
theorem dL_refreshes_15 : decode cL_refreshes 15 = .ok (.iadd, 1) := by decide +kernel
theorem dL_refreshes_16 : decode cL_refreshes 16 = .ok (.istore_n 2, 1) := by decide +kernel
theorem dL_refreshes_17 : decode cL_refreshes 17 = .ok (.iinc 3 1, 3) := by decide +kernel
theorem dL_refreshes_20 : decode cL_refreshes 20 = .ok (.goto (-16), 3) := by decide +kernel
theorem dL_refreshes_23 : decode cL_refreshes 23 = .ok (.aload_n 0, 1) := by decide +kernel
theorem dL_refreshes_24 : decode cL_refreshes 24 = .ok (.invokevirtual 158, 3) := by decide +kernel
theorem dL_refreshes_27 : decode cL_refreshes 27 = .ok (.istore_n 3, 1) := by decide +kernel
theorem dL_refreshes_28 : decode cL_refreshes 28 = .ok (.iload_n 3, 1) := by decide +kernel
theorem dL_refreshes_29 : decode cL_refreshes 29 = .ok (.iload_n 2, 1) := by decide +kernel
theorem dL_refreshes_30 : decode cL_refreshes 30 = .ok (.if_icmp .ne 15, 3) := by decide +kernel
theorem dL_refreshes_33 : decode cL_refreshes 33 = .ok (.aload_n 1, 1) := by decide +kernel
theorem dL_refreshes_34 : decode cL_refreshes 34 = .ok (.invokevirtual 158, 3) := by decide +kernel
theorem dL_refreshes_37 : decode cL_refreshes 37 = .ok (.iload_n 2, 1) := by decide +kernel
theorem dL_refreshes_38 : decode cL_refreshes 38 = .ok (.if_icmp .ne 7, 3) := by decide +kernel
theorem dL_refreshes_41 : decode cL_refreshes 41 = .ok (.iconst 1, 1) := by decide +kernel
theorem dL_refreshes_42 : decode cL_refreshes 42 = .ok (.goto 4, 3) := by decide +kernel
theorem dL_refreshes_46 : decode cL_refreshes 46 = .ok (.istore 4, 2) := by decide +kernel
theorem dL_refreshes_48 : decode cL_refreshes 48 = .ok (.iconst 0, 1) := by decide +kernel
theorem dL_refreshes_49 : decode cL_refreshes 49 = .ok (.istore 5, 2) := by decide +kernel
theorem dL_refreshes_51 : decode cL_refreshes 51 = .ok (.iload 5, 2) := by decide +kernel
theorem dL_refreshes_53 : decode cL_refreshes 53 = .ok (.iconst 5, 1) := by decide +kernel
theorem dL_refreshes_54 : decode cL_refreshes 54 = .ok (.if_icmp .ge 30, 3) := by decide +kernel
theorem dL_refreshes_57 : decode cL_refreshes 57 = .ok (.iload 4, 2) := by decide +kernel
theorem dL_refreshes_59 : decode cL_refreshes 59 = .ok (.ifCond .eq 25, 3) := by decide +kernel
theorem dL_refreshes_62 : decode cL_refreshes 62 = .ok (.aload_n 0, 1) := by decide +kernel
theorem dL_refreshes_63 : decode cL_refreshes 63 = .ok (.iload 5, 2) := by decide +kernel
theorem dL_refreshes_65 : decode cL_refreshes 65 = .ok (.invokevirtual 78, 3) := by decide +kernel
theorem dL_refreshes_68 : decode cL_refreshes 68 = .ok (.ifCond .ne 7, 3) := by decide +kernel
theorem dL_refreshes_71 : decode cL_refreshes 71 = .ok (.iconst 1, 1) := by decide +kernel
theorem dL_refreshes_72 : decode cL_refreshes 72 = .ok (.goto 4, 3) := by decide +kernel
theorem dL_refreshes_76 : decode cL_refreshes 76 = .ok (.istore 4, 2) := by decide +kernel
theorem dL_refreshes_78 : decode cL_refreshes 78 = .ok (.iinc 5 1, 3) := by decide +kernel
theorem dL_refreshes_81 : decode cL_refreshes 81 = .ok (.goto (-30), 3) := by decide +kernel
theorem dL_refreshes_84 : decode cL_refreshes 84 = .ok (.iload 4, 2) := by decide +kernel
theorem dL_refreshes_86 : decode cL_refreshes 86 = .ok (.ifCond .eq 21, 3) := by decide +kernel
theorem dL_refreshes_89 : decode cL_refreshes 89 = .ok (.aload_n 0, 1) := by decide +kernel
theorem dL_refreshes_90 : decode cL_refreshes 90 = .ok (.invokevirtual 158, 3) := by decide +kernel
theorem dL_refreshes_93 : decode cL_refreshes 93 = .ok (.ifCond .ne 14, 3) := by decide +kernel
theorem dL_refreshes_96 : decode cL_refreshes 96 = .ok (.aload_n 1, 1) := by decide +kernel
theorem dL_refreshes_97 : decode cL_refreshes 97 = .ok (.invokevirtual 158, 3) := by decide +kernel
theorem dL_refreshes_100 : decode cL_refreshes 100 = .ok (.ifCond .ne 7, 3) := by decide +kernel
theorem dL_refreshes_103 : decode cL_refreshes 103 = .ok (.iconst 1, 1) := by decide +kernel
theorem dL_refreshes_104 : decode cL_refreshes 104 = .ok (.goto 4, 3) := by decide +kernel
theorem dL_refreshes_108 : decode cL_refreshes 108 = .ok (.ireturn, 1) := by decide +kernel
set_option maxHeartbeats 1000000 in
set_option maxRecDepth 100000 in
theorem m_refreshes (l : Launch) (hflag : l.stackTraces = false) (G : k_G) (xa xb : Nat) (mm : q_Mem) (hL : LI mm) : p_Ci l yL_refreshes (Cond.code yL_refreshes cL_refreshes 6 (some .boolean)) 9 150 20 120 G (p_J G xa xb) (mm, mm) [.ref xa, .ref xb] (fun v u => v = 1 ∧ ∃ m2, u = (m2, m2) ∧ RD mm m2) (fun _ => False) := by
  refine p_of (by decide) (Nat.le_of_ble_eq_true rfl) ?_
  intro Z p e s m args below meth c hx hb hr hF hlk hI hX ls hl
  have hl : lv_has ls 6 [(0, .ref xa), (1, .ref xb)] := hl
  have hS : va_S Z s.heap s.heap [] := va_S.rf
  obtain ⟨R, hR, hLR, hKR, hR0, hRR⟩ := rf_sum hL
  refine lv_iconst (v := 0) hx hb dL_refreshes_0 (by decide) ?_
  refine lv_istore_n (lv' := [(2, .int 0), (0, .ref xa), (1, .ref xb)]) hx hb dL_refreshes_1 rfl hl (by decide) rfl (fun ls hl => ?_)
  refine lv_iconst (v := 0) hx hb dL_refreshes_2 (by decide) ?_
  refine lv_istore_n (lv' := [(3, .int 0), (2, .int 0), (0, .ref xa), (1, .ref xb)]) hx hb dL_refreshes_3 rfl hl (by decide) rfl (fun ls hl => ?_)
  refine p_loop (fun q => 5 - q) (fun q => 1 * q) (fun q => 6 * q) (fun q H locs ls => q ≤ 5 ∧ p_J G xa xb Z (mm, mm) H ∧ va_S Z s.heap H locs ∧ lv_has ls 6 [(0, .ref xa), (1, .ref xb), (2, .int (st5 mm q)), (3, .int (nI q))]) 0 (by first | decide | omega | (dsimp only; omega)) (by first | decide | omega | (dsimp only; omega)) ⟨Nat.zero_le _, hI, hS, lv_sub hl [2, 3, 1, 0] rfl⟩ ?_
  intro q H locs ls hJ ih4
  obtain ⟨hk_q, hI, hS, hl⟩ := hJ
  refine lv_iload_n hx hb dL_refreshes_4 rfl (lv_at hl 3 rfl) ?_
  refine lv_iconst (v := 5) hx hb dL_refreshes_5 (by decide) ?_
  refine bo_to (v := (nI 5)) (rfl) ?_
  refine lv_icmp_ge (tgt := 23) hx hb dL_refreshes_6 (by decide) (fun c6 => ?_) (fun c6 => ?_)
  · skip
    have ek := k_end hk_q (by decide) c6
    subst ek
    refine W.widen (k := 5) (n := 30) (by first | decide | omega | (dsimp only; omega)) (by first | decide | omega | (dsimp only; omega)) ?_
    refine lv_aload_n hx hb dL_refreshes_23 rfl (lv_at hl 0 rfl) ?_
    refine p_iVk (fr := 5) (lo := 110) (mc1 := 0) (ms1 := 0) (n := 0) (As := []) (rest := []) hF (pv_refresh l hflag G xa mm  hL.1 (r0 := (st5 mm 5)) (m0 := R) (hR) (hLR.2.1)) p_Em.l ke_X4_refresh wd_l_L_158 (by decide) hI hX hS rfl hl.1 rfl (Nat.le_of_ble_eq_true rfl) dL_refreshes_24 (by first | decide | omega | (dsimp only; omega)) (fun H locs hI hS => ?_)
    replace hI : p_J G xa xb Z (R, mm) H := hI
    refine lv_istore_n (lv' := [(3, .int (st5 mm 5)), (0, .ref xa), (1, .ref xb), (2, .int (st5 mm 5))]) hx hb dL_refreshes_27 rfl hl (by decide) rfl (fun ls hl => ?_)
    refine lv_iload_n hx hb dL_refreshes_28 rfl (lv_at hl 0 rfl) ?_
    refine lv_iload_n hx hb dL_refreshes_29 rfl (lv_at hl 3 rfl) ?_
    refine lv_icmp_ne (tgt := 45) hx hb dL_refreshes_30 (by decide) (fun c30 => ?_) (fun c30 => ?_)
    · skip
      exact absurd rfl c30
    · skip
      refine lv_aload_n hx hb dL_refreshes_33 rfl (lv_at hl 2 rfl) ?_
      refine p_iVk (fr := 5) (lo := 110) (mc1 := 0) (ms1 := 0) (n := 0) (As := []) (rest := []) hF (pv_refresh l hflag G xb mm  hL.1 (r0 := (st5 mm 5)) (m0 := R) (hR) (hLR.2.1)) p_Em.r ke_X4_refresh wd_l_L_158 (by decide) hI hX hS rfl hl.1 rfl (Nat.le_of_ble_eq_true rfl) dL_refreshes_34 (by first | decide | omega | (dsimp only; omega)) (fun H locs hI hS => ?_)
      replace hI : p_J G xa xb Z (R, R) H := hI
      refine lv_iload_n hx hb dL_refreshes_37 rfl (lv_at hl 3 rfl) ?_
      refine lv_icmp_ne (tgt := 45) hx hb dL_refreshes_38 (by decide) (fun c38 => ?_) (fun c38 => ?_)
      · skip
        exact absurd rfl c38
      · skip
        refine lv_iconst (v := 1) hx hb dL_refreshes_41 (by decide) ?_
        refine lv_goto (tgt := 46) hx hb dL_refreshes_42 (by decide) ?_
        refine lv_istore (lv' := [(4, .int 1), (3, .int (st5 mm 5)), (0, .ref xa), (1, .ref xb), (2, .int (st5 mm 5))]) hx hb dL_refreshes_46 hl (by decide) rfl (fun ls hl => ?_)
        refine lv_iconst (v := 0) hx hb dL_refreshes_48 (by decide) ?_
        refine lv_istore (lv' := [(5, .int 0), (4, .int 1), (3, .int (st5 mm 5)), (0, .ref xa), (1, .ref xb), (2, .int (st5 mm 5))]) hx hb dL_refreshes_49 hl (by decide) rfl (fun ls hl => ?_)
        refine p_loop (fun v => 5 - v) (fun v => 5 + 1 * v) (fun v => 30 + 6 * v) (fun v H locs ls => v ≤ 5 ∧ p_J G xa xb Z (R, R) H ∧ va_S Z s.heap H locs ∧ lv_has ls 6 [(0, .ref xa), (1, .ref xb), (4, .int 1), (5, .int (nI v))]) 0 (by first | decide | omega | (dsimp only; omega)) (by first | decide | omega | (dsimp only; omega)) ⟨Nat.zero_le _, hI, hS, lv_sub hl [3, 4, 1, 0] rfl⟩ ?_
        intro v H locs ls hJ ih51
        obtain ⟨hk_v, hI, hS, hl⟩ := hJ
        refine lv_iload hx hb dL_refreshes_51 (lv_at hl 3 rfl) ?_
        refine lv_iconst (v := 5) hx hb dL_refreshes_53 (by decide) ?_
        refine bo_to (v := (nI 5)) (rfl) ?_
        refine lv_icmp_ge (tgt := 84) hx hb dL_refreshes_54 (by decide) (fun c54 => ?_) (fun c54 => ?_)
        · skip
          have ek := k_end hk_v (by decide) c54
          subst ek
          refine lv_iload hx hb dL_refreshes_84 (lv_at hl 2 rfl) ?_
          refine lv_if_eq (tgt := 107) hx hb dL_refreshes_86 (by decide) (fun c86 => ?_) (fun c86 => ?_)
          · skip
            exact absurd c86 (by decide)
          · skip
            refine lv_aload_n hx hb dL_refreshes_89 rfl (lv_at hl 0 rfl) ?_
            refine p_iVk (fr := 5) (lo := 110) (mc1 := 0) (ms1 := 0) (n := 0) (As := []) (rest := []) hF (pv_refresh l hflag G xa R  hLR.1 (r0 := 0) (m0 := R) (hRR) (hLR.2.1)) p_Em.l ke_X4_refresh wd_l_L_158 (by decide) hI hX hS rfl hl.1 rfl (Nat.le_of_ble_eq_true rfl) dL_refreshes_90 (by first | decide | omega | (dsimp only; omega)) (fun H locs hI hS => ?_)
            replace hI : p_J G xa xb Z (R, R) H := hI
            refine lv_if_ne (tgt := 107) hx hb dL_refreshes_93 (by decide) (fun c93 => ?_) (fun c93 => ?_)
            · skip
              exact absurd c93 (by decide)
            · skip
              refine lv_aload_n hx hb dL_refreshes_96 rfl (lv_at hl 1 rfl) ?_
              refine p_iVk (fr := 5) (lo := 110) (mc1 := 0) (ms1 := 0) (n := 0) (As := []) (rest := []) hF (pv_refresh l hflag G xb R  hLR.1 (r0 := 0) (m0 := R) (hRR) (hLR.2.1)) p_Em.r ke_X4_refresh wd_l_L_158 (by decide) hI hX hS rfl hl.1 rfl (Nat.le_of_ble_eq_true rfl) dL_refreshes_97 (by first | decide | omega | (dsimp only; omega)) (fun H locs hI hS => ?_)
              replace hI : p_J G xa xb Z (R, R) H := hI
              refine lv_if_ne (tgt := 107) hx hb dL_refreshes_100 (by decide) (fun c100 => ?_) (fun c100 => ?_)
              · skip
                exact absurd c100 (by decide)
              · skip
                refine lv_iconst (v := 1) hx hb dL_refreshes_103 (by decide) ?_
                refine lv_goto (tgt := 108) hx hb dL_refreshes_104 (by decide) ?_
                exact p_zret hx hb hr hlk hI hS (by first | decide | omega | (dsimp only; omega)) (by first | decide | omega | (dsimp only; omega)) (by decide) (⟨rfl, R, rfl, hLR, by rw [hKR]; exact Nat.le_succ _⟩) dL_refreshes_108
        · skip
          have hv := k_in hk_v (by decide) c54
          refine lv_iload hx hb dL_refreshes_57 (lv_at hl 2 rfl) ?_
          refine lv_if_eq (tgt := 84) hx hb dL_refreshes_59 (by decide) (fun c59 => ?_) (fun c59 => ?_)
          · skip
            exact absurd c59 (by decide)
          · skip
            refine lv_aload_n hx hb dL_refreshes_62 rfl (lv_at hl 0 rfl) ?_
            refine lv_iload hx hb dL_refreshes_63 (lv_at hl 3 rfl) ?_
            refine p_iVk (fr := 7) (lo := 110) (mc1 := 1) (ms1 := 6) (n := 1) (As := [.int (nI v)]) (rest := []) hF (pv_staleTiles l hflag G xa R (nI v) hLR.1 (r0 := (stl R v)) (m0 := R) (v_stl hLR hv) (hLR.2.1)) p_Em.l ke_X4_staleTiles wd_l_L_78 (by decide) hI hX hS rfl hl.1 rfl (Nat.le_of_ble_eq_true rfl) dL_refreshes_65 (by first | decide | omega | (dsimp only; omega)) (fun H locs hI hS => ?_)
            replace hI : p_J G xa xb Z (R, R) H := hI
            refine lv_if_ne (tgt := 75) hx hb dL_refreshes_68 (by decide) (fun c68 => ?_) (fun c68 => ?_)
            · skip
              exact absurd (hR0 v hv) c68
            · skip
              refine lv_iconst (v := 1) hx hb dL_refreshes_71 (by decide) ?_
              refine lv_goto (tgt := 76) hx hb dL_refreshes_72 (by decide) ?_
              refine lv_istore (lv' := [(4, .int 1), (0, .ref xa), (1, .ref xb), (5, .int (nI v))]) hx hb dL_refreshes_76 hl (by decide) rfl (fun ls hl => ?_)
              refine lv_iinc (v := (nI (v + 1))) (lv' := [(5, .int (nI (v + 1))), (4, .int 1), (0, .ref xa), (1, .ref xb)]) hx hb dL_refreshes_78 hl (k := 3) rfl (nI_add v 1) (by decide) rfl (fun ls hl => ?_)
              refine lv_goto (tgt := 51) hx hb dL_refreshes_81 (by decide) ?_
              refine W.widen (k := 5 + 1 * (v + 1)) (n := 30 + 6 * (v + 1)) (by first | decide | omega | (dsimp only; omega)) (by first | decide | omega | (dsimp only; omega)) ?_
              exact ih51 (v + 1) _ _ _ (by omega) ⟨by omega, hI, hS, lv_sub hl [2, 3, 1, 0] rfl⟩
  · skip
    have hq := k_in hk_q (by decide) c6
    refine lv_iload_n hx hb dL_refreshes_9 rfl (lv_at hl 2 rfl) ?_
    refine lv_aload_n hx hb dL_refreshes_10 rfl (lv_at hl 0 rfl) ?_
    refine lv_iload_n hx hb dL_refreshes_11 rfl (lv_at hl 3 rfl) ?_
    refine p_iVk (fr := 7) (lo := 110) (mc1 := 1) (ms1 := 6) (n := 1) (As := [.int (nI q)]) (rest := [.int (st5 mm q)]) hF (pv_staleTiles l hflag G xa mm (nI q) hL.1 (r0 := (stl mm q)) (m0 := mm) (v_stl hL hq) (hL.2.1)) p_Em.l ke_X4_staleTiles wd_l_L_78 (by decide) hI hX hS rfl hl.1 rfl (Nat.le_of_ble_eq_true rfl) dL_refreshes_12 (by first | decide | omega | (dsimp only; omega)) (fun H locs hI hS => ?_)
    replace hI : p_J G xa xb Z (mm, mm) H := hI
    refine lv_iadd hx hb dL_refreshes_15 ?_
    refine bo_to (v := (st5 mm (q + 1))) (rfl) ?_
    refine lv_istore_n (lv' := [(2, .int (st5 mm (q + 1))), (0, .ref xa), (1, .ref xb), (3, .int (nI q))]) hx hb dL_refreshes_16 rfl hl (by decide) rfl (fun ls hl => ?_)
    refine lv_iinc (v := (nI (q + 1))) (lv' := [(3, .int (nI (q + 1))), (2, .int (st5 mm (q + 1))), (0, .ref xa), (1, .ref xb)]) hx hb dL_refreshes_17 hl (k := 3) rfl (nI_add q 1) (by decide) rfl (fun ls hl => ?_)
    refine lv_goto (tgt := 4) hx hb dL_refreshes_20 (by decide) ?_
    refine W.widen (k := 1 * (q + 1)) (n := 6 * (q + 1)) (by first | decide | omega | (dsimp only; omega)) (by first | decide | omega | (dsimp only; omega)) ?_
    exact ih4 (q + 1) _ _ _ (by omega) ⟨by omega, hI, hS, lv_sub hl [2, 3, 1, 0] rfl⟩
theorem ke_L_refreshes : wl_S yL_refreshes cL_refreshes 6 (some .boolean) 2 := ⟨wd_c_L_refreshes, wd_t_L_refreshes, wd_n_L, by decide, by decide +kernel⟩
