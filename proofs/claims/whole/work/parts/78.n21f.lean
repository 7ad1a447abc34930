theorem dL_law_1388 : decode cL_law 1388 = .ok (.aload_n 1, 1) := by decide +kernel
theorem dL_law_1389 : decode cL_law 1389 = .ok (.invokevirtual 163, 3) := by decide +kernel
theorem dL_law_1392 : decode cL_law 1392 = .ok (.aload_n 2, 1) := by decide +kernel
theorem dL_law_1393 : decode cL_law 1393 = .ok (.invokevirtual 166, 3) := by decide +kernel
theorem dL_law_1396 : decode cL_law 1396 = .ok (.if_icmp .eq 464, 3) := by decide +kernel
set_option maxHeartbeats 4000000 in
set_option maxRecDepth 100000 in
theorem lc_refresh {p : Program} {l : Launch} {e : Env} {s : State} {m : MethodId} {below : List Frame} {meth : Method} {c : Code} {b L : Nat} {xs : Nat → Int32} {G : k_G} {o : Nat} {a : Nat → Nat} {w : Nat} {cJ : ClassId} {xa : Nat} {Q : State → Prop} {t : Nat} (hF : CallFix p m c cL_law 7 s #[Value.ref b] wsL_law RL) (hX : ll_F l G o a w cJ s) (hSc : va_X b L xs s s.heap) (hbl : b < s.heap.size) (hL : L ≤ 3072) (ht : 6 * t + 6 ≤ L) (hnext : ll_W p l e s m below meth c b G o a w cJ xa Q (t + 1) t 1860) : ll_W p l e s m below meth c b G o a w cJ xa Q t t 1388 := by
  intro mm ad f0 H locs ls hI hN hK h00 hA hS hl
  subst h00
  have hx := hF.1
  have hb := hF.2.1
  have hK1 : sp_K mm < 512 := by omega
  obtain ⟨rr, hrr⟩ : ∃ rr, rr = sp_refr mm := ⟨_, rfl⟩
  have hq4 := m_X4_refresh l hX.1 G (ll_Z s.heap.size o a w) ad mm hI
  have hq5 := m_X5_refresh l G.1 G.2.1 o a mm hX.2.2.2.2.2.2.1 hI
  have hIK := IK_refr hI
  have hNS := NS.refr (mm := mm)
  rw [← hrr] at hq4 hq5 hIK hNS
  refine lv_aload_n hx hb dL_law_1388 rfl (lv_at hl 1 rfl) ?_
  refine ll_K (fr := 5) (lo := 110) (mc := 0) (ms := 0) (n := 0) (As := []) (rest := []) hF hq4 ke_X4_refresh wd_l_L_163 (by decide) hX hA hS (g_recv hX.2.1 (hA.1 0 0 _ rfl) rfl) rfl hl.1 rfl (Nat.le_of_ble_eq_true rfl) dL_law_1389 (by show 30 + 10 * t + 0 ≤ 601024 ∧ 20000 + 100 * t + 0 ≤ 7293034; omega) (fun r ad1 ct1 H locs hr hA hS => ?_)
  obtain ⟨hct, hr1, h19, h01⟩ := hr
  replace hct : ct1 = k_C G ad1 rr.2 := hct
  subst hct
  replace h01 : ad1 0 0 = ad 0 0 := h01
  replace hr1 : r = rr.1 := hr1
  refine lv_aload_n hx hb dL_law_1392 rfl (lv_at hl 2 rfl) ?_
  refine ll_R (fr := 4) (lo := 103) (n := 0) (As := []) (rest := [.int r]) hF hq5 ke_X5_refresh wd_l_L_166 (by decide) hX hA hS rfl hl.1 rfl (Nat.le_of_ble_eq_true rfl) dL_law_1393 (by show 30 + 10 * t + 0 ≤ 601024 ∧ 20000 + 100 * t + 0 ≤ 7293034; omega) (fun r2 m2 H locs hr2 hA hS => ?_)
  have e1 : r2 = rr.1 := congrArg Prod.fst hr2
  have e2 : m2 = rr.2 := congrArg Prod.snd hr2
  have h9 : r = r2 := hr1.trans e1.symm
  subst e2
  have hN2 : ∀ v, v < 40 → sp_N rr.2 v := fun v hv => hNS.N (hN v hv)
  have hK2 : sp_K rr.2 ≤ t + 1 := by have h8 := hIK.2; omega
  refine lv_icmp_eq (tgt := 1860) hx hb dL_law_1396 (by decide) (fun c1396 => ?_) (fun c1396 => ?_)
  · skip
    refine W.widen (k := 30 + 10 * (t + 1)) (n := 20000 + 100 * (t + 1)) (by omega) (by omega) ?_
    exact hnext rr.2 ad1 f0 H locs ls hIK.1 hN2 hK2 h01 hA hS (lv_sub hl [0, 1, 2, 3, 4] rfl)
  · skip
    exact absurd h9 c1396
