/-! ===== what the Statement gives of the start ===== -/
theorem k_ngs_in : ∀ w ∈ k_ngs, w ∈ lw_tbl := by decide +kernel
theorem k_strs_in : ∀ q ∈ k_strs, Cond.stringRef RX4 q.1 q.2 ∈ lw_tbl := by decide +kernel
theorem k_strs_ex : ∀ q ∈ k_strs, Cond.exactly (.string RX4 q.1) "java/lang/String" ∈ flatC (Cond.and given_1 narrow_1) := by decide +kernel
theorem k_strs_un : ∀ q ∈ k_strs, ∀ r ∈ k_strs, q.1 = r.1 → q.2 = r.2 := by decide +kernel
theorem s_kc {s : State} {args : Array Value} (hw : ∀ w ∈ wsL_law, w.before args s = true) : ∃ D : va_G, ∀ (k : Nat) (q : vw_C), vwCl[k]? = some q → u_Kn s q.1 q.2.1 q.2.2 (D.1 k) (D.2 k) := by
  have hall : ∀ k : Nat, ∃ (cC : ClassId) (iS : Nat → Nat), ∀ q : vw_C, vwCl[k]? = some q → u_Kn s q.1 q.2.1 q.2.2 cC iS := by
    intro k
    match k with
    | 0 => obtain ⟨cC, iS, h⟩ := u_known (C := RJx4a65c) (T := TJx4a65c) (N := 3) hw inlJx4a65c (hw _ wd_a_Jx4a65c); exact ⟨cC, iS, fun q hq => by cases hq; exact h⟩
    | 1 => obtain ⟨cC, iS, h⟩ := u_known (C := RX0) (T := TX0) (N := 3) hw inlX0 (hw _ wd_a_X0); exact ⟨cC, iS, fun q hq => by cases hq; exact h⟩
    | 2 => obtain ⟨cC, iS, h⟩ := u_known (C := RX1) (T := TX1) (N := 7) hw inlX1 (hw _ wd_a_X1); exact ⟨cC, iS, fun q hq => by cases hq; exact h⟩
    | 3 => obtain ⟨cC, iS, h⟩ := u_known (C := RX2) (T := TX2) (N := 4) hw inlX2 (hw _ wd_a_X2); exact ⟨cC, iS, fun q hq => by cases hq; exact h⟩
    | 4 => obtain ⟨cC, iS, h⟩ := u_known (C := RX3) (T := TX3) (N := 8) hw inlX3 (hw _ wd_a_X3); exact ⟨cC, iS, fun q hq => by cases hq; exact h⟩
    | 5 => obtain ⟨cC, iS, h⟩ := u_known (C := RX4) (T := TX4) (N := 6) hw inlX4 (hw _ wd_a_X4); exact ⟨cC, iS, fun q hq => by cases hq; exact h⟩
    | n + 6 => exact ⟨0, fun _ => 0, fun q hq => by simp [vwCl] at hq⟩
  obtain ⟨f1, h1⟩ := Classical.axiomOfChoice hall
  obtain ⟨f2, h2⟩ := Classical.axiomOfChoice h1
  exact ⟨(f1, f2), h2⟩
theorem s_int {s : State} {args : Array Value} (h : (Cond.arrayClass .int).before args s = true) : ∃ cI : ClassId, ArrOfT s cI .int ∧ va_RA s cI .int := by
  obtain ⟨cA, kA, comp, h1, h2, h3⟩ := Cond.arrayClass_spec h
  exact ⟨cA, fun n z => ⟨fun k h => (by cases h), kA, h2, comp, h3⟩, h1⟩
theorem s_obj {s : State} {args : Array Value} {C : String} (h : (Cond.arrayOver (.object C)).before args s = true) : ∃ cA : ClassId, ArrOfT s cA (.object C) ∧ va_RA s cA (.object C) := by
  obtain ⟨comp, cA, kA, h1, -, h2, h3, h4⟩ := Cond.arrayOver_spec h
  exact ⟨cA, fun n z => ⟨fun k h => (by cases h), kA, h2, comp, h3⟩, kA, comp, h2, h3, h1, h4⟩
theorem s_str {s : State} {args : Array Value} (hts : ∀ w ∈ lw_tbl, w.before args s = true) (hfl : ∀ w ∈ flatC (Cond.and given_1 narrow_1), w.before args s = true) : ∃ sa : Nat → Nat, ∀ q ∈ k_strs, vk_R RX4 q.1 q.2 (sa q.1) s := by
  have hall : ∀ k : Nat, ∃ a : Nat, ∀ q ∈ k_strs, q.1 = k → vk_R RX4 q.1 q.2 a s := by
    intro k
    by_cases hk : ∃ q, q ∈ k_strs ∧ q.1 = k
    · obtain ⟨q, hq, rfl⟩ := hk
      obtain ⟨a, c, cell, kc, ha, -⟩ := Cond.exactly_spec (hfl _ (k_strs_ex q hq))
      refine ⟨a, fun r hr e => ?_⟩
      have e2 := k_strs_un r hr q hq e
      rw [e, e2]
      exact vk_R.of (hts _ (k_strs_in q hq)) ha
    · exact ⟨0, fun q hq e => absurd ⟨q, hq, e⟩ hk⟩
  obtain ⟨sa, h1⟩ := Classical.axiomOfChoice hall
  exact ⟨sa, fun q hq => h1 q.1 q hq rfl⟩
set_option maxRecDepth 100000 in
set_option maxHeartbeats 4000000 in
theorem whole_start {p : Program} {e : Env} {s : State} {m : MethodId} {below : List Frame} {meth : Method} {c : Code} (l : Launch) (hflags : l.flags = flags0) {b L : Nat} {xs : Nat → Int32} (hL : L ≤ 260) (C0 : lw_At p s m meth c b L xs) : W p l e room_1 s m #[Value.ref b] below meth c s.heap [] 0 0 (lw_Z below #[Value.ref b] s) (entryFrame m ([Value.ref b] : List Value).toArray 15) := by
  obtain ⟨hx, hb, hr, hml, hown, hts, hX, hbl, hlocks, hgv⟩ := C0
  have hw : ∀ w ∈ wsL_law, w.before #[Value.ref b] s = true := fun w h => hts w (wsL_law_in w h)
  have hfl := flat_of_before _ hgv
  have hF : CallFix p m c cL_law 15 s #[Value.ref b] wsL_law RL := ⟨hx, hb, hml, hown, hw⟩
  have hflag : l.stackTraces = false := by
    show (!l.flags.contains noTraceFlag) = false
    rw [hflags]
    decide +kernel
  have hA : ∀ a : Nat, a < s.heap.size → ¬ ll_0 s.heap.size a := fun a ha => Nat.not_le.mpr ha
  obtain ⟨D, hKc⟩ := s_kc hw
  obtain ⟨cI, i1, i2⟩ := s_int (hw _ wd_x2)
  obtain ⟨cT, t1, t2⟩ := s_obj (C := "SignTiles$Tile") (hts _ (by decide +kernel))
  obtain ⟨cO, o1, o2⟩ := s_obj (C := "java/lang/Object") (hts _ (by decide +kernel))
  obtain ⟨sa, hsa⟩ := s_str hts hfl
  obtain ⟨mi, hmi⟩ := va_Mi.of (hfl (Cond.isRef (.mirror "[Ljava/lang/Object;")) (by decide +kernel))
  obtain ⟨tf, hf1, hf2⟩ := va_Tof (A := ll_0 s.heap.size) (tm := .static RX4 "FIRST_TILES" "[I") (ty := .int) (N := 5) (f := fun j => .int (k_first j)) (by decide) (hfl _ (by decide +kernel)) (va_eqt (hfl _ (by decide +kernel))) (fun j hj => by
    have h5 : j = 0 ∨ j = 1 ∨ j = 2 ∨ j = 3 ∨ j = 4 := by omega
    rcases h5 with rfl | rfl | rfl | rfl | rfl
    · exact va_eqt (z := 0) (hfl (Cond.eq (.elem (.static RX4 "FIRST_TILES" "[I") (.int 0)) (.int 0)) (by decide +kernel))
    · exact va_eqt (z := 1) (hfl (Cond.eq (.elem (.static RX4 "FIRST_TILES" "[I") (.int 1)) (.int 1)) (by decide +kernel))
    · exact va_eqt (z := 5) (hfl (Cond.eq (.elem (.static RX4 "FIRST_TILES" "[I") (.int 2)) (.int 5)) (by decide +kernel))
    · exact va_eqt (z := 21) (hfl (Cond.eq (.elem (.static RX4 "FIRST_TILES" "[I") (.int 3)) (.int 21)) (by decide +kernel))
    · exact va_eqt (z := 85) (hfl (Cond.eq (.elem (.static RX4 "FIRST_TILES" "[I") (.int 4)) (.int 85)) (by decide +kernel))) hA
  obtain ⟨te, he1, he2⟩ := va_Tof (A := ll_0 s.heap.size) (tm := .static RJx4a65c "DEFAULTCAPACITY_EMPTY_ELEMENTDATA" "[Ljava/lang/Object;") (ty := .object "java/lang/Object") (N := 0) (f := fun _ => .null) (by decide) (hfl _ (by decide +kernel)) (va_eqt (hfl _ (by decide +kernel))) (fun j hj => absurd hj (Nat.not_lt_zero j)) hA
  have hK : va_K D vwCl (k_ty (D, cI, cT, cO, te, tf, sa, mi)) s := ⟨hKc, fun k q h => by
    match k, h with
    | 0, h => cases h; exact ⟨i1, i2⟩
    | 1, h => cases h; exact ⟨t1, t2⟩
    | 2, h => cases h; exact ⟨o1, o2⟩
    | n + 3, h => simp [k_ty] at h⟩
  have hP : k_P (D, cI, cT, cO, te, tf, sa, mi) s := ⟨va_Nw.of rfl (hts (.methodLinkNest RX3 61 yX4_distance RX4) (by decide +kernel)), hsa, hmi, va_Dc.of (hts _ (by decide +kernel)), va_AO.of (hts (.arrayOver (.object "java/lang/Object")) (by decide +kernel)), va_AO.of (hts (.arrayOver (.object "SignTiles$Tile")) (by decide +kernel)), fun w hw2 => va_Nw.of (k_ng_t w hw2) (hts w (k_ngs_in w hw2))⟩
  have hNc : lo_N s := ⟨va_Nc.of (hfl _ (by decide +kernel)), va_Nc.of (hfl _ (by decide +kernel)), va_Nc.of (hfl _ (by decide +kernel))⟩
  have hT : k_T (D, cI, cT, cO, te, tf, sa, mi) (ll_0 s.heap.size) s s.heap := ⟨vx_Zqof (hts _ (by decide +kernel)) (hts _ (by decide +kernel)) (hfl _ (by decide +kernel)) hA, vx_Zqof (hts _ (by decide +kernel)) (hts _ (by decide +kernel)) (hfl _ (by decide +kernel)) hA, ⟨va_Zof (hts _ (by decide +kernel)) (hts _ (by decide +kernel)) hf1 hA, hf2⟩, ⟨va_Zof (hts _ (by decide +kernel)) (hts _ (by decide +kernel)) he1 hA, he2⟩, fun q h => h⟩
  have hl := lv_entry ([.ref b]) (n := 15) (Nat.le_of_ble_eq_true rfl)
  rw [lg_entry_eq]
  generalize (lg_sl ([.ref b]) ++ List.replicate (15 - (lg_sl ([.ref b])).length) Slot.unset).toArray = ls at hl ⊢
  exact lg_start hF hflag hX hbl hL hr hlocks hK hP hNc hT ls hl
