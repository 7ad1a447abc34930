theorem an_y_none {mm : q_Mem} {z x y : Int32} {n : Nat} : ¬ an_y (sp_oldp mm z x y n) (n - 1) = true := by
  intro h
  obtain ⟨k, h1, h2⟩ := an_y_iff.mp h
  unfold sp_oldp at h2
  rw [Bool.and_eq_true, decide_eq_true_eq] at h2
  omega
theorem nI_nlem1 {n : Nat} (h : n < 2 ^ 31) : ¬ nI n ≤ -1 := by
  rw [Int32.le_iff_toInt_le, nI_toInt h]
  have : (-1 : Int32).toInt = -1 := by decide
  omega
theorem old_s1 {mm : q_Mem} {z x y : Int32} {n k w : Nat} (hz : 0 < n) (h : ¬ an_y (sp_oldp mm z x y n) k = true) (hk : n - 1 ≤ k) (hv : mm 11 k / 1000 = nI w) (hw : w < 2 ^ 31) (hc : (sp_sh (mm 11 k) z ∨ (¬ mm 12 k = -1 ∧ sp_sh (mm 11 (sp_A mm k)) z)) ∧ sp_isin mm w z x y) : (1 : Int32) = if an_y (sp_oldp mm z x y n) (k + 1) = true then 1 else 0 := by
  refine bo_p ?_
  show (an_y (sp_oldp mm z x y n) k || sp_oldp mm z x y n k) = true
  rw [Bool.or_eq_true]
  refine Or.inr ?_
  unfold sp_oldp sp_old1
  rw [hv, nI_clamp hw, Bool.and_eq_true, decide_eq_true_eq, decide_eq_true_eq]
  exact ⟨hk, hc⟩
theorem old_s0 {mm : q_Mem} {z x y : Int32} {n k w : Nat} (h : ¬ an_y (sp_oldp mm z x y n) k = true) (hv : mm 11 k / 1000 = nI w) (hw : w < 2 ^ 31) (hc : ¬ ((sp_sh (mm 11 k) z ∨ (¬ mm 12 k = -1 ∧ sp_sh (mm 11 (sp_A mm k)) z)) ∧ sp_isin mm w z x y)) : (0 : Int32) = if an_y (sp_oldp mm z x y n) (k + 1) = true then 1 else 0 := by
  refine bo_n ?_
  show ¬ (an_y (sp_oldp mm z x y n) k || sp_oldp mm z x y n k) = true
  rw [Bool.or_eq_true]
  rintro (q | q)
  · exact h q
  · unfold sp_oldp sp_old1 at q
    rw [hv, nI_clamp hw, Bool.and_eq_true, decide_eq_true_eq, decide_eq_true_eq] at q
    exact hc q.2
theorem Inv.T0 {mm : q_Mem} (h : Inv mm) : Inv (up2 mm 19 0 0) := h
theorem nt_z4 {z : Int32} (h : sp_z4 z) : ∃ j : Nat, j < 5 ∧ z = nI j := by
  obtain ⟨j, hj, e⟩ := nt_le (n := 4) (by decide) h
  exact ⟨j, by omega, e⟩
section
variable {dr : Bool} {zi k : Nat} {q1 q2 : Int32} {mm m2 : q_Mem}
theorem ste_yes (hq : (q1, m2) = it_b (sp_ste dr) (tb_z zi) k (0, mm)) (t2 : tz_t (tb_z zi + k) = zi) (t3 : tx_t (tb_z zi + k) = k % 2 ^ zi) (t4 : ty_t (tb_z zi + k) = k / 2 ^ zi) (c4 : sp_old m2 (tb_z zi + k) (nI zi) (nI (k % 2 ^ zi)) (nI (k / 2 ^ zi)) = true) (e : q2 = q1 + if sp_old m2 (tb_z zi + k) (nI zi) (nI (k % 2 ^ zi)) (nI (k / 2 ^ zi)) = true then 1 else 0) (c5 : dr = true) :
    (q2, sp_draws m2 (tb_z zi + k) (nI zi) (nI (k % 2 ^ zi)) (nI (k / 2 ^ zi))) = it_b (sp_ste dr) (tb_z zi) (k + 1) (0, mm) := by
  show _ = sp_ste dr (tb_z zi + k) (it_b (sp_ste dr) (tb_z zi) k (0, mm))
  rw [← hq]
  have h : sp_oldt m2 (tb_z zi + k) = true := by show sp_old m2 _ (nI (tz_t _)) (nI (tx_t _)) (nI (ty_t _)) = true; rw [t2, t3, t4]; exact c4
  unfold sp_ste
  rw [if_pos h, if_pos c5, e, if_pos c4, t2, t3, t4]
theorem ste_yes0 (hq : (q1, m2) = it_b (sp_ste dr) (tb_z zi) k (0, mm)) (t2 : tz_t (tb_z zi + k) = zi) (t3 : tx_t (tb_z zi + k) = k % 2 ^ zi) (t4 : ty_t (tb_z zi + k) = k / 2 ^ zi) (c4 : sp_old m2 (tb_z zi + k) (nI zi) (nI (k % 2 ^ zi)) (nI (k / 2 ^ zi)) = true) (e : q2 = q1 + if sp_old m2 (tb_z zi + k) (nI zi) (nI (k % 2 ^ zi)) (nI (k / 2 ^ zi)) = true then 1 else 0) (c5 : ¬ dr = true) :
    (q2, m2) = it_b (sp_ste dr) (tb_z zi) (k + 1) (0, mm) := by
  show _ = sp_ste dr (tb_z zi + k) (it_b (sp_ste dr) (tb_z zi) k (0, mm))
  rw [← hq]
  have h : sp_oldt m2 (tb_z zi + k) = true := by show sp_old m2 _ (nI (tz_t _)) (nI (tx_t _)) (nI (ty_t _)) = true; rw [t2, t3, t4]; exact c4
  unfold sp_ste
  rw [if_pos h, if_neg c5, e, if_pos c4]
theorem ste_no (hq : (q1, m2) = it_b (sp_ste dr) (tb_z zi) k (0, mm)) (t2 : tz_t (tb_z zi + k) = zi) (t3 : tx_t (tb_z zi + k) = k % 2 ^ zi) (t4 : ty_t (tb_z zi + k) = k / 2 ^ zi) (c4 : ¬ sp_old m2 (tb_z zi + k) (nI zi) (nI (k % 2 ^ zi)) (nI (k / 2 ^ zi)) = true) (e : q2 = q1 + if sp_old m2 (tb_z zi + k) (nI zi) (nI (k % 2 ^ zi)) (nI (k / 2 ^ zi)) = true then 1 else 0) :
    (q2, m2) = it_b (sp_ste dr) (tb_z zi) (k + 1) (0, mm) := by
  show _ = sp_ste dr (tb_z zi + k) (it_b (sp_ste dr) (tb_z zi) k (0, mm))
  rw [← hq]
  have h : ¬ sp_oldt m2 (tb_z zi + k) = true := by show ¬ sp_old m2 _ (nI (tz_t _)) (nI (tx_t _)) (nI (ty_t _)) = true; rw [t2, t3, t4]; exact c4
  unfold sp_ste
  rw [if_neg h, e, if_neg c4]
/-- the count begun with another number -/
theorem ste_shift (b : Nat) (r q0 : Int32) (m3 : q_Mem) : ∀ n, it_b (sp_ste dr) b n (r + q0, m3) = (r + (it_b (sp_ste dr) b n (q0, m3)).1, (it_b (sp_ste dr) b n (q0, m3)).2)
  | 0 => rfl
  | n + 1 => by
    show sp_ste dr (b + n) (it_b (sp_ste dr) b n (r + q0, m3)) = (r + (sp_ste dr (b + n) (it_b (sp_ste dr) b n (q0, m3))).1, (sp_ste dr (b + n) (it_b (sp_ste dr) b n (q0, m3))).2)
    rw [ste_shift b r q0 m3 n]
    generalize it_b (sp_ste dr) b n (q0, m3) = x
    unfold sp_ste
    dsimp only
    split
    · rw [Int32.add_assoc]
    · rw [Int32.add_assoc]
theorem ste_sum {r : Int32} {m3 : q_Mem} {b n : Nat} (h : (r, m3) = it_b (sp_ste dr) b n (0, m2)) : (q1 + r, m3) = it_b (sp_ste dr) b n (q1, m2) := by
  have e := ste_shift (dr := dr) b q1 0 m2 n
  rw [Int32.add_zero] at e
  rw [e, ← h]
theorem ste_inv1 {b : Nat} {q0 : Int32} (hb : ∀ i, i < k → b + i < 341) (hJ : Inv m2) : ∀ n, n ≤ k → Inv (it_b (sp_ste dr) b n (q0, m2)).2
  | 0, _ => hJ
  | n + 1, h => by
    have ih := ste_inv1 (q0 := q0) hb hJ n (by omega)
    show Inv (sp_ste dr (b + n) (it_b (sp_ste dr) b n (q0, m2))).2
    generalize it_b (sp_ste dr) b n (q0, m2) = x at ih
    unfold sp_ste
    split
    · dsimp only
      split
      · exact ih.dr _ _ _
      · exact ih
    · exact ih
theorem ste_inv {r : Int32} {m3 : q_Mem} (hJ : Inv m2) (hz : zi < 5) (h : (r, m3) = it_b (sp_ste dr) (tb_z zi) (2 ^ zi * 2 ^ zi) (0, m2)) : Inv m3 := by
  have e := ste_inv1 (dr := dr) (q0 := 0) (b := tb_z zi) (k := 2 ^ zi * 2 ^ zi) (fun i hi => (tt_of zi hz i hi).1) hJ _ (Nat.le_refl _)
  rw [← h] at e
  exact e
end
