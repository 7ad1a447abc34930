/-! ===== the reference as its constructor leaves it ===== -/
abbrev x5_A (ad : k_Ad) (q1 q3 q4 q5 q6 q7 q8 q9 q10 q12 q13 q14 q15 q16 q17 q18 q19 : Nat) : k_Ad := (k_ad (k_ad (k_ad (k_ad (k_ad (k_ad (k_ad (k_ad (k_ad (k_ad (k_ad (k_ad (k_ad (k_ad (k_ad (k_ad (k_ad ad 9 1 q1) 9 3 q3) 9 4 q4) 9 5 q5) 9 6 q6) 9 7 q7) 9 8 q8) 9 9 q9) 9 10 q10) 9 12 q12) 9 13 q13) 9 14 q14) 9 15 q15) 9 16 q16) 9 17 q17) 9 18 q18) 9 19 q19)
abbrev x5_C (G : k_G) (ct : k_Ct) (q1 q3 q4 q5 q6 q7 q8 q9 q10 q12 q13 q14 q15 q16 q17 q18 q19 : Nat) : k_Ct := (k_up (k_up (k_up (k_up (k_up (k_up (k_up (k_up (k_up (k_up (k_up (k_up (k_up (k_up (k_up (k_up (k_up (k_up (k_up ct 9 1 (.inl (G.2.1, 6, .inl (fun _ => 0)))) 9 3 (.inl (G.2.1, 40, .inl (fun _ => 0)))) 9 4 (.inl (G.2.1, 40, .inl (fun _ => 0)))) 9 5 (.inl (G.2.1, 40, .inl (fun _ => 0)))) 9 6 (.inl (G.2.1, 40, .inl (fun _ => 0)))) 9 7 (.inl (G.2.1, 40, .inl (fun _ => 0)))) 9 8 (.inl (G.2.1, 40, .inl (fun _ => 0)))) 9 9 (.inl (G.2.1, 40, .inl (fun _ => 0)))) 9 10 (.inl (G.2.1, 40, .inl (fun _ => 0)))) 9 12 (.inl (G.2.1, 4200, .inl (fun _ => 0)))) 9 13 (.inl (G.2.1, 4200, .inl (fun _ => 0)))) 9 14 (.inl (G.2.1, 341, .inl (fun _ => 0)))) 9 15 (.inl (G.2.1, 341, .inl (fun _ => 0)))) 9 16 (.inl (G.2.1, 3, .inl (fun _ => 0)))) 9 17 (.inl (G.2.1, 3, .inl (fun _ => 0)))) 9 18 (.inl (G.2.1, 40, .inl (fun _ => 0)))) 9 19 (.inl (G.2.1, 360, .inl (fun _ => 0)))) 9 0 (.inr (6, [.ref q1, .int 0, .ref q3, .ref q4, .ref q5, .ref q6, .ref q7, .ref q8, .ref q9, .ref q10, .int 0, .ref q12, .ref q13, .ref q14, .ref q15, .ref q16, .ref q17, .ref q18, .ref q19, .int 0]))) 9 1 (.inl (G.2.1, 6, .inl (upd (upd (upd (upd (upd (upd (fun _ => 0) 0 50) 1 50) 2 50) 3 50) 4 50) 5 50))))
theorem x5_u0 : upd (upd (upd (upd (upd (upd (fun _ => (0 : Int32)) 0 50) 1 50) 2 50) 3 50) 4 50) 5 50 = sp_0 0 := by
  funext j
  show _ = (if j < 6 then (50 : Int32) else 0)
  by_cases h : j < 6
  · rw [if_pos h]
    have h2 : j = 0 ∨ j = 1 ∨ j = 2 ∨ j = 3 ∨ j = 4 ∨ j = 5 := by omega
    rcases h2 with rfl | rfl | rfl | rfl | rfl | rfl <;> rfl
  · rw [if_neg h]
    simp [upd, show j ≠ 0 by omega, show j ≠ 1 by omega, show j ≠ 2 by omega, show j ≠ 3 by omega, show j ≠ 4 by omega, show j ≠ 5 by omega]
section
variable {G : k_G} {ad : k_Ad} {ct : k_Ct} {q1 q3 q4 q5 q6 q7 q8 q9 q10 q12 q13 q14 q15 q16 q17 q18 q19 : Nat}
set_option maxRecDepth 100000 in
theorem x5_a : x5_A ad q1 q3 q4 q5 q6 q7 q8 q9 q10 q12 q13 q14 q15 q16 q17 q18 q19 9 1 = q1 ∧ x5_A ad q1 q3 q4 q5 q6 q7 q8 q9 q10 q12 q13 q14 q15 q16 q17 q18 q19 9 3 = q3 ∧ x5_A ad q1 q3 q4 q5 q6 q7 q8 q9 q10 q12 q13 q14 q15 q16 q17 q18 q19 9 4 = q4 ∧ x5_A ad q1 q3 q4 q5 q6 q7 q8 q9 q10 q12 q13 q14 q15 q16 q17 q18 q19 9 5 = q5 ∧ x5_A ad q1 q3 q4 q5 q6 q7 q8 q9 q10 q12 q13 q14 q15 q16 q17 q18 q19 9 6 = q6 ∧ x5_A ad q1 q3 q4 q5 q6 q7 q8 q9 q10 q12 q13 q14 q15 q16 q17 q18 q19 9 7 = q7 ∧ x5_A ad q1 q3 q4 q5 q6 q7 q8 q9 q10 q12 q13 q14 q15 q16 q17 q18 q19 9 8 = q8 ∧ x5_A ad q1 q3 q4 q5 q6 q7 q8 q9 q10 q12 q13 q14 q15 q16 q17 q18 q19 9 9 = q9 ∧ x5_A ad q1 q3 q4 q5 q6 q7 q8 q9 q10 q12 q13 q14 q15 q16 q17 q18 q19 9 10 = q10 ∧ x5_A ad q1 q3 q4 q5 q6 q7 q8 q9 q10 q12 q13 q14 q15 q16 q17 q18 q19 9 12 = q12 ∧ x5_A ad q1 q3 q4 q5 q6 q7 q8 q9 q10 q12 q13 q14 q15 q16 q17 q18 q19 9 13 = q13 ∧ x5_A ad q1 q3 q4 q5 q6 q7 q8 q9 q10 q12 q13 q14 q15 q16 q17 q18 q19 9 14 = q14 ∧ x5_A ad q1 q3 q4 q5 q6 q7 q8 q9 q10 q12 q13 q14 q15 q16 q17 q18 q19 9 15 = q15 ∧ x5_A ad q1 q3 q4 q5 q6 q7 q8 q9 q10 q12 q13 q14 q15 q16 q17 q18 q19 9 16 = q16 ∧ x5_A ad q1 q3 q4 q5 q6 q7 q8 q9 q10 q12 q13 q14 q15 q16 q17 q18 q19 9 17 = q17 ∧ x5_A ad q1 q3 q4 q5 q6 q7 q8 q9 q10 q12 q13 q14 q15 q16 q17 q18 q19 9 18 = q18 ∧ x5_A ad q1 q3 q4 q5 q6 q7 q8 q9 q10 q12 q13 q14 q15 q16 q17 q18 q19 9 19 = q19 ∧ x5_A ad q1 q3 q4 q5 q6 q7 q8 q9 q10 q12 q13 q14 q15 q16 q17 q18 q19 9 0 = ad 9 0 := by
  refine ⟨?_, ?_, ?_, ?_, ?_, ?_, ?_, ?_, ?_, ?_, ?_, ?_, ?_, ?_, ?_, ?_, ?_, ?_⟩ <;> simp [x5_A, k_ad]
set_option maxRecDepth 100000 in
theorem x5_ar : ∀ k, mo_ar k = true → x5_C G ct q1 q3 q4 q5 q6 q7 q8 q9 q10 q12 q13 q14 q15 q16 q17 q18 q19 9 (k + 1) = some (.inl (G.2.1, mo_ln k, .inl (sp_0 k))) := fun k hk =>
  match k, hk with
    | 0, _ => by show x5_C G ct q1 q3 q4 q5 q6 q7 q8 q9 q10 q12 q13 q14 q15 q16 q17 q18 q19 9 1 = _; rw [show (some (.inl (G.2.1, mo_ln 0, .inl (sp_0 0))) : Option va_E) = some (.inl (G.2.1, 6, .inl (sp_0 0))) from rfl, ← x5_u0]; exact k_up_s
    | 1, h => absurd h (by decide)
    | 2, _ => ((k_up_o (by simp)).trans ((k_up_o (by simp)).trans ((k_up_o (by simp)).trans ((k_up_o (by simp)).trans ((k_up_o (by simp)).trans ((k_up_o (by simp)).trans ((k_up_o (by simp)).trans ((k_up_o (by simp)).trans ((k_up_o (by simp)).trans ((k_up_o (by simp)).trans ((k_up_o (by simp)).trans ((k_up_o (by simp)).trans ((k_up_o (by simp)).trans ((k_up_o (by simp)).trans ((k_up_o (by simp)).trans ((k_up_o (by simp)).trans ((k_up_o (by simp)).trans (k_up_s))))))))))))))))))
    | 3, _ => ((k_up_o (by simp)).trans ((k_up_o (by simp)).trans ((k_up_o (by simp)).trans ((k_up_o (by simp)).trans ((k_up_o (by simp)).trans ((k_up_o (by simp)).trans ((k_up_o (by simp)).trans ((k_up_o (by simp)).trans ((k_up_o (by simp)).trans ((k_up_o (by simp)).trans ((k_up_o (by simp)).trans ((k_up_o (by simp)).trans ((k_up_o (by simp)).trans ((k_up_o (by simp)).trans ((k_up_o (by simp)).trans ((k_up_o (by simp)).trans (k_up_s)))))))))))))))))
    | 4, _ => ((k_up_o (by simp)).trans ((k_up_o (by simp)).trans ((k_up_o (by simp)).trans ((k_up_o (by simp)).trans ((k_up_o (by simp)).trans ((k_up_o (by simp)).trans ((k_up_o (by simp)).trans ((k_up_o (by simp)).trans ((k_up_o (by simp)).trans ((k_up_o (by simp)).trans ((k_up_o (by simp)).trans ((k_up_o (by simp)).trans ((k_up_o (by simp)).trans ((k_up_o (by simp)).trans ((k_up_o (by simp)).trans (k_up_s))))))))))))))))
    | 5, _ => ((k_up_o (by simp)).trans ((k_up_o (by simp)).trans ((k_up_o (by simp)).trans ((k_up_o (by simp)).trans ((k_up_o (by simp)).trans ((k_up_o (by simp)).trans ((k_up_o (by simp)).trans ((k_up_o (by simp)).trans ((k_up_o (by simp)).trans ((k_up_o (by simp)).trans ((k_up_o (by simp)).trans ((k_up_o (by simp)).trans ((k_up_o (by simp)).trans ((k_up_o (by simp)).trans (k_up_s)))))))))))))))
    | 6, _ => ((k_up_o (by simp)).trans ((k_up_o (by simp)).trans ((k_up_o (by simp)).trans ((k_up_o (by simp)).trans ((k_up_o (by simp)).trans ((k_up_o (by simp)).trans ((k_up_o (by simp)).trans ((k_up_o (by simp)).trans ((k_up_o (by simp)).trans ((k_up_o (by simp)).trans ((k_up_o (by simp)).trans ((k_up_o (by simp)).trans ((k_up_o (by simp)).trans (k_up_s))))))))))))))
    | 7, _ => ((k_up_o (by simp)).trans ((k_up_o (by simp)).trans ((k_up_o (by simp)).trans ((k_up_o (by simp)).trans ((k_up_o (by simp)).trans ((k_up_o (by simp)).trans ((k_up_o (by simp)).trans ((k_up_o (by simp)).trans ((k_up_o (by simp)).trans ((k_up_o (by simp)).trans ((k_up_o (by simp)).trans ((k_up_o (by simp)).trans (k_up_s)))))))))))))
    | 8, _ => ((k_up_o (by simp)).trans ((k_up_o (by simp)).trans ((k_up_o (by simp)).trans ((k_up_o (by simp)).trans ((k_up_o (by simp)).trans ((k_up_o (by simp)).trans ((k_up_o (by simp)).trans ((k_up_o (by simp)).trans ((k_up_o (by simp)).trans ((k_up_o (by simp)).trans ((k_up_o (by simp)).trans (k_up_s))))))))))))
    | 9, _ => ((k_up_o (by simp)).trans ((k_up_o (by simp)).trans ((k_up_o (by simp)).trans ((k_up_o (by simp)).trans ((k_up_o (by simp)).trans ((k_up_o (by simp)).trans ((k_up_o (by simp)).trans ((k_up_o (by simp)).trans ((k_up_o (by simp)).trans ((k_up_o (by simp)).trans (k_up_s)))))))))))
    | 10, h => absurd h (by decide)
    | 11, _ => ((k_up_o (by simp)).trans ((k_up_o (by simp)).trans ((k_up_o (by simp)).trans ((k_up_o (by simp)).trans ((k_up_o (by simp)).trans ((k_up_o (by simp)).trans ((k_up_o (by simp)).trans ((k_up_o (by simp)).trans ((k_up_o (by simp)).trans (k_up_s))))))))))
    | 12, _ => ((k_up_o (by simp)).trans ((k_up_o (by simp)).trans ((k_up_o (by simp)).trans ((k_up_o (by simp)).trans ((k_up_o (by simp)).trans ((k_up_o (by simp)).trans ((k_up_o (by simp)).trans ((k_up_o (by simp)).trans (k_up_s)))))))))
    | 13, _ => ((k_up_o (by simp)).trans ((k_up_o (by simp)).trans ((k_up_o (by simp)).trans ((k_up_o (by simp)).trans ((k_up_o (by simp)).trans ((k_up_o (by simp)).trans ((k_up_o (by simp)).trans (k_up_s))))))))
    | 14, _ => ((k_up_o (by simp)).trans ((k_up_o (by simp)).trans ((k_up_o (by simp)).trans ((k_up_o (by simp)).trans ((k_up_o (by simp)).trans ((k_up_o (by simp)).trans (k_up_s)))))))
    | 15, _ => ((k_up_o (by simp)).trans ((k_up_o (by simp)).trans ((k_up_o (by simp)).trans ((k_up_o (by simp)).trans ((k_up_o (by simp)).trans (k_up_s))))))
    | 16, _ => ((k_up_o (by simp)).trans ((k_up_o (by simp)).trans ((k_up_o (by simp)).trans ((k_up_o (by simp)).trans (k_up_s)))))
    | 17, _ => ((k_up_o (by simp)).trans ((k_up_o (by simp)).trans ((k_up_o (by simp)).trans (k_up_s))))
    | 18, _ => ((k_up_o (by simp)).trans ((k_up_o (by simp)).trans (k_up_s)))
    | n + 19, h => absurd h (by simp [mo_ar])
theorem x5_ob : x5_C G ct q1 q3 q4 q5 q6 q7 q8 q9 q10 q12 q13 q14 q15 q16 q17 q18 q19 9 0 = some (.inr (6, mo_fs (fun k => x5_A ad q1 q3 q4 q5 q6 q7 q8 q9 q10 q12 q13 q14 q15 q16 q17 q18 q19 9 (k + 1)) sp_0)) := by
  obtain ⟨e1, e3, e4, e5, e6, e7, e8, e9, e10, e12, e13, e14, e15, e16, e17, e18, e19, -⟩ := x5_a (ad := ad) (q1 := q1) (q3 := q3) (q4 := q4) (q5 := q5) (q6 := q6) (q7 := q7) (q8 := q8) (q9 := q9) (q10 := q10) (q12 := q12) (q13 := q13) (q14 := q14) (q15 := q15) (q16 := q16) (q17 := q17) (q18 := q18) (q19 := q19)
  rw [show mo_fs (fun k => x5_A ad q1 q3 q4 q5 q6 q7 q8 q9 q10 q12 q13 q14 q15 q16 q17 q18 q19 9 (k + 1)) sp_0 = [.ref q1, .int 0, .ref q3, .ref q4, .ref q5, .ref q6, .ref q7, .ref q8, .ref q9, .ref q10, .int 0, .ref q12, .ref q13, .ref q14, .ref q15, .ref q16, .ref q17, .ref q18, .ref q19, .int 0] by
    show ([.ref (x5_A ad q1 q3 q4 q5 q6 q7 q8 q9 q10 q12 q13 q14 q15 q16 q17 q18 q19 9 1), .int (sp_0 1 0), .ref (x5_A ad q1 q3 q4 q5 q6 q7 q8 q9 q10 q12 q13 q14 q15 q16 q17 q18 q19 9 3), .ref (x5_A ad q1 q3 q4 q5 q6 q7 q8 q9 q10 q12 q13 q14 q15 q16 q17 q18 q19 9 4), .ref (x5_A ad q1 q3 q4 q5 q6 q7 q8 q9 q10 q12 q13 q14 q15 q16 q17 q18 q19 9 5), .ref (x5_A ad q1 q3 q4 q5 q6 q7 q8 q9 q10 q12 q13 q14 q15 q16 q17 q18 q19 9 6), .ref (x5_A ad q1 q3 q4 q5 q6 q7 q8 q9 q10 q12 q13 q14 q15 q16 q17 q18 q19 9 7), .ref (x5_A ad q1 q3 q4 q5 q6 q7 q8 q9 q10 q12 q13 q14 q15 q16 q17 q18 q19 9 8), .ref (x5_A ad q1 q3 q4 q5 q6 q7 q8 q9 q10 q12 q13 q14 q15 q16 q17 q18 q19 9 9), .ref (x5_A ad q1 q3 q4 q5 q6 q7 q8 q9 q10 q12 q13 q14 q15 q16 q17 q18 q19 9 10), .int (sp_0 10 0), .ref (x5_A ad q1 q3 q4 q5 q6 q7 q8 q9 q10 q12 q13 q14 q15 q16 q17 q18 q19 9 12), .ref (x5_A ad q1 q3 q4 q5 q6 q7 q8 q9 q10 q12 q13 q14 q15 q16 q17 q18 q19 9 13), .ref (x5_A ad q1 q3 q4 q5 q6 q7 q8 q9 q10 q12 q13 q14 q15 q16 q17 q18 q19 9 14), .ref (x5_A ad q1 q3 q4 q5 q6 q7 q8 q9 q10 q12 q13 q14 q15 q16 q17 q18 q19 9 15), .ref (x5_A ad q1 q3 q4 q5 q6 q7 q8 q9 q10 q12 q13 q14 q15 q16 q17 q18 q19 9 16), .ref (x5_A ad q1 q3 q4 q5 q6 q7 q8 q9 q10 q12 q13 q14 q15 q16 q17 q18 q19 9 17), .ref (x5_A ad q1 q3 q4 q5 q6 q7 q8 q9 q10 q12 q13 q14 q15 q16 q17 q18 q19 9 18), .ref (x5_A ad q1 q3 q4 q5 q6 q7 q8 q9 q10 q12 q13 q14 q15 q16 q17 q18 q19 9 19), .int (sp_0 19 0)] : List Value) = [.ref q1, .int 0, .ref q3, .ref q4, .ref q5, .ref q6, .ref q7, .ref q8, .ref q9, .ref q10, .int 0, .ref q12, .ref q13, .ref q14, .ref q15, .ref q16, .ref q17, .ref q18, .ref q19, .int 0]
    rw [e1, e3, e4, e5, e6, e7, e8, e9, e10, e12, e13, e14, e15, e16, e17, e18, e19]
    rfl]
  exact (k_up_o (by simp)).trans k_up_s
theorem x5_cl : ∀ k i, k ≠ 9 → x5_C G ct q1 q3 q4 q5 q6 q7 q8 q9 q10 q12 q13 q14 q15 q16 q17 q18 q19 k i = ct k i ∧ x5_A ad q1 q3 q4 q5 q6 q7 q8 q9 q10 q12 q13 q14 q15 q16 q17 q18 q19 k i = ad k i := fun k i h => by
  have hh : ∀ j, ¬ (k = 9 ∧ i = j) := fun j z => h z.1
  constructor
  · unfold x5_C
    rw [k_up_o (hh _), k_up_o (hh _), k_up_o (hh _), k_up_o (hh _), k_up_o (hh _), k_up_o (hh _), k_up_o (hh _), k_up_o (hh _), k_up_o (hh _), k_up_o (hh _), k_up_o (hh _), k_up_o (hh _), k_up_o (hh _), k_up_o (hh _), k_up_o (hh _), k_up_o (hh _), k_up_o (hh _), k_up_o (hh _), k_up_o (hh _)]
  · unfold x5_A
    rw [k_ad_o (hh _), k_ad_o (hh _), k_ad_o (hh _), k_ad_o (hh _), k_ad_o (hh _), k_ad_o (hh _), k_ad_o (hh _), k_ad_o (hh _), k_ad_o (hh _), k_ad_o (hh _), k_ad_o (hh _), k_ad_o (hh _), k_ad_o (hh _), k_ad_o (hh _), k_ad_o (hh _), k_ad_o (hh _), k_ad_o (hh _)]
theorem x5_H {H : Heap} (h : k_H G (x5_A ad q1 q3 q4 q5 q6 q7 q8 q9 q10 q12 q13 q14 q15 q16 q17 q18 q19) (x5_C G ct q1 q3 q4 q5 q6 q7 q8 q9 q10 q12 q13 q14 q15 q16 q17 q18 q19) H) : mo_H G.1 G.2.1 (x5_A ad q1 q3 q4 q5 q6 q7 q8 q9 q10 q12 q13 q14 q15 q16 q17 q18 q19 9 0) (fun k => x5_A ad q1 q3 q4 q5 q6 q7 q8 q9 q10 q12 q13 q14 q15 q16 q17 q18 q19 9 (k + 1)) sp_0 H := ⟨h 9 0 _ x5_ob, fun k hk => h 9 (k + 1) _ (x5_ar k hk)⟩
theorem x5_D {Z : Nat → Prop} (h : k_N Z (x5_A ad q1 q3 q4 q5 q6 q7 q8 q9 q10 q12 q13 q14 q15 q16 q17 q18 q19) (x5_C G ct q1 q3 q4 q5 q6 q7 q8 q9 q10 q12 q13 q14 q15 q16 q17 q18 q19)) : mo_D (x5_A ad q1 q3 q4 q5 q6 q7 q8 q9 q10 q12 q13 q14 q15 q16 q17 q18 q19 9 0) (fun k => x5_A ad q1 q3 q4 q5 q6 q7 q8 q9 q10 q12 q13 q14 q15 q16 q17 q18 q19 9 (k + 1)) :=
  ⟨fun j k hj hk e => Nat.succ.inj (h.1 9 (j + 1) 9 (k + 1) _ _ (x5_ar j hj) (x5_ar k hk) e).2, fun k hk e => absurd (h.1 9 (k + 1) 9 0 _ _ (x5_ar k hk) (x5_ob (ad := ad)) e).2 (Nat.succ_ne_zero k)⟩
theorem x5_Z {Z : Nat → Prop} (h : k_N Z (x5_A ad q1 q3 q4 q5 q6 q7 q8 q9 q10 q12 q13 q14 q15 q16 q17 q18 q19) (x5_C G ct q1 q3 q4 q5 q6 q7 q8 q9 q10 q12 q13 q14 q15 q16 q17 q18 q19)) : ∀ q, mo_R (x5_A ad q1 q3 q4 q5 q6 q7 q8 q9 q10 q12 q13 q14 q15 q16 q17 q18 q19 9 0) (fun k => x5_A ad q1 q3 q4 q5 q6 q7 q8 q9 q10 q12 q13 q14 q15 q16 q17 q18 q19 9 (k + 1)) q → Z q := fun q hq => by
  rcases hq with rfl | ⟨k, hk, rfl⟩
  · exact h.2 9 0 _ (x5_ob (ad := ad))
  · exact h.2 9 (k + 1) _ (x5_ar k hk)
theorem x5_kH {H : Heap} (h : k_H G (x5_A ad q1 q3 q4 q5 q6 q7 q8 q9 q10 q12 q13 q14 q15 q16 q17 q18 q19) (x5_C G ct q1 q3 q4 q5 q6 q7 q8 q9 q10 q12 q13 q14 q15 q16 q17 q18 q19) H) (h9 : ∀ i, ct 9 i = none) : k_H G ad ct H := fun k i e he => by
  have hk : k ≠ 9 := fun z => by rw [z, h9 i] at he; cases he
  obtain ⟨e1, e2⟩ := x5_cl (G := G) (ad := ad) (ct := ct) (q1 := q1) (q3 := q3) (q4 := q4) (q5 := q5) (q6 := q6) (q7 := q7) (q8 := q8) (q9 := q9) (q10 := q10) (q12 := q12) (q13 := q13) (q14 := q14) (q15 := q15) (q16 := q16) (q17 := q17) (q18 := q18) (q19 := q19) k i hk
  have := h k i e (e1.trans he)
  rw [e2] at this
  exact this
theorem x5_kN {Z : Nat → Prop} (h : k_N Z (x5_A ad q1 q3 q4 q5 q6 q7 q8 q9 q10 q12 q13 q14 q15 q16 q17 q18 q19) (x5_C G ct q1 q3 q4 q5 q6 q7 q8 q9 q10 q12 q13 q14 q15 q16 q17 q18 q19)) (h9 : ∀ i, ct 9 i = none) : k_N (fun q => Z q ∧ ¬ mo_R (x5_A ad q1 q3 q4 q5 q6 q7 q8 q9 q10 q12 q13 q14 q15 q16 q17 q18 q19 9 0) (fun k => x5_A ad q1 q3 q4 q5 q6 q7 q8 q9 q10 q12 q13 q14 q15 q16 q17 q18 q19 9 (k + 1)) q) ad ct := by
  have key : ∀ k i e, ct k i = some e → k ≠ 9 ∧ x5_C G ct q1 q3 q4 q5 q6 q7 q8 q9 q10 q12 q13 q14 q15 q16 q17 q18 q19 k i = some e ∧ x5_A ad q1 q3 q4 q5 q6 q7 q8 q9 q10 q12 q13 q14 q15 q16 q17 q18 q19 k i = ad k i := fun k i e he => by
    have hk : k ≠ 9 := fun z => by rw [z, h9 i] at he; cases he
    obtain ⟨e1, e2⟩ := x5_cl (G := G) (ad := ad) (ct := ct) (q1 := q1) (q3 := q3) (q4 := q4) (q5 := q5) (q6 := q6) (q7 := q7) (q8 := q8) (q9 := q9) (q10 := q10) (q12 := q12) (q13 := q13) (q14 := q14) (q15 := q15) (q16 := q16) (q17 := q17) (q18 := q18) (q19 := q19) k i hk
    exact ⟨hk, e1.trans he, e2⟩
  refine ⟨fun a b c d e e2 h1 h2 h3 => ?_, fun a b e h1 => ?_⟩
  · obtain ⟨-, u1, u2⟩ := key a b e h1
    obtain ⟨-, u3, u4⟩ := key c d e2 h2
    exact h.1 a b c d e e2 u1 u3 (by rw [u2, u4]; exact h3)
  · obtain ⟨hk, u1, u2⟩ := key a b e h1
    have hz := h.2 a b e u1
    rw [u2] at hz
    refine ⟨hz, fun hq => ?_⟩
    rcases hq with e9 | ⟨j, hj, e9⟩
    · exact hk (h.1 a b 9 0 _ _ u1 (x5_ob (ad := ad)) (by rw [u2]; exact e9)).1
    · exact hk (h.1 a b 9 (j + 1) _ _ u1 (x5_ar j hj) (by rw [u2]; exact e9)).1
end
