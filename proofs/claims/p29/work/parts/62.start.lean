/-! ===== the start ===== -/
def sp_0 : q_Mem := fun k i => if k = 0 then (if i < 6 then 50 else 0) else if k = 20 then -1 else 0
theorem W_0 : sp_W sp_0 = 0 := by decide
theorem K_0 : sp_K sp_0 = 0 := by decide
theorem Inv_0 : Inv sp_0 := by
  have hW := W_0
  have hK := K_0
  refine ⟨⟨by rw [hW]; rfl, by rw [hW]; decide⟩, ⟨by rw [hK]; rfl, by rw [hK]; decide⟩, fun b hb => ?_, fun j hj => ?_, fun j hj => ?_, fun b hb => ?_, fun b hb => ?_, fun b hb => ?_, fun c hc => ⟨0, 0, by decide, by decide, rfl, rfl⟩, fun t ht => ⟨0, Nat.zero_le _, rfl⟩, fun j hj => ?_, fun b hb => ?_, fun b hb => ⟨rfl, rfl, fun i hi => rfl⟩⟩
  · rw [hW] at hb; exact absurd hb (Nat.not_lt_zero _)
  · rw [hK] at hj; exact absurd hj (Nat.not_lt_zero _)
  · rw [hK] at hj; exact absurd hj (Nat.not_lt_zero _)
  · rw [hW] at hb; exact absurd hb (Nat.not_lt_zero _)
  · rw [hW] at hb; exact absurd hb (Nat.not_lt_zero _)
  · rw [hW] at hb; exact absurd hb (Nat.not_lt_zero _)
  · rw [hK] at hj; exact absurd hj (Nat.not_lt_zero _)
  · rw [hW] at hb; exact absurd hb (Nat.not_lt_zero _)
theorem N_0 (w : Nat) : sp_N sp_0 w := ⟨0, id, id, id, by decide, rfl, fun i hi => absurd hi (Nat.not_lt_zero i), fun c d _ _ => Or.inl rfl, fun i j hi => absurd hi (Nat.not_lt_zero i)⟩
/-- what the map's constructor leaves, as numbers -/
theorem kstart {G : k_G} {ad : k_Ad} {e0 : va_E} :
    k_up (k_up (k_up (k_up (k_up (k_up (k_up (k_up (fun _ _ => none) 0 0 e0) 0 1 (.inr (0, [.int 0, .ref G.2.2.2.2.1, .int 0]))) 0 2 (.inl (G.2.1, 6, .inl (fun _ => 0)))) 0 3 (.inl (G.2.1, 3, .inl (fun _ => 0)))) 0 4 (.inl (G.2.1, 3, .inl (fun _ => 0)))) 0 5 (.inl (G.2.2.1, 341, .inr (.inr (.inr (.inr (fun _ => none))))))) 0 0 (.inr (5, [.ref (ad 0 1), .ref (ad 0 2), .ref (ad 0 3), .ref (ad 0 4), .ref (ad 0 5), .int 0]))) 0 2 (.inl (G.2.1, 6, .inl (fun j => if j < 6 then 50 else 0))) = k_C G ad sp_0 := by
  have hW := W_0
  have hK := K_0
  funext a b
  match a with
  | 0 =>
    match b with
    | 0 => rw [k_up_o (by simp), k_up_s]; rfl
    | 1 =>
      rw [k_up_o (by simp), k_up_o (by simp), k_up_o (by simp), k_up_o (by simp), k_up_o (by simp), k_up_o (by simp), k_up_s]
      show _ = (some (.inr (0, k_li G ad sp_0)) : Option va_E)
      unfold k_li
      rw [if_pos hW]
      rfl
    | 2 => rw [k_up_s]; rfl
    | 3 => rw [k_up_o (by simp), k_up_o (by simp), k_up_o (by simp), k_up_o (by simp), k_up_s]; rfl
    | 4 => rw [k_up_o (by simp), k_up_o (by simp), k_up_o (by simp), k_up_s]; rfl
    | 5 =>
      rw [k_up_o (by simp), k_up_o (by simp), k_up_s]
      show _ = (some (.inl (G.2.2.1, 341, .inr (.inr (.inr (.inr (k_tr ad sp_0)))))) : Option va_E)
      have e : k_tr ad sp_0 = fun _ => none := by
        funext t
        unfold k_tr
        exact if_pos rfl
      rw [e]
    | 6 =>
      rw [k_up_o (by simp), k_up_o (by simp), k_up_o (by simp), k_up_o (by simp), k_up_o (by simp), k_up_o (by simp), k_up_o (by simp), k_up_o (by simp)]
      show none = (if sp_W sp_0 = 0 then none else some (.inl (G.2.2.2.1, k_cp (sp_W sp_0), .inr (.inr (.inr (.inr (k_er ad sp_0)))))) : Option va_E)
      rw [if_pos hW]
    | n + 7 =>
      rw [k_up_o (by simp), k_up_o (by simp), k_up_o (by simp), k_up_o (by simp), k_up_o (by simp), k_up_o (by simp), k_up_o (by simp), k_up_o (by simp)]
      show (none : Option va_E) = none
      rfl
  | 1 =>
    rw [k_up_o (by simp), k_up_o (by simp), k_up_o (by simp), k_up_o (by simp), k_up_o (by simp), k_up_o (by simp), k_up_o (by simp), k_up_o (by simp)]
    show none = (if b < sp_W sp_0 then some (.inr (4, k_wy ad sp_0 b)) else none : Option va_E)
    rw [hW, if_neg (Nat.not_lt_zero b)]
  | 2 =>
    rw [k_up_o (by simp), k_up_o (by simp), k_up_o (by simp), k_up_o (by simp), k_up_o (by simp), k_up_o (by simp), k_up_o (by simp), k_up_o (by simp)]
    show none = (if b < sp_W sp_0 then some (.inl (G.2.1, 9, .inl (k_db sp_0 b))) else none : Option va_E)
    rw [hW, if_neg (Nat.not_lt_zero b)]
  | 3 =>
    rw [k_up_o (by simp), k_up_o (by simp), k_up_o (by simp), k_up_o (by simp), k_up_o (by simp), k_up_o (by simp), k_up_o (by simp), k_up_o (by simp)]
    show none = (if b < sp_K sp_0 then some (.inr (3, k_vs ad sp_0 b)) else none : Option va_E)
    rw [hK, if_neg (Nat.not_lt_zero b)]
  | 4 =>
    rw [k_up_o (by simp), k_up_o (by simp), k_up_o (by simp), k_up_o (by simp), k_up_o (by simp), k_up_o (by simp), k_up_o (by simp), k_up_o (by simp)]
    show none = (if b < sp_K sp_0 then some (.inr (1, k_ch (sp_0 11 b))) else none : Option va_E)
    rw [hK, if_neg (Nat.not_lt_zero b)]
  | 5 =>
    rw [k_up_o (by simp), k_up_o (by simp), k_up_o (by simp), k_up_o (by simp), k_up_o (by simp), k_up_o (by simp), k_up_o (by simp), k_up_o (by simp)]
    show none = (if b < sp_W sp_0 ∧ ¬ sp_0 9 b = -1 then some (.inr (1, k_wc (sp_0 9 b))) else none : Option va_E)
    rw [if_neg (fun z => by rw [hW] at z; exact absurd z.1 (Nat.not_lt_zero b))]
  | 6 =>
    rw [k_up_o (by simp), k_up_o (by simp), k_up_o (by simp), k_up_o (by simp), k_up_o (by simp), k_up_o (by simp), k_up_o (by simp), k_up_o (by simp)]
    show none = (if b < 341 ∧ ¬ sp_0 13 b = 0 then some (.inr (2, k_tl sp_0 b)) else none : Option va_E)
    rw [if_neg (fun z => z.2 rfl)]
  | n + 7 =>
    rw [k_up_o (by simp), k_up_o (by simp), k_up_o (by simp), k_up_o (by simp), k_up_o (by simp), k_up_o (by simp), k_up_o (by simp), k_up_o (by simp)]
    show (none : Option va_E) = none
    rfl
