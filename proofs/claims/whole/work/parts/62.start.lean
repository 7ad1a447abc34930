/-! ===== the start ===== -/
def sp_0 : q_Mem := fun k i => if k = 0 then (if i < 6 then 50 else 0) else if k = 20 then -1 else 0
theorem W_0 : sp_W sp_0 = 0 := by decide
theorem K_0 : sp_K sp_0 = 0 := by decide
theorem Inv_0 : Inv sp_0 := by
  have hW := W_0
  have hK := K_0
  refine ⟨⟨by rw [hW]; rfl, by rw [hW]; decide⟩, ⟨by rw [hK]; rfl, by rw [hK]; decide⟩, fun b hb => ?_, fun j hj => ?_, fun j hj => ?_, fun b hb => ?_, fun b hb => ?_, fun b hb => ?_, fun c hc => ⟨0, 0, by decide, by decide, rfl, rfl⟩, fun t ht => ⟨0, Nat.zero_le _, rfl⟩, fun j hj => ?_, fun b hb => ?_, fun b hb => ⟨rfl, rfl, fun i hi => rfl⟩⟩
  · rw [hW] at hb; exact absurd hb (Nat.not_lt_zero _)
  · rw [hK] at hj; exact absurd hj (Nat.not_lt_zero _)
  · rw [hK] at hj; exact absurd hj (Nat.not_lt_zero _)
  · rw [hW] at hb; exact absurd hb (Nat.not_lt_zero _)
  · rw [hW] at hb; exact absurd hb (Nat.not_lt_zero _)
  · rw [hW] at hb; exact absurd hb (Nat.not_lt_zero _)
  · rw [hK] at hj; exact absurd hj (Nat.not_lt_zero _)
  · rw [hW] at hb; exact absurd hb (Nat.not_lt_zero _)
theorem N_0 (w : Nat) : sp_N sp_0 w := ⟨0, id, id, id, by decide, rfl, fun i hi => absurd hi (Nat.not_lt_zero i), fun c d _ _ => Or.inl rfl, fun i j hi => absurd hi (Nat.not_lt_zero i)⟩
