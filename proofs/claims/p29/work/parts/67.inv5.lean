/-! ===== addWay keeps the invariant, and the lists of sightings ===== -/
section
variable {mm : q_Mem}
theorem IK_add {f x y n k : Int32} (hI : Inv mm) (hK1 : sp_K mm < 512) : IK mm (sp_add mm f x y n k).2 := by
  unfold sp_add
  by_cases hM : sp_may f x y n
  · rw [if_pos hM]
    by_cases hL : sp_len n ∧ (0 ≤ k ∧ k ≤ 3)
    · rw [if_pos hL]
      by_cases h40 : mm 1 0 = 40
      · rw [if_pos h40]; exact IK_19 hI
      · rw [if_neg h40]
        show IK mm (sp_add0 (up2 mm 19 0 0) f x y (sp_tx x n) (sp_ty y n) k)
        have hT := hM.2.2 hL.1
        obtain ⟨fi, hf, rfl⟩ := nt_ed hM.1
        obtain ⟨xi, hx, rfl⟩ := nt_le (n := 16) (by decide) hM.2.1.1
        obtain ⟨yi, hy, rfl⟩ := nt_le (n := 16) (by decide) hM.2.1.2
        obtain ⟨ki, hk, rfl⟩ := nt_le (n := 3) (by decide) hL.2
        obtain ⟨ti, ht, e1⟩ := nt_le (n := 16) (by decide) hT.1
        obtain ⟨ui, hu, e2⟩ := nt_le (n := 16) (by decide) hT.2
        rw [e1, e2, add_19]
        have hW : sp_W mm < 40 := by
          have h1 := hI.W40
          have h2 : ¬ sp_W mm = 40 := fun q => h40 (by rw [hI.W, q]; rfl)
          omega
        exact IK_s (Inv_add (e := fi + 1) hI hW hK1 hx hy ht hu (by omega) (by omega) (nI_pred fi).symm)
    · rw [if_neg hL]; exact IK_19 hI
  · rw [if_neg hM]; exact IK_19 hI
theorem NS.add {f x y n k : Int32} : NS mm (sp_add mm f x y n k).2 := by
  unfold sp_add
  split
  · split
    · split
      · exact NS.s
      · unfold sp_add0
        exact ((((NS.s.up (by decide)).up (by decide)).up (by decide)).up (by decide)).mk.up (by decide)
    · exact NS.s
  · exact NS.s
end
