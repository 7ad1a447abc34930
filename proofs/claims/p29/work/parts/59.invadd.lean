/-- a way more -/
theorem Inv_add {mm : q_Mem} {x y tx ty k e : Nat} {ff : Int32} (hI : Inv mm) (hW : sp_W mm < 40) (hK1 : sp_K mm < 512) (hx : x ≤ 16) (hy : y ≤ 16) (htx : tx ≤ 16) (hty : ty ≤ 16) (hk : k < 4) (he : e < 7) (hf : ff = nI e - 1) :
    IK mm (sp_add0 mm ff (nI x) (nI y) (nI tx) (nI ty) (nI k)) := by
  unfold sp_add0
  generalize h4 : up2 (up2 (up2 (up2 mm 2 (sp_W mm) (nI x)) 3 (sp_W mm) (nI y)) 4 (sp_W mm) (nI tx)) 5 (sp_W mm) (nI ty) = m4
  have r : ∀ j, j ≠ 2 → j ≠ 3 → j ≠ 4 → j ≠ 5 → m4 j = mm j := fun j a b c d => by rw [← h4, up2_k d, up2_k c, up2_k b, up2_k a]
  have q2 : ∀ b, m4 2 b = if b = sp_W mm then nI x else mm 2 b := fun b => by
    rw [← h4, up2_c (by decide), up2_c (by decide), up2_c (by decide)]
    by_cases h : b = sp_W mm
    · subst h; rw [up2_s, if_pos rfl]
    · rw [up2_i h, if_neg h]
  have q3 : ∀ b, m4 3 b = if b = sp_W mm then nI y else mm 3 b := fun b => by
    rw [← h4, up2_c (by decide), up2_c (by decide)]
    by_cases h : b = sp_W mm
    · subst h; rw [up2_s, if_pos rfl]
    · rw [up2_i h, if_neg h, up2_c (by decide)]
  have q4 : ∀ b, m4 4 b = if b = sp_W mm then nI tx else mm 4 b := fun b => by
    rw [← h4, up2_c (by decide)]
    by_cases h : b = sp_W mm
    · subst h; rw [up2_s, if_pos rfl]
    · rw [up2_i h, if_neg h, up2_c (by decide), up2_c (by decide)]
  have q5 : ∀ b, m4 5 b = if b = sp_W mm then nI ty else mm 5 b := fun b => by
    rw [← h4]
    by_cases h : b = sp_W mm
    · subst h; rw [up2_s, if_pos rfl]
    · rw [up2_i h, if_neg h, up2_c (by decide), up2_c (by decide), up2_c (by decide)]
  have eW4 : sp_W m4 = sp_W mm := by unfold sp_W; rw [r 1 (by decide) (by decide) (by decide) (by decide)]
  have eK4 : sp_K m4 = sp_K mm := by unfold sp_K; rw [r 10 (by decide) (by decide) (by decide) (by decide)]
  have eL4 : ∀ b, sp_L m4 b = sp_L mm b := fun b => by unfold sp_L; rw [r 8 (by decide) (by decide) (by decide) (by decide)]
  have eA4 : ∀ b, sp_A m4 b = sp_A mm b := fun b => by unfold sp_A; rw [r 12 (by decide) (by decide) (by decide) (by decide)]
  obtain ⟨z7, z6, z20⟩ := hI.2.2.2.2.2.2.2.2.2.2.2.2 (sp_W mm) (Nat.le_refl _)
  have K0 : sp_make m4 (sp_W mm) (nI k) 0 ff 10 0 = nI (sp_K mm + 1) := by rw [mk_10, r 10 (by decide) (by decide) (by decide) (by decide), hI.K, nI_1]
  generalize hM : up2 (sp_make m4 (sp_W mm) (nI k) 0 ff) 1 0 (mm 1 0 + 1) = M
  have s : ∀ j, j ≠ 1 → M j = sp_make m4 (sp_W mm) (nI k) 0 ff j := fun j h => by rw [← hM, up2_k h]
  have M1 : M 1 0 = nI (sp_W mm + 1) := by rw [← hM, up2_s, hI.W, nI_1]
  have eW : sp_W M = sp_W mm + 1 := by unfold sp_W; rw [M1, nI_clamp (by omega)]; rfl
  have eK : sp_K M = sp_K mm + 1 := by unfold sp_K; rw [s 10 (by decide), K0, nI_clamp (by omega)]; rfl
  have M11 : ∀ j, M 11 j = if j = sp_K mm then nI (1000 * sp_W mm + 100 * k + 10 * 0 + e) else mm 11 j := fun j => by
    rw [s 11 (by decide), mk_11, eK4, r 11 (by decide) (by decide) (by decide) (by decide), show (0 : Int32) = nI 0 from rfl, mk_co (d := 0) (by omega) hk (by decide) he hf]
  have M12 : ∀ j, M 12 j = if j = sp_K mm then -1 else mm 12 j := fun j => by
    rw [s 12 (by decide), mk_12, eK4, r 12 (by decide) (by decide) (by decide) (by decide), r 7 (by decide) (by decide) (by decide) (by decide), if_pos z7]
  have M21 : ∀ j, M 21 j = if j = sp_K mm then 0 else mm 21 j := fun j => by
    rw [s 21 (by decide), mk_21, eK4, r 21 (by decide) (by decide) (by decide) (by decide), r 7 (by decide) (by decide) (by decide) (by decide), if_pos z7]
  have M8 : ∀ b, M 8 b = if b = sp_W mm then nI (sp_K mm) else mm 8 b := fun b => by
    rw [s 8 (by decide), mk_8, r 8 (by decide) (by decide) (by decide) (by decide), r 10 (by decide) (by decide) (by decide) (by decide), hI.K]
  have M7 : ∀ b, M 7 b = if b = sp_W mm then nI 1 else mm 7 b := fun b => by
    rw [s 7 (by decide), mk_7, r 7 (by decide) (by decide) (by decide) (by decide), z7]; rfl
  have M9 : ∀ b, M 9 b = if b = sp_W mm then -1 else mm 9 b := fun b => by
    rw [s 9 (by decide), mk_9, r 9 (by decide) (by decide) (by decide) (by decide)]
  have Mo : ∀ j, j ≠ 1 → (j ≠ 11 ∧ j ≠ 12 ∧ j ≠ 8 ∧ j ≠ 7 ∧ j ≠ 9 ∧ j ≠ 10 ∧ j ≠ 21) → M j = m4 j := fun j h1 h2 => by rw [s j h1, mk_o h2]
  have ML : ∀ b, sp_L M b = if b = sp_W mm then sp_K mm else sp_L mm b := fun b => by
    unfold sp_L; rw [M8]
    by_cases h : b = sp_W mm
    · rw [if_pos h, if_pos h, nI_clamp (by omega)]
    · rw [if_neg h, if_neg h]
  have MA : ∀ j, j ≠ sp_K mm → sp_A M j = sp_A mm j := fun j h => by unfold sp_A; rw [M12, if_neg h]
  have cw : nI (1000 * sp_W mm + 100 * k + 10 * 0 + e) / 1000 = nI (sp_W mm) := by rw [show 1000 * sp_W mm + 100 * k + 10 * 0 + e = 1000 * sp_W mm + (100 * k + e) by omega]; exact nI_1000 (by omega) (by omega)
  have vW : ∀ j, j < sp_K mm → ∃ b, b < sp_W mm ∧ mm 11 j / 1000 = nI b := fun j hj => by
    obtain ⟨b, k2, d2, e2, h1, h2, h3, h5, h6⟩ := hI.V hj
    exact ⟨b, h1, by rw [h6, show 1000 * b + 100 * k2 + 10 * d2 + e2 = 1000 * b + (100 * k2 + 10 * d2 + e2) by omega]; exact nI_1000 (by omega) (by omega)⟩
  refine ⟨⟨?_, ?_, fun b hb => ?_, fun j hj => ?_, fun j hj => ?_, fun b hb => ?_, fun b hb => ?_, fun b hb => ?_, fun c hc => ?_, fun t ht => ?_, fun j hj b hb hjb => ?_, fun b hb => ?_, fun b hb => ?_⟩, Nat.le_of_eq eK⟩
  · exact ⟨by rw [eW]; exact M1, by rw [eW]; omega⟩
  · exact ⟨by rw [eK, s 10 (by decide)]; exact K0, by rw [eK]; omega⟩
  · rw [eW] at hb
    rw [eK, M8, ML]
    by_cases h : b = sp_W mm
    · rw [if_pos h, if_pos h]
      exact ⟨rfl, by omega, k, 0, e, hk, by decide, he, by rw [M11, if_pos rfl, h]⟩
    · rw [if_neg h, if_neg h]
      have hb2 : b < sp_W mm := by omega
      obtain ⟨k2, d2, e2, h1, h2, h3, h5⟩ := iv_D hI hb2
      have := hI.LK hb2
      exact ⟨hI.L hb2, by omega, k2, d2, e2, h1, h2, h3, by rw [M11, if_neg (by omega)]; exact h5⟩
  · rw [eK] at hj
    rw [eW, M11]
    by_cases h : j = sp_K mm
    · rw [if_pos h]; exact ⟨sp_W mm, k, 0, e, by omega, hk, by decide, he, rfl⟩
    · rw [if_neg h]
      obtain ⟨b, k2, d2, e2, h1, h2⟩ := hI.V (show j < sp_K mm by omega)
      exact ⟨b, k2, d2, e2, by omega, h2⟩
  · rw [eK] at hj
    by_cases h : j = sp_K mm
    · exact Or.inl ⟨by rw [M12, if_pos h], by rw [M21, if_pos h]; rfl⟩
    · have hj2 : j < sp_K mm := by omega
      rw [M12, if_neg h, M21, if_neg h, MA j h, M11 j, if_neg h]
      rcases hI.A hj2 with ⟨a1, a2⟩ | ⟨a1, a2, a3, m, a4, a5, a6⟩
      · exact Or.inl ⟨a1, a2⟩
      · exact Or.inr ⟨a1, a2, by rw [M11, if_neg (by omega)]; exact a3, m, a4, by rw [M21, if_neg (by omega)]; exact a5, a6⟩
  · rw [eW] at hb
    rw [eK, ML, M7]
    by_cases h : b = sp_W mm
    · rw [if_pos h, if_pos h]
      exact ⟨0, by omega, by rw [M21, if_pos rfl]; rfl, rfl⟩
    · rw [if_neg h, if_neg h]
      have hb2 : b < sp_W mm := by omega
      obtain ⟨m, h1, h2, h3⟩ := hI.N hb2
      have := hI.LK hb2
      exact ⟨m, by omega, by rw [M21, if_neg (by omega)]; exact h2, h3⟩
  · rw [eW] at hb
    rw [M9]
    by_cases h : b = sp_W mm
    · rw [if_pos h]; exact Or.inl rfl
    · rw [if_neg h]; exact hI.Q (by omega)
  · rw [eW] at hb
    rw [Mo 2 (by decide) (by decide), Mo 3 (by decide) (by decide), Mo 4 (by decide) (by decide), Mo 5 (by decide) (by decide), q2, q3, q4, q5]
    by_cases h : b = sp_W mm
    · rw [if_pos h, if_pos h, if_pos h, if_pos h]; exact ⟨x, y, tx, ty, hx, hy, htx, hty, rfl, rfl, rfl, rfl⟩
    · rw [if_neg h, if_neg h, if_neg h, if_neg h]; exact iv_xy hI (by omega)
  · rw [Mo 15 (by decide) (by decide), Mo 16 (by decide) (by decide), r 15 (by decide) (by decide) (by decide) (by decide), r 16 (by decide) (by decide) (by decide) (by decide)]
    exact hI.2.2.2.2.2.2.2.2.1 c hc
  · rw [Mo 13 (by decide) (by decide), r 13 (by decide) (by decide) (by decide) (by decide), eK]
    obtain ⟨m, h1, h2⟩ := hI.2.2.2.2.2.2.2.2.2.1 t ht
    exact ⟨m, by omega, h2⟩
  · rw [eK] at hj
    rw [eW] at hb
    rw [eK, ML]
    rw [M11] at hjb
    by_cases h : j = sp_K mm
    · rw [if_pos h, cw] at hjb
      have : b = sp_W mm := (nI_inj (by omega) (by omega) hjb).symm
      exact Or.inl (by rw [if_pos this]; exact h)
    · rw [if_neg h] at hjb
      have hj2 : j < sp_K mm := by omega
      obtain ⟨b2, hb2, hjb2⟩ := vW j hj2
      have hbb : b = b2 := nI_inj (by omega) (by omega) (hjb.symm.trans hjb2)
      rcases hI.2.2.2.2.2.2.2.2.2.2.1 j hj2 b (by omega) hjb with h1 | ⟨i, h1, h2, h3, h5⟩
      · exact Or.inl (by rw [if_neg (by omega)]; exact h1)
      · exact Or.inr ⟨i, by omega, h2, by rw [M11, if_neg (by omega)]; exact h3, by rw [M12, if_neg (by omega)]; exact h5⟩
  · rw [eW] at hb
    rw [Mo 20 (by decide) (by decide), r 20 (by decide) (by decide) (by decide) (by decide)]
    intro c d hc hd
    by_cases h : b = sp_W mm
    · exact Or.inl (by rw [h]; exact z20 _ (by omega))
    · exact hI.2.2.2.2.2.2.2.2.2.2.2.1 b (by omega) c d hc hd
  · rw [eW] at hb
    obtain ⟨h1, h2, h3⟩ := hI.2.2.2.2.2.2.2.2.2.2.2.2 b (by omega)
    rw [M7, if_neg (by omega), Mo 6 (by decide) (by decide), r 6 (by decide) (by decide) (by decide) (by decide), Mo 20 (by decide) (by decide), r 20 (by decide) (by decide) (by decide) (by decide)]
    exact ⟨h1, h2, h3⟩
