theorem nI_1000 {w r : Nat} (hw : w < 40) (hr : r < 1000) : nI (1000 * w + r) / 1000 = nI w := by
  rw [vw_nI (by omega)]; congr 1; omega
/-- a version more: the invariant is kept, there is one change more -/
theorem Inv_make {mm : q_Mem} {w k d e : Nat} {ff : Int32} (hI : Inv mm) (hw : w < sp_W mm) (hK1 : sp_K mm < 512) (hk : k < 4) (hd : d < 3) (he : e < 7) (hf : ff = nI e - 1) : Inv (sp_make mm w (nI k) (nI d) ff) ∧ sp_K (sp_make mm w (nI k) (nI d) ff) = sp_K mm + 1 := by
  have hW := hI.W40
  have hLK := hI.LK hw
  have eK : sp_K (sp_make mm w (nI k) (nI d) ff) = sp_K mm + 1 := mk_K hI
  have eW : sp_W (sp_make mm w (nI k) (nI d) ff) = sp_W mm := mk_W
  obtain ⟨n, hn, hn1, hn7⟩ := hI.N hw
  have h70 : ¬ mm 7 w = 0 := by rw [hn7]; exact nI_ne0 (by omega) (by omega)
  have c11 : sp_make mm w (nI k) (nI d) ff 11 (sp_K mm) = nI (1000 * w + 100 * k + 10 * d + e) := by rw [mk_11, if_pos rfl]; exact mk_co (by omega) hk hd he hf
  have o11 : ∀ j, j ≠ sp_K mm → sp_make mm w (nI k) (nI d) ff 11 j = mm 11 j := fun j hj => by rw [mk_11, if_neg hj]
  have o12 : ∀ j, j ≠ sp_K mm → sp_make mm w (nI k) (nI d) ff 12 j = mm 12 j := fun j hj => by rw [mk_12, if_neg hj]
  have o21 : ∀ j, j ≠ sp_K mm → sp_make mm w (nI k) (nI d) ff 21 j = mm 21 j := fun j hj => by rw [mk_21, if_neg hj]
  have cw : nI (1000 * w + 100 * k + 10 * d + e) / 1000 = nI w := by rw [show 1000 * w + 100 * k + 10 * d + e = 1000 * w + (100 * k + 10 * d + e) by omega]; exact nI_1000 (by omega) (by omega)
  have c12 : sp_make mm w (nI k) (nI d) ff 12 (sp_K mm) = nI (sp_L mm w) := by rw [mk_12, if_pos rfl, if_neg h70, hI.L hw]
  have c21 : sp_make mm w (nI k) (nI d) ff 21 (sp_K mm) = nI (n + 1) := by rw [mk_21, if_pos rfl, if_neg h70, hn1, nI_1]
  have wL : ∀ b, b < sp_W mm → mm 11 (sp_L mm b) / 1000 = nI b := fun b hb => by
    obtain ⟨k2, d2, e2, h1, h2, h3, h4⟩ := iv_D hI hb
    rw [h4, show 1000 * b + 100 * k2 + 10 * d2 + e2 = 1000 * b + (100 * k2 + 10 * d2 + e2) by omega]; exact nI_1000 (by omega) (by omega)
  refine ⟨⟨?_, ?_, fun b hb => ?_, fun j hj => ?_, fun j hj => ?_, fun b hb => ?_, fun b hb => ?_, fun b hb => ?_, fun c hc => ?_, fun t ht => ?_, fun j hj b hb hjb => ?_, fun b hb => ?_, fun b hb => ?_⟩, eK⟩
  · exact ⟨by rw [eW, mk_o (k := 1) (by decide)]; exact hI.W, by rw [eW]; exact hW⟩
  · exact ⟨by rw [eK, mk_10, hI.K, nI_1], by rw [eK]; omega⟩
  · rw [eW] at hb
    rw [eK, mk_8, mk_L]
    by_cases h : b = w
    · subst h
      rw [if_pos rfl, if_pos rfl]
      exact ⟨hI.K, by omega, k, d, e, hk, hd, he, c11⟩
    · rw [if_neg h, if_neg h]
      obtain ⟨k2, d2, e2, h1, h2, h3, h4⟩ := iv_D hI hb
      have := hI.LK hb
      exact ⟨hI.L hb, by omega, k2, d2, e2, h1, h2, h3, by rw [o11 _ (by omega)]; exact h4⟩
  · rw [eK] at hj
    rw [eW]
    by_cases h : j = sp_K mm
    · subst h; rw [c11]; exact ⟨w, k, d, e, hw, hk, hd, he, rfl⟩
    · rw [o11 j h]; exact hI.V (by omega)
  · rw [eK] at hj
    by_cases h : j = sp_K mm
    · subst h
      refine Or.inr ⟨?_, ?_, ?_, n, hn, ?_, ?_⟩
      · rw [c12, mk_AK h70]
      · rw [mk_AK h70]; exact hLK
      · rw [mk_AK h70, o11 _ (by omega), c11, cw]; exact wL w hw
      · rw [mk_AK h70, o21 _ (by omega)]; exact hn1
      · exact c21
    · have hj2 : j < sp_K mm := by omega
      rw [o12 j h, o21 j h, mk_A h, o11 j h]
      rcases hI.A hj2 with ⟨a1, a2⟩ | ⟨a1, a2, a3, m, a4, a5, a6⟩
      · exact Or.inl ⟨a1, a2⟩
      · exact Or.inr ⟨a1, a2, by rw [o11 _ (by omega)]; exact a3, m, a4, by rw [o21 _ (by omega)]; exact a5, a6⟩
  · rw [eW] at hb
    rw [eK, mk_L, mk_7]
    by_cases h : b = w
    · subst h
      rw [if_pos rfl, if_pos rfl]
      exact ⟨n + 1, by omega, c21, by rw [hn7, nI_1]⟩
    · rw [if_neg h, if_neg h]
      obtain ⟨m, h1, h2, h3⟩ := hI.N hb
      have := hI.LK hb
      exact ⟨m, by omega, by rw [o21 _ (by omega)]; exact h2, h3⟩
  · rw [eW] at hb
    rw [mk_9]
    by_cases h : b = w
    · rw [if_pos h]; exact Or.inl rfl
    · rw [if_neg h]; exact hI.Q hb
  · rw [eW] at hb
    rw [mk_o (k := 2) (by decide), mk_o (k := 3) (by decide), mk_o (k := 4) (by decide), mk_o (k := 5) (by decide)]
    exact iv_xy hI hb
  · rw [mk_o (k := 15) (by decide), mk_o (k := 16) (by decide)]
    exact hI.2.2.2.2.2.2.2.2.1 c hc
  · rw [mk_o (k := 13) (by decide), eK]
    obtain ⟨m, h1, h2⟩ := hI.2.2.2.2.2.2.2.2.2.1 t ht
    exact ⟨m, by omega, h2⟩
  · rw [eK] at hj
    rw [eW] at hb
    rw [eK, mk_L]
    by_cases h : j = sp_K mm
    · subst h
      rw [c11, cw] at hjb
      have : b = w := (nI_inj (by omega) (by omega) hjb).symm
      exact Or.inl (by rw [if_pos this])
    · rw [o11 j h] at hjb
      rcases hI.2.2.2.2.2.2.2.2.2.2.1 j (by omega) b hb hjb with h1 | ⟨i, h1, h2, h3, h4⟩
      · by_cases hbw : b = w
        · subst hbw
          exact Or.inr ⟨sp_K mm, by omega, by omega, by rw [c11, cw], by rw [c12, h1]⟩
        · exact Or.inl (by rw [if_neg hbw]; exact h1)
      · exact Or.inr ⟨i, by omega, h2, by rw [o11 i (by omega)]; exact h3, by rw [o12 i (by omega)]; exact h4⟩
  · rw [eW] at hb
    rw [mk_o (k := 20) (by decide)]
    exact hI.2.2.2.2.2.2.2.2.2.2.2.1 b hb
  · rw [eW] at hb
    obtain ⟨h1, h2, h3⟩ := hI.2.2.2.2.2.2.2.2.2.2.2.2 b hb
    rw [mk_o (k := 6) (by decide), mk_o (k := 20) (by decide), mk_7, if_neg (by omega)]
    exact ⟨h1, h2, h3⟩
theorem Inv_forg {mm : q_Mem} {w : Nat} (hI : Inv mm) : Inv (sp_forg mm w) := by
  obtain ⟨i1, i2, i3, i4, i5, i6, i7, i8, i9, i10, i11, i12, i13⟩ := hI
  refine ⟨i1, i2, i3, i4, i5, i6, i7, i8, i9, i10, i11, fun v hv c d hc hd => ?_, fun v hv => ?_⟩
  · by_cases z : v = w
    · exact Or.inl (by rw [fg_20 (by omega), if_pos z])
    · rw [fg_20 (by omega), if_neg z]; exact i12 v hv c d hc hd
  · obtain ⟨a1, a2, a3⟩ := i13 v hv
    refine ⟨a1, a2, fun i hi => ?_⟩
    rw [fg_20 hi]
    by_cases z : v = w
    · rw [if_pos z]
    · rw [if_neg z]; exact a3 i hi
