/-! ===== judgements and reverts, in numbers ===== -/
section
variable {mm : q_Mem} {w f g k d : Nat}
theorem jq_parts (h : LI mm) (hw : w < sp_W mm) (hq : ¬ mm 9 w = -1) : ∃ k d g : Nat, k < 4 ∧ d < 3 ∧ g < 6 ∧ mm 9 w = nI (100 * k + 10 * d + (g + 1)) ∧ mm 9 w / 100 = nI k ∧ sp_vd (mm 9 w) = nI d ∧ sp_ve (mm 9 w) = nI g := by
  rcases h.1.Q hw with q | ⟨k, d, e, hk, hd, he0, he, q⟩
  · exact absurd q hq
  · obtain ⟨g, rfl⟩ : ∃ g, e = g + 1 := ⟨e - 1, by omega⟩
    refine ⟨k, d, g, hk, hd, by omega, q, ?_, ?_, ?_⟩
    · rw [q, show (100 : Int32) = nI 100 from rfl, pk_div (by omega) (by decide) (by decide)]; congr 1; omega
    · rw [q, vd_nI (by omega)]; congr 1; omega
    · rw [q, ve_nI (by omega), show (100 * k + 10 * d + (g + 1)) % 10 = g + 1 by omega]; exact nI_pred g
theorem jd_no (h : LI mm) (hw : w < sp_W mm) (hf : f < 6) {ref : Prop} [Decidable ref] (hC : ¬ (¬ mm 9 w = -1 ∧ ¬ sp_ve (mm 9 w) = nI f ∧ mm 6 w ≤ mm 0 f)) : sp_judge mm (nI f) (nI w) ref = (0, up2 mm 19 0 2) := by
  unfold sp_judge
  rw [if_pos ⟨ed_f hf, h.wy hw⟩, h.cl hw, nt_c (by omega), sp_judge_no hC, up2_twice]
theorem jd_ref (h : LI mm) (hw : w < sp_W mm) (hf : f < 6) (hg : g < 6) {ref : Prop} [Decidable ref] (hC : ¬ mm 9 w = -1 ∧ ¬ sp_ve (mm 9 w) = nI f ∧ mm 6 w ≤ mm 0 f) (hr : ref) (e : sp_ve (mm 9 w) = nI g) : sp_judge mm (nI f) (nI w) ref = (sp_tru (up2 mm 9 w (-1)) g (-5) 0 g, sp_tru (up2 mm 9 w (-1)) g (-5)) := by
  unfold sp_judge
  rw [if_pos ⟨ed_f hf, h.wy hw⟩, h.cl hw, nt_c (by omega), sp_judge_ref hC hr (g := g) (by rw [e]; exact nt_c (by omega)), h.z]
theorem jd_con (h : LI mm) (hw : w < sp_W mm) (hf : f < 6) (hg : g < 6) {ref : Prop} [Decidable ref] (hC : ¬ mm 9 w = -1 ∧ ¬ sp_ve (mm 9 w) = nI f ∧ mm 6 w ≤ mm 0 f) (hr : ¬ ref) (e1 : mm 9 w / 100 = nI k) (e2 : sp_vd (mm 9 w) = nI d) (e : sp_ve (mm 9 w) = nI g) : sp_judge mm (nI f) (nI w) ref = (sp_tru (sp_make mm w (nI k) (nI d) (nI g)) g 5 0 g, sp_tru (sp_make mm w (nI k) (nI d) (nI g)) g 5) := by
  unfold sp_judge
  rw [if_pos ⟨ed_f hf, h.wy hw⟩, h.cl hw, nt_c (by omega), sp_judge_con hC hr (g := g) (by rw [e]; exact nt_c (by omega)), h.z, e1, e2, e]
theorem lim_5 {t : Nat} (ht : t ≤ 100) : sp_lim (nI t + -5) = if nI t < 5 then 0 else nI t - 5 := lim_m (n := 5) ht (by decide)
theorem lim_10 {t : Nat} (ht : t ≤ 100) : sp_lim (nI t + -10) = if nI t < 10 then 0 else nI t - 10 := lim_m (n := 10) ht (by decide)
/-- a latest version's author: none, or an editor -/
theorem be_or (h : LI mm) (hw : w < sp_W mm) : be mm w = -1 ∨ ∃ g, g < 6 ∧ be mm w = nI g := by
  obtain ⟨k, d, e, hk, hd, he, -, -, -, e3⟩ := v_cod h hw
  rcases Nat.eq_zero_or_pos e with q | q
  · subst q; exact Or.inl (e3.trans (by decide))
  · exact Or.inr ⟨e - 1, by omega, e3.trans (nI_m1 q)⟩
theorem rv_no (h : LI mm) (hw : w < sp_W mm) (hf : f < 6) (hC : ¬ (¬ mm 7 w < 2 ∧ ¬ be mm w = -1 ∧ ¬ be mm w = nI f ∧ mm 0 (be mm w).toNatClampNeg < mm 0 f)) : sp_rev mm (nI f) (nI w) = (0, up2 mm 19 0 2) := by
  unfold sp_rev
  rw [if_pos ⟨ed_f hf, h.wy hw⟩, h.cl hw, nt_c (by omega), sp_rev_no hC, up2_twice]
theorem rv_yes (h : LI mm) (hw : w < sp_W mm) (hf : f < 6) (hg : g < 6) (h7 : ¬ mm 7 w < 2) (e : be mm w = nI g) (hgf : ¬ g = f) (ht : mm 0 g < mm 0 f) : sp_rev mm (nI f) (nI w) =
    (sp_tru (sp_make mm w (sp_vk (mm 11 (sp_A mm (sp_L mm w)))) (sp_vd (mm 11 (sp_A mm (sp_L mm w)))) (nI f)) g (-10) 0 g, sp_tru (sp_make mm w (sp_vk (mm 11 (sp_A mm (sp_L mm w)))) (sp_vd (mm 11 (sp_A mm (sp_L mm w)))) (nI f)) g (-10)) := by
  unfold sp_rev
  have hC : ¬ mm 7 w < 2 ∧ ¬ sp_ve (mm 11 (sp_L mm w)) = -1 ∧ ¬ sp_ve (mm 11 (sp_L mm w)) = nI f ∧ mm 0 (sp_ve (mm 11 (sp_L mm w))).toNatClampNeg < mm 0 f :=
    ⟨h7, fun q => nI_nm1 (n := g) (by omega) (e.symm.trans q), fun q => hgf (nI_inj (by omega) (by omega) (e.symm.trans q)), by rw [show sp_ve (mm 11 (sp_L mm w)) = nI g from e, nt_c (by omega)]; exact ht⟩
  rw [if_pos ⟨ed_f hf, h.wy hw⟩, h.cl hw, nt_c (by omega), sp_rev_yes hC (g := g) (by rw [show sp_ve (mm 11 (sp_L mm w)) = nI g from e]; exact nt_c (by omega)), h.z]
/-- the version ahead of a latest one -/
theorem v_back (h : LI mm) (hw : w < sp_W mm) (h7 : ¬ mm 7 w < 2) : ∃ k d e : Nat, k < 4 ∧ d < 3 ∧ e < 7 ∧ sp_ver mm (nI w) (mm 7 w - 2) = (nI (100 * k + 10 * d + e), mm) ∧ sp_vk (mm 11 (sp_A mm (sp_L mm w))) = nI k ∧ sp_vd (mm 11 (sp_A mm (sp_L mm w))) = nI d ∧ nI (100 * k + 10 * d + e) / 10 = nI (10 * k + d) := by
  obtain ⟨n, h1, h2, h3⟩ := v_num h hw
  have hK := h.1.K512
  have h40 := h.1.W40
  obtain ⟨n, rfl⟩ : ∃ m, n = m + 1 := by
    rcases Nat.eq_zero_or_pos n with q | q
    · subst q; exact absurd (by rw [h3]; decide) h7
    · exact ⟨n - 1, by omega⟩
  have hLK := h.1.LK hw
  obtain ⟨b1, b2, -⟩ := h.1.back hLK h2 (by omega) 1 (by omega)
  have hA : sp_A mm (sp_L mm w) < sp_K mm := b1
  obtain ⟨v, k, d, e, hv, hk, hd, he, e11⟩ := h.1.V hA
  obtain ⟨a1, a2⟩ := v_at h hw h3 (by omega) 1 (by omega)
  have e7 : mm 7 w - 2 = nI (n + 1 - 1) := by rw [h3, show (2 : Int32) = nI 2 from rfl, pk_sub (by omega)]; rfl
  have hb : sp_back mm 1 (sp_L mm w) = sp_A mm (sp_L mm w) := rfl
  refine ⟨k, d, e, hk, hd, he, ?_, ?_, ?_, ?_⟩
  · unfold sp_ver
    rw [e7, if_pos a1, a2, h.z, hb, e11, show (1000 : Int32) = nI 1000 from rfl, pk_rem (by omega) (by decide) (by decide)]
    congr 2; omega
  · rw [e11, vk_nI (by omega)]; congr 1; omega
  · rw [e11, vd_nI (by omega)]; congr 1; omega
  · rw [show (10 : Int32) = nI 10 from rfl, pk_div (by omega) (by decide) (by decide)]; congr 1; omega
theorem v_n2 (h : LI mm) (hw : w < sp_W mm) : mm 7 w = 1 ∨ (¬ mm 7 w < 2 ∧ ¬ mm 7 w ≤ 1) := by
  obtain ⟨n, h1, h2, h3⟩ := v_num h hw
  have hK := h.1.K512
  rcases Nat.eq_zero_or_pos n with q | q
  · subst q; exact Or.inl h3
  · refine Or.inr ⟨?_, ?_⟩
    · rw [h3]; exact nI_nlt (b := 2) (by omega) (by omega)
    · rw [h3]; exact nI_ge (a := 1) (by omega) (by omega)
theorem tru_K {x : Int32} : sp_K (sp_tru mm g x) = sp_K mm := by unfold sp_K; rw [tru_k (by decide)]
theorem tru_W {x : Int32} : sp_W (sp_tru mm g x) = sp_W mm := by unfold sp_W; rw [tru_k (by decide)]
theorem tru_o {x : Int32} (h : ¬ f = g) : sp_tru mm g x 0 f = mm 0 f := up2_i h
theorem tru_L {x : Int32} : sp_L (sp_tru mm g x) w = sp_L mm w := by unfold sp_L; rw [tru_k (by decide)]
theorem tru_vc {x : Int32} : vc (sp_tru mm g x) w = vc mm w := by unfold vc; rw [tru_L, tru_k (by decide)]
theorem tru_be {x : Int32} : be (sp_tru mm g x) w = be mm w := by rw [be, tru_L, tru_k (by decide)]
/-- what a refused change leaves -/
theorem jr_ref {t : Nat} (h : LI mm) (hgn : ¬ f = g) (et : mm 0 g = nI t) : LI (sp_tru (up2 mm 9 w (-1)) g (-5)) ∧ sp_K (sp_tru (up2 mm 9 w (-1)) g (-5)) ≤ sp_K mm + 1 ∧ sp_W (sp_tru (up2 mm 9 w (-1)) g (-5)) = sp_W mm ∧ sp_tru (up2 mm 9 w (-1)) g (-5) 0 f = mm 0 f ∧ sp_tru (up2 mm 9 w (-1)) g (-5) 0 g = sp_lim (nI t + -5) ∧ sp_tru (up2 mm 9 w (-1)) g (-5) 7 w = mm 7 w + 1 - 1 ∧ sp_tru (up2 mm 9 w (-1)) g (-5) 9 w = -1 := by
  have e0 : ∀ j, j ≠ 9 → up2 mm 9 w (-1) j = mm j := fun j hj => up2_k hj
  refine ⟨LI_tru (LI_wait h (Or.inl rfl)), ?_, ?_, ?_, ?_, ?_, ?_⟩
  · rw [tru_K]; unfold sp_K; rw [e0 10 (by decide)]; exact Nat.le_succ _
  · rw [tru_W]; unfold sp_W; rw [e0 1 (by decide)]
  · rw [tru_o hgn, e0 0 (by decide)]
  · rw [tru_s, e0 0 (by decide), et]
  · rw [tru_k (by decide), e0 7 (by decide)]; exact (i_pm _).symm
  · rw [tru_k (by decide), up2_s]
/-- .. and a confirmed one -/
theorem jr_con {t : Nat} (h : LI mm) (hK1 : sp_K mm < 512) (hw : w < sp_W mm) (hk : k < 4) (hd : d < 3) (hg : g < 6) (hgn : ¬ f = g) (et : mm 0 g = nI t) : LI (sp_tru (sp_make mm w (nI k) (nI d) (nI g)) g 5) ∧ sp_K (sp_tru (sp_make mm w (nI k) (nI d) (nI g)) g 5) ≤ sp_K mm + 1 ∧ sp_W (sp_tru (sp_make mm w (nI k) (nI d) (nI g)) g 5) = sp_W mm ∧ sp_tru (sp_make mm w (nI k) (nI d) (nI g)) g 5 0 f = mm 0 f ∧ sp_tru (sp_make mm w (nI k) (nI d) (nI g)) g 5 0 g = sp_lim (nI t + 5) ∧ sp_tru (sp_make mm w (nI k) (nI d) (nI g)) g 5 7 w = mm 7 w + 1 - 0 ∧ sp_tru (sp_make mm w (nI k) (nI d) (nI g)) g 5 9 w = -1 ∧ vc (sp_tru (sp_make mm w (nI k) (nI d) (nI g)) g 5) w = nI (100 * k + 10 * d + (g + 1)) := by
  have hM9 := LI_make h hK1 hw hk hd (Nat.succ_lt_succ hg) (f_m1 g)
  obtain ⟨n1, n2, n3, n4, n5, n6, n7, n8, n9⟩ := mk_facts h hw hk hd (Nat.succ_lt_succ hg) (f_m1 g)
  refine ⟨LI_tru hM9.1, ?_, ?_, ?_, ?_, ?_, ?_, ?_⟩
  · rw [tru_K]; exact Nat.le_of_eq hM9.2
  · rw [tru_W, mk_W]
  · rw [tru_o hgn, n8]
  · rw [tru_s, n8, et]
  · rw [tru_k (by decide), n4, Int32.sub_zero]
  · rw [tru_k (by decide), n7]
  · rw [tru_vc]; exact n9
/-- .. and a revert -/
theorem rv_facts {t : Nat} (h : LI mm) (hK1 : sp_K mm < 512) (hw : w < sp_W mm) (hk : k < 4) (hd : d < 3) (hf : f < 6) (et : mm 0 g = nI t) : LI (sp_tru (sp_make mm w (nI k) (nI d) (nI f)) g (-10)) ∧ sp_K (sp_tru (sp_make mm w (nI k) (nI d) (nI f)) g (-10)) ≤ sp_K mm + 1 ∧ sp_W (sp_tru (sp_make mm w (nI k) (nI d) (nI f)) g (-10)) = sp_W mm ∧ sp_tru (sp_make mm w (nI k) (nI d) (nI f)) g (-10) 0 g = sp_lim (nI t + -10) ∧ sp_tru (sp_make mm w (nI k) (nI d) (nI f)) g (-10) 7 w = mm 7 w + 1 ∧ sp_tru (sp_make mm w (nI k) (nI d) (nI f)) g (-10) 9 w = -1 ∧ vc (sp_tru (sp_make mm w (nI k) (nI d) (nI f)) g (-10)) w = nI (100 * k + 10 * d + (f + 1)) ∧ be (sp_tru (sp_make mm w (nI k) (nI d) (nI f)) g (-10)) w = nI f := by
  have hM9 := LI_make h hK1 hw hk hd (Nat.succ_lt_succ hf) (f_m1 f)
  obtain ⟨n1, n2, n3, n4, n5, n6, n7, n8, n9⟩ := mk_facts h hw hk hd (Nat.succ_lt_succ hf) (f_m1 f)
  refine ⟨LI_tru hM9.1, ?_, ?_, ?_, ?_, ?_, ?_, ?_⟩
  · rw [tru_K]; exact Nat.le_of_eq hM9.2
  · rw [tru_W, mk_W]
  · rw [tru_s, n8, et]
  · rw [tru_k (by decide), n4]
  · rw [tru_k (by decide), n7]
  · rw [tru_vc]; exact n9
  · rw [tru_be]; exact n3
end
