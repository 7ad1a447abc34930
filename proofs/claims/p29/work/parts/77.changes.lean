/-! ===== what a change of a way leaves: guards, edits, judgements, reverts ===== -/
/-- behind one of the law's rounds -/
def RD (mm m2 : q_Mem) : Prop := LI m2 ∧ sp_K m2 ≤ sp_K mm + 1
theorem Jv_of {mm m2 : q_Mem} (h : Jv mm) (h0 : m2 0 = mm 0) (h1 : m2 1 = mm 1) (h2 : m2 2 = mm 2) (h3 : m2 3 = mm 3) (h4 : m2 4 = mm 4) (h5 : m2 5 = mm 5) (h6 : m2 6 = mm 6) : Jv m2 := by
  unfold Jv sp_W at h ⊢
  rw [h0, h1, h2, h3, h4, h5, h6]
  exact h
theorem RD.rf {mm : q_Mem} (h : LI mm) : RD mm mm := ⟨h, Nat.le_succ _⟩
section
variable {mm : q_Mem} {w f k d e : Nat} {ff : Int32}
theorem Jv_make (h : Jv mm) {kk dd : Int32} : Jv (sp_make mm w kk dd ff) := Jv_of h (mk_o (by decide)) (mk_o (by decide)) (mk_o (by decide)) (mk_o (by decide)) (mk_o (by decide)) (mk_o (by decide)) (mk_o (by decide))
theorem LI_make (h : LI mm) (hK1 : sp_K mm < 512) (hw : w < sp_W mm) (hk : k < 4) (hd : d < 3) (he : e < 7) (hf : ff = nI e - 1) : LI (sp_make mm w (nI k) (nI d) ff) ∧ sp_K (sp_make mm w (nI k) (nI d) ff) = sp_K mm + 1 := by
  obtain ⟨a1, a2⟩ := Inv_make h.1 hw hK1 hk hd he hf
  exact ⟨⟨a1, by rw [mk_o (by decide)]; exact h.2.1, Jv_make h.2.2⟩, a2⟩
/-- a new version, as the reads tell it -/
theorem mk_facts (h : LI mm) (hw : w < sp_W mm) (hk : k < 4) (hd : d < 3) (he : e < 7) (hf : ff = nI e - 1) : kd (sp_make mm w (nI k) (nI d) ff) w = nI k ∧ td (sp_make mm w (nI k) (nI d) ff) w = nI d ∧ be (sp_make mm w (nI k) (nI d) ff) w = ff ∧
    sp_make mm w (nI k) (nI d) ff 7 w = mm 7 w + 1 ∧ sp_make mm w (nI k) (nI d) ff 10 0 = mm 10 0 + 1 ∧ nI (sp_L (sp_make mm w (nI k) (nI d) ff) w) + 1 = mm 10 0 + 1 ∧ sp_make mm w (nI k) (nI d) ff 9 w = -1 ∧ sp_make mm w (nI k) (nI d) ff 0 = mm 0 ∧ vc (sp_make mm w (nI k) (nI d) ff) w = nI (100 * k + 10 * d + e) := by
  have h40 := h.1.W40
  obtain ⟨p1, p2, p3⟩ := mk_parts (w := w) (v := ff) (by omega) hk hd he hf
  have eL : sp_L (sp_make mm w (nI k) (nI d) ff) w = sp_K mm := by rw [mk_L, if_pos rfl]
  have e11 : sp_make mm w (nI k) (nI d) ff 11 (sp_L (sp_make mm w (nI k) (nI d) ff) w) = 1000 * nI w + 100 * nI k + 10 * nI d + ff + 1 := by rw [eL, mk_11, if_pos rfl]
  refine ⟨by rw [kd, e11]; exact p1, by rw [td, e11]; exact p2, by rw [be, e11]; exact p3, by rw [mk_7, if_pos rfl], mk_10, by rw [eL, h.1.K], by rw [mk_9, if_pos rfl], mk_o (by decide), ?_⟩
  unfold vc
  rw [e11, mk_co (by omega) hk hd he hf, show (1000 : Int32) = nI 1000 from rfl, pk_rem (by omega) (by decide) (by decide)]
  congr 1; omega
/-! guards -/
theorem gd_m (h : LI mm) (hw : w < sp_W mm) {y : Nat} (hy : y ≤ 100) : sp_guard mm (nI w) (nI y) = (mm 6 w, up2 mm 6 w (nI y)) := by
  unfold sp_guard
  rw [if_pos (h.wy hw), if_pos ⟨nI_pos' (by omega), nI_le (b := 100) hy (by decide)⟩, h.cl hw, h.z]
theorem gd_LI (h : LI mm) (hw : w < sp_W mm) {y : Nat} (hy : y ≤ 100) : LI (up2 mm 6 w (nI y)) := by
  refine ⟨Inv_guard h.1 hw, (up2_c (by decide)).trans h.2.1, ?_, h.2.2.2.1, h.2.2.2.2⟩
  intro v hv
  by_cases q : v = w
  · subst q; exact ⟨y, hy, up2_s⟩
  · obtain ⟨g, hg, eg⟩ := h.2.2.1 v hv
    exact ⟨g, hg, (up2_i q).trans eg⟩
theorem gd_b (h : LI mm) (hw : w < sp_W mm) : sp_guard (up2 mm 6 w (nI 0)) (nI w) (mm 6 w) = (nI 0, mm) := by
  obtain ⟨g, hg, eg⟩ := h.2.2.1 w hw
  rw [eg, gd_m (gd_LI h hw (Nat.zero_le _)) hw hg, up2_s, up2_twice]
  congr 1
  funext a b
  unfold up2
  by_cases q : a = 6 ∧ b = w
  · rw [if_pos q, q.1, q.2, eg]
  · rw [if_neg q]
/-! edits -/
theorem ed_f (hf : f < 6) : sp_ed (nI f) := ⟨nI_pos' (by omega), nI_lt (b := 6) hf (by decide)⟩
theorem ed_r (hk : k < 4) (hd : d < 3) : ((0 : Int32) ≤ nI k ∧ nI k ≤ 3) ∧ ((0 : Int32) ≤ nI d ∧ nI d ≤ 2) := ⟨⟨nI_pos' (by omega), nI_le (b := 3) (by omega) (by decide)⟩, nI_pos' (by omega), nI_le (b := 2) (by omega) (by decide)⟩
theorem ed_s (h : LI mm) (hw : w < sp_W mm) (hf : f < 6) (hk : k < 4) (hd : d < 3) (hs : nI k = kd mm w ∧ nI d = td mm w) : sp_edit mm (nI f) (nI w) (nI k) (nI d) = (0, up2 mm 19 0 3) := by
  unfold sp_edit
  rw [if_pos ⟨ed_f hf, h.wy hw⟩, h.z, h.cl hw, nt_c (by omega)]
  unfold sp_edit0
  rw [if_pos (ed_r hk hd), if_pos hs]
theorem ed_y (h : LI mm) (hw : w < sp_W mm) (hf : f < 6) (hk : k < 4) (hd : d < 3) (hs : ¬ (nI k = kd mm w ∧ nI d = td mm w)) (hg : mm 6 w ≤ mm 0 f) : sp_edit mm (nI f) (nI w) (nI k) (nI d) = (1, sp_make mm w (nI k) (nI d) (nI f)) := by
  unfold sp_edit
  rw [if_pos ⟨ed_f hf, h.wy hw⟩, h.z, h.cl hw, nt_c (by omega)]
  unfold sp_edit0
  rw [if_pos (ed_r hk hd), if_neg hs, if_pos hg]
theorem ed_n (h : LI mm) (hw : w < sp_W mm) (hf : f < 6) (hk : k < 4) (hd : d < 3) (hs : ¬ (nI k = kd mm w ∧ nI d = td mm w)) (hg : ¬ mm 6 w ≤ mm 0 f) : sp_edit mm (nI f) (nI w) (nI k) (nI d) = (0, up2 mm 9 w (sp_co (nI k) (nI d) (nI f))) := by
  unfold sp_edit
  rw [if_pos ⟨ed_f hf, h.wy hw⟩, h.z, h.cl hw, nt_c (by omega)]
  unfold sp_edit0
  rw [if_pos (ed_r hk hd), if_neg hs, if_neg hg]
theorem co_nI : sp_co (nI k) (nI d) (nI f) = nI (100 * k + 10 * d + (f + 1)) := co_mk
theorem LI_wait (h : LI mm) {v : Int32} (hv : sp_Q v) : LI (up2 mm 9 w v) := ⟨Inv_wait h.1 hv, (up2_c (by decide)).trans h.2.1, Jv_of h.2.2 (up2_k (by decide)) (up2_k (by decide)) (up2_k (by decide)) (up2_k (by decide)) (up2_k (by decide)) (up2_k (by decide)) (up2_k (by decide))⟩
theorem Q_co (hk : k < 4) (hd : d < 3) (hf : f < 6) : sp_Q (sp_co (nI k) (nI d) (nI f)) := Or.inr ⟨k, d, f + 1, hk, hd, Nat.succ_pos f, by omega, co_nI⟩
theorem f_m1 (f : Nat) : nI f = nI (f + 1) - 1 := (nI_pred f).symm
/-! an editor's trust -/
theorem lim_nI (x : Int32) : ∃ t, t ≤ 100 ∧ sp_lim x = nI t := by
  unfold sp_lim
  by_cases h : x < 0
  · exact ⟨0, by decide, if_pos h⟩
  · rw [if_neg h]
    by_cases h2 : 100 < x
    · exact ⟨100, by decide, if_pos h2⟩
    · rw [if_neg h2]
      obtain ⟨j, hj, rfl⟩ := nI_of h
      refine ⟨j, ?_, rfl⟩
      rcases Nat.lt_or_ge 100 j with q | q
      · exact absurd (nI_lt (a := 100) q hj) h2
      · exact q
theorem LI_tru (h : LI mm) {x : Int32} : LI (sp_tru mm f x) := by
  refine ⟨Inv_tru h.1, (up2_c (by decide)).trans h.2.1, h.2.2.1, ?_, h.2.2.2.2⟩
  intro g hg
  by_cases q : g = f
  · subst q
    obtain ⟨t, ht, e⟩ := lim_nI (mm 0 g + x)
    exact ⟨t, ht, up2_s.trans e⟩
  · obtain ⟨t, ht, e⟩ := h.2.2.2.1 g hg
    exact ⟨t, ht, (up2_i q).trans e⟩
theorem tru_s {x : Int32} : sp_tru mm f x 0 f = sp_lim (mm 0 f + x) := up2_s
theorem tru_k {x : Int32} {j : Nat} (hj : j ≠ 0) : sp_tru mm f x j = mm j := up2_k hj
/-- taken off, not below 0; added, not above 100 -/
theorem lim_m {t n : Nat} (ht : t ≤ 100) (hn : n ≤ 100) : sp_lim (nI t + -nI n) = if nI t < nI n then 0 else nI t - nI n := by
  rw [← Int32.sub_eq_add_neg]
  unfold sp_lim
  by_cases h : t < n
  · rw [if_pos (pk_sneg (by omega) h), if_pos (nI_lt h (by omega))]
  · have h1 : ¬ (100 : Int32) < nI (t - n) := nI_nlt (a := 100) (b := t - n) (by omega) (by decide)
    have h2 : ¬ nI (t - n) < 0 := nI_pos (by omega)
    rw [pk_sub (by omega), if_neg h2, if_neg h1, if_neg (nI_nlt (by omega) (by omega))]
theorem lim_p {t : Nat} (ht : t ≤ 100) : sp_lim (nI t + 5) = if 95 < nI t then 100 else nI t + 5 := by
  unfold sp_lim
  have h2 : ¬ nI (t + 5) < 0 := nI_pos (by omega)
  rw [show (5 : Int32) = nI 5 from rfl, nI_add, if_neg h2]
  by_cases h : 95 < t
  · have h1 : (100 : Int32) < nI (t + 5) := nI_lt (a := 100) (b := t + 5) (by omega) (by omega)
    have h3 : (95 : Int32) < nI t := nI_lt (a := 95) (b := t) h (by omega)
    rw [if_pos h1, if_pos h3]
  · have h1 : ¬ (100 : Int32) < nI (t + 5) := nI_nlt (a := 100) (b := t + 5) (by omega) (by decide)
    have h3 : ¬ (95 : Int32) < nI t := nI_nlt (a := 95) (b := t) (by omega) (by decide)
    rw [if_neg h1, if_neg h3]
end
