/-! ===== a way more, as the reads tell it ===== -/
section
variable {mm : q_Mem} {x y tx ty k f m : Nat}
theorem iv_new (h : LI mm) {w : Nat} (hw : sp_W mm ≤ w) : mm 7 w = 0 ∧ mm 6 w = 0 ∧ ∀ i, i < 9 → mm 20 (9 * w + i) = -1 := h.1.2.2.2.2.2.2.2.2.2.2.2.2 w hw
theorem ad_facts (h : LI mm) (hW : sp_W mm < 40) (hK1 : sp_K mm < 512) (hx : x ≤ 16) (hy : y ≤ 16) (htx : tx ≤ 16) (hty : ty ≤ 16) (hxt : x ≤ tx) (hyt : y ≤ ty) (hk : k < 4) (hf : f < 6) : ∃ M : q_Mem, sp_add0 mm (nI f) (nI x) (nI y) (nI tx) (nI ty) (nI k) = M ∧ LI M ∧ sp_K M ≤ sp_K mm + 1 ∧ sp_W M = sp_W mm + 1 ∧ M 1 0 = nI (sp_W mm) + 1 ∧ M 10 0 = mm 10 0 + 1 ∧ kd M (sp_W mm) = nI k ∧ td M (sp_W mm) = 0 ∧ M 7 (sp_W mm) = 1 ∧ sp_dc M (sp_W mm) = 0 ∧ M 9 (sp_W mm) = -1 := by
  obtain ⟨a1, a2⟩ := Inv_add h.1 hW hK1 hx hy htx hty hk (e := f + 1) (by omega) (nI_pred f).symm
  refine ⟨_, rfl, ?_⟩
  have eM : sp_add0 mm (nI f) (nI x) (nI y) (nI tx) (nI ty) (nI k) = up2 (sp_make (up2 (up2 (up2 (up2 mm 2 (sp_W mm) (nI x)) 3 (sp_W mm) (nI y)) 4 (sp_W mm) (nI tx)) 5 (sp_W mm) (nI ty)) (sp_W mm) (nI k) (nI 0) (nI f)) 1 0 (mm 1 0 + 1) := rfl
  obtain ⟨m4, h4⟩ : ∃ m4, m4 = up2 (up2 (up2 (up2 mm 2 (sp_W mm) (nI x)) 3 (sp_W mm) (nI y)) 4 (sp_W mm) (nI tx)) 5 (sp_W mm) (nI ty) := ⟨_, rfl⟩
  rw [← h4] at eM
  obtain ⟨w0, hw0⟩ : ∃ w0, w0 = sp_W mm := ⟨_, rfl⟩
  rw [← hw0] at eM h4 hW ⊢
  have r : ∀ j, j ≠ 2 → j ≠ 3 → j ≠ 4 → j ≠ 5 → m4 j = mm j := fun j a b c d => by rw [h4, up2_k d, up2_k c, up2_k b, up2_k a]
  have eK : sp_K m4 = sp_K mm := by unfold sp_K; rw [r 10 (by decide) (by decide) (by decide) (by decide)]
  obtain ⟨M, hM⟩ : ∃ M, M = sp_add0 mm (nI f) (nI x) (nI y) (nI tx) (nI ty) (nI k) := ⟨_, rfl⟩
  rw [← hM] at eM a1 a2 ⊢
  have rM : ∀ j, j ≠ 1 → M j = sp_make m4 w0 (nI k) (nI 0) (nI f) j := fun j hj => by rw [eM, up2_k hj]
  have rO : ∀ j, (j ≠ 11 ∧ j ≠ 12 ∧ j ≠ 8 ∧ j ≠ 7 ∧ j ≠ 9 ∧ j ≠ 10 ∧ j ≠ 21) → j ≠ 1 → j ≠ 2 → j ≠ 3 → j ≠ 4 → j ≠ 5 → M j = mm j := fun j h0 h1 h2 h3 h4 h5 => by rw [rM j h1, mk_o h0, r j h2 h3 h4 h5]
  have e1 : M 1 0 = mm 1 0 + 1 := by rw [eM]; exact up2_s
  have eW1 : mm 1 0 = nI w0 := by rw [hw0]; exact h.1.W
  have eWM : sp_W M = w0 + 1 := by
    unfold sp_W
    rw [e1, eW1, nI_1]; exact nI_clamp (by omega)
  have eL : sp_L M w0 = sp_K mm := by
    have : sp_L M w0 = sp_L (sp_make m4 w0 (nI k) (nI 0) (nI f)) w0 := by unfold sp_L; rw [rM 8 (by decide)]
    rw [this, mk_L, if_pos rfl, eK]
  have e11 : M 11 (sp_L M w0) = 1000 * nI w0 + 100 * nI k + 10 * nI 0 + nI f + 1 := by rw [eL, rM 11 (by decide), mk_11, if_pos eK.symm]
  obtain ⟨p1, p2, -⟩ := mk_parts (w := w0) (v := nI f) (e := f + 1) hW hk (d := 0) (by decide) (by omega) (nI_pred f).symm
  obtain ⟨v7, v6, v20⟩ := iv_new h (w := w0) (Nat.le_of_eq hw0.symm)
  have q2 : ∀ b, M 2 b = if b = w0 then nI x else mm 2 b := fun b => by
    rw [rM 2 (by decide), mk_o (by decide), h4, up2_c (by decide), up2_c (by decide), up2_c (by decide)]
    by_cases z : b = w0
    · subst z; rw [up2_s, if_pos rfl]
    · rw [up2_i z, if_neg z]
  have q3 : ∀ b, M 3 b = if b = w0 then nI y else mm 3 b := fun b => by
    rw [rM 3 (by decide), mk_o (by decide), h4, up2_c (by decide), up2_c (by decide)]
    by_cases z : b = w0
    · subst z; rw [up2_s, if_pos rfl]
    · rw [up2_i z, if_neg z, up2_c (by decide)]
  have q4 : ∀ b, M 4 b = if b = w0 then nI tx else mm 4 b := fun b => by
    rw [rM 4 (by decide), mk_o (by decide), h4, up2_c (by decide)]
    by_cases z : b = w0
    · subst z; rw [up2_s, if_pos rfl]
    · rw [up2_i z, if_neg z, up2_c (by decide), up2_c (by decide)]
  have q5 : ∀ b, M 5 b = if b = w0 then nI ty else mm 5 b := fun b => by
    rw [rM 5 (by decide), mk_o (by decide), h4]
    by_cases z : b = w0
    · subst z; rw [up2_s, if_pos rfl]
    · rw [up2_i z, if_neg z, up2_c (by decide), up2_c (by decide), up2_c (by decide)]
  have e6 : M 6 = mm 6 := rO 6 (by decide) (by decide) (by decide) (by decide) (by decide) (by decide)
  have e0 : M 0 = mm 0 := rO 0 (by decide) (by decide) (by decide) (by decide) (by decide) (by decide)
  have e20 : M 20 = mm 20 := rO 20 (by decide) (by decide) (by decide) (by decide) (by decide) (by decide)
  refine ⟨⟨a1, by rw [rO 19 (by decide) (by decide) (by decide) (by decide) (by decide) (by decide)]; exact h.2.1, ?_, ?_, ?_⟩, a2, eWM, by rw [e1, eW1], ?_, ?_, ?_, ?_, ?_, ?_⟩
  · intro w hw
    rw [eWM] at hw
    rw [e6]
    by_cases z : w = w0
    · subst z; exact ⟨0, by decide, v6⟩
    · exact h.2.2.1 w (by omega)
  · rw [e0]; exact h.2.2.2.1
  · intro w hw
    rw [eWM] at hw
    rw [q2, q3, q4, q5]
    by_cases z : w = w0
    · rw [if_pos z, if_pos z, if_pos z, if_pos z]; exact ⟨nI_le hxt (by omega), nI_le hyt (by omega)⟩
    · rw [if_neg z, if_neg z, if_neg z, if_neg z]; exact h.2.2.2.2 w (by omega)
  · rw [rM 10 (by decide), mk_10, r 10 (by decide) (by decide) (by decide) (by decide)]
  · show sp_vk (M 11 (sp_L M w0)) = _; rw [e11]; exact p1
  · show sp_vd (M 11 (sp_L M w0)) = _; rw [e11]; exact p2
  · rw [rM 7 (by decide), mk_7, if_pos rfl, r 7 (by decide) (by decide) (by decide) (by decide), v7]; decide
  · rw [dc_n]
    have : dcn M w0 = 0 := fb_ct_none (fun i hi => decide_eq_false (fun z => z (by rw [e20]; exact v20 i hi)))
    rw [this]; rfl
  · rw [rM 9 (by decide), mk_9, if_pos rfl]
theorem ng_all : ∀ m, m < 5 → 0 < m → -nI m < 0 ∧ ¬ 0 < -nI m ∧ sp_len (-nI m) := by decide +kernel
theorem ps_all : ∀ m, m < 5 → 0 < m → 0 < nI m ∧ ¬ nI m < 0 ∧ sp_len (nI m) := by decide +kernel
theorem cr_nI (hx : x ≤ 16) (hy : y ≤ 16) : sp_cr (nI x) (nI y) := ⟨⟨nI_pos' (by omega), nI_le (b := 16) hx (by decide)⟩, nI_pos' (by omega), nI_le (b := 16) hy (by decide)⟩
theorem k3_nI (hk : k < 4) : (0 : Int32) ≤ nI k ∧ nI k ≤ 3 := ⟨nI_pos' (by omega), nI_le (b := 3) (by omega) (by decide)⟩
theorem ad_n40 (h : LI mm) (hW : sp_W mm < 40) : ¬ mm 1 0 = 40 := fun q => by
  rw [h.1.W] at q
  have := nI_inj (b := 40) (by omega) (by decide) q
  omega
/-- to the right -/
theorem ad_r (h : LI mm) (hW : sp_W mm < 40) (hx : x ≤ 12) (hy : y ≤ 12) (hm0 : 0 < m) (hm : m < 5) (hk : k < 4) (hf : f < 6) : sp_add mm (nI f) (nI x) (nI y) (nI m) (nI k) = (nI (sp_W mm), sp_add0 mm (nI f) (nI x) (nI y) (nI (x + m)) (nI y) (nI k)) := by
  obtain ⟨b1, b2, b3⟩ := ps_all m hm hm0
  have e1 : sp_tx (nI x) (nI m) = nI (x + m) := (if_pos b1).trans (nI_add x m)
  have e2 : sp_ty (nI y) (nI m) = nI y := if_neg b2
  have hM : sp_may (nI f) (nI x) (nI y) (nI m) := ⟨ed_f hf, cr_nI (by omega) (by omega), fun _ => by rw [e1, e2]; exact cr_nI (by omega) (by omega)⟩
  unfold sp_add
  rw [if_pos hM, if_pos ⟨b3, k3_nI hk⟩, if_neg (ad_n40 h hW), e1, e2, h.z, h.1.W]
/-- downwards -/
theorem ad_d (h : LI mm) (hW : sp_W mm < 40) (hx : x ≤ 12) (hy : y ≤ 12) (hm0 : 0 < m) (hm : m < 5) (hk : k < 4) (hf : f < 6) : sp_add mm (nI f) (nI x) (nI y) (-nI m) (nI k) = (nI (sp_W mm), sp_add0 mm (nI f) (nI x) (nI y) (nI x) (nI (y + m)) (nI k)) := by
  obtain ⟨b1, b2, b3⟩ := ng_all m hm hm0
  have e1 : sp_tx (nI x) (-nI m) = nI x := if_neg b2
  have e2 : sp_ty (nI y) (-nI m) = nI (y + m) := (if_pos b1).trans (by rw [Int32.sub_neg, nI_add])
  have hM : sp_may (nI f) (nI x) (nI y) (-nI m) := ⟨ed_f hf, cr_nI (by omega) (by omega), fun _ => by rw [e1, e2]; exact cr_nI (by omega) (by omega)⟩
  unfold sp_add
  rw [if_pos hM, if_pos ⟨b3, k3_nI hk⟩, if_neg (ad_n40 h hW), e1, e2, h.z, h.1.W]
theorem ad_40 (hm : m ≤ 40) : -nI m + 40 = nI (40 - m) := by
  rw [Int32.add_comm, ← Int32.sub_eq_add_neg, show (40 : Int32) = nI 40 from rfl]
  exact pk_sub hm
theorem ad_40b (hm : m ≤ 40) : nI (40 - m) - 40 = -nI m := by
  rw [← ad_40 hm, Int32.add_sub_cancel]
end
