theorem W_end {mm : q_Mem} (hI : Inv mm) {i : Nat} (h : i ≤ sp_W mm) (c : mm 1 0 ≤ nI i) : i = sp_W mm := by
  have h40 := hI.W40
  rw [hI.W] at c
  have := (nI_leI (by omega) (by omega)).mp c
  omega
theorem W_in {mm : q_Mem} (hI : Inv mm) {i : Nat} (h : i ≤ sp_W mm) (c : ¬ mm 1 0 ≤ nI i) : i < sp_W mm := by
  have h40 := hI.W40
  rw [hI.W] at c
  have : ¬ sp_W mm ≤ i := fun q => c ((nI_leI (by omega) (by omega)).mpr q)
  omega
theorem seek_nil {mm : q_Mem} {u : Nat} : ∀ {n : Nat} {v : Int32}, v = -1 → sp_seek mm u n v = v
  | 0, _, _ => rfl
  | n + 1, v, h => by unfold sp_seek; rw [if_pos h]
theorem seek_lt {mm : q_Mem} {u j : Nat} (hj : j < 2 ^ 31) (h : j < u) : ∀ {n : Nat}, sp_seek mm u n (nI j) = nI j
  | 0 => rfl
  | n + 1 => by unfold sp_seek; rw [if_neg (nI_nm1 hj), nI_clamp hj, if_pos h]
theorem seek_step {mm : q_Mem} {u j n : Nat} (hj : j < 2 ^ 31) (h : ¬ j < u) : sp_seek mm u (n + 1) (nI j) = sp_seek mm u n (mm 12 j) := by
  show (if nI j = -1 then nI j else if (nI j).toNatClampNeg < u then nI j else sp_seek mm u n (mm 12 (nI j).toNatClampNeg)) = _
  rw [if_neg (nI_nm1 hj), nI_clamp hj, if_neg h]
theorem pic_no {mm : q_Mem} {z x y : Int32} {u i : Nat} {q : Int32} (h : ¬ sp_pin mm z x y u i) : it_n (sp_pic1 mm z x y u) i q = it_n (sp_pic1 mm z x y u) (i + 1) q := (if_neg h).symm
theorem pic_yes {mm : q_Mem} {z x y : Int32} {u i j : Nat} {q : Int32} (hj : j < 2 ^ 31) (hv : nI j = sp_vis mm i u) (h1 : sp_sh (mm 11 j) z) (h2 : sp_isin mm i z x y) : 31 * it_n (sp_pic1 mm z x y u) i q + 16 * nI i + 4 * sp_vk (mm 11 j) + sp_vd (mm 11 j) = it_n (sp_pic1 mm z x y u) (i + 1) q := by
  have hc : (sp_vis mm i u).toNatClampNeg = j := by rw [← hv]; exact nI_clamp hj
  have h : sp_pin mm z x y u i := ⟨by rw [← hv]; exact nI_nm1 hj, by rw [hc]; exact h1, h2⟩
  show _ = sp_pic1 mm z x y u i (it_n (sp_pic1 mm z x y u) i q)
  unfold sp_pic1
  rw [if_pos h, hc]
/-- the numbers' facts hold on when tiles are drawn, or what was thrown is noted -/
theorem Inv.T {mm : q_Mem} (h : Inv mm) (x : Int32) : Inv (up2 mm 19 0 x) := h
theorem Inv.dr {mm : q_Mem} (h : Inv mm) {t : Nat} (z x y : Int32) : Inv (sp_draws mm t z x y) := by
  obtain ⟨h1, h2, h3, h4, h5, h6, h7, h8, h9, h10, h11, h12, h13⟩ := h
  refine ⟨h1, h2, h3, h4, h5, h6, h7, h8, h9, ?_, h11, h12, h13⟩
  intro t2 ht2
  by_cases e : t2 = t
  · subst e
    refine ⟨sp_K mm + 1, Nat.le_refl _, ?_⟩
    show (up2 _ 13 t2 (mm 10 0 + 1)) 13 t2 = _
    rw [up2_s, h2.1, nI_1]
  · obtain ⟨n, hn, e2⟩ := h10 t2 ht2
    refine ⟨n, hn, ?_⟩
    show (up2 (up2 mm 14 t (sp_pic mm z x y (sp_K mm))) 13 t (mm 10 0 + 1)) 13 t2 = _
    rw [up2_i e, up2_c (by decide)]
    exact e2
theorem Inv.S {mm : q_Mem} (h : Inv mm) {t : Nat} (ht : t < 341) : ∃ n, n ≤ sp_K mm + 1 ∧ mm 13 t = nI n := h.2.2.2.2.2.2.2.2.2.1 t ht
theorem old_eq {mm : q_Mem} {t n : Nat} {z x y : Int32} (hn : mm 13 t = nI n) (hn2 : n < 2 ^ 31) : sp_old mm t z x y = (decide (0 < n) && an_y (sp_oldp mm z x y n) (sp_K mm)) := by
  unfold sp_old
  rw [hn, nI_clamp hn2]
  rfl
theorem an_y_mono {p : Nat → Bool} {a b : Nat} (h : a ≤ b) (ha : an_y p a = true) : an_y p b = true := by
  obtain ⟨k, h1, h2⟩ := an_y_iff.mp ha
  exact an_y_iff.mpr ⟨k, by omega, h2⟩
/-- a version's way -/
theorem Inv.VW {mm : q_Mem} (h : Inv mm) {j : Nat} (hj : j < sp_K mm) : ∃ w, w < sp_W mm ∧ mm 11 j / 1000 = nI w := by
  obtain ⟨w, k, d, e, hw, hk, hd, he, e1⟩ := h.V hj
  have h40 := h.W40
  refine ⟨w, hw, ?_⟩
  rw [e1, vw_nI (by omega)]
  congr 1
  omega
theorem tt_of : ∀ z, z < 5 → ∀ k, k < 2 ^ z * 2 ^ z → tb_z z + k < 341 ∧ tz_t (tb_z z + k) = z ∧ tx_t (tb_z z + k) = k % 2 ^ z ∧ ty_t (tb_z z + k) = k / 2 ^ z := by decide +kernel
theorem it_n_add {α : Type} (f : Nat → α → α) (a : Nat) (x : α) : ∀ b, it_n f (a + b) x = it_b f a b (it_n f a x)
  | 0 => rfl
  | b + 1 => by
    show f (a + b) (it_n f (a + b) x) = f (a + b) (it_b f a b (it_n f a x))
    rw [it_n_add f a x b]
theorem tb_next : ∀ z, z < 5 → tb_z (z + 1) = tb_z z + 2 ^ z * 2 ^ z := by decide +kernel
theorem ste_keep1 (t : Nat) (q : Int32 × q_Mem) : (sp_ste false t q).2 = q.2 := by
  unfold sp_ste
  split <;> rfl
theorem ste_keep (b : Nat) (mm : q_Mem) : ∀ n, (it_b (sp_ste false) b n (0, mm)).2 = mm
  | 0 => rfl
  | n + 1 => (ste_keep1 (b + n) _).trans (ste_keep b mm n)
theorem sp_t_lt {z x y : Int32} (h : sp_tl z x y) : sp_t z x y < 341 := by
  obtain ⟨zi, xi, yi, hz, hx, hy, rfl, rfl, rfl⟩ := nt_tl h
  have h1 := pw_le zi hz
  show tb_i (nI zi).toNatClampNeg (nI xi).toNatClampNeg (nI yi).toNatClampNeg < 341
  rw [nt_c (by omega), nt_c (by omega), nt_c (by omega)]
  exact (tb_all zi hz xi hx yi hy).1
