theorem k_po.of2 {G : k_G} {ad ad0 : k_Ad} {res : Int32 × q_Mem} {r : Int32} {m2 : q_Mem} {ct2 : k_Ct} (h : res = (r, m2)) (h0 : m2 19 0 = 0) (hc : ct2 = k_C G ad m2) (ha : ad 0 0 = ad0 0 0 := by rfl) : k_po G ad0 res r (ad, ct2) := by subst h; subst hc; exact ⟨rfl, rfl, h0, ha⟩
/-! the invariant behind single changes -/
section
variable {mm : q_Mem}
theorem Inv_19 {v : Int32} (h : Inv mm) : Inv (up2 mm 19 0 v) := h
theorem Inv_pic {t : Nat} {v : Int32} (h : Inv mm) : Inv (up2 mm 14 t v) := h
theorem Inv_st {t n : Nat} (h : Inv mm) (hn : n ≤ sp_K mm + 1) : Inv (up2 mm 13 t (nI n)) := by
  obtain ⟨i1, i2, i3, i4, i5, i6, i7, i8, i9, i10, i11, i12, i13⟩ := h
  refine ⟨i1, i2, i3, i4, i5, i6, i7, i8, i9, fun t2 ht2 => ?_, i11, i12, i13⟩
  by_cases z : t2 = t
  · subst z; exact ⟨n, hn, up2_s⟩
  · obtain ⟨m, hm, e⟩ := i10 t2 ht2
    exact ⟨m, hm, (up2_i z).trans e⟩
theorem Inv_tru {f : Nat} {x : Int32} (h : Inv mm) : Inv (sp_tru mm f x) := h
theorem Inv_guard {w : Nat} {x : Int32} (h : Inv mm) (hw : w < sp_W mm) : Inv (up2 mm 6 w x) := by
  obtain ⟨i1, i2, i3, i4, i5, i6, i7, i8, i9, i10, i11, i12, i13⟩ := h
  refine ⟨i1, i2, i3, i4, i5, i6, i7, i8, i9, i10, i11, i12, fun v hv => ?_⟩
  obtain ⟨a1, a2, a3⟩ := i13 v hv
  have hv2 : sp_W mm ≤ v := hv
  exact ⟨a1, (up2_i (by omega)).trans a2, a3⟩
theorem Inv_wait {w : Nat} {x : Int32} (h : Inv mm) (hx : sp_Q x) : Inv (up2 mm 9 w x) := by
  obtain ⟨i1, i2, i3, i4, i5, i6, i7, i8, i9, i10, i11, i12, i13⟩ := h
  refine ⟨i1, i2, i3, i4, i5, i6, fun v hv => ?_, i8, i9, i10, i11, i12, i13⟩
  show sp_Q (up2 mm 9 w x 9 v)
  by_cases z : v = w
  · subst z; rw [up2_s]; exact hx
  · rw [up2_i z]; exact i7 v hv
theorem Inv_goes {c x y : Nat} (h : Inv mm) (hx : x ≤ 16) (hy : y ≤ 16) : Inv (sp_goes mm c (nI x) (nI y)) := by
  obtain ⟨i1, i2, i3, i4, i5, i6, i7, i8, i9, i10, i11, i12, i13⟩ := h
  refine ⟨i1, i2, i3, i4, i5, i6, i7, i8, fun d hd => ?_, i10, i11, i12, i13⟩
  obtain ⟨a, b, h1, h2, h3, h4⟩ := i9 d hd
  show ∃ a b : Nat, a ≤ 16 ∧ b ≤ 16 ∧ up2 (up2 mm 15 c (nI x)) 16 c (nI y) 15 d = nI a ∧ up2 (up2 mm 15 c (nI x)) 16 c (nI y) 16 d = nI b
  rw [up2_c (by decide)]
  by_cases z : d = c
  · subst z; exact ⟨x, y, hx, hy, up2_s, up2_s⟩
  · exact ⟨a, b, h1, h2, (up2_i z).trans h3, by rw [up2_i z, up2_c (by decide)]; exact h4⟩
/-! what pictures depend on -/
theorem seek_x {A B : q_Mem} (h : A 12 = B 12) (u : Nat) : ∀ n v, sp_seek A u n v = sp_seek B u n v
  | 0, _ => rfl
  | n + 1, v => by
    unfold sp_seek
    rw [h, seek_x h u n]
theorem pic_x {A B : q_Mem} (h : ∀ k, k < 13 → A k = B k) (z x y : Int32) (u : Nat) : sp_pic A z x y u = sp_pic B z x y u := by
  have e : sp_pic1 A z x y u = sp_pic1 B z x y u := by
    funext w q
    have ev : sp_vis A w u = sp_vis B w u := by
      unfold sp_vis
      rw [h 8 (by decide), seek_x (h 12 (by decide))]
    unfold sp_pic1 sp_pin sp_isin
    rw [ev, h 11 (by decide), h 2 (by decide), h 3 (by decide), h 4 (by decide), h 5 (by decide)]
  have eW : sp_W A = sp_W B := by unfold sp_W; rw [h 1 (by decide)]
  unfold sp_pic
  rw [e, eW]
theorem Inv_draws {t : Nat} {z x y : Int32} (h : Inv mm) : Inv (sp_draws mm t z x y) := by
  unfold sp_draws
  rw [h.K, nI_1]
  exact Inv_st (Inv_pic h) (Nat.le_refl _)
theorem ste_y {dr : Bool} {t : Nat} {q : Int32 × q_Mem} (h : sp_oldt q.2 t = true) : sp_ste dr t q = (q.1 + 1, if dr = true then sp_draws q.2 t (nI (tz_t t)) (nI (tx_t t)) (nI (ty_t t)) else q.2) := if_pos h
theorem ste_n {dr : Bool} {t : Nat} {q : Int32 × q_Mem} (h : ¬ sp_oldt q.2 t = true) : sp_ste dr t q = (q.1 + 0, q.2) := if_neg h
theorem ste_b {b : Nat} {m : q_Mem} : ∀ k, (it_b (sp_ste false) b k (0, m)).2 = m
  | 0 => rfl
  | k + 1 => by
    show (sp_ste false (b + k) (it_b (sp_ste false) b k (0, m))).2 = m
    by_cases h : sp_oldt (it_b (sp_ste false) b k (0, m)).2 (b + k) = true
    · rw [ste_y h, if_neg Bool.false_ne_true]; exact ste_b k
    · rw [ste_n h]; exact ste_b k
theorem stx_y {b k : Nat} {m : q_Mem} (h : sp_oldt m (b + k) = true) : (it_b (sp_ste false) b k (0, m)).1 + 1 = (it_b (sp_ste false) b (k + 1) (0, m)).1 := by
  show _ = (sp_ste false (b + k) (it_b (sp_ste false) b k (0, m))).1
  rw [ste_y (by rw [ste_b]; exact h)]
theorem stx_n {b k : Nat} {m : q_Mem} (h : ¬ sp_oldt m (b + k) = true) : (it_b (sp_ste false) b k (0, m)).1 = (it_b (sp_ste false) b (k + 1) (0, m)).1 := by
  show _ = (sp_ste false (b + k) (it_b (sp_ste false) b k (0, m))).1
  rw [ste_n (by rw [ste_b]; exact h)]
  exact (Int32.add_zero _).symm
theorem tb_end : ∀ z, z < 5 → tb_z z + 2 ^ z * 2 ^ z ≤ 341 := by decide +kernel
/-- the tiles drawn anew, one behind the other -/
def rfn (mm : q_Mem) (i : Nat) : Int32 × q_Mem := it_n (sp_ste true) i (0, up2 mm 19 0 0)
theorem rfn_y {i : Nat} (h : sp_oldt (rfn mm i).2 i = true) : rfn mm (i + 1) = ((rfn mm i).1 + 1, sp_draws (rfn mm i).2 i (nI (tz_t i)) (nI (tx_t i)) (nI (ty_t i))) := by
  show sp_ste true i (rfn mm i) = _
  rw [ste_y h, if_pos rfl]
theorem rfn_n {i : Nat} (h : ¬ sp_oldt (rfn mm i).2 i = true) : rfn mm (i + 1) = ((rfn mm i).1, (rfn mm i).2) := by
  show sp_ste true i (rfn mm i) = _
  rw [ste_n h, Int32.add_zero]
theorem rfn_I (h : Inv mm) : ∀ i, Inv (rfn mm i).2
  | 0 => h
  | i + 1 => by
    by_cases q : sp_oldt (rfn mm i).2 i = true
    · rw [rfn_y q]; exact Inv_draws (rfn_I h i)
    · rw [rfn_n q]; exact rfn_I h i
theorem rfn_19 : ∀ i, (rfn mm i).2 19 0 = 0
  | 0 => rfl
  | i + 1 => by
    by_cases q : sp_oldt (rfn mm i).2 i = true
    · rw [rfn_y q]; exact rfn_19 i
    · rw [rfn_n q]; exact rfn_19 i
theorem rfn_end : sp_refr mm = ((rfn mm 341).1, (rfn mm 341).2) := by
  show rfn mm 341 = _
  exact (Prod.eta _).symm
end
