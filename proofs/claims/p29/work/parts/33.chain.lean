/-! ===== chains of versions ===== -/
theorem k_io {α : Type} {P : Prop} [Decidable P] {r a b : α} (h : r = if P then a else b) : (P ∧ r = a) ∨ (¬ P ∧ r = b) := by
  by_cases q : P
  · rw [if_pos q] at h; exact Or.inl ⟨q, h⟩
  · rw [if_neg q] at h; exact Or.inr ⟨q, h⟩
section
variable {mm : q_Mem} {w n j t u : Nat} {ad : k_Ad}
theorem back_end (hI : Inv mm) (hw : w < sp_W mm) (hn : mm 21 (sp_L mm w) = nI n) (hn2 : n < 2 ^ 31) : mm 12 (sp_back mm n (sp_L mm w)) = -1 := by
  obtain ⟨h1, h2, -⟩ := hI.back (hI.LK hw) hn hn2 n (Nat.le_refl n)
  rw [Nat.sub_self] at h2
  rcases hI.A h1 with ⟨a, -⟩ | ⟨-, -, -, k, hk, -, e⟩
  · exact a
  · rw [h2] at e
    have := nI_inj (by decide) (by have := hI.K512; omega) e
    omega
theorem kb_step (hI : Inv mm) (hw : w < sp_W mm) (hn : mm 21 (sp_L mm w) = nI n) (hn2 : n < 2 ^ 31) (ht : t ≤ n) : k_rf (mm 12 (sp_back mm t (sp_L mm w)) = -1) (ad 3 (sp_A mm (sp_back mm t (sp_L mm w)))) = k_rf (n < t + 1) (ad 3 (sp_back mm (t + 1) (sp_L mm w))) := by
  by_cases h : t < n
  · obtain ⟨h1, h2, h3⟩ := hI.back (hI.LK hw) hn hn2 t ht
    obtain ⟨h4, -⟩ := hI.back (hI.LK hw) hn hn2 (t + 1) (by omega)
    have h5 : ¬ mm 12 (sp_back mm t (sp_L mm w)) = -1 := by rw [h3 h]; exact nI_nm1 (by have := hI.K512; omega)
    unfold k_rf
    rw [if_neg h5, if_neg (by omega), sp_back_succ]
  · have : t = n := by omega
    subst this
    unfold k_rf
    rw [if_pos (back_end hI hw hn hn2), if_pos (by omega)]
theorem back_dec (hI : Inv mm) (hw : w < sp_W mm) (hn : mm 21 (sp_L mm w) = nI n) (hn2 : n < 2 ^ 31) {s : Nat} : ∀ d, s + d ≤ n → sp_back mm (s + d) (sp_L mm w) + d ≤ sp_back mm s (sp_L mm w)
  | 0, _ => Nat.le_refl _
  | d + 1, h => by
    have ih := back_dec hI hw hn hn2 (s := s) d (by omega)
    obtain ⟨h1, h2, h3⟩ := hI.back (hI.LK hw) hn hn2 (s + d) (by omega)
    have h4 := h3 (by omega)
    have hK := hI.K512
    obtain ⟨h5, -⟩ := hI.back (hI.LK hw) hn hn2 (s + d + 1) (by omega)
    rcases hI.A h1 with ⟨a, -⟩ | ⟨a1, a2, -⟩
    · rw [h4] at a; exact absurd a (nI_nm1 (by omega))
    · have : sp_back mm (s + d + 1) (sp_L mm w) = sp_A mm (sp_back mm (s + d) (sp_L mm w)) := sp_back_succ mm _ _
      show sp_back mm (s + d + 1) (sp_L mm w) + (d + 1) ≤ _
      omega
theorem chain_all (hI : Inv mm) (hw : w < sp_W mm) (hn : mm 21 (sp_L mm w) = nI n) (hn2 : n < 2 ^ 31) : ∀ f j, sp_K mm - j ≤ f → j < sp_K mm → mm 11 j / 1000 = nI w → ∃ s, s ≤ n ∧ j = sp_back mm s (sp_L mm w)
  | 0, j, hf, hj, _ => by omega
  | f + 1, j, hf, hj, hjw => by
    rcases hI.2.2.2.2.2.2.2.2.2.2.1 j hj w hw hjw with h | ⟨i, hi, hji, hiw, hia⟩
    · exact ⟨0, Nat.zero_le _, h⟩
    · obtain ⟨s, hs, e⟩ := chain_all hI hw hn hn2 f i (by omega) hi hiw
      have hK := hI.K512
      have hsn : s < n := by
        rcases Nat.lt_or_ge s n with q | q
        · exact q
        · have : s = n := by omega
          subst this
          have := back_end hI hw hn hn2
          rw [← e, hia] at this
          exact absurd this (nI_nm1 (by omega))
      obtain ⟨-, -, h3⟩ := hI.back (hI.LK hw) hn hn2 s hs
      have h4 := h3 hsn
      rw [← e, hia] at h4
      obtain ⟨h5, -⟩ := hI.back (hI.LK hw) hn hn2 (s + 1) (by omega)
      exact ⟨s + 1, by omega, nI_inj (by omega) (by omega) h4⟩
theorem back_way (hI : Inv mm) (hw : w < sp_W mm) (hn : mm 21 (sp_L mm w) = nI n) (hn2 : n < 2 ^ 31) : ∀ t, t ≤ n → mm 11 (sp_back mm t (sp_L mm w)) / 1000 = nI w
  | 0, _ => by
    obtain ⟨k, d, e, hk, hd, he, h⟩ := iv_D hI hw
    have := hI.W40
    show mm 11 (sp_L mm w) / 1000 = nI w
    rw [h, vw_nI (by omega)]; congr 1; omega
  | t + 1, h => by
    have ih := back_way hI hw hn hn2 t (by omega)
    obtain ⟨h1, h2, h3⟩ := hI.back (hI.LK hw) hn hn2 t (by omega)
    have h4 := h3 (by omega)
    obtain ⟨h5, -⟩ := hI.back (hI.LK hw) hn hn2 (t + 1) (by omega)
    rcases hI.A h1 with ⟨a, -⟩ | ⟨-, -, a3, -⟩
    · rw [h4] at a; exact absurd a (nI_nm1 (by have := hI.K512; omega))
    · rw [sp_back_succ, a3]; exact ih
theorem vis_or (hI : Inv mm) (u : Nat) : ∀ n v, (v = -1 ∨ ∃ j, j < sp_K mm ∧ v = nI j) → sp_seek mm u n v = -1 ∨ ∃ j, j < sp_K mm ∧ sp_seek mm u n v = nI j
  | 0, v, h => h
  | n + 1, v, h => by
    unfold sp_seek
    by_cases h1 : v = -1
    · rw [if_pos h1]; exact h
    · rw [if_neg h1]
      by_cases h2 : v.toNatClampNeg < u
      · rw [if_pos h2]; exact h
      · rw [if_neg h2]
        obtain ⟨j, hj, e⟩ := h.resolve_left h1
        refine vis_or hI u n _ ?_
        have hK := hI.K512
        rw [e, nI_clamp (by omega)]
        rcases hI.A hj with ⟨a, -⟩ | ⟨a1, a2, -⟩
        · exact Or.inl a
        · exact Or.inr ⟨_, by omega, a1⟩
theorem vis_lt (hI : Inv mm) (hw : w < sp_W mm) (h : ¬ sp_vis mm w u = -1) : (sp_vis mm w u).toNatClampNeg < sp_K mm := by
  obtain ⟨j, hj, e⟩ := (vis_or hI u 600 (mm 8 w) (Or.inr ⟨_, hI.LK hw, hI.L hw⟩)).resolve_left h
  have e2 : sp_vis mm w u = nI j := e
  rw [e2, nI_clamp (by have := hI.K512; omega)]
  exact hj
theorem vis_K (hI : Inv mm) (hw : w < sp_W mm) : sp_vis mm w (sp_K mm) = nI (sp_L mm w) := by
  unfold sp_vis
  rw [hI.L hw]
  exact seek_lt (by have := hI.LK hw; have := hI.K512; omega) (hI.LK hw)
theorem pin_K (hI : Inv mm) (hw : w < sp_W mm) {z x y : Int32} : sp_pin mm z x y (sp_K mm) w ↔ sp_sh (mm 11 (sp_L mm w)) z ∧ sp_isin mm w z x y := by
  unfold sp_pin
  rw [vis_K hI hw, nI_clamp (by have := hI.LK hw; have := hI.K512; omega)]
  exact ⟨fun h => h.2, fun h => ⟨nI_nm1 (by have := hI.LK hw; have := hI.K512; omega), h⟩⟩
/-! what a way shows in a tile -/
theorem shn_y {z x y : Int32} (hj : j < 2 ^ 31) (hv : nI j = sp_vis mm w u) (h1 : sp_sh (mm 11 j) z) (h2 : sp_isin mm w z x y) : some (ad 4 j) = if sp_pin mm z x y u w then some (ad 4 (sp_vis mm w u).toNatClampNeg) else none := by
  have e : (sp_vis mm w u).toNatClampNeg = j := by rw [← hv]; exact nI_clamp hj
  rw [if_pos ⟨by rw [← hv]; exact nI_nm1 hj, by rw [e]; exact h1, h2⟩, e]
theorem shn_n {z x y : Int32} (hj : j < 2 ^ 31) (hv : nI j = sp_vis mm w u) (h1 : ¬ sp_sh (mm 11 j) z) : none = if sp_pin mm z x y u w then some (ad 4 (sp_vis mm w u).toNatClampNeg) else none := by
  have e : (sp_vis mm w u).toNatClampNeg = j := by rw [← hv]; exact nI_clamp hj
  rw [if_neg (fun q => h1 (by have := q.2.1; rw [e] at this; exact this))]
theorem shn_0 {z x y v : Int32} (hv : v = sp_vis mm w u) (h1 : v = -1) : none = if sp_pin mm z x y u w then some (ad 4 (sp_vis mm w u).toNatClampNeg) else none := by
  rw [if_neg (fun q => q.1 (hv.symm.trans h1))]
/-! is a tile stale by a way -/
abbrev k_oj (mm : q_Mem) (z : Int32) (j : Nat) : Prop := sp_sh (mm 11 j) z ∨ (¬ mm 12 j = -1 ∧ sp_sh (mm 11 (sp_A mm j)) z)
def k_out (mm : q_Mem) (t w : Nat) : Bool := decide (sp_isin mm w (nI (tz_t t)) (nI (tx_t t)) (nI (ty_t t))) && an_y (fun j => decide ((mm 11 j / 1000 = nI w ∧ (mm 13 t).toNatClampNeg - 1 ≤ j) ∧ k_oj mm (nI (tz_t t)) j)) (sp_K mm)
theorem k_out_iff {t : Nat} : k_out mm t w = true ↔ sp_isin mm w (nI (tz_t t)) (nI (tx_t t)) (nI (ty_t t)) ∧ ∃ j, j < sp_K mm ∧ mm 11 j / 1000 = nI w ∧ (mm 13 t).toNatClampNeg - 1 ≤ j ∧ k_oj mm (nI (tz_t t)) j := by
  unfold k_out
  rw [Bool.and_eq_true, an_y_iff, decide_eq_true_iff]
  constructor
  · rintro ⟨h, j, hj, hp⟩
    obtain ⟨⟨a, b⟩, c⟩ := of_decide_eq_true hp
    exact ⟨h, j, hj, a, b, c⟩
  · rintro ⟨h, j, hj, a, b, c⟩
    exact ⟨h, j, hj, decide_eq_true ⟨⟨a, b⟩, c⟩⟩
/-- the chain is gone through: nothing up to t -/
theorem out_no (hI : Inv mm) (hw : w < sp_W mm) (hn : mm 21 (sp_L mm w) = nI n) (hn2 : n < 2 ^ 31) {t0 : Nat} (hp : ∀ s, s < t → (mm 13 t0).toNatClampNeg - 1 ≤ sp_back mm s (sp_L mm w) → ¬ k_oj mm (nI (tz_t t0)) (sp_back mm s (sp_L mm w))) (hend : n < t ∨ (t ≤ n ∧ sp_back mm t (sp_L mm w) < (mm 13 t0).toNatClampNeg - 1)) : ¬ k_out mm t0 w = true := by
  rw [k_out_iff]
  rintro ⟨-, j, hj, hjw, hju, ho⟩
  obtain ⟨s, hs, e⟩ := chain_all hI hw hn hn2 (sp_K mm) j (by omega) hj hjw
  rcases hend with h | ⟨h1, h2⟩
  · exact hp s (by omega) (by rw [← e]; exact hju) (by rw [← e]; exact ho)
  · rcases Nat.lt_or_ge s t with q | q
    · exact hp s q (by rw [← e]; exact hju) (by rw [← e]; exact ho)
    · have := back_dec hI hw hn hn2 (s := t) (s - t) (by omega)
      rw [show t + (s - t) = s by omega] at this
      omega
theorem out_yes (hI : Inv mm) (hw : w < sp_W mm) (hn : mm 21 (sp_L mm w) = nI n) (hn2 : n < 2 ^ 31) {t0 : Nat} (ht : t ≤ n) (h1 : sp_isin mm w (nI (tz_t t0)) (nI (tx_t t0)) (nI (ty_t t0))) (h2 : (mm 13 t0).toNatClampNeg - 1 ≤ sp_back mm t (sp_L mm w)) (h3 : k_oj mm (nI (tz_t t0)) (sp_back mm t (sp_L mm w))) : k_out mm t0 w = true :=
  k_out_iff.mpr ⟨h1, _, (hI.back (hI.LK hw) hn hn2 t ht).1, back_way hI hw hn hn2 t ht, h2, h3⟩
/-- stale at all: by one of the ways -/
theorem out_all (hI : Inv mm) {t : Nat} (hs : ¬ mm 13 t = 0) (ht : t < 341) : sp_oldt mm t = an_y (k_out mm t) (sp_W mm) := by
  obtain ⟨m, hm, e⟩ := hI.2.2.2.2.2.2.2.2.2.1 t ht
  have hK := hI.K512
  have hm0 : 0 < m := by
    rcases Nat.eq_zero_or_pos m with q | q
    · subst q; exact absurd e hs
    · exact q
  have em : (mm 13 t).toNatClampNeg = m := by rw [e]; exact nI_clamp (by omega)
  rw [Bool.eq_iff_iff]
  unfold sp_oldt sp_old
  rw [Bool.and_eq_true, an_y_iff, an_y_iff, em, decide_eq_true_iff]
  constructor
  · rintro ⟨-, j, hj, hp⟩
    rw [Bool.and_eq_true] at hp
    have h1 := of_decide_eq_true hp.1
    have h2 := of_decide_eq_true hp.2
    obtain ⟨w, k, d, e2, hw, hk, hd, he, ev⟩ := hI.V hj
    have hW := hI.W40
    have ew : mm 11 j / 1000 = nI w := by rw [ev, vw_nI (by omega)]; congr 1; omega
    refine ⟨w, hw, k_out_iff.mpr ⟨?_, j, hj, ew, by rw [em]; exact h1, h2.1⟩⟩
    have := h2.2
    rw [ew, nI_clamp (by omega)] at this
    exact this
  · rintro ⟨w, hw, hp⟩
    obtain ⟨h1, j, hj, ew, h2, h3⟩ := k_out_iff.mp hp
    rw [em] at h2
    have hW := hI.W40
    refine ⟨hm0, j, hj, ?_⟩
    rw [Bool.and_eq_true]
    refine ⟨decide_eq_true h2, decide_eq_true ⟨h3, ?_⟩⟩
    rw [ew, nI_clamp (by omega)]
    exact h1
/-! the least doubt -/
theorem lsx_y {i : Nat} (h : ¬ nI (i % 3) = sp_vd (mm 11 (sp_L mm w)) ∧ ¬ mm 20 (9 * w + i) = -1 ∧ (it_n (sp_ls1 mm w) i (-1) = -1 ∨ mm 20 (9 * w + i) < it_n (sp_ls1 mm w) i (-1))) : mm 20 (9 * w + i) = it_n (sp_ls1 mm w) (i + 1) (-1) := (if_pos h).symm
theorem lsx_n {i : Nat} (h : ¬ (¬ nI (i % 3) = sp_vd (mm 11 (sp_L mm w)) ∧ ¬ mm 20 (9 * w + i) = -1 ∧ (it_n (sp_ls1 mm w) i (-1) = -1 ∨ mm 20 (9 * w + i) < it_n (sp_ls1 mm w) i (-1)))) : it_n (sp_ls1 mm w) i (-1) = it_n (sp_ls1 mm w) (i + 1) (-1) := (if_neg h).symm
theorem dcx_y {i : Nat} (h : ¬ mm 20 (9 * w + i) = -1) : it_n (sp_dc1 mm w) i 0 + 1 = it_n (sp_dc1 mm w) (i + 1) 0 := (if_pos h).symm
theorem dcx_n {i : Nat} (h : mm 20 (9 * w + i) = -1) : it_n (sp_dc1 mm w) i 0 = it_n (sp_dc1 mm w) (i + 1) 0 := (if_neg (fun q => q h)).symm
theorem cnx_y {z x y : Int32} {i : Nat} (h : sp_sh (mm 11 (sp_L mm i)) z ∧ sp_isin mm i z x y) : it_n (sp_cnt1 mm z x y) i 0 + 1 = it_n (sp_cnt1 mm z x y) (i + 1) 0 := by
  show _ = it_n (sp_cnt1 mm z x y) i 0 + (if _ then 1 else 0)
  rw [if_pos h]
theorem cnx_n {z x y : Int32} {i : Nat} (h : ¬ (sp_sh (mm 11 (sp_L mm i)) z ∧ sp_isin mm i z x y)) : it_n (sp_cnt1 mm z x y) i 0 = it_n (sp_cnt1 mm z x y) (i + 1) 0 := by
  show _ = it_n (sp_cnt1 mm z x y) i 0 + (if _ then 1 else 0)
  rw [if_neg h, Int32.add_zero]
theorem pcx_y {z x y : Int32} {i : Nat} {q : Int32} (h : sp_pin mm z x y u i) : 31 * it_n (sp_pic1 mm z x y u) i q + 16 * nI i + 4 * sp_vk (mm 11 (sp_vis mm i u).toNatClampNeg) + sp_vd (mm 11 (sp_vis mm i u).toNatClampNeg) = it_n (sp_pic1 mm z x y u) (i + 1) q := (if_pos h).symm
theorem pcx_n {z x y : Int32} {i : Nat} {q : Int32} (h : ¬ sp_pin mm z x y u i) : it_n (sp_pic1 mm z x y u) i q = it_n (sp_pic1 mm z x y u) (i + 1) q := (if_neg h).symm
/-! agreement, by pairs -/
theorem agr_of {d a b : Nat} (hab : a < b) (hb : b < 3) (h : sp_ag2 mm w d a b) : sp_agr mm w d := by
  have cs : (a = 0 ∧ b = 1) ∨ (a = 0 ∧ b = 2) ∨ (a = 1 ∧ b = 2) := by omega
  rcases cs with ⟨rfl, rfl⟩ | ⟨rfl, rfl⟩ | ⟨rfl, rfl⟩
  · exact Or.inl h
  · exact Or.inr (Or.inl h)
  · exact Or.inr (Or.inr h)
theorem agr_no {d : Nat} (h : ∀ a b, a < 3 → a < b → b < 3 → ¬ sp_ag2 mm w d a b) : ¬ sp_agr mm w d := by
  rintro (q | q | q)
  · exact h 0 1 (by decide) (by decide) (by decide) q
  · exact h 0 2 (by decide) (by decide) (by decide) q
  · exact h 1 2 (by decide) (by decide) (by decide) q
/-! distances -/
theorem ab_dst {x c : Nat} (hx : x ≤ 16) (hc : c ≤ 16) : (if 0 ≤ nI c - nI x then nI c - nI x else 0 - (nI c - nI x)) = if nI x < nI c then nI c - nI x else nI x - nI c := by
  have e : ∀ a, a ≤ 16 → ∀ b, b ≤ 16 → (if 0 ≤ nI a - nI b then nI a - nI b else 0 - (nI a - nI b)) = if nI b < nI a then nI a - nI b else nI b - nI a := by decide +kernel
  exact e c hc x hx
theorem dst_far (hI : Inv mm) {c x y : Nat} (hc : c < 3) (hx : x ≤ 16) (hy : y ≤ 16) : k_dst (mm 15 c) (mm 16 c) (nI x) (nI y) = sp_far mm c (nI x) (nI y) := by
  obtain ⟨cx, cy, h1, h2, h3, h4⟩ := hI.2.2.2.2.2.2.2.2.1 c hc
  unfold k_dst sp_far
  rw [h3, h4, ab_dst hx h1, ab_dst hy h2]
theorem dst_b (hI : Inv mm) {c : Nat} (hc : c < 3) (hw : w < sp_W mm) : k_dst (mm 15 c) (mm 16 c) (mm 2 w) (mm 3 w) = sp_far mm c (mm 2 w) (mm 3 w) := by
  obtain ⟨x, y, z, u, hx, hy, hz, hu, e1, e2, e3, e4⟩ := iv_xy hI hw
  rw [e1, e2]; exact dst_far hI hc hx hy
theorem dst_e (hI : Inv mm) {c : Nat} (hc : c < 3) (hw : w < sp_W mm) : k_dst (mm 15 c) (mm 16 c) (mm 4 w) (mm 5 w) = sp_far mm c (mm 4 w) (mm 5 w) := by
  obtain ⟨x, y, z, u, hx, hy, hz, hu, e1, e2, e3, e4⟩ := iv_xy hI hw
  rw [e3, e4]; exact dst_far hI hc hz hu
theorem mn_nst (hI : Inv mm) {c : Nat} (hc : c < 3) (hw : w < sp_W mm) : (if k_dst (mm 15 c) (mm 16 c) (mm 4 w) (mm 5 w) < k_dst (mm 15 c) (mm 16 c) (mm 2 w) (mm 3 w) then k_dst (mm 15 c) (mm 16 c) (mm 4 w) (mm 5 w) else k_dst (mm 15 c) (mm 16 c) (mm 2 w) (mm 3 w)) = sp_nst mm c w := by
  rw [dst_b hI hc hw, dst_e hI hc hw]
  unfold sp_nst
  by_cases h1 : sp_far mm c (mm 4 w) (mm 5 w) < sp_far mm c (mm 2 w) (mm 3 w)
  · rw [if_pos h1, if_neg (bo_nlt (by rw [Int32.lt_iff_toInt_lt] at h1; rw [Int32.le_iff_toInt_le]; omega))]
  · rw [if_neg h1]
    by_cases h2 : sp_far mm c (mm 2 w) (mm 3 w) < sp_far mm c (mm 4 w) (mm 5 w)
    · rw [if_pos h2]
    · rw [if_neg h2]
      have h3 := bo_lt h1
      have h4 := bo_lt h2
      exact Int32.le_antisymm h3 h4
end
