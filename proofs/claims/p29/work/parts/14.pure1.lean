/-! ===== numbers ===== -/
theorem i_pm (x : Int32) : x + 1 - 1 = x := by
  rw [Int32.sub_eq_add_neg, Int32.add_assoc]
  have : (1 : Int32) + -1 = 0 := by decide
  rw [this, Int32.add_zero]
theorem i_div {a d : Nat} (ha : a < 2 ^ 31) (h0 : 0 < d) (hd : d < 2 ^ 31) : nI a / nI d = nI (a / d) := pk_div ha h0 hd
theorem vk_nI {n : Nat} (h : n < 2 ^ 31) : sp_vk (nI n) = nI (n % 1000 / 100) := by
  show (nI n - nI n / nI 1000 * nI 1000) / nI 100 = _
  rw [pk_rem h (by decide) (by decide), pk_div (by omega) (by decide) (by decide)]
theorem vd_nI {n : Nat} (h : n < 2 ^ 31) : sp_vd (nI n) = nI (n % 100 / 10) := by
  show (nI n - nI n / nI 100 * nI 100) / nI 10 = _
  rw [pk_rem h (by decide) (by decide), pk_div (by omega) (by decide) (by decide)]
theorem ve_nI {n : Nat} (h : n < 2 ^ 31) : sp_ve (nI n) = nI (n % 10) - 1 := by
  show (nI n - nI n / nI 10 * nI 10) - 1 = _
  rw [pk_rem h (by decide) (by decide)]
theorem vw_nI {n : Nat} (h : n < 2 ^ 31) : nI n / 1000 = nI (n / 1000) := pk_div (d := 1000) h (by decide) (by decide)
theorem nI_m1 {n : Nat} (h : 0 < n) : nI n - 1 = nI (n - 1) := by
  obtain ⟨k, rfl⟩ : ∃ k, n = k + 1 := ⟨n - 1, by omega⟩
  exact nI_pred k
theorem nI_nm1 {n : Nat} (h : n < 2 ^ 31) : ¬ nI n = -1 := by
  intro q
  have := congrArg Int32.toInt q
  rw [nI_toInt h] at this
  have h2 : (-1 : Int32).toInt = -1 := by decide
  omega
theorem nI_inj {a b : Nat} (ha : a < 2 ^ 31) (hb : b < 2 ^ 31) (h : nI a = nI b) : a = b := (nI_eq ha hb).mp h
theorem nt_w40 {mm : q_Mem} (hI : Inv mm) (h : ¬ mm 1 0 = 40) : sp_W mm < 40 := by
  rcases Nat.lt_or_ge (sp_W mm) 40 with q | q
  · exact q
  · have : sp_W mm = 40 := Nat.le_antisymm hI.W40 q
    exact absurd (by rw [hI.W, this]; rfl) h
theorem nt_q {v : Int32} (h : sp_Q v) (h1 : ¬ v = -1) : ∃ g : Nat, g < 6 ∧ sp_ve v = nI g := by
  rcases h with h | ⟨k, d, e, hk, hd, he0, he, rfl⟩
  · exact absurd h h1
  · refine ⟨e - 1, by omega, ?_⟩
    rw [ve_nI (by omega), show (100 * k + 10 * d + e) % 10 = e by omega]
    exact nI_m1 he0
theorem nt_v {n : Nat} {v : Int32} (h : sp_V n v) (hn : n ≤ 40) (h1 : ¬ sp_ve v = -1) : ∃ g : Nat, g < 6 ∧ sp_ve v = nI g := by
  obtain ⟨w, k, d, e, hw, hk, hd, he, rfl⟩ := h
  have e1 : sp_ve (nI (1000 * w + 100 * k + 10 * d + e)) = nI e - 1 := by
    rw [ve_nI (by omega), show (1000 * w + 100 * k + 10 * d + e) % 10 = e by omega]
  rcases Nat.eq_zero_or_pos e with q | q
  · subst q
    exact absurd (by rw [e1]; decide) h1
  · exact ⟨e - 1, by omega, by rw [e1]; exact nI_m1 q⟩
theorem sp_judge_no {mm : q_Mem} {f w : Nat} {ref : Prop} [Decidable ref] (hC : ¬ (¬ mm 9 w = -1 ∧ ¬ sp_ve (mm 9 w) = nI f ∧ mm 6 w ≤ mm 0 f)) : sp_judge0 (up2 mm 19 0 0) f w ref = (0, up2 (up2 mm 19 0 0) 19 0 2) := if_neg hC
theorem sp_judge_ref {mm : q_Mem} {f w g : Nat} {ref : Prop} [Decidable ref] (hC : ¬ mm 9 w = -1 ∧ ¬ sp_ve (mm 9 w) = nI f ∧ mm 6 w ≤ mm 0 f) (hr : ref) (hg : (sp_ve (mm 9 w)).toNatClampNeg = g) : sp_judge0 (up2 mm 19 0 0) f w ref = (sp_tru (up2 (up2 mm 19 0 0) 9 w (-1)) g (-5) 0 g, sp_tru (up2 (up2 mm 19 0 0) 9 w (-1)) g (-5)) := by
  subst hg
  refine (if_pos hC).trans ?_
  simp only [if_pos hr]
  rfl
theorem sp_judge_con {mm : q_Mem} {f w g : Nat} {ref : Prop} [Decidable ref] (hC : ¬ mm 9 w = -1 ∧ ¬ sp_ve (mm 9 w) = nI f ∧ mm 6 w ≤ mm 0 f) (hr : ¬ ref) (hg : (sp_ve (mm 9 w)).toNatClampNeg = g) : sp_judge0 (up2 mm 19 0 0) f w ref = (sp_tru (sp_make (up2 mm 19 0 0) w (mm 9 w / 100) (sp_vd (mm 9 w)) (sp_ve (mm 9 w))) g 5 0 g, sp_tru (sp_make (up2 mm 19 0 0) w (mm 9 w / 100) (sp_vd (mm 9 w)) (sp_ve (mm 9 w))) g 5) := by
  subst hg
  refine (if_pos hC).trans ?_
  simp only [if_neg hr]
  rfl
theorem sp_rev_no {mm : q_Mem} {f w : Nat} (hC : ¬ (¬ mm 7 w < 2 ∧ ¬ sp_ve (mm 11 (sp_L mm w)) = -1 ∧ ¬ sp_ve (mm 11 (sp_L mm w)) = nI f ∧ mm 0 (sp_ve (mm 11 (sp_L mm w))).toNatClampNeg < mm 0 f)) : sp_rev0 (up2 mm 19 0 0) f w = (0, up2 (up2 mm 19 0 0) 19 0 2) := if_neg hC
theorem sp_rev_yes {mm : q_Mem} {f w g : Nat} (hC : ¬ mm 7 w < 2 ∧ ¬ sp_ve (mm 11 (sp_L mm w)) = -1 ∧ ¬ sp_ve (mm 11 (sp_L mm w)) = nI f ∧ mm 0 (sp_ve (mm 11 (sp_L mm w))).toNatClampNeg < mm 0 f) (hg : (sp_ve (mm 11 (sp_L mm w))).toNatClampNeg = g) : sp_rev0 (up2 mm 19 0 0) f w =
    (sp_tru (sp_make (up2 mm 19 0 0) w (sp_vk (mm 11 (sp_A mm (sp_L mm w)))) (sp_vd (mm 11 (sp_A mm (sp_L mm w)))) (nI f)) g (-10) 0 g, sp_tru (sp_make (up2 mm 19 0 0) w (sp_vk (mm 11 (sp_A mm (sp_L mm w)))) (sp_vd (mm 11 (sp_A mm (sp_L mm w)))) (nI f)) g (-10)) := by
  subst hg
  exact if_pos hC
/-- the one ahead of a latest version, where there is one -/
theorem Inv.AL {mm : q_Mem} (h : Inv mm) {w : Nat} (hw : w < sp_W mm) (h2 : ¬ mm 7 w < 2) : mm 12 (sp_L mm w) = nI (sp_A mm (sp_L mm w)) ∧ sp_A mm (sp_L mm w) < 4200 := by
  obtain ⟨n, hn, e1, e2⟩ := h.N hw
  have hK := h.K512
  have hLK := h.LK hw
  rcases h.A hLK with ⟨-, a2⟩ | ⟨a1, a2, -⟩
  · exfalso
    rw [e1] at a2
    have : n = 0 := nI_inj (by omega) (by decide) a2
    subst this
    exact h2 (by rw [e2]; decide)
  · exact ⟨a1, by omega⟩
/-! ===== versions back ===== -/
theorem sp_back_succ (mm : q_Mem) : ∀ (n j : Nat), sp_back mm (n + 1) j = sp_A mm (sp_back mm n j)
  | 0, _ => rfl
  | n + 1, j => by
    show sp_back mm (n + 1) (sp_A mm j) = _
    rw [sp_back_succ mm n]
    rfl
/-- from a version of number n one may go back n times -/
theorem Inv.back {mm : q_Mem} (h : Inv mm) {j n : Nat} (hj : j < sp_K mm) (hn : mm 21 j = nI n) (hn2 : n < 2 ^ 31) : ∀ t, t ≤ n → sp_back mm t j < sp_K mm ∧ mm 21 (sp_back mm t j) = nI (n - t) ∧ (t < n → mm 12 (sp_back mm t j) = nI (sp_back mm (t + 1) j)) := by
  intro t
  induction t with
  | zero =>
    intro _
    refine ⟨hj, hn, fun h0 => ?_⟩
    rcases h.A hj with ⟨-, a2⟩ | ⟨a1, -⟩
    · rw [hn] at a2
      have := nI_inj hn2 (by decide) a2
      omega
    · exact a1
  | succ t ih =>
    intro ht
    obtain ⟨i1, i2, -⟩ := ih (by omega)
    have e := sp_back_succ mm t j
    rcases h.A i1 with ⟨-, a2⟩ | ⟨a1, a2, -, k, hk, a3, a4⟩
    · rw [i2] at a2
      have := nI_inj (by omega) (by decide) a2
      omega
    · have hk1 : n - t = k + 1 := nI_inj (by omega) (by have := h.K512; omega) (i2.symm.trans a4)
      have hlt : sp_back mm (t + 1) j < sp_K mm := by rw [e]; omega
      have hnum : mm 21 (sp_back mm (t + 1) j) = nI (n - (t + 1)) := by rw [e, a3]; congr 1; omega
      refine ⟨hlt, hnum, fun h0 => ?_⟩
      rcases h.A hlt with ⟨-, b2⟩ | ⟨b1, -⟩
      · rw [hnum] at b2
        have := nI_inj (by omega) (by decide) b2
        omega
      · rw [b1, sp_back_succ mm (t + 1) j]
