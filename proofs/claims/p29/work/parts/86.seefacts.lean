/-! ===== what a seen sign leaves; a car's target ===== -/
theorem ct_pos {p : Nat → Bool} : ∀ {n : Nat}, (∃ k, k < n ∧ p k = true) → 1 ≤ fb_ct p n
  | 0, ⟨k, h, _⟩ => absurd h (Nat.not_lt_zero k)
  | n + 1, ⟨k, h, h2⟩ => by
    rw [fb_ct_succ]
    by_cases q : k = n
    · subst q; rw [h2]; simp only [if_true]; omega
    · have := ct_pos (p := p) (n := n) ⟨k, by omega, h2⟩
      omega
theorem ct_sub {p q : Nat → Bool} : ∀ {n : Nat}, (∀ k, k < n → p k = true → q k = true) → fb_ct p n ≤ fb_ct q n
  | 0, _ => Nat.le_refl _
  | n + 1, h => by
    rw [fb_ct_succ, fb_ct_succ]
    have ih := ct_sub (p := p) (q := q) (n := n) (fun k hk => h k (by omega))
    by_cases hp : p n = true
    · rw [hp, h n (by omega) hp]; omega
    · have : p n = false := by
        cases z : p n with
        | false => rfl
        | true => exact absurd z hp
      rw [this]
      simp only [Bool.false_eq_true, if_false]
      omega
theorem ct_one {p q : Nat → Bool} {n i : Nat} (hi : i < n) (h : ∀ k, k < n → p k = true → k = i ∨ q k = true) : fb_ct p n ≤ fb_ct q n + 1 := by
  have h1 : fb_ct p n ≤ fb_ct (fun k => if k = i then true else q k) n := ct_sub (fun k hk hp => by
    show (if k = i then true else q k) = true
    rcases h k hk hp with e | e
    · rw [if_pos e]
    · by_cases z : k = i
      · rw [if_pos z]
      · rw [if_neg z]; exact e)
  have h2 := fb_ct_upd q true hi
  simp only [if_true] at h2
  omega
section
variable {mm : q_Mem} {w c d q v : Nat}
def dcn (mm : q_Mem) (w : Nat) : Nat := fb_ct (fun i => decide (¬ mm 20 (9 * w + i) = -1)) 9
theorem dc_n : sp_dc mm w = nI (dcn mm w) := dc_ct mm w 9 (by decide)
theorem dcn_le : dcn mm w ≤ 9 := fb_ct_le _ _
theorem se_at (h : LI mm) (hc : c < 3) (hw : w < sp_W mm) (hd : d < 3) (hq : q < 100) : sp_see mm (nI c) (nI w) (nI d) (nI q) = if sp_nr mm c w then sp_see0 mm c w d (nI q) else (0, up2 mm 19 0 3) := by
  unfold sp_see
  have hr : sp_rng (nI d) (nI q) := ⟨⟨nI_pos' (by omega), nI_le (b := 2) (by omega) (by decide)⟩, nI_pos' (by omega), nI_le (b := 99) (by omega) (by decide)⟩
  rw [if_pos ⟨v_car hc, h.wy hw⟩, if_pos hr, h.z, h.cl hw, nt_c (by omega), nt_c (by omega)]
theorem keep_k {k : Nat} (hk : k ≠ 20) {x : Int32} : sp_keep mm w c d x k = mm k := by
  funext j
  exact if_neg (fun z => hk z.1)
theorem forg_k {k : Nat} (hk : k ≠ 20) : sp_forg mm w k = mm k := by
  funext j
  exact if_neg (fun z => hk z.1)
theorem LI_keep (h : LI mm) (hw : w < sp_W mm) (hc : c < 3) (hd : d < 3) (hq : q < 100) : LI (sp_keep mm w c d (nI q)) := ⟨Inv_keep h.1 hw hc hd hq, by rw [keep_k (by decide)]; exact h.2.1, Jv_of h.2.2 (keep_k (by decide)) (keep_k (by decide)) (keep_k (by decide)) (keep_k (by decide)) (keep_k (by decide)) (keep_k (by decide)) (keep_k (by decide))⟩
theorem LI_forg (h : LI mm) : LI (sp_forg mm w) := ⟨Inv_forg h.1, by rw [forg_k (by decide)]; exact h.2.1, Jv_of h.2.2 (forg_k (by decide)) (forg_k (by decide)) (forg_k (by decide)) (forg_k (by decide)) (forg_k (by decide)) (forg_k (by decide)) (forg_k (by decide))⟩
/-- dear, as a number -/
theorem dv_nI (h : LI mm) (hw : w < sp_W mm) : ∃ D k : Nat, D < 3 ∧ k < 4 ∧ td mm w = nI D ∧ kd mm w = nI k ∧ ((sp_dv mm w = 0 ∧ ∀ i, i < 9 → ¬ i % 3 = D → mm 20 (9 * w + i) = -1) ∨ ∃ L i0 : Nat, L < 100 ∧ sp_dv mm w = nI ((100 - L) * (k + 1)) ∧ mm 20 (9 * w + i0) = nI L ∧ i0 < 9 ∧ ∀ i p, i < 9 → ¬ i % 3 = D → p < 100 → mm 20 (9 * w + i) = nI p → L ≤ p) := by
  obtain ⟨D, hD, eD⟩ := iv_vd h.1 hw
  obtain ⟨k, hk, ek⟩ := iv_vk h.1 hw
  refine ⟨D, k, hD, hk, eD, ek, ?_⟩
  rcases ls_ls hD eD (iv_q h.1 hw) 9 (Nat.le_refl _) with ⟨a1, a2⟩ | ⟨L, i0, a1, a2, a3, a4, a5, a6⟩
  · exact Or.inl ⟨if_pos a1, a2⟩
  · refine Or.inr ⟨L, i0, a2, ?_, a5, a3, a6⟩
    have e : sp_ls mm w = nI L := a1
    have hn : ¬ sp_ls mm w = -1 := by rw [e]; exact nI_nm1 (by omega)
    refine (if_neg hn).trans ?_
    rw [e, ek, show (100 : Int32) = nI 100 from rfl, pk_sub (by omega), nI_1, pk_mul]
theorem dv_le (h : LI mm) (hw : w < sp_W mm) : ∃ m, m ≤ 400 ∧ sp_dv mm w = nI m := by
  obtain ⟨D, k, hD, hk, eD, ek, a | ⟨L, i0, hL, e, -⟩⟩ := dv_nI h hw
  · exact ⟨0, by decide, a.1⟩
  · refine ⟨(100 - L) * (k + 1), ?_, e⟩
    have : (100 - L) * (k + 1) ≤ 100 * 4 := Nat.mul_le_mul (by omega) (by omega)
    omega
/-- a sign that is kept and changes nothing -/
theorem se_n (h : LI mm) (hc : c < 3) (hw : w < sp_W mm) (hd : d < 3) (hq : q < 100) (hn : sp_nr mm c w) (hC : ¬ (¬ td mm w = nI d ∧ sp_agr (sp_keep mm w c d (nI q)) w d)) : ∃ M : q_Mem, sp_see mm (nI c) (nI w) (nI d) (nI q) = (0, M) ∧ LI M ∧ sp_K M = sp_K mm ∧ sp_W M = sp_W mm ∧ M 7 w = mm 7 w ∧ 0 < sp_dc M w ∧ sp_dc M w ≤ sp_dc mm w + 1 ∧ (¬ td mm w = nI d → (100 - nI q) * (kd mm w + 1) ≤ sp_dv M w) := by
  have hLK := LI_keep h hw hc hd hq
  have hWK : sp_W (sp_keep mm w c d (nI q)) = sp_W mm := W_keep
  have h20 : ∀ i, i < 9 → sp_keep mm w c d (nI q) 20 (9 * w + i) = if i = 3 * c + d then nI q else if ¬ i % 3 = d ∧ nI q < mm 20 (9 * w + i) then -1 else mm 20 (9 * w + i) := fun i hi => (kp_20 hi).trans (if_pos rfl)
  have hi0 : 3 * c + d < 9 := by omega
  refine ⟨sp_keep mm w c d (nI q), ?_, hLK, K_keep, hWK, by rw [keep_k (by decide)], ?_, ?_, fun hD => ?_⟩
  · rw [se_at h hc hw hd hq, if_pos hn]; exact if_neg hC
  · rw [dc_n]
    have h1 : 1 ≤ dcn (sp_keep mm w c d (nI q)) w := ct_pos ⟨3 * c + d, hi0, decide_eq_true (by rw [h20 _ hi0, if_pos rfl]; exact nI_nm1 (by omega))⟩
    have h9 := dcn_le (mm := sp_keep mm w c d (nI q)) (w := w)
    exact nI_lt (a := 0) (by omega) (by omega)
  · have h9 := dcn_le (mm := sp_keep mm w c d (nI q)) (w := w)
    have h8 := dcn_le (mm := mm) (w := w)
    rw [dc_n, dc_n, nI_1]
    refine nI_le ?_ (by omega)
    refine ct_one hi0 (fun i hi hp => ?_)
    have hp2 := of_decide_eq_true hp
    by_cases e : i = 3 * c + d
    · exact Or.inl e
    · rw [h20 i hi, if_neg e] at hp2
      refine Or.inr (decide_eq_true (fun z => hp2 ?_))
      by_cases y : ¬ i % 3 = d ∧ nI q < mm 20 (9 * w + i)
      · rw [if_pos y]
      · rw [if_neg y]; exact z
  · have hwK : w < sp_W (sp_keep mm w c d (nI q)) := by rw [hWK]; exact hw
    obtain ⟨D, k, hD3, hk, eD, ek, a⟩ := dv_nI hLK hwK
    have etd : td (sp_keep mm w c d (nI q)) w = td mm w := by
      show sp_vd (sp_keep mm w c d (nI q) 11 (sp_L (sp_keep mm w c d (nI q)) w)) = _
      have eL : sp_L (sp_keep mm w c d (nI q)) w = sp_L mm w := by unfold sp_L; rw [keep_k (by decide)]
      rw [eL, keep_k (by decide)]
    have ekd : kd (sp_keep mm w c d (nI q)) w = kd mm w := by
      show sp_vk (sp_keep mm w c d (nI q) 11 (sp_L (sp_keep mm w c d (nI q)) w)) = _
      have eL : sp_L (sp_keep mm w c d (nI q)) w = sp_L mm w := by unfold sp_L; rw [keep_k (by decide)]
      rw [eL, keep_k (by decide)]
    have hne : ¬ (3 * c + d) % 3 = D := fun z => hD (by rw [← etd, eD]; congr 1; omega)
    have hval : sp_keep mm w c d (nI q) 20 (9 * w + (3 * c + d)) = nI q := by rw [h20 _ hi0, if_pos rfl]
    rcases a with ⟨-, a2⟩ | ⟨L, i0, hL, e, -, -, a6⟩
    · exact absurd (hval.symm.trans (a2 _ hi0 hne)) (nI_nm1 (by omega))
    · have hLq := a6 (3 * c + d) q hi0 hne hq hval
      rw [e, ← ekd, ek, show (100 : Int32) = nI 100 from rfl, pk_sub (by omega), nI_1, pk_mul]
      have h1 : (100 - q) * (k + 1) ≤ (100 - L) * (k + 1) := Nat.mul_le_mul_right _ (by omega)
      have h2 : (100 - L) * (k + 1) ≤ 100 * 4 := Nat.mul_le_mul (by omega) (by omega)
      exact nI_le h1 (by omega)
/-- .. and one that makes a version -/
theorem se_y (h : LI mm) (hK1 : sp_K mm < 512) (hc : c < 3) (hw : w < sp_W mm) (hd : d < 3) (hq : q < 100) (hn : sp_nr mm c w) (hC : ¬ td mm w = nI d ∧ sp_agr (sp_keep mm w c d (nI q)) w d) : ∃ M : q_Mem, sp_see mm (nI c) (nI w) (nI d) (nI q) = (1, M) ∧ LI M ∧ sp_K M = sp_K mm + 1 ∧ sp_W M = sp_W mm ∧ sp_dc M w = 0 ∧ M 7 w = mm 7 w + 1 ∧ td M w = nI d ∧ kd M w = kd mm w ∧ be M w = -1 ∧ sp_dv M w = 0 := by
  have hLK := LI_keep h hw hc hd hq
  have hWK : sp_W (sp_keep mm w c d (nI q)) = sp_W mm := W_keep
  have hKK : sp_K (sp_keep mm w c d (nI q)) = sp_K mm := K_keep
  have hwK : w < sp_W (sp_keep mm w c d (nI q)) := by rw [hWK]; exact hw
  obtain ⟨k, hk, ek⟩ := iv_vk h.1 hw
  have ek2 : kd mm w = nI k := ek
  have hff : (-1 : Int32) = nI 0 - 1 := by decide
  obtain ⟨a1, a2⟩ := LI_make hLK (by rw [hKK]; exact hK1) hwK hk hd (e := 0) (by decide) hff
  obtain ⟨n1, n2, n3, n4, -, -, -, -, -⟩ := mk_facts hLK hwK hk hd (e := 0) (by decide) hff
  obtain ⟨P, hP⟩ : ∃ P, P = sp_make (sp_keep mm w c d (nI q)) w (nI k) (nI d) (-1) := ⟨_, rfl⟩
  have hWP : sp_W P = sp_W mm := by rw [hP, mk_W, hWK]
  rw [← hP] at a1 a2 n1 n2 n3 n4
  have hLF : LI (sp_forg P w) := LI_forg a1
  have eL : sp_L (sp_forg P w) w = sp_L P w := by unfold sp_L; rw [forg_k (by decide)]
  have e11 : sp_forg P w 11 (sp_L (sp_forg P w) w) = P 11 (sp_L P w) := by rw [eL, forg_k (by decide)]
  have eW : sp_W (sp_forg P w) = sp_W mm := by unfold sp_W at hWP ⊢; rw [forg_k (by decide)]; exact hWP
  have h20 : ∀ i, i < 9 → sp_forg P w 20 (9 * w + i) = -1 := fun i hi => (fg_20 hi).trans (if_pos rfl)
  refine ⟨sp_forg P w, ?_, hLF, ?_, eW, ?_, ?_, ?_, ?_, ?_, ?_⟩
  · rw [se_at h hc hw hd hq, if_pos hn, hP, ← ek2]; exact if_pos hC
  · rw [K_forg, a2, hKK]
  · rw [dc_n]
    have : dcn (sp_forg P w) w = 0 := fb_ct_none (fun i hi => decide_eq_false (fun z => z (h20 i hi)))
    rw [this]; rfl
  · rw [forg_k (by decide), n4, keep_k (by decide)]
  · show sp_vd (sp_forg P w 11 (sp_L (sp_forg P w) w)) = _; rw [e11]; exact n2
  · show sp_vk (sp_forg P w 11 (sp_L (sp_forg P w) w)) = _; rw [e11, ek2]; exact n1
  · show sp_ve (sp_forg P w 11 (sp_L (sp_forg P w) w)) = _; rw [e11]; exact n3
  · obtain ⟨D, k2, hD3, hk2, eD, ek3, a | ⟨L, i0, hL, -, e, hi, -⟩⟩ := dv_nI hLF (by rw [eW]; exact hw)
    · exact a.1
    · exact absurd (e.symm.trans (h20 i0 hi)) (nI_nm1 (by omega))
/-! targets -/
theorem wt_nI (h : LI mm) (hc : c < 3) (hv : v < sp_W mm) : ∃ m n : Nat, m ≤ 400 ∧ n ≤ 32 ∧ sp_dv mm v = nI m ∧ sp_wth mm c v = nI (m * 100 / (1 + n)) := by
  obtain ⟨m, hm, em⟩ := dv_le h hv
  obtain ⟨n, hn, en⟩ := nst_nI h.1 hc hv
  refine ⟨m, n, hm, hn, em, ?_⟩
  unfold sp_wth
  rw [em, en, show (100 : Int32) = nI 100 from rfl, pk_mul, show (1 : Int32) = nI 1 from rfl, nI_add, pk_div (by omega) (by omega) (by omega)]
theorem tg_b (h : LI mm) (hc : c < 3) : ∀ n, n ≤ sp_W mm → ∃ b, b ≤ 40000 ∧ (tgn mm c n).2 = nI b ∧ (∀ v, v < n → ∃ a, a ≤ b ∧ sp_wth mm c v = nI a) ∧ ((b = 0 ∧ (tgn mm c n).1 = -1) ∨ ∃ v, v < n ∧ (tgn mm c n).1 = nI v ∧ sp_wth mm c v = nI b ∧ 0 < b)
  | 0, _ => ⟨0, by decide, rfl, fun v hv => absurd hv (Nat.not_lt_zero v), Or.inl ⟨rfl, rfl⟩⟩
  | n + 1, hn => by
    obtain ⟨b, hb, e2, h3, h4⟩ := tg_b h hc n (by omega)
    obtain ⟨m, r, hm, hr, -, ew⟩ := wt_nI h hc (v := n) (by omega)
    have hle : m * 100 / (1 + r) ≤ 40000 := Nat.le_trans (Nat.div_le_self _ _) (by omega)
    generalize m * 100 / (1 + r) = a at ew hle
    by_cases q : b < a
    · have hlt : (tgn mm c n).2 < sp_wth mm c n := by rw [e2, ew]; exact nI_lt q (by omega)
      refine ⟨a, hle, (tg_y2 hlt).symm.trans ew, fun v hv => ?_, Or.inr ⟨n, by omega, (tg_y1 hlt).symm, ew, by omega⟩⟩
      by_cases e : v = n
      · subst e; exact ⟨a, Nat.le_refl _, ew⟩
      · obtain ⟨x, hx, ex⟩ := h3 v (by omega)
        exact ⟨x, by omega, ex⟩
    · have hlt : ¬ (tgn mm c n).2 < sp_wth mm c n := by rw [e2, ew]; exact nI_nlt (by omega) (by omega)
      refine ⟨b, hb, (tg_n2 hlt).symm.trans e2, fun v hv => ?_, ?_⟩
      · by_cases e : v = n
        · subst e; exact ⟨a, by omega, ew⟩
        · exact h3 v (by omega)
      · rcases h4 with ⟨b0, e1⟩ | ⟨v, hv, e1, e3, e4⟩
        · exact Or.inl ⟨b0, (tg_n1 hlt).symm.trans e1⟩
        · exact Or.inr ⟨v, by omega, (tg_n1 hlt).symm.trans e1, e3, e4⟩
/-- a target is dear -/
theorem tg_dear (h : LI mm) (hc : c < 3) : sp_tg mm c = -1 ∨ ∃ v, v < sp_W mm ∧ sp_tg mm c = nI v ∧ 0 < sp_dv mm v := by
  obtain ⟨b, hb, e2, h3, h4⟩ := tg_b h hc _ (Nat.le_refl _)
  rcases h4 with ⟨-, e1⟩ | ⟨v, hv, e1, e3, e4⟩
  · exact Or.inl e1
  · refine Or.inr ⟨v, hv, e1, ?_⟩
    obtain ⟨m, n, hm, hn, em, ew⟩ := wt_nI h hc hv
    have hq : m * 100 / (1 + n) = b := by
      have h1 : m * 100 / (1 + n) ≤ 40000 := Nat.le_trans (Nat.div_le_self _ _) (by omega)
      exact nI_inj (by omega) (by omega) (ew.symm.trans e3)
    have hm0 : 0 < m := by
      rcases Nat.eq_zero_or_pos m with z | z
      · subst z; rw [Nat.zero_mul, Nat.zero_div] at hq; omega
      · exact z
    rw [em]
    exact nI_lt (a := 0) hm0 (by omega)
/-- where a way is dear there is a target -/
theorem tg_some (h : LI mm) (hc : c < 3) (hv : v < sp_W mm) (hp : 0 < sp_dv mm v) : ¬ sp_tg mm c = -1 := by
  obtain ⟨b, hb, e2, h3, h4⟩ := tg_b h hc _ (Nat.le_refl _)
  obtain ⟨m, n, hm, hn, em, ew⟩ := wt_nI h hc hv
  have hm0 : 0 < m := by
    rcases Nat.eq_zero_or_pos m with z | z
    · subst z; rw [em] at hp; exact absurd hp (by decide)
    · exact z
  obtain ⟨a, ha, ea⟩ := h3 v hv
  have h1 : m * 100 / (1 + n) ≤ 40000 := Nat.le_trans (Nat.div_le_self _ _) (by omega)
  have e : m * 100 / (1 + n) = a := nI_inj (by omega) (by omega) (ew.symm.trans ea)
  have h0 : 0 < m * 100 / (1 + n) := Nat.div_pos (by omega) (by omega)
  rcases h4 with ⟨b0, -⟩ | ⟨u, hu, e1, -⟩
  · omega
  · intro z
    have h40 := h.1.W40
    exact nI_nm1 (n := u) (by omega) (e1.symm.trans z)
/-- tables that differ in where the cars are alone -/
theorem goes_k {x y : Int32} {k : Nat} (h1 : k ≠ 15) (h2 : k ≠ 16) : sp_goes mm c x y k = mm k := by
  unfold sp_goes
  rw [up2_k h2, up2_k h1]
theorem LI_goes (h : LI mm) {x y : Nat} (hx : x ≤ 16) (hy : y ≤ 16) : LI (sp_goes mm c (nI x) (nI y)) := ⟨Inv_goes h.1 hx hy, by rw [goes_k (by decide) (by decide)]; exact h.2.1, Jv_of h.2.2 (goes_k (by decide) (by decide)) (goes_k (by decide) (by decide)) (goes_k (by decide) (by decide)) (goes_k (by decide) (by decide)) (goes_k (by decide) (by decide)) (goes_k (by decide) (by decide)) (goes_k (by decide) (by decide))⟩
theorem ls_x {A : q_Mem} (h : ∀ k, k ≠ 15 → k ≠ 16 → A k = mm k) : sp_dv A w = sp_dv mm w ∧ sp_dc A w = sp_dc mm w := by
  have eL : sp_L A w = sp_L mm w := by unfold sp_L; rw [h 8 (by decide) (by decide)]
  have e1 : sp_ls1 A w = sp_ls1 mm w := by
    funext i x
    unfold sp_ls1
    rw [eL, h 11 (by decide) (by decide), h 20 (by decide) (by decide)]
  have e2 : sp_dc1 A w = sp_dc1 mm w := by
    funext i x
    unfold sp_dc1
    rw [h 20 (by decide) (by decide)]
  unfold sp_dv sp_dc sp_ls
  rw [e1, e2, eL, h 11 (by decide) (by decide)]
  exact ⟨rfl, rfl⟩
theorem gd_at (h : LI mm) (hc : c < 3) {x y : Nat} (hx : x ≤ 16) (hy : y ≤ 16) : ∃ (n : Nat) (M : q_Mem), sp_drive mm (nI c) (nI x) (nI y) = (nI n, M) ∧ n ≤ 32 ∧ LI M ∧ sp_K M = sp_K mm := by
  obtain ⟨n, hn, e⟩ := far_nI h.1 hc hx hy
  refine ⟨n, sp_goes mm c (nI x) (nI y), ?_, hn, LI_goes h hx hy, K_goes⟩
  unfold sp_drive
  have hcr : sp_cr (nI x) (nI y) := ⟨⟨nI_pos' (by omega), nI_le (b := 16) hx (by decide)⟩, nI_pos' (by omega), nI_le (b := 16) hy (by decide)⟩
  rw [if_pos ⟨v_car hc, hcr⟩, nt_c (by omega), h.z, e]
theorem sn_no (h : LI mm) (hc : c < 3) (ht : sp_tg mm c = -1) : sp_snd mm (nI c) = (0, up2 mm 19 0 2) := by
  unfold sp_snd
  rw [if_pos (v_car hc), nt_c (by omega), if_pos ht]
theorem sn_at (h : LI mm) (hc : c < 3) (hv : v < sp_W mm) (ht : sp_tg mm c = nI v) : ∃ (n : Nat) (M : q_Mem), sp_snd mm (nI c) = (nI n, M) ∧ n ≤ 32 ∧ LI M ∧ sp_K M = sp_K mm ∧ sp_W M = sp_W mm ∧ ∀ u, sp_dv M u = sp_dv mm u ∧ sp_dc M u = sp_dc mm u := by
  have h40 := h.1.W40
  obtain ⟨x, y, x2, y2, hx, hy, hx2, hy2, e2, e3, e4, e5⟩ := iv_xy h.1 hv
  obtain ⟨n, hn, f1⟩ := far_nI h.1 hc hx hy
  obtain ⟨n2, hn2, f2⟩ := far_nI h.1 hc hx2 hy2
  have hE : sp_snd mm (nI c) = sp_snd0 mm c v := by
    unfold sp_snd
    rw [if_pos (v_car hc), nt_c (by omega), if_neg (by rw [ht]; exact nI_nm1 (by omega)), ht, nt_c (by omega), h.z]
  rw [hE]
  unfold sp_snd0
  rw [e2, e3, e4, e5, f1, f2]
  have gk : ∀ (a b : Nat), ∀ k, k ≠ 15 → k ≠ 16 → sp_goes mm c (nI a) (nI b) k = mm k := fun a b k h1 h2 => goes_k h1 h2
  have gW : ∀ (a b : Nat), sp_W (sp_goes mm c (nI a) (nI b)) = sp_W mm := fun a b => by unfold sp_W; rw [goes_k (by decide) (by decide)]
  by_cases q : nI n ≤ nI n2
  · rw [if_pos q]; exact ⟨n, _, rfl, hn, LI_goes h hx hy, K_goes, gW x y, fun u => ls_x (gk x y)⟩
  · rw [if_neg q]; exact ⟨n2, _, rfl, hn2, LI_goes h hx2 hy2, K_goes, gW x2 y2, fun u => ls_x (gk x2 y2)⟩
end
