def fb_ct (p : Nat → Bool) : Nat → Nat
  | 0 => 0
  | n + 1 => fb_ct p n + (if p n then 1 else 0)
theorem fb_ct_succ (p : Nat → Bool) (n : Nat) : fb_ct p (n + 1) = fb_ct p n + (if p n then 1 else 0) := rfl
theorem fb_ct_le (p : Nat → Bool) : ∀ n, fb_ct p n ≤ n
  | 0 => Nat.le_refl _
  | n + 1 => by
    have h := fb_ct_le p n
    rw [fb_ct_succ]
    split <;> omega
theorem fb_ct_step (p : Nat → Bool) (m : Nat) : ∀ n, fb_ct p m ≤ fb_ct p (m + n)
  | 0 => Nat.le_refl _
  | n + 1 => by
    have h := fb_ct_step p m n
    show fb_ct p m ≤ fb_ct p (m + n + 1)
    rw [fb_ct_succ]
    omega
theorem fb_ct_mono (p : Nat → Bool) {m n : Nat} (h : m ≤ n) : fb_ct p m ≤ fb_ct p n := by
  have := fb_ct_step p m (n - m)
  rwa [Nat.add_sub_cancel' h] at this
theorem fb_ct_cong {p q : Nat → Bool} : ∀ {n : Nat}, (∀ k, k < n → p k = q k) → fb_ct p n = fb_ct q n
  | 0, _ => rfl
  | n + 1, h => by
    rw [fb_ct_succ, fb_ct_succ, fb_ct_cong (fun k hk => h k (by omega)), h n (by omega)]
/-- one place changed -/
theorem fb_ct_out (p : Nat → Bool) (b : Bool) {i n : Nat} (h : n ≤ i) : fb_ct (fun k => if k = i then b else p k) n = fb_ct p n :=
  fb_ct_cong fun k hk => if_neg (by omega)
theorem fb_ct_upd (p : Nat → Bool) (b : Bool) {i : Nat} : ∀ {n : Nat}, i < n → fb_ct (fun k => if k = i then b else p k) n + (if p i then 1 else 0) = fb_ct p n + (if b then 1 else 0)
  | 0, h => absurd h (Nat.not_lt_zero i)
  | n + 1, h => by
    rw [fb_ct_succ, fb_ct_succ]
    rcases Nat.lt_or_ge i n with q | q
    · have := fb_ct_upd p b q
      have e : (if n = i then b else p n) = p n := if_neg (by omega)
      rw [e]
      omega
    · have e : i = n := by omega
      subst e
      rw [fb_ct_out p b (Nat.le_refl _)]
      simp only [if_true]
      omega
/-! ===== how many are there: places hit once each ===== -/
theorem fb_ct_none {p : Nat → Bool} : ∀ {n : Nat}, (∀ k, k < n → p k = false) → fb_ct p n = 0
  | 0, _ => rfl
  | n + 1, h => by rw [fb_ct_succ, fb_ct_none (fun k hk => h k (by omega)), h n (by omega)]; rfl
theorem ct_hit {N : Nat} : ∀ (n : Nat) (p : Nat → Bool) (e : Nat → Nat), (∀ i, i < n → e i < N ∧ p (e i) = true) → (∀ i j, i < n → j < n → e i = e j → i = j) → (∀ k, k < N → p k = true → ∃ i, i < n ∧ e i = k) → fb_ct p N = n
  | 0, p, e, _, _, h3 => fb_ct_none fun k hk => by
    cases hp : p k with
    | false => rfl
    | true => obtain ⟨i, hi, -⟩ := h3 k hk hp; exact absurd hi (Nat.not_lt_zero i)
  | n + 1, p, e, h1, h2, h3 => by
    have ih := ct_hit n (fun k => if k = e n then false else p k) e (fun i hi => ⟨(h1 i (by omega)).1, by
        show (if e i = e n then false else p (e i)) = true
        rw [if_neg (fun q => by have := h2 i n (by omega) (by omega) q; omega)]
        exact (h1 i (by omega)).2⟩) (fun i j hi hj => h2 i j (by omega) (by omega)) (fun k hk hp => by
        by_cases q : k = e n
        · exact absurd (show (if k = e n then false else p k) = true from hp) (by rw [if_pos q]; exact Bool.false_ne_true)
        · have hp2 : p k = true := by
            have : (if k = e n then false else p k) = true := hp
            rw [if_neg q] at this; exact this
          obtain ⟨i, hi, e1⟩ := h3 k hk hp2
          refine ⟨i, ?_, e1⟩
          rcases Nat.lt_or_ge i n with z | z
          · exact z
          · exact absurd (by rw [← e1, show i = n by omega]) q)
    have hu := fb_ct_upd p false (i := e n) (n := N) (h1 n (by omega)).1
    rw [(h1 n (by omega)).2, ih] at hu
    simp only [if_true] at hu
    have hf : (if false = true then 1 else 0 : Nat) = 0 := rfl
    omega
theorem dc_ct (mm : q_Mem) (w : Nat) : ∀ n, n < 1000 → it_n (sp_dc1 mm w) n 0 = nI (fb_ct (fun i => decide (¬ mm 20 (9 * w + i) = -1)) n)
  | 0, _ => rfl
  | n + 1, h => by
    show sp_dc1 mm w n (it_n (sp_dc1 mm w) n 0) = _
    rw [dc_ct mm w n (by omega), fb_ct_succ]
    unfold sp_dc1
    by_cases q : ¬ mm 20 (9 * w + n) = -1
    · rw [if_pos q, nI_1, decide_eq_true q]; rfl
    · rw [if_neg q, decide_eq_false q]; rfl
theorem pl_inj {a b a2 b2 : Nat} (hb : b < 3) (hb2 : b2 < 3) (h : 3 * a + b = 3 * a2 + b2) : a = a2 ∧ b = b2 := by omega
/-- the reference's number of sightings is that of the doubts -/
theorem sn_cnt {mm : q_Mem} {w : Nat} (h : sp_N mm w) : mm 17 w = sp_dc mm w := by
  obtain ⟨n, f, g, q, hn9, hn, hen, hall, hinj⟩ := h
  unfold sp_dc
  rw [dc_ct mm w 9 (by decide), hn]
  congr 1
  refine (ct_hit n _ (fun i => 3 * f i + g i) (fun i hi => ?_) (fun i j hi hj e => ?_) (fun k hk hp => ?_)).symm
  · obtain ⟨a1, a2, a3, -, a5⟩ := hen i hi
    refine ⟨by show 3 * f i + g i < 9; omega, decide_eq_true ?_⟩
    show ¬ mm 20 (9 * w + (3 * f i + g i)) = -1
    rw [a5]; exact nI_nm1 (by omega)
  · obtain ⟨a1, a2, -⟩ := hen i hi
    obtain ⟨b1, b2, -⟩ := hen j hj
    obtain ⟨c1, c2⟩ := pl_inj a2 b2 e
    exact hinj i j hi hj c1 c2
  · have hk2 : k = 3 * (k / 3) + k % 3 := by omega
    have hp2 : ¬ mm 20 (9 * w + k) = -1 := of_decide_eq_true hp
    rcases hall (k / 3) (k % 3) (by omega) (by omega) with z | ⟨i, hi, e1, e2⟩
    · rw [← hk2] at z; exact absurd z hp2
    · exact ⟨i, hi, by show 3 * f i + g i = k; rw [e1, e2]; omega⟩
/-! agreement -/
theorem pr_le {a b : Nat} (ha : a < 100) (hb : b < 100) : (nI a * nI b / 100 ≤ 20) ↔ a * b / 100 ≤ 20 := by
  have h : a * b ≤ 9801 := Nat.mul_le_mul (by omega : a ≤ 99) (by omega : b ≤ 99)
  rw [pk_mul, show (100 : Int32) = nI 100 from rfl, pk_div (by omega) (by decide) (by decide)]
  exact nI_leI (b := 20) (by omega) (by decide)
theorem sn_agr {mm : q_Mem} {w d n : Nat} {f g q : Nat → Nat} (hd : d < 3) (hen : ∀ i, i < n → f i < 3 ∧ g i < 3 ∧ q i < 100 ∧ mm 20 (9 * w + (3 * f i + g i)) = nI (q i)) (hall : ∀ c d, c < 3 → d < 3 → mm 20 (9 * w + (3 * c + d)) = -1 ∨ ∃ i, i < n ∧ f i = c ∧ g i = d) :
    an_y (sn_agk d n f g q) (n * n) = true ↔ sp_agr mm w d := by
  have ag : ∀ i j, i < n → j < n → g i = d → g j = d → q i * q j / 100 ≤ 20 → ∀ a b, f i = a → f j = b → sp_ag2 mm w d a b ∧ sp_ag2 mm w d b a := by
    intro i j hi hj h1 h2 h3 a b ea eb
    obtain ⟨-, -, p3, p4⟩ := hen i hi
    obtain ⟨-, -, r3, r4⟩ := hen j hj
    rw [h1, ea] at p4
    rw [h2, eb] at r4
    refine ⟨⟨by rw [p4]; exact nI_nm1 (by omega), by rw [r4]; exact nI_nm1 (by omega), ?_⟩, ⟨by rw [r4]; exact nI_nm1 (by omega), by rw [p4]; exact nI_nm1 (by omega), ?_⟩⟩
    · rw [p4, r4]; exact (pr_le p3 r3).mpr h3
    · rw [p4, r4]; rw [Nat.mul_comm] at h3; exact (pr_le r3 p3).mpr h3
  have back : ∀ a b, a < 3 → b < 3 → a ≠ b → sp_ag2 mm w d a b → an_y (sn_agk d n f g q) (n * n) = true := by
    intro a b ha hb hab ⟨h1, h2, h3⟩
    rcases hall a d ha hd with z | ⟨i, hi, i1, i2⟩
    · exact absurd z h1
    rcases hall b d hb hd with z | ⟨j, hj, j1, j2⟩
    · exact absurd z h2
    obtain ⟨-, -, p3, p4⟩ := hen i hi
    obtain ⟨-, -, r3, r4⟩ := hen j hj
    rw [i1, i2] at p4
    rw [j1, j2] at r4
    rw [p4, r4] at h3
    have hn0 : 0 < n := by omega
    have hk : n * i + j < n * n := by
      have : n * i + n ≤ n * n := by rw [← Nat.mul_succ]; exact Nat.mul_le_mul_left n hi
      omega
    refine an_y_iff.mpr ⟨n * i + j, hk, ?_⟩
    have e1 : (n * i + j) / n = i := by rw [Nat.mul_add_div hn0, Nat.div_eq_of_lt hj]; rfl
    have e2 : (n * i + j) % n = j := by rw [Nat.mul_add_mod]; exact Nat.mod_eq_of_lt hj
    unfold sn_agk sn_ag
    rw [e1, e2]
    exact decide_eq_true ⟨⟨i2, j2, by rw [i1, j1]; exact hab⟩, (pr_le p3 r3).mp h3⟩
  constructor
  · intro h
    obtain ⟨k, hk, hp⟩ := an_y_iff.mp h
    obtain ⟨hn0, hkd, hkm⟩ := nn_div hk
    unfold sn_agk sn_ag at hp
    obtain ⟨⟨h1, h2, h3⟩, h4⟩ := of_decide_eq_true hp
    have p := (hen _ hkd).1
    have r := (hen _ hkm).1
    have key := ag _ _ hkd hkm h1 h2 h4 _ _ rfl rfl
    generalize f (k / n) = a at p key h3
    generalize f (k % n) = b at r key h3
    have cs : (a = 0 ∧ b = 1) ∨ (a = 0 ∧ b = 2) ∨ (a = 1 ∧ b = 2) ∨ (a = 1 ∧ b = 0) ∨ (a = 2 ∧ b = 0) ∨ (a = 2 ∧ b = 1) := by omega
    rcases cs with ⟨rfl, rfl⟩ | ⟨rfl, rfl⟩ | ⟨rfl, rfl⟩ | ⟨rfl, rfl⟩ | ⟨rfl, rfl⟩ | ⟨rfl, rfl⟩
    · exact Or.inl key.1
    · exact Or.inr (Or.inl key.1)
    · exact Or.inr (Or.inr key.1)
    · exact Or.inl key.2
    · exact Or.inr (Or.inl key.2)
    · exact Or.inr (Or.inr key.2)
  · rintro (h | h | h)
    · exact back 0 1 (by decide) (by decide) (by decide) h
    · exact back 0 2 (by decide) (by decide) (by decide) h
    · exact back 1 2 (by decide) (by decide) (by decide) h
/-! how dear -/
theorem sn_mx {D n : Nat} {g h : Nat → Nat} (hD : D < 3) (hen : ∀ i, i < n → g i < 3 ∧ h i < 100) : ∀ m, m ≤ n → ∃ M : Nat, M ≤ 100 ∧ it_n (sn_d1 (nI D) g h) m 0 = nI M ∧ (∀ i, i < m → ¬ g i = D → 100 - h i ≤ M) ∧ (M = 0 ∨ ∃ i, i < m ∧ ¬ g i = D ∧ M = 100 - h i)
  | 0, _ => ⟨0, by decide, rfl, fun i hi => absurd hi (Nat.not_lt_zero i), Or.inl rfl⟩
  | m + 1, hm => by
    obtain ⟨M, h1, h2, h3, h4⟩ := sn_mx hD hen m (by omega)
    obtain ⟨g3, h100⟩ := hen m (by omega)
    show ∃ M2 : Nat, M2 ≤ 100 ∧ sn_d1 (nI D) g h m (it_n (sn_d1 (nI D) g h) m 0) = nI M2 ∧ _
    rw [h2]
    by_cases e : g m = D
    · have hs : sn_sure (nI D) g h m = nI 0 := by unfold sn_sure; rw [e, if_pos rfl]; rfl
      have hn : ¬ nI M < nI 0 := nI_nlt (by omega) (by omega)
      refine ⟨M, h1, ?_, fun i hi hg => ?_, ?_⟩
      · unfold sn_d1; rw [hs, if_neg hn]
      · by_cases q : i = m
        · subst q; exact absurd e hg
        · exact h3 i (by omega) hg
      · rcases h4 with z | ⟨i, a1, a2, a3⟩
        · exact Or.inl z
        · exact Or.inr ⟨i, by omega, a2, a3⟩
    · have hs : sn_sure (nI D) g h m = nI (100 - h m) := by
        unfold sn_sure
        rw [if_neg (fun q => e (nI_inj (by omega) (by omega) q))]
        exact pk_sub (a := 100) (by omega)
      by_cases q : M < 100 - h m
      · refine ⟨100 - h m, by omega, ?_, fun i hi hg => ?_, Or.inr ⟨m, by omega, e, rfl⟩⟩
        · unfold sn_d1; rw [hs, if_pos (nI_lt q (by omega))]
        · by_cases z : i = m
          · subst z; exact Nat.le_refl _
          · have := h3 i (by omega) hg; omega
      · refine ⟨M, h1, ?_, fun i hi hg => ?_, ?_⟩
        · unfold sn_d1; rw [hs, if_neg (nI_nlt (by omega) (by omega))]
        · by_cases z : i = m
          · subst z; omega
          · exact h3 i (by omega) hg
        · rcases h4 with z | ⟨i, a1, a2, a3⟩
          · exact Or.inl z
          · exact Or.inr ⟨i, by omega, a2, a3⟩
theorem ls_ls {mm : q_Mem} {w D : Nat} (hD : D < 3) (hv : sp_vd (mm 11 (sp_L mm w)) = nI D) (hq : ∀ i, i < 9 → mm 20 (9 * w + i) = -1 ∨ ∃ q, q < 100 ∧ mm 20 (9 * w + i) = nI q) : ∀ m, m ≤ 9 → (it_n (sp_ls1 mm w) m (-1) = -1 ∧ ∀ i, i < m → ¬ i % 3 = D → mm 20 (9 * w + i) = -1) ∨ ∃ L i0 : Nat, it_n (sp_ls1 mm w) m (-1) = nI L ∧ L < 100 ∧ i0 < m ∧ ¬ i0 % 3 = D ∧ mm 20 (9 * w + i0) = nI L ∧ ∀ i q, i < m → ¬ i % 3 = D → q < 100 → mm 20 (9 * w + i) = nI q → L ≤ q
  | 0, _ => Or.inl ⟨rfl, fun i hi => absurd hi (Nat.not_lt_zero i)⟩
  | m + 1, hm => by
    have ih := ls_ls hD hv hq m (by omega)
    show (sp_ls1 mm w m (it_n (sp_ls1 mm w) m (-1)) = -1 ∧ _) ∨ ∃ L i0 : Nat, sp_ls1 mm w m (it_n (sp_ls1 mm w) m (-1)) = nI L ∧ _
    have dd : (nI (m % 3) = sp_vd (mm 11 (sp_L mm w))) ↔ m % 3 = D := by rw [hv]; exact nI_eq (by omega) (by omega)
    by_cases e : m % 3 = D
    · have hs : ∀ x, sp_ls1 mm w m x = x := fun x => by unfold sp_ls1; rw [if_neg (fun z => z.1 (dd.mpr e))]
      rw [hs]
      rcases ih with ⟨a1, a2⟩ | ⟨L, i0, a1, a2, a3, a4, a5, a6⟩
      · refine Or.inl ⟨a1, fun i hi hi3 => ?_⟩
        by_cases z : i = m
        · subst z; exact absurd e hi3
        · exact a2 i (by omega) hi3
      · refine Or.inr ⟨L, i0, a1, a2, by omega, a4, a5, fun i q hi hi3 hq2 hm2 => ?_⟩
        by_cases z : i = m
        · subst z; exact absurd e hi3
        · exact a6 i q (by omega) hi3 hq2 hm2
    · rcases hq m (by omega) with q0 | ⟨q, hq1, hq2⟩
      · have hs : ∀ x, sp_ls1 mm w m x = x := fun x => by unfold sp_ls1; rw [if_neg (fun z => z.2.1 q0)]
        rw [hs]
        rcases ih with ⟨a1, a2⟩ | ⟨L, i0, a1, a2, a3, a4, a5, a6⟩
        · refine Or.inl ⟨a1, fun i hi hi3 => ?_⟩
          by_cases z : i = m
          · subst z; exact q0
          · exact a2 i (by omega) hi3
        · refine Or.inr ⟨L, i0, a1, a2, by omega, a4, a5, fun i r hi hi3 hr hr2 => ?_⟩
          by_cases z : i = m
          · subst z; rw [q0] at hr2; exact absurd hr2.symm (nI_nm1 (by omega))
          · exact a6 i r (by omega) hi3 hr hr2
      · rcases ih with ⟨a1, a2⟩ | ⟨L, i0, a1, a2, a3, a4, a5, a6⟩
        · refine Or.inr ⟨q, m, ?_, hq1, by omega, e, hq2, fun i r hi hi3 hr hr2 => ?_⟩
          · unfold sp_ls1
            rw [if_pos ⟨fun z => e (dd.mp z), by rw [hq2]; exact nI_nm1 (by omega), Or.inl a1⟩, hq2]
          · by_cases z : i = m
            · subst z; rw [hq2] at hr2; exact Nat.le_of_eq (nI_inj (by omega) (by omega) hr2)
            · rw [a2 i (by omega) hi3] at hr2; exact absurd hr2.symm (nI_nm1 (by omega))
        · by_cases z : q < L
          · refine Or.inr ⟨q, m, ?_, hq1, by omega, e, hq2, fun i r hi hi3 hr hr2 => ?_⟩
            · rw [a1]
              unfold sp_ls1
              rw [if_pos ⟨fun z => e (dd.mp z), by rw [hq2]; exact nI_nm1 (by omega), Or.inr (by rw [hq2]; exact nI_lt z (by omega))⟩, hq2]
            · by_cases z2 : i = m
              · subst z2; rw [hq2] at hr2; exact Nat.le_of_eq (nI_inj (by omega) (by omega) hr2)
              · have := a6 i r (by omega) hi3 hr hr2; omega
          · refine Or.inr ⟨L, i0, ?_, a2, by omega, a4, a5, fun i r hi hi3 hr hr2 => ?_⟩
            · rw [a1]
              unfold sp_ls1
              rw [if_neg (fun z2 => ?_)]
              rcases z2.2.2 with z3 | z3
              · exact nI_nm1 (by omega) z3
              · rw [hq2] at z3; exact z ((nI_ltI (by omega) (by omega)).mp z3)
            · by_cases z2 : i = m
              · subst z2; rw [hq2] at hr2; have := nI_inj (by omega) (by omega) hr2; omega
              · exact a6 i r (by omega) hi3 hr hr2
/-- the reference's way to tell how dear a way is comes to the same -/
theorem sn_dear {mm : q_Mem} {w n D : Nat} {f g h : Nat → Nat} (hD : D < 3) (hv : sp_vd (mm 11 (sp_L mm w)) = nI D) (hq : ∀ i, i < 9 → mm 20 (9 * w + i) = -1 ∨ ∃ q, q < 100 ∧ mm 20 (9 * w + i) = nI q)
    (hen : ∀ i, i < n → f i < 3 ∧ g i < 3 ∧ h i < 100 ∧ mm 20 (9 * w + (3 * f i + g i)) = nI (h i)) (hall : ∀ c d, c < 3 → d < 3 → mm 20 (9 * w + (3 * c + d)) = -1 ∨ ∃ i, i < n ∧ f i = c ∧ g i = d) :
    it_n (sn_d1 (sp_vd (mm 11 (sp_L mm w))) g h) n 0 * (sp_vk (mm 11 (sp_L mm w)) + 1) = sp_dv mm w := by
  obtain ⟨M, m1, m2, m3, m4⟩ := sn_mx (D := D) (g := g) (h := h) hD (fun i hi => ⟨(hen i hi).2.1, (hen i hi).2.2.1⟩) n (Nat.le_refl n)
  unfold sp_dv sp_ls
  rw [hv, m2]
  rcases ls_ls hD hv hq 9 (Nat.le_refl 9) with ⟨a1, a2⟩ | ⟨L, i0, a1, a2, a3, a4, a5, a6⟩
  · rw [if_pos a1]
    have hM : M = 0 := by
      rcases m4 with z | ⟨i, b1, b2, b3⟩
      · exact z
      · obtain ⟨c1, c2, c3, c4⟩ := hen i b1
        have := a2 (3 * f i + g i) (by omega) (by omega)
        rw [c4] at this
        exact absurd this (nI_nm1 (by omega))
    subst hM
    show (0 : Int32) * _ = 0
    exact Int32.zero_mul
  · rw [a1, if_neg (nI_nm1 (by omega))]
    congr 1
    have e1 : (100 : Int32) - nI L = nI (100 - L) := pk_sub (a := 100) (by omega)
    rw [e1]
    congr 1
    have hi0 : i0 = 3 * (i0 / 3) + i0 % 3 := by omega
    rcases hall (i0 / 3) (i0 % 3) (by omega) (by omega) with z | ⟨i, b1, b2, b3⟩
    · rw [← hi0, a5] at z; exact absurd z (nI_nm1 (by omega))
    · obtain ⟨c1, c2, c3, c4⟩ := hen i b1
      rw [b2, b3, ← hi0, a5] at c4
      have hL : L = h i := nI_inj (by omega) (by omega) c4
      have h1 := m3 i b1 (by rw [b3]; exact a4)
      rcases m4 with z | ⟨j, d1, d2, d3⟩
      · omega
      · obtain ⟨p1, p2, p3, p4⟩ := hen j d1
        have := a6 (3 * f j + g j) (h j) (by omega) (by omega) p3 p4
        omega
