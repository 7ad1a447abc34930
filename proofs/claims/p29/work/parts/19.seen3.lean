theorem iv_D {mm : q_Mem} (hI : Inv mm) {w : Nat} (hw : w < sp_W mm) : ∃ k d e : Nat, k < 4 ∧ d < 3 ∧ e < 7 ∧ mm 11 (sp_L mm w) = nI (1000 * w + 100 * k + 10 * d + e) := (hI.2.2.1 w hw).2.2
theorem iv_vd {mm : q_Mem} (hI : Inv mm) {w : Nat} (hw : w < sp_W mm) : ∃ d, d < 3 ∧ sp_vd (mm 11 (sp_L mm w)) = nI d := by
  obtain ⟨k, d, e, hk, hd, he, h⟩ := iv_D hI hw
  have := hI.W40
  refine ⟨d, hd, ?_⟩
  rw [h, vd_nI (by omega)]; congr 1; omega
theorem iv_vk {mm : q_Mem} (hI : Inv mm) {w : Nat} (hw : w < sp_W mm) : ∃ k, k < 4 ∧ sp_vk (mm 11 (sp_L mm w)) = nI k := by
  obtain ⟨k, d, e, hk, hd, he, h⟩ := iv_D hI hw
  have := hI.W40
  refine ⟨k, hk, ?_⟩
  rw [h, vk_nI (by omega)]; congr 1; omega
theorem iv_q {mm : q_Mem} (hI : Inv mm) {w : Nat} (hw : w < sp_W mm) : ∀ i, i < 9 → mm 20 (9 * w + i) = -1 ∨ ∃ q, q < 100 ∧ mm 20 (9 * w + i) = nI q := by
  intro i hi
  have h := hI.2.2.2.2.2.2.2.2.2.2.2.1 w hw (i / 3) (i % 3) (by omega) (by omega)
  rwa [show 3 * (i / 3) + i % 3 = i by omega] at h
theorem sn_of {mm : q_Mem} {w : Nat} (hI : Inv mm) (hN : sp_N mm w) (hw : w < sp_W mm) : ∃ (n : Nat) (f g h : Nat → Nat), sn_L mm w n f g h ∧ it_n (sn_d1 (sp_vd (mm 11 (sp_L mm w))) g h) n 0 * (sp_vk (mm 11 (sp_L mm w)) + 1) = sp_dv mm w := by
  obtain ⟨n, f, g, h, h1, h2, h3, h4, h5⟩ := hN
  obtain ⟨d, hd, hv⟩ := iv_vd hI hw
  exact ⟨n, f, g, h, ⟨h1, h2, fun i hi => ⟨(h3 i hi).1, (h3 i hi).2.1, (h3 i hi).2.2.1, (h3 i hi).2.2.2.1⟩⟩, sn_dear hd hv (iv_q hI hw) (fun i hi => ⟨(h3 i hi).1, (h3 i hi).2.1, (h3 i hi).2.2.1, (h3 i hi).2.2.2.2⟩) h4⟩
/-! distances -/
theorem ab_nI {x c : Nat} (hx : x ≤ 16) (hc : c ≤ 16) : ∃ n, n ≤ 16 ∧ (if nI x < nI c then nI c - nI x else nI x - nI c) = nI n := by
  by_cases h : x < c
  · refine ⟨c - x, by omega, ?_⟩
    rw [if_pos (nI_lt h (by omega))]; exact pk_sub (by omega)
  · refine ⟨x - c, by omega, ?_⟩
    rw [if_neg (nI_nlt (by omega) (by omega))]; exact pk_sub (by omega)
theorem far_nI {mm : q_Mem} (hI : Inv mm) {c x y : Nat} (hc : c < 3) (hx : x ≤ 16) (hy : y ≤ 16) : ∃ n, n ≤ 32 ∧ sp_far mm c (nI x) (nI y) = nI n := by
  obtain ⟨cx, cy, h1, h2, h3, h4⟩ := hI.2.2.2.2.2.2.2.2.1 c hc
  obtain ⟨n, hn, e1⟩ := ab_nI hx h1
  obtain ⟨m, hm, e2⟩ := ab_nI hy h2
  refine ⟨n + m, by omega, ?_⟩
  unfold sp_far
  rw [h3, h4, e1, e2, nI_add]
theorem iv_xy {mm : q_Mem} (hI : Inv mm) {w : Nat} (hw : w < sp_W mm) : ∃ x y z u : Nat, x ≤ 16 ∧ y ≤ 16 ∧ z ≤ 16 ∧ u ≤ 16 ∧ mm 2 w = nI x ∧ mm 3 w = nI y ∧ mm 4 w = nI z ∧ mm 5 w = nI u := hI.2.2.2.2.2.2.2.1 w hw
theorem nst_nI {mm : q_Mem} (hI : Inv mm) {c w : Nat} (hc : c < 3) (hw : w < sp_W mm) : ∃ n, n ≤ 32 ∧ sp_nst mm c w = nI n := by
  obtain ⟨x, y, z, u, hx, hy, hz, hu, e1, e2, e3, e4⟩ := iv_xy hI hw
  obtain ⟨n, hn, f1⟩ := far_nI hI hc hx hy
  obtain ⟨m, hm, f2⟩ := far_nI hI hc hz hu
  unfold sp_nst
  rw [e1, e2, e3, e4, f1, f2]
  by_cases h : nI n < nI m
  · rw [if_pos h]; exact ⟨n, hn, rfl⟩
  · rw [if_neg h]; exact ⟨m, hm, rfl⟩
theorem nst_ne {mm : q_Mem} (hI : Inv mm) {c w : Nat} (hc : c < 3) (hw : w < sp_W mm) : 1 + sp_nst mm c w ≠ 0 := by
  obtain ⟨n, hn, e⟩ := nst_nI hI hc hw
  rw [e, show (1 : Int32) = nI 1 from rfl, nI_add]
  exact nI_ne0 (by omega) (by omega)
/-! the best way -/
section
variable {mm : q_Mem} {c w : Nat}
abbrev tgn (mm : q_Mem) (c w : Nat) : Int32 × Int32 := it_n (sp_tg1 mm c) w (-1, 0)
theorem tg_y1 (h : (tgn mm c w).2 < sp_wth mm c w) : nI w = (tgn mm c (w + 1)).1 := by
  show nI w = (sp_tg1 mm c w (tgn mm c w)).1
  unfold sp_tg1; rw [if_pos h]
theorem tg_n1 (h : ¬ (tgn mm c w).2 < sp_wth mm c w) : (tgn mm c w).1 = (tgn mm c (w + 1)).1 := by
  show _ = (sp_tg1 mm c w (tgn mm c w)).1
  unfold sp_tg1; rw [if_neg h]
theorem tg_y2 (h : (tgn mm c w).2 < sp_wth mm c w) : sp_wth mm c w = (tgn mm c (w + 1)).2 := by
  show _ = (sp_tg1 mm c w (tgn mm c w)).2
  unfold sp_tg1; rw [if_pos h]
theorem tg_n2 (h : ¬ (tgn mm c w).2 < sp_wth mm c w) : (tgn mm c w).2 = (tgn mm c (w + 1)).2 := by
  show _ = (sp_tg1 mm c w (tgn mm c w)).2
  unfold sp_tg1; rw [if_neg h]
theorem tg_orn (mm : q_Mem) (c : Nat) : ∀ n, (tgn mm c n).1 = -1 ∨ ∃ w, w < n ∧ (tgn mm c n).1 = nI w
  | 0 => Or.inl rfl
  | n + 1 => by
    by_cases h : (tgn mm c n).2 < sp_wth mm c n
    · exact Or.inr ⟨n, by omega, (tg_y1 h).symm⟩
    · rw [← tg_n1 h]
      rcases tg_orn mm c n with h1 | ⟨w, h1, h2⟩
      · exact Or.inl h1
      · exact Or.inr ⟨w, by omega, h2⟩
theorem tg_or (mm : q_Mem) (c : Nat) : sp_tg mm c = -1 ∨ ∃ w, w < sp_W mm ∧ sp_tg mm c = nI w := tg_orn mm c _
end
/-! states that differ in the reference's lists of sightings alone -/
def eqx (A B : q_Mem) : Prop := ∀ k, k ≠ 17 → k ≠ 18 → A k = B k
theorem eqx.rf (A : q_Mem) : eqx A A := fun _ _ _ => rfl
theorem eqx.sm {A B : q_Mem} (h : eqx A B) : eqx B A := fun k h1 h2 => (h k h1 h2).symm
theorem eqx.tr {A B C : q_Mem} (h : eqx A B) (h2 : eqx B C) : eqx A C := fun k a b => (h k a b).trans (h2 k a b)
theorem Inv_ext {A B : q_Mem} (h : eqx A B) (hI : Inv A) : Inv B := by
  have e1 := h 1 (by decide) (by decide); have e2 := h 2 (by decide) (by decide); have e3 := h 3 (by decide) (by decide); have e4 := h 4 (by decide) (by decide)
  have e5 := h 5 (by decide) (by decide); have e6 := h 6 (by decide) (by decide); have e7 := h 7 (by decide) (by decide); have e8 := h 8 (by decide) (by decide)
  have e9 := h 9 (by decide) (by decide); have e10 := h 10 (by decide) (by decide); have e11 := h 11 (by decide) (by decide); have e12 := h 12 (by decide) (by decide)
  have e13 := h 13 (by decide) (by decide); have e15 := h 15 (by decide) (by decide); have e16 := h 16 (by decide) (by decide); have e20 := h 20 (by decide) (by decide); have e21 := h 21 (by decide) (by decide)
  unfold Inv iv_1 iv_2 iv_3 iv_4 iv_5 iv_6 iv_7 iv_8 iv_9 iv_10 iv_11 iv_12 iv_13 sp_W sp_K sp_L sp_A at hI ⊢
  rw [← e1, ← e2, ← e3, ← e4, ← e5, ← e6, ← e7, ← e8, ← e9, ← e10, ← e11, ← e12, ← e13, ← e15, ← e16, ← e20, ← e21]
  exact hI
theorem sp_N_ext {A B : q_Mem} (h17 : B 17 = A 17) (h18 : B 18 = A 18) (h20 : B 20 = A 20) {w : Nat} (hN : sp_N A w) : sp_N B w := by
  unfold sp_N at hN ⊢
  rw [h17, h18, h20]; exact hN
theorem make_x {A B : q_Mem} (h : eqx A B) {w : Nat} {k d f : Int32} : eqx (sp_make A w k d f) (sp_make B w k d f) := by
  intro j h1 h2
  funext i
  unfold sp_make up2 sp_K sp_L
  rw [h j h1 h2, h 7 (by decide) (by decide), h 8 (by decide) (by decide), h 10 (by decide) (by decide), h 21 (by decide) (by decide)]
theorem agr_x {A B : q_Mem} (h : A 20 = B 20) {w d : Nat} : sp_agr A w d ↔ sp_agr B w d := by
  unfold sp_agr sp_ag2
  rw [h]
theorem Inv_keep {mm : q_Mem} (hI : Inv mm) {w c d q : Nat} (hw : w < sp_W mm) (hc : c < 3) (hd : d < 3) (hq : q < 100) : Inv (sp_keep mm w c d (nI q)) := by
  obtain ⟨i1, i2, i3, i4, i5, i6, i7, i8, i9, i10, i11, i12, i13⟩ := hI
  have hk : ∀ k, k ≠ 20 → sp_keep mm w c d (nI q) k = mm k := fun k hk => by funext j; exact if_neg (fun z => hk z.1)
  refine ⟨i1, i2, i3, i4, i5, i6, i7, i8, i9, i10, i11, fun v hv c2 d2 hc2 hd2 => ?_, fun v hv => ?_⟩
  · have := i12 v hv c2 d2 hc2 hd2
    show (if 20 = 20 ∧ 9 * w ≤ 9 * v + (3 * c2 + d2) ∧ 9 * v + (3 * c2 + d2) < 9 * w + 9 then _ else _) = _ ∨ ∃ r, _ ∧ (if 20 = 20 ∧ 9 * w ≤ 9 * v + (3 * c2 + d2) ∧ 9 * v + (3 * c2 + d2) < 9 * w + 9 then _ else _) = _
    by_cases h : 20 = 20 ∧ 9 * w ≤ 9 * v + (3 * c2 + d2) ∧ 9 * v + (3 * c2 + d2) < 9 * w + 9
    · rw [if_pos h]
      by_cases h2 : 9 * v + (3 * c2 + d2) - 9 * w = 3 * c + d
      · rw [if_pos h2]; exact Or.inr ⟨q, hq, rfl⟩
      · rw [if_neg h2]
        by_cases h3 : ¬ (9 * v + (3 * c2 + d2) - 9 * w) % 3 = d ∧ nI q < mm 20 (9 * v + (3 * c2 + d2))
        · rw [if_pos h3]; exact Or.inl rfl
        · rw [if_neg h3]; exact this
    · rw [if_neg h]; exact this
  · obtain ⟨a1, a2, a3⟩ := i13 v hv
    refine ⟨a1, a2, fun i hi => ?_⟩
    have hv2 : sp_W mm ≤ v := hv
    show (if 20 = 20 ∧ 9 * w ≤ 9 * v + i ∧ 9 * v + i < 9 * w + 9 then _ else _) = _
    rw [if_neg (fun z => by omega)]
    exact a3 i hi
/-! a sighting more -/
theorem ph_le {n N : Nat} {e : Nat → Nat} (h1 : ∀ i, i < n → e i < N) (h2 : ∀ i j, i < n → j < n → e i = e j → i = j) : n ≤ N := by
  have h := ct_hit (N := N) n (fun k => an_y (fun i => decide (e i = k)) n) e (fun i hi => ⟨h1 i hi, an_y_iff.mpr ⟨i, hi, decide_eq_true rfl⟩⟩) h2 (fun k _ hp => by
    obtain ⟨i, hi, e1⟩ := an_y_iff.mp hp
    exact ⟨i, hi, of_decide_eq_true e1⟩)
  rw [← h]; exact fb_ct_le _ N
section
variable {mm m2 : q_Mem} {w c d q n kp : Nat} {f g h e : Nat → Nat}
theorem sn_Kinj (hK : sn_K mm m2 w c d q f g h n n kp e) (hinj : ∀ i j, i < n → j < n → f i = f j → g i = g j → i = j) (hd : d < 3) (hc : c < 3) (hen : ∀ i, i < n → f i < 3 ∧ g i < 3) :
    ∀ i j, i < kp + 1 → j < kp + 1 → (if i < kp then f (e i) else c) = (if j < kp then f (e j) else c) → (if i < kp then g (e i) else d) = (if j < kp then g (e j) else d) → i = j := by
  obtain ⟨k1, k2, k3, k4, k5, k6⟩ := hK
  intro i j hi hj h1 h2
  have go : ∀ i, i < kp → ¬ (f (e i) = c ∧ g (e i) = d) := fun i hi z => (k4 i hi).2.1 (sn_g1 z.2 z.1)
  by_cases a : i < kp
  · by_cases b : j < kp
    · rw [if_pos a, if_pos b] at h1 h2
      have := hinj _ _ (k4 i a).1 (k4 j b).1 h1 h2
      rcases Nat.lt_trichotomy i j with z | z | z
      · have := k6 i j z b; omega
      · exact z
      · have := k6 j i z a; omega
    · rw [if_pos a, if_neg b] at h1 h2
      exact absurd ⟨h1, h2⟩ (go i a)
  · by_cases b : j < kp
    · rw [if_neg a, if_pos b] at h1 h2
      exact absurd ⟨h1.symm, h2.symm⟩ (go j b)
    · omega
theorem sn_K8 (hK : sn_K mm m2 w c d q f g h n n kp e) (hinj : ∀ i j, i < n → j < n → f i = f j → g i = g j → i = j) (hd : d < 3) (hc : c < 3) (hen : ∀ i, i < n → f i < 3 ∧ g i < 3) : kp ≤ 8 := by
  have hi := sn_Kinj hK hinj hd hc hen
  obtain ⟨k1, k2, k3, k4, k5, k6⟩ := hK
  have h3 : ∀ i, i < kp + 1 → (if i < kp then f (e i) else c) < 3 ∧ (if i < kp then g (e i) else d) < 3 := by
    intro i _
    by_cases a : i < kp
    · rw [if_pos a, if_pos a]; exact hen _ (k4 i a).1
    · rw [if_neg a, if_neg a]; exact ⟨hc, hd⟩
  have := ph_le (n := kp + 1) (N := 9) (e := fun i => 3 * (if i < kp then f (e i) else c) + (if i < kp then g (e i) else d)) (fun i hi => by have := h3 i hi; show 3 * _ + _ < 9; omega) (fun i j a b z => by
    obtain ⟨z1, z2⟩ := pl_inj (h3 i a).2 (h3 j b).2 z
    exact hi i j a b z1 z2)
  omega
/-- the numbers behind a sighting that is kept -/
def sn_see (mm m2 : q_Mem) (w c d q kp : Nat) : q_Mem := fun k => if k = 20 then sp_keep mm w c d (nI q) 20 else (up2 (up2 (up2 m2 17 w (nI kp)) 18 (9 * w + kp) (sp_S c d q)) 17 w (nI (kp + 1))) k
theorem sn_see20 : sn_see mm m2 w c d q kp 20 = sp_keep mm w c d (nI q) 20 := rfl
theorem sn_see18 {j : Nat} : sn_see mm m2 w c d q kp 18 j = if j = 9 * w + kp then sp_S c d q else m2 18 j := by
  show (if 18 = 17 ∧ j = w then nI (kp + 1) else if 18 = 18 ∧ j = 9 * w + kp then sp_S c d q else if 18 = 17 ∧ j = w then nI kp else m2 18 j) = _
  rw [if_neg (fun z => absurd z.1 (by decide)), if_neg (c := 18 = 17 ∧ j = w) (fun z => absurd z.1 (by decide))]
  by_cases z : j = 9 * w + kp
  · rw [if_pos ⟨rfl, z⟩, if_pos z]
  · rw [if_neg (fun y => z y.2), if_neg z]
theorem sn_see17 {j : Nat} (hK : sn_K mm m2 w c d q f g h n n kp e) : sn_see mm m2 w c d q kp 17 j = if j = w then nI (kp + 1) else mm 17 j := by
  show (if 17 = 17 ∧ j = w then nI (kp + 1) else if 17 = 18 ∧ j = 9 * w + kp then sp_S c d q else if 17 = 17 ∧ j = w then nI kp else m2 17 j) = _
  by_cases z : j = w
  · rw [if_pos ⟨rfl, z⟩, if_pos z]
  · rw [if_neg (fun y => z y.2), if_neg (fun y => absurd y.1 (by decide)), if_neg (fun y => z y.2), if_neg z, hK.2.1 17 (by decide)]
theorem sn_seex (hK : sn_K mm m2 w c d q f g h n n kp e) : eqx (sn_see mm m2 w c d q kp) (sp_keep mm w c d (nI q)) := by
  intro k h1 h2
  by_cases z : k = 20
  · subst z; rfl
  · funext j
    unfold sn_see
    rw [if_neg z, up2_k h1, up2_k h2, up2_k h1, hK.2.1 k h2]
    exact (if_neg (fun y => z y.1)).symm
theorem kp_20 {v i : Nat} (hi : i < 9) : sp_keep mm w c d (nI q) 20 (9 * v + i) = if v = w then (if i = 3 * c + d then nI q else if ¬ i % 3 = d ∧ nI q < mm 20 (9 * w + i) then -1 else mm 20 (9 * w + i)) else mm 20 (9 * v + i) := by
  show (if 20 = 20 ∧ 9 * w ≤ 9 * v + i ∧ 9 * v + i < 9 * w + 9 then (if 9 * v + i - 9 * w = 3 * c + d then _ else if ¬ (9 * v + i - 9 * w) % 3 = d ∧ _ < mm 20 (9 * v + i) then _ else mm 20 (9 * v + i)) else mm 20 (9 * v + i)) = _
  by_cases z : v = w
  · subst z
    rw [if_pos ⟨rfl, by omega, by omega⟩, if_pos rfl, show 9 * v + i - 9 * v = i by omega]
  · rw [if_neg (fun y => by omega), if_neg z]
theorem sn_seeN (hK : sn_K mm m2 w c d q f g h n n kp e) (hc : c < 3) (hd : d < 3) (hq : q < 100) (hen : ∀ i, i < n → f i < 3 ∧ g i < 3 ∧ h i < 100 ∧ mm 18 (9 * w + i) = sp_S (f i) (g i) (h i) ∧ mm 20 (9 * w + (3 * f i + g i)) = nI (h i))
    (hall : ∀ c d, c < 3 → d < 3 → mm 20 (9 * w + (3 * c + d)) = -1 ∨ ∃ i, i < n ∧ f i = c ∧ g i = d) (hinj : ∀ i j, i < n → j < n → f i = f j → g i = g j → i = j) : sp_N (sn_see mm m2 w c d q kp) w := by
  have hk8 := sn_K8 hK hinj hd hc (fun i hi => ⟨(hen i hi).1, (hen i hi).2.1⟩)
  have hij := sn_Kinj hK hinj hd hc (fun i hi => ⟨(hen i hi).1, (hen i hi).2.1⟩)
  have h17 := sn_see17 (j := w) hK
  rw [if_pos rfl] at h17
  obtain ⟨k1, k2, k3, k4, k5, k6⟩ := hK
  refine ⟨kp + 1, fun i => if i < kp then f (e i) else c, fun i => if i < kp then g (e i) else d, fun i => if i < kp then h (e i) else q, by omega, h17, fun i hi => ?_, fun c2 d2 hc2 hd2 => ?_, hij⟩
  · dsimp only
    by_cases a : i < kp
    · rw [if_pos a, if_pos a, if_pos a]
      obtain ⟨b1, b2, b3⟩ := k4 i a
      obtain ⟨e1, e2, e3, e4, e5⟩ := hen _ b1
      refine ⟨e1, e2, e3, ?_, ?_⟩
      · rw [sn_see18, if_neg (by omega), b3, e4]
      · rw [sn_see20, kp_20 (by omega), if_pos rfl]
        have hne : ¬ 3 * f (e i) + g (e i) = 3 * c + d := fun z => by
          obtain ⟨z1, z2⟩ := pl_inj e2 hd z
          exact b2 (sn_g1 z2 z1)
        rw [if_neg hne, if_neg (fun z => ?_), e5]
        rw [show (3 * f (e i) + g (e i)) % 3 = g (e i) by omega, e5] at z
        exact b2 (sn_g3 z.1 ((nI_ltI (by omega) (by omega)).mp z.2))
    · rw [if_neg a, if_neg a, if_neg a]
      have : i = kp := by omega
      subst this
      exact ⟨hc, hd, hq, by rw [sn_see18, if_pos rfl], by rw [sn_see20, kp_20 (by omega), if_pos rfl, if_pos rfl]⟩
  · rw [sn_see20, kp_20 (by omega), if_pos rfl]
    by_cases z : 3 * c2 + d2 = 3 * c + d
    · obtain ⟨z1, z2⟩ := pl_inj hd2 hd z
      exact Or.inr ⟨kp, by omega, by dsimp only; rw [if_neg (by omega)]; exact z1.symm, by dsimp only; rw [if_neg (by omega)]; exact z2.symm⟩
    · rw [if_neg z]
      by_cases y : ¬ (3 * c2 + d2) % 3 = d ∧ nI q < mm 20 (9 * w + (3 * c2 + d2))
      · rw [if_pos y]; exact Or.inl rfl
      · rw [if_neg y]
        rcases hall c2 d2 hc2 hd2 with x | ⟨i, hi, x1, x2⟩
        · exact Or.inl x
        · refine Or.inr ?_
          obtain ⟨e1, e2, e3, e4, e5⟩ := hen i hi
          have hng : ¬ sn_goes c d q f g h i := by
            by_cases u : g i = d
            · exact sn_g2 u (fun t => z (by rw [← x1, ← x2, t, u]))
            · refine sn_g4 u (fun t => y ⟨by omega, ?_⟩)
              rw [← x1, ← x2, e5]
              exact nI_lt t (by omega)
          obtain ⟨j, hj, e6⟩ := k5 i hi hng
          exact ⟨j, by omega, by dsimp only; rw [if_pos hj, e6]; exact x1, by dsimp only; rw [if_pos hj, e6]; exact x2⟩
theorem sn_seeO (hK : sn_K mm m2 w c d q f g h n n kp e) (hk8 : kp ≤ 8) {v : Nat} (hv : v ≠ w) (hN : sp_N mm v) : sp_N (sn_see mm m2 w c d q kp) v := by
  have h17 := sn_see17 (j := v) hK
  rw [if_neg hv] at h17
  obtain ⟨n2, f2, g2, h2, q1, q2, q3, q4, q5⟩ := hN
  obtain ⟨k1, k2, k3, k4, k5, k6⟩ := hK
  refine ⟨n2, f2, g2, h2, q1, h17.trans q2, fun i hi => ?_, fun c2 d2 hc2 hd2 => ?_, q5⟩
  · obtain ⟨a1, a2, a3, a4, a5⟩ := q3 i hi
    refine ⟨a1, a2, a3, ?_, ?_⟩
    · rw [sn_see18, if_neg (by omega), k3 _ (by omega), a4]
    · rw [sn_see20, kp_20 (by omega), if_neg hv, a5]
  · rw [sn_see20, kp_20 (by omega), if_neg hv]; exact q4 c2 d2 hc2 hd2
end
/-- the numbers behind a sign that two cars agree on -/
def sn_fg (mm : q_Mem) (w : Nat) : q_Mem := fun k => if k = 20 then sp_forg mm w 20 else up2 mm 17 w 0 k
theorem fg_20 {mm : q_Mem} {w v i : Nat} (hi : i < 9) : sp_forg mm w 20 (9 * v + i) = if v = w then -1 else mm 20 (9 * v + i) := by
  show (if 20 = 20 ∧ 9 * w ≤ 9 * v + i ∧ 9 * v + i < 9 * w + 9 then _ else _) = _
  by_cases z : v = w
  · subst z; rw [if_pos ⟨rfl, by omega, by omega⟩, if_pos rfl]
  · rw [if_neg (fun y => by omega), if_neg z]
theorem sn_fgN {mm : q_Mem} {w v : Nat} (hN : v ≠ w → sp_N mm v) : sp_N (sn_fg mm w) v := by
  by_cases z : v = w
  · subst z
    refine ⟨0, id, id, id, by decide, ?_, fun i hi => absurd hi (Nat.not_lt_zero i), fun c d hc hd => Or.inl ?_, fun i j hi => absurd hi (Nat.not_lt_zero i)⟩
    · show up2 mm 17 v 0 17 v = nI 0
      rw [up2_s]; rfl
    · show sp_forg mm v 20 _ = _
      rw [fg_20 (by omega), if_pos rfl]
  · obtain ⟨n2, f2, g2, h2, q1, q2, q3, q4, q5⟩ := hN z
    refine ⟨n2, f2, g2, h2, q1, ?_, fun i hi => ?_, fun c2 d2 hc2 hd2 => ?_, q5⟩
    · show up2 mm 17 w 0 17 v = _
      rw [up2_i z]; exact q2
    · obtain ⟨a1, a2, a3, a4, a5⟩ := q3 i hi
      refine ⟨a1, a2, a3, a4, ?_⟩
      show sp_forg mm w 20 _ = _
      rw [fg_20 (by omega), if_neg z, a5]
    · have e : sn_fg mm w 20 (9 * v + (3 * c2 + d2)) = mm 20 (9 * v + (3 * c2 + d2)) := by
        show sp_forg mm w 20 _ = _
        rw [fg_20 (by omega), if_neg z]
      rw [e]; exact q4 c2 d2 hc2 hd2
theorem sS_mk {c d q : Nat} : nI c + 4 * nI d + 16 * nI q = sp_S c d q := by
  rw [show (4 : Int32) = nI 4 from rfl, show (16 : Int32) = nI 16 from rfl, pk_mul, pk_mul, nI_add, nI_add]; rfl
section
variable {mm m5 : q_Mem} {x y z q : Int32} {c w d qi : Nat} {r v : Int32}
theorem see_no (h : sp_see mm x y z q = (r, up2 mm 19 0 v)) (hN : ∀ w, w < 40 → sp_N mm w) : r = (sp_see mm x y z q).1 ∧ eqx (up2 mm 19 0 v) (sp_see mm x y z q).2 ∧ ∀ w, w < 40 → sp_N (up2 mm 19 0 v) w := by
  rw [h]; exact ⟨rfl, eqx.rf _, fun w hw => sp_N_ext (up2_k (by decide)) (up2_k (by decide)) (up2_k (by decide)) (hN w hw)⟩
theorem see_cd (hx : eqx m5 (sp_keep (up2 mm 19 0 0) w c d (nI qi))) : (¬ sp_vd (m5 11 (sp_L m5 w)) = nI d ∧ sp_agr m5 w d) ↔ (¬ sp_vd ((up2 mm 19 0 0) 11 (sp_L (up2 mm 19 0 0) w)) = nI d ∧ sp_agr (sp_keep (up2 mm 19 0 0) w c d (nI qi)) w d) := by
  have e11 : m5 11 = mm 11 := (hx 11 (by decide) (by decide)).trans (by funext j; rfl)
  have eL : sp_L m5 w = sp_L mm w := by unfold sp_L; rw [hx 8 (by decide) (by decide)]; rfl
  rw [agr_x (hx 20 (by decide) (by decide)), e11, eL]
  rfl
theorem see_yes (hE : sp_see mm x y z q = sp_see0 (up2 mm 19 0 0) c w d (nI qi)) (hx : eqx m5 (sp_keep (up2 mm 19 0 0) w c d (nI qi))) (hN : ∀ w, w < 40 → sp_N m5 w) (hC : ¬ sp_vd (m5 11 (sp_L m5 w)) = nI d ∧ sp_agr m5 w d) :
    1 = (sp_see mm x y z q).1 ∧ eqx (sn_fg (sp_make m5 w (sp_vk (m5 11 (sp_L m5 w))) (nI d) (-1)) w) (sp_see mm x y z q).2 ∧ ∀ v, v < 40 → sp_N (sn_fg (sp_make m5 w (sp_vk (m5 11 (sp_L m5 w))) (nI d) (-1)) w) v := by
  have hC2 := (see_cd hx).mp hC
  have e11 : m5 11 = mm 11 := (hx 11 (by decide) (by decide)).trans (by funext j; rfl)
  have eL : sp_L m5 w = sp_L mm w := by unfold sp_L; rw [hx 8 (by decide) (by decide)]; rfl
  rw [hE, sp_see0, if_pos hC2, e11, eL]
  refine ⟨rfl, fun k h1 h2 => ?_, fun v hv => sn_fgN (fun _ => sp_N_ext rfl rfl rfl (hN v hv))⟩
  have hm := make_x (w := w) (k := sp_vk (mm 11 (sp_L mm w))) (d := nI d) (f := -1) hx
  by_cases z : k = 20
  · subst z
    show sp_forg _ w 20 = sp_forg _ w 20
    funext j
    unfold sp_forg
    rw [hm 20 (by decide) (by decide)]
    rfl
  · funext j
    unfold sn_fg
    rw [if_neg z, up2_k h1, hm k h1 h2]
    exact (if_neg (fun y => z y.1)).symm
theorem see_not (hE : sp_see mm x y z q = sp_see0 (up2 mm 19 0 0) c w d (nI qi)) (hx : eqx m5 (sp_keep (up2 mm 19 0 0) w c d (nI qi))) (hN : ∀ w, w < 40 → sp_N m5 w) (hC : ¬ (¬ sp_vd (m5 11 (sp_L m5 w)) = nI d ∧ sp_agr m5 w d)) :
    0 = (sp_see mm x y z q).1 ∧ eqx m5 (sp_see mm x y z q).2 ∧ ∀ v, v < 40 → sp_N m5 v := by
  rw [hE, sp_see0, if_neg (fun h => hC ((see_cd hx).mpr h))]
  exact ⟨rfl, hx, hN⟩
end
