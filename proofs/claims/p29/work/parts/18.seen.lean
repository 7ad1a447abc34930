/-! ===== sightings: by the doubts, and as the reference keeps them ===== -/
/-- the doubts behind a seen sign -/
def sp_keep (mm : q_Mem) (w c d : Nat) (q : Int32) : q_Mem := fun k j =>
  if k = 20 ∧ 9 * w ≤ j ∧ j < 9 * w + 9 then (if j - 9 * w = 3 * c + d then q else if ¬ (j - 9 * w) % 3 = d ∧ q < mm 20 j then -1 else mm 20 j) else mm k j
def sp_forg (mm : q_Mem) (w : Nat) : q_Mem := fun k j => if k = 20 ∧ 9 * w ≤ j ∧ j < 9 * w + 9 then -1 else mm k j
abbrev sp_ag2 (mm : q_Mem) (w d a b : Nat) : Prop := ¬ mm 20 (9 * w + (3 * a + d)) = -1 ∧ ¬ mm 20 (9 * w + (3 * b + d)) = -1 ∧ mm 20 (9 * w + (3 * a + d)) * mm 20 (9 * w + (3 * b + d)) / 100 ≤ 20
abbrev sp_agr (mm : q_Mem) (w d : Nat) : Prop := sp_ag2 mm w d 0 1 ∨ sp_ag2 mm w d 0 2 ∨ sp_ag2 mm w d 1 2
abbrev sp_rng (d q : Int32) : Prop := (0 ≤ d ∧ d ≤ 2) ∧ (0 ≤ q ∧ q ≤ 99)
/-- may the car see the way -/
abbrev sp_nr (mm : q_Mem) (c w : Nat) : Prop := ¬ (0 < sp_far mm c (mm 2 w) (mm 3 w) ∧ 0 < sp_far mm c (mm 4 w) (mm 5 w))
def sp_see0 (mm : q_Mem) (c w d : Nat) (q : Int32) : Int32 × q_Mem :=
  if ¬ sp_vd (mm 11 (sp_L mm w)) = nI d ∧ sp_agr (sp_keep mm w c d q) w d then (1, sp_forg (sp_make (sp_keep mm w c d q) w (sp_vk (mm 11 (sp_L mm w))) (nI d) (-1)) w) else (0, sp_keep mm w c d q)
def sp_see (mm : q_Mem) (c w d q : Int32) : Int32 × q_Mem :=
  if sp_car c ∧ sp_wy mm w then
    if sp_rng d q then
      if sp_nr mm c.toNatClampNeg w.toNatClampNeg then sp_see0 (up2 mm 19 0 0) c.toNatClampNeg w.toNatClampNeg d.toNatClampNeg q else (0, up2 mm 19 0 3)
    else (0, up2 mm 19 0 2)
  else (0, up2 mm 19 0 1)
def sp_dc1 (mm : q_Mem) (w i : Nat) (q : Int32) : Int32 := if ¬ mm 20 (9 * w + i) = -1 then q + 1 else q
def sp_dc (mm : q_Mem) (w : Nat) : Int32 := it_n (sp_dc1 mm w) 9 0
def sp_sgt (mm : q_Mem) (x : Int32) : Int32 × q_Mem := if sp_wy mm x then (sp_dc mm x.toNatClampNeg, up2 mm 19 0 0) else (0, up2 mm 19 0 1)
def sp_ls1 (mm : q_Mem) (w : Nat) (i : Nat) (q : Int32) : Int32 := if ¬ nI (i % 3) = sp_vd (mm 11 (sp_L mm w)) ∧ ¬ mm 20 (9 * w + i) = -1 ∧ (q = -1 ∨ mm 20 (9 * w + i) < q) then mm 20 (9 * w + i) else q
def sp_ls (mm : q_Mem) (w : Nat) : Int32 := it_n (sp_ls1 mm w) 9 (-1)
def sp_dv (mm : q_Mem) (w : Nat) : Int32 := if sp_ls mm w = -1 then 0 else (100 - sp_ls mm w) * (sp_vk (mm 11 (sp_L mm w)) + 1)
def sp_dear (mm : q_Mem) (x : Int32) : Int32 × q_Mem := if sp_wy mm x then (sp_dv mm x.toNatClampNeg, up2 mm 19 0 0) else (0, up2 mm 19 0 1)
def sp_nst (mm : q_Mem) (c w : Nat) : Int32 := if sp_far mm c (mm 2 w) (mm 3 w) < sp_far mm c (mm 4 w) (mm 5 w) then sp_far mm c (mm 2 w) (mm 3 w) else sp_far mm c (mm 4 w) (mm 5 w)
def sp_wth (mm : q_Mem) (c w : Nat) : Int32 := sp_dv mm w * 100 / (1 + sp_nst mm c w)
/-- the best way so far, and what it is worth -/
def sp_tg1 (mm : q_Mem) (c w : Nat) (q : Int32 × Int32) : Int32 × Int32 := if q.2 < sp_wth mm c w then (nI w, sp_wth mm c w) else q
def sp_tg (mm : q_Mem) (c : Nat) : Int32 := (it_n (sp_tg1 mm c) (sp_W mm) (-1, 0)).1
def sp_tar (mm : q_Mem) (x : Int32) : Int32 × q_Mem := if sp_car x then (sp_tg mm x.toNatClampNeg, up2 mm 19 0 0) else (0, up2 mm 19 0 1)
def sp_snd0 (mm : q_Mem) (c w : Nat) : Int32 × q_Mem :=
  if sp_far mm c (mm 2 w) (mm 3 w) ≤ sp_far mm c (mm 4 w) (mm 5 w) then (sp_far mm c (mm 2 w) (mm 3 w), sp_goes mm c (mm 2 w) (mm 3 w)) else (sp_far mm c (mm 4 w) (mm 5 w), sp_goes mm c (mm 4 w) (mm 5 w))
def sp_snd (mm : q_Mem) (x : Int32) : Int32 × q_Mem :=
  if sp_car x then (if sp_tg mm x.toNatClampNeg = -1 then (0, up2 mm 19 0 2) else sp_snd0 (up2 mm 19 0 0) x.toNatClampNeg (sp_tg mm x.toNatClampNeg).toNatClampNeg) else (0, up2 mm 19 0 1)
/-! a sighting's parts -/
theorem sS_lt {c d q : Nat} (hc : c < 3) (hd : d < 3) (hq : q < 100) : c + 4 * d + 16 * q < 2 ^ 31 := by omega
theorem sS_d {c d q : Nat} (hc : c < 3) (hd : d < 3) (hq : q < 100) : sp_S c d q / 4 - sp_S c d q / 4 / 4 * 4 = nI d := by
  show nI (c + 4 * d + 16 * q) / nI 4 - nI (c + 4 * d + 16 * q) / nI 4 / nI 4 * nI 4 = _
  rw [pk_div (by omega) (by decide) (by decide), pk_rem (by omega) (by decide) (by decide)]
  congr 1
  omega
theorem sS_c {c d q : Nat} (hc : c < 3) (hd : d < 3) (hq : q < 100) : sp_S c d q - sp_S c d q / 4 * 4 = nI c := by
  show nI (c + 4 * d + 16 * q) - nI (c + 4 * d + 16 * q) / nI 4 * nI 4 = _
  rw [pk_rem (by omega) (by decide) (by decide)]
  congr 1
  omega
theorem sS_q {c d q : Nat} (hc : c < 3) (hd : d < 3) (hq : q < 100) : sp_S c d q / 16 = nI q := by
  show nI (c + 4 * d + 16 * q) / nI 16 = _
  rw [pk_div (by omega) (by decide) (by decide)]
  congr 1
  omega
/-- what a list of sightings holds: n of them, by their parts -/
def sn_L (mm : q_Mem) (w n : Nat) (f g h : Nat → Nat) : Prop := n ≤ 9 ∧ mm 17 w = nI n ∧ ∀ i, i < n → f i < 3 ∧ g i < 3 ∧ h i < 100 ∧ mm 18 (9 * w + i) = sp_S (f i) (g i) (h i)
/-- does a new sighting of car c, direction d, doubt q take it away -/
abbrev sn_goes (c d q : Nat) (f g h : Nat → Nat) (i : Nat) : Prop := if g i = d then f i = c else q < h i
/-- the list is gone through up to i: those kept stand first; e tells which they were -/
def sn_K (mm m2 : q_Mem) (w c d q : Nat) (f g h : Nat → Nat) (n i kp : Nat) (e : Nat → Nat) : Prop :=
  kp ≤ i ∧ (∀ k, k ≠ 18 → m2 k = mm k) ∧ (∀ j, (j < 9 * w ∨ 9 * w + kp ≤ j) → m2 18 j = mm 18 j) ∧ (∀ j, j < kp → e j < i ∧ ¬ sn_goes c d q f g h (e j) ∧ m2 18 (9 * w + j) = mm 18 (9 * w + e j)) ∧
  (∀ i0, i0 < i → ¬ sn_goes c d q f g h i0 → ∃ j, j < kp ∧ e j = i0) ∧ ∀ j j2, j < j2 → j2 < kp → e j < e j2
theorem sn_K0 {mm : q_Mem} {w c d q n : Nat} {f g h : Nat → Nat} : sn_K mm mm w c d q f g h n 0 0 (fun _ => 0) :=
  ⟨Nat.le_refl _, fun _ _ => rfl, fun _ _ => rfl, fun j hj => absurd hj (Nat.not_lt_zero _), fun i0 hi => absurd hi (Nat.not_lt_zero _), fun j j2 _ h2 => absurd h2 (Nat.not_lt_zero _)⟩
theorem sn_Kgo {mm m2 : q_Mem} {w c d q n i kp : Nat} {f g h e : Nat → Nat} (hK : sn_K mm m2 w c d q f g h n i kp e) (hg : sn_goes c d q f g h i) : sn_K mm m2 w c d q f g h n (i + 1) kp e := by
  obtain ⟨h1, h2, h3, h4, h5, h6⟩ := hK
  refine ⟨by omega, h2, h3, fun j hj => ?_, fun i0 hi hn => ?_, h6⟩
  · obtain ⟨a1, a2, a3⟩ := h4 j hj
    exact ⟨by omega, a2, a3⟩
  · by_cases q0 : i0 = i
    · subst q0; exact absurd hg hn
    · exact h5 i0 (by omega) hn
theorem sn_Kst {mm m2 : q_Mem} {w c d q n i kp : Nat} {f g h e : Nat → Nat} (hK : sn_K mm m2 w c d q f g h n i kp e) (hg : ¬ sn_goes c d q f g h i) : sn_K mm (up2 m2 18 (9 * w + kp) (mm 18 (9 * w + i))) w c d q f g h n (i + 1) (kp + 1) (fun j => if j = kp then i else e j) := by
  obtain ⟨h1, h2, h3, h4, h5, h6⟩ := hK
  refine ⟨by omega, fun k hk => ?_, fun j hj => ?_, fun j hj => ?_, fun i0 hi hn => ?_, fun j j2 hj hj2 => ?_⟩
  · rw [up2_k hk]; exact h2 k hk
  · rw [up2_i (by omega)]; exact h3 j (by omega)
  · by_cases q0 : j = kp
    · subst q0
      dsimp only
      rw [if_pos rfl]
      exact ⟨by omega, hg, up2_s⟩
    · obtain ⟨a1, a2, a3⟩ := h4 j (by omega)
      dsimp only
      rw [if_neg q0]
      exact ⟨by omega, a2, by rw [up2_i (by omega)]; exact a3⟩
  · by_cases q0 : i0 = i
    · subst q0; exact ⟨kp, by omega, if_pos rfl⟩
    · obtain ⟨j, a1, a2⟩ := h5 i0 (by omega) hn
      exact ⟨j, by omega, by dsimp only; rw [if_neg (by omega)]; exact a2⟩
  · by_cases q0 : j2 = kp
    · subst q0
      dsimp only
      rw [if_pos rfl, if_neg (by omega)]
      exact (h4 j hj).1
    · dsimp only
      rw [if_neg q0, if_neg (by omega)]
      exact h6 j j2 hj (by omega)
/-- what is read at i is still the old list's -/
theorem sn_Krd {mm m2 : q_Mem} {w c d q n i kp : Nat} {f g h e : Nat → Nat} (hK : sn_K mm m2 w c d q f g h n i kp e) : m2 18 (9 * w + i) = mm 18 (9 * w + i) := by
  obtain ⟨h1, h2, h3, -⟩ := hK
  exact h3 _ (by omega)
/-! do two agree -/
def sn_ag (d : Nat) (f g h : Nat → Nat) (i j : Nat) : Bool := decide ((g i = d ∧ g j = d ∧ ¬ f i = f j) ∧ h i * h j / 100 ≤ 20)
def sn_agk (d n : Nat) (f g h : Nat → Nat) (k : Nat) : Bool := sn_ag d f g h (k / n) (k % n)
def sn_sure (D : Int32) (g h : Nat → Nat) (i : Nat) : Int32 := if nI (g i) = D then 0 else 100 - nI (h i)
def sn_d1 (D : Int32) (g h : Nat → Nat) (i : Nat) (q : Int32) : Int32 := if q < sn_sure D g h i then sn_sure D g h i else q
theorem nn_div {n k : Nat} (h : k < n * n) : 0 < n ∧ k / n < n ∧ k % n < n := by
  have h0 : 0 < n := by
    rcases Nat.eq_zero_or_pos n with q | q
    · subst q; exact absurd h (Nat.not_lt_zero _)
    · exact q
  exact ⟨h0, (Nat.div_lt_iff_lt_mul h0).mpr h, Nat.mod_lt _ h0⟩
section
variable {c d q i : Nat} {f g h : Nat → Nat}
theorem sn_g1 (c4 : g i = d) (c6 : f i = c) : sn_goes c d q f g h i := by show (if g i = d then f i = c else q < h i); rw [if_pos c4]; exact c6
theorem sn_g2 (c4 : g i = d) (c6 : ¬ f i = c) : ¬ sn_goes c d q f g h i := by show ¬ (if g i = d then f i = c else q < h i); rw [if_pos c4]; exact c6
theorem sn_g3 (c4 : ¬ g i = d) (c6 : q < h i) : sn_goes c d q f g h i := by show (if g i = d then f i = c else q < h i); rw [if_neg c4]; exact c6
theorem sn_g4 (c4 : ¬ g i = d) (c6 : ¬ q < h i) : ¬ sn_goes c d q f g h i := by show ¬ (if g i = d then f i = c else q < h i); rw [if_neg c4]; exact c6
end
section
variable {d n k : Nat} {f g h : Nat → Nat}
theorem ag_1 (c5 : an_y (sn_agk d n f g h) k = true) : (1 : Int32) = if an_y (sn_agk d n f g h) (k + 1) = true then 1 else 0 := by
  refine bo_p ?_
  show (an_y (sn_agk d n f g h) k || sn_agk d n f g h k) = true
  rw [c5]; rfl
theorem ag_2 (c6 : g (k / n) = d ∧ g (k % n) = d ∧ ¬ f (k / n) = f (k % n)) (c7 : h (k / n) * h (k % n) / 100 ≤ 20) : (1 : Int32) = if an_y (sn_agk d n f g h) (k + 1) = true then 1 else 0 := by
  refine bo_p ?_
  show (an_y (sn_agk d n f g h) k || sn_agk d n f g h k) = true
  have : sn_agk d n f g h k = true := decide_eq_true ⟨c6, c7⟩
  rw [this, Bool.or_true]
theorem ag_0 (c5 : ¬ an_y (sn_agk d n f g h) k = true) (c6 : ¬ (g (k / n) = d ∧ g (k % n) = d ∧ ¬ f (k / n) = f (k % n))) : (0 : Int32) = if an_y (sn_agk d n f g h) (k + 1) = true then 1 else 0 := by
  refine bo_n ?_
  show ¬ (an_y (sn_agk d n f g h) k || sn_agk d n f g h k) = true
  rw [Bool.or_eq_true]
  rintro (z | z)
  · exact c5 z
  · exact c6 (of_decide_eq_true z).1
theorem ag_3 (c5 : ¬ an_y (sn_agk d n f g h) k = true) (c7 : ¬ h (k / n) * h (k % n) / 100 ≤ 20) : (0 : Int32) = if an_y (sn_agk d n f g h) (k + 1) = true then 1 else 0 := by
  refine bo_n ?_
  show ¬ (an_y (sn_agk d n f g h) k || sn_agk d n f g h k) = true
  rw [Bool.or_eq_true]
  rintro (z | z)
  · exact c5 z
  · exact c7 (of_decide_eq_true z).2
end
