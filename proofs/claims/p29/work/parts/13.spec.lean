/-! ===== what a state of the map is, and what each call does to it: numbers mm k i (k 0 to 19 as the reference's fields; 20, at 9 w + 3 car + direction: the doubts, -1 for none; 21: a version's number) ===== -/
def sp_vk (v : Int32) : Int32 := (v - v / 1000 * 1000) / 100
def sp_vd (v : Int32) : Int32 := (v - v / 100 * 100) / 10
def sp_ve (v : Int32) : Int32 := v - v / 10 * 10 - 1
def sp_W (mm : q_Mem) : Nat := (mm 1 0).toNatClampNeg
def sp_K (mm : q_Mem) : Nat := (mm 10 0).toNatClampNeg
def sp_L (mm : q_Mem) (w : Nat) : Nat := (mm 8 w).toNatClampNeg
def sp_A (mm : q_Mem) (j : Nat) : Nat := (mm 12 j).toNatClampNeg
/-- a version's number: its way, kind, direction, and the editor and 1 -/
def sp_V (n : Nat) (v : Int32) : Prop := ∃ w k d e : Nat, w < n ∧ k < 4 ∧ d < 3 ∧ e < 7 ∧ v = nI (1000 * w + 100 * k + 10 * d + e)
/-- what waits: nothing, or a kind, a direction, and the editor and 1 -/
def sp_Q (v : Int32) : Prop := v = -1 ∨ ∃ k d e : Nat, k < 4 ∧ d < 3 ∧ 0 < e ∧ e < 7 ∧ v = nI (100 * k + 10 * d + e)
/-- a sighting as the reference keeps it -/
def sp_S (c d q : Nat) : Int32 := nI (c + 4 * d + 16 * q)
/-- the reference's sightings of a way are those that the doubts tell -/
def sp_N (mm : q_Mem) (w : Nat) : Prop := ∃ (n : Nat) (f g h : Nat → Nat), n ≤ 9 ∧ mm 17 w = nI n ∧ (∀ i, i < n → f i < 3 ∧ g i < 3 ∧ h i < 100 ∧ mm 18 (9 * w + i) = sp_S (f i) (g i) (h i) ∧ mm 20 (9 * w + (3 * f i + g i)) = nI (h i)) ∧
  (∀ c d, c < 3 → d < 3 → mm 20 (9 * w + (3 * c + d)) = -1 ∨ ∃ i, i < n ∧ f i = c ∧ g i = d) ∧ ∀ i j, i < n → j < n → f i = f j → g i = g j → i = j
def iv_1 (mm : q_Mem) : Prop := mm 1 0 = nI (sp_W mm) ∧ sp_W mm ≤ 40
def iv_2 (mm : q_Mem) : Prop := mm 10 0 = nI (sp_K mm) ∧ sp_K mm ≤ 512
def iv_3 (mm : q_Mem) : Prop := ∀ w, w < sp_W mm → mm 8 w = nI (sp_L mm w) ∧ sp_L mm w < sp_K mm ∧ ∃ k d e : Nat, k < 4 ∧ d < 3 ∧ e < 7 ∧ mm 11 (sp_L mm w) = nI (1000 * w + 100 * k + 10 * d + e)
def iv_4 (mm : q_Mem) : Prop := ∀ j, j < sp_K mm → sp_V (sp_W mm) (mm 11 j)
def iv_5 (mm : q_Mem) : Prop := ∀ j, j < sp_K mm → (mm 12 j = -1 ∧ mm 21 j = nI 0) ∨ (mm 12 j = nI (sp_A mm j) ∧ sp_A mm j < j ∧ mm 11 (sp_A mm j) / 1000 = mm 11 j / 1000 ∧ ∃ n, n < j ∧ mm 21 (sp_A mm j) = nI n ∧ mm 21 j = nI (n + 1))
def iv_6 (mm : q_Mem) : Prop := ∀ w, w < sp_W mm → ∃ n, n < sp_K mm ∧ mm 21 (sp_L mm w) = nI n ∧ mm 7 w = nI (n + 1)
def iv_7 (mm : q_Mem) : Prop := ∀ w, w < sp_W mm → sp_Q (mm 9 w)
def iv_8 (mm : q_Mem) : Prop := ∀ w, w < sp_W mm → ∃ x y z u : Nat, x ≤ 16 ∧ y ≤ 16 ∧ z ≤ 16 ∧ u ≤ 16 ∧ mm 2 w = nI x ∧ mm 3 w = nI y ∧ mm 4 w = nI z ∧ mm 5 w = nI u
def iv_9 (mm : q_Mem) : Prop := ∀ c, c < 3 → ∃ x y : Nat, x ≤ 16 ∧ y ≤ 16 ∧ mm 15 c = nI x ∧ mm 16 c = nI y
def iv_10 (mm : q_Mem) : Prop := ∀ t, t < 341 → ∃ n, n ≤ sp_K mm + 1 ∧ mm 13 t = nI n
/-- every version of a way is its latest one, or ahead of another one of it -/
def iv_11 (mm : q_Mem) : Prop := ∀ j, j < sp_K mm → ∀ w, w < sp_W mm → mm 11 j / 1000 = nI w → j = sp_L mm w ∨ ∃ i, i < sp_K mm ∧ j < i ∧ mm 11 i / 1000 = nI w ∧ mm 12 i = nI j
def iv_12 (mm : q_Mem) : Prop := ∀ w, w < sp_W mm → ∀ c d, c < 3 → d < 3 → mm 20 (9 * w + (3 * c + d)) = -1 ∨ ∃ q, q < 100 ∧ mm 20 (9 * w + (3 * c + d)) = nI q
/-- ways that aren't there yet -/
def iv_13 (mm : q_Mem) : Prop := ∀ w, sp_W mm ≤ w → mm 7 w = 0 ∧ mm 6 w = 0 ∧ ∀ i, i < 9 → mm 20 (9 * w + i) = -1
def Inv (mm : q_Mem) : Prop := iv_1 mm ∧ iv_2 mm ∧ iv_3 mm ∧ iv_4 mm ∧ iv_5 mm ∧ iv_6 mm ∧ iv_7 mm ∧ iv_8 mm ∧ iv_9 mm ∧ iv_10 mm ∧ iv_11 mm ∧ iv_12 mm ∧ iv_13 mm
/-! the calls -/
abbrev sp_ed (x : Int32) : Prop := 0 ≤ x ∧ x < 6
abbrev sp_cr (x y : Int32) : Prop := (0 ≤ x ∧ x ≤ 16) ∧ (0 ≤ y ∧ y ≤ 16)
abbrev sp_wy (mm : q_Mem) (x : Int32) : Prop := 0 ≤ x ∧ x < mm 1 0
abbrev sp_car (x : Int32) : Prop := 0 ≤ x ∧ x < 3
/-- what waits, or a version without its way, as a number -/
def sp_co (k d f : Int32) : Int32 := 100 * k + 10 * d + f + 1
/-- a new version of a way -/
def sp_make (mm : q_Mem) (w : Nat) (k d f : Int32) : q_Mem :=
  up2 (up2 (up2 (up2 (up2 (up2 (up2 mm 11 (sp_K mm) (1000 * nI w + 100 * k + 10 * d + f + 1)) 12 (sp_K mm) (if mm 7 w = 0 then -1 else mm 8 w)) 8 w (mm 10 0)) 7 w (mm 7 w + 1)) 9 w (-1)) 10 0 (mm 10 0 + 1)) 21 (sp_K mm) (if mm 7 w = 0 then 0 else mm 21 (sp_L mm w) + 1)
/-- an editor's trust, more by x -/
def sp_lim (x : Int32) : Int32 := if x < 0 then 0 else if 100 < x then 100 else x
def sp_tru (mm : q_Mem) (f : Nat) (x : Int32) : q_Mem := up2 mm 0 f (sp_lim (mm 0 f + x))
/-! addWay: a length in its range; where the way ends -/
abbrev sp_len (n : Int32) : Prop := ¬ n = 0 ∧ (-16 ≤ n ∧ n ≤ 16)
def sp_tx (x n : Int32) : Int32 := if 0 < n then x + n else x
def sp_ty (y n : Int32) : Int32 := if n < 0 then y - n else y
abbrev sp_may (f x y n : Int32) : Prop := sp_ed f ∧ sp_cr x y ∧ (sp_len n → sp_cr (sp_tx x n) (sp_ty y n))
def sp_add0 (mm : q_Mem) (f x y tx ty k : Int32) : q_Mem :=
  up2 (sp_make (up2 (up2 (up2 (up2 mm 2 (sp_W mm) x) 3 (sp_W mm) y) 4 (sp_W mm) tx) 5 (sp_W mm) ty) (sp_W mm) k 0 f) 1 0 (mm 1 0 + 1)
def sp_add (mm : q_Mem) (f x y n k : Int32) : Int32 × q_Mem :=
  if sp_may f x y n then
    if sp_len n ∧ (0 ≤ k ∧ k ≤ 3) then
      if mm 1 0 = 40 then (0, up2 mm 19 0 3) else (mm 1 0, sp_add0 (up2 mm 19 0 0) f x y (sp_tx x n) (sp_ty y n) k)
    else (0, up2 mm 19 0 2)
  else (0, up2 mm 19 0 1)
def sp_edit0 (mm : q_Mem) (f w : Nat) (k d : Int32) : Int32 × q_Mem :=
  if (0 ≤ k ∧ k ≤ 3) ∧ (0 ≤ d ∧ d ≤ 2) then
    if k = sp_vk (mm 11 (sp_L mm w)) ∧ d = sp_vd (mm 11 (sp_L mm w)) then (0, up2 mm 19 0 3)
    else if mm 6 w ≤ mm 0 f then (1, sp_make mm w k d (nI f)) else (0, up2 mm 9 w (sp_co k d (nI f)))
  else (0, up2 mm 19 0 2)
def sp_edit (mm : q_Mem) (x y k d : Int32) : Int32 × q_Mem :=
  if sp_ed x ∧ sp_wy mm y then sp_edit0 (up2 mm 19 0 0) x.toNatClampNeg y.toNatClampNeg k d else (0, up2 mm 19 0 1)
/-- judge: the change that waits, by its number v -/
def sp_judge0 (mm : q_Mem) (f w : Nat) (ref : Prop) [Decidable ref] : Int32 × q_Mem :=
  if ¬ mm 9 w = -1 ∧ ¬ sp_ve (mm 9 w) = nI f ∧ mm 6 w ≤ mm 0 f then
    (let m1 := if ref then sp_tru (up2 mm 9 w (-1)) (sp_ve (mm 9 w)).toNatClampNeg (-5) else sp_tru (sp_make mm w (mm 9 w / 100) (sp_vd (mm 9 w)) (sp_ve (mm 9 w))) (sp_ve (mm 9 w)).toNatClampNeg 5
     (m1 0 (sp_ve (mm 9 w)).toNatClampNeg, m1))
  else (0, up2 mm 19 0 2)
def sp_judge (mm : q_Mem) (x y : Int32) (ref : Prop) [Decidable ref] : Int32 × q_Mem :=
  if sp_ed x ∧ sp_wy mm y then sp_judge0 (up2 mm 19 0 0) x.toNatClampNeg y.toNatClampNeg ref else (0, up2 mm 19 0 1)
/-- revert: u the latest version's number, b the one's ahead of it -/
def sp_rev0 (mm : q_Mem) (f w : Nat) : Int32 × q_Mem :=
  if ¬ mm 7 w < 2 ∧ ¬ sp_ve (mm 11 (sp_L mm w)) = -1 ∧ ¬ sp_ve (mm 11 (sp_L mm w)) = nI f ∧ mm 0 (sp_ve (mm 11 (sp_L mm w))).toNatClampNeg < mm 0 f then
    (let g := (sp_ve (mm 11 (sp_L mm w))).toNatClampNeg
     let b := mm 11 (sp_A mm (sp_L mm w))
     let m1 := sp_tru (sp_make mm w (sp_vk b) (sp_vd b) (nI f)) g (-10)
     (m1 0 g, m1))
  else (0, up2 mm 19 0 2)
def sp_rev (mm : q_Mem) (x y : Int32) : Int32 × q_Mem :=
  if sp_ed x ∧ sp_wy mm y then sp_rev0 (up2 mm 19 0 0) x.toNatClampNeg y.toNatClampNeg else (0, up2 mm 19 0 1)
def sp_guard (mm : q_Mem) (x y : Int32) : Int32 × q_Mem :=
  if sp_wy mm x then
    if 0 ≤ y ∧ y ≤ 100 then (mm 6 x.toNatClampNeg, up2 (up2 mm 19 0 0) 6 x.toNatClampNeg y) else (0, up2 mm 19 0 2)
  else (0, up2 mm 19 0 1)
def sp_trust (mm : q_Mem) (x : Int32) : Int32 × q_Mem := if sp_ed x then (mm 0 x.toNatClampNeg, up2 mm 19 0 0) else (0, up2 mm 19 0 1)
/-- a number of a way: k which -/
def sp_ofway (k : Nat) (mm : q_Mem) (x : Int32) : Int32 × q_Mem := if sp_wy mm x then (mm k x.toNatClampNeg, up2 mm 19 0 0) else (0, up2 mm 19 0 1)
/-- n versions back from j -/
def sp_back (mm : q_Mem) : Nat → Nat → Nat
  | 0, j => j
  | n + 1, j => sp_back mm n (sp_A mm j)
abbrev sp_isv (mm : q_Mem) (x y : Int32) : Prop := sp_wy mm x ∧ 0 ≤ y ∧ y < mm 7 x.toNatClampNeg
/-- which version -/
def sp_at (mm : q_Mem) (x y : Int32) : Nat := sp_back mm ((mm 7 x.toNatClampNeg).toNatClampNeg - 1 - y.toNatClampNeg) (sp_L mm x.toNatClampNeg)
def sp_ver (mm : q_Mem) (x y : Int32) : Int32 × q_Mem := if sp_isv mm x y then (mm 11 (sp_at mm x y) - mm 11 (sp_at mm x y) / 1000 * 1000, up2 mm 19 0 0) else (0, up2 mm 19 0 1)
def sp_sta (mm : q_Mem) (x y : Int32) : Int32 × q_Mem := if sp_isv mm x y then (nI (sp_at mm x y) + 1, up2 mm 19 0 0) else (0, up2 mm 19 0 1)
/-! what follows out of the invariant -/
theorem Inv.W {mm : q_Mem} (h : Inv mm) : mm 1 0 = nI (sp_W mm) := h.1.1
theorem Inv.W40 {mm : q_Mem} (h : Inv mm) : sp_W mm ≤ 40 := h.1.2
theorem Inv.K {mm : q_Mem} (h : Inv mm) : mm 10 0 = nI (sp_K mm) := h.2.1.1
theorem Inv.K512 {mm : q_Mem} (h : Inv mm) : sp_K mm ≤ 512 := h.2.1.2
theorem Inv.K4200 {mm : q_Mem} (h : Inv mm) : sp_K mm < 4200 := by have := h.K512; omega
theorem Inv.L {mm : q_Mem} (h : Inv mm) {w : Nat} (hw : w < sp_W mm) : mm 8 w = nI (sp_L mm w) := (h.2.2.1 w hw).1
theorem Inv.LK {mm : q_Mem} (h : Inv mm) {w : Nat} (hw : w < sp_W mm) : sp_L mm w < sp_K mm := (h.2.2.1 w hw).2.1
theorem Inv.L4200 {mm : q_Mem} (h : Inv mm) {w : Nat} (hw : w < sp_W mm) : sp_L mm w < 4200 := Nat.lt_trans (h.LK hw) h.K4200
theorem Inv.V {mm : q_Mem} (h : Inv mm) {j : Nat} (hj : j < sp_K mm) : sp_V (sp_W mm) (mm 11 j) := h.2.2.2.1 j hj
theorem Inv.A {mm : q_Mem} (h : Inv mm) {j : Nat} (hj : j < sp_K mm) : (mm 12 j = -1 ∧ mm 21 j = nI 0) ∨ (mm 12 j = nI (sp_A mm j) ∧ sp_A mm j < j ∧ mm 11 (sp_A mm j) / 1000 = mm 11 j / 1000 ∧ ∃ n, n < j ∧ mm 21 (sp_A mm j) = nI n ∧ mm 21 j = nI (n + 1)) := h.2.2.2.2.1 j hj
theorem Inv.N {mm : q_Mem} (h : Inv mm) {w : Nat} (hw : w < sp_W mm) : ∃ n, n < sp_K mm ∧ mm 21 (sp_L mm w) = nI n ∧ mm 7 w = nI (n + 1) := h.2.2.2.2.2.1 w hw
theorem Inv.Q {mm : q_Mem} (h : Inv mm) {w : Nat} (hw : w < sp_W mm) : sp_Q (mm 9 w) := h.2.2.2.2.2.2.1 w hw
theorem nt_lt {x : Int32} {n : Nat} (hn : n < 2 ^ 31) (h : 0 ≤ x ∧ x < nI n) : ∃ j : Nat, j < n ∧ x = nI j := by
  obtain ⟨j, hj, rfl⟩ := nI_of (x := x) (by intro q; exact (bo_nlt h.1) q)
  exact ⟨j, (nI_ltI hj hn).mp h.2, rfl⟩
theorem nt_le {x : Int32} {n : Nat} (hn : n < 2 ^ 31) (h : 0 ≤ x ∧ x ≤ nI n) : ∃ j : Nat, j ≤ n ∧ x = nI j := by
  obtain ⟨j, hj, rfl⟩ := nI_of (x := x) (by intro q; exact (bo_nlt h.1) q)
  exact ⟨j, (nI_leI hj hn).mp h.2, rfl⟩
theorem nt_ed {x : Int32} (h : sp_ed x) : ∃ j : Nat, j < 6 ∧ x = nI j := nt_lt (n := 6) (by decide) h
theorem nt_car {x : Int32} (h : sp_car x) : ∃ j : Nat, j < 3 ∧ x = nI j := nt_lt (n := 3) (by decide) h
theorem nt_wy {mm : q_Mem} (hI : Inv mm) {x : Int32} (h : sp_wy mm x) : ∃ j : Nat, j < sp_W mm ∧ x = nI j := by
  have h2 : 0 ≤ x ∧ x < nI (sp_W mm) := by rw [← hI.W]; exact h
  exact nt_lt (by have := hI.W40; omega) h2
theorem nt_c {n : Nat} (h : n ≤ 100000) : (nI n).toNatClampNeg = n := nI_clamp (by omega)
