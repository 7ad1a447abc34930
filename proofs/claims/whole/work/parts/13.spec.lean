/-! ===== what a state of the map is, and what each call does to it: numbers mm k i (k 0 to 19 as the reference's fields; 20, at 9 w + 3 car + direction: the doubts, -1 for none; 21: a version's number) ===== -/
def sp_vk (v : Int32) : Int32 := (v - v / 1000 * 1000) / 100
def sp_vd (v : Int32) : Int32 := (v - v / 100 * 100) / 10
def sp_ve (v : Int32) : Int32 := v - v / 10 * 10 - 1
def sp_W (mm : q_Mem) : Nat := (mm 1 0).toNatClampNeg
def sp_K (mm : q_Mem) : Nat := (mm 10 0).toNatClampNeg
def sp_L (mm : q_Mem) (w : Nat) : Nat := (mm 8 w).toNatClampNeg
def sp_A (mm : q_Mem) (j : Nat) : Nat := (mm 12 j).toNatClampNeg
/-- a version's number: its way, kind, direction, and the editor and 1 -/
def sp_V (n : Nat) (v : Int32) : Prop := ∃ w k d e : Nat, w < n ∧ k < 4 ∧ d < 3 ∧ e < 7 ∧ v = nI (1000 * w + 100 * k + 10 * d + e)
/-- what waits: nothing, or a kind, a direction, and the editor and 1 -/
def sp_Q (v : Int32) : Prop := v = -1 ∨ ∃ k d e : Nat, k < 4 ∧ d < 3 ∧ 0 < e ∧ e < 7 ∧ v = nI (100 * k + 10 * d + e)
/-- a sighting as the reference keeps it -/
def sp_S (c d q : Nat) : Int32 := nI (c + 4 * d + 16 * q)
/-- the reference's sightings of a way are those that the doubts tell -/
def sp_N (mm : q_Mem) (w : Nat) : Prop := ∃ (n : Nat) (f g h : Nat → Nat), n ≤ 9 ∧ mm 17 w = nI n ∧ (∀ i, i < n → f i < 3 ∧ g i < 3 ∧ h i < 100 ∧ mm 18 (9 * w + i) = sp_S (f i) (g i) (h i) ∧ mm 20 (9 * w + (3 * f i + g i)) = nI (h i)) ∧
  (∀ c d, c < 3 → d < 3 → mm 20 (9 * w + (3 * c + d)) = -1 ∨ ∃ i, i < n ∧ f i = c ∧ g i = d) ∧ ∀ i j, i < n → j < n → f i = f j → g i = g j → i = j
def iv_1 (mm : q_Mem) : Prop := mm 1 0 = nI (sp_W mm) ∧ sp_W mm ≤ 40
def iv_2 (mm : q_Mem) : Prop := mm 10 0 = nI (sp_K mm) ∧ sp_K mm ≤ 512
def iv_3 (mm : q_Mem) : Prop := ∀ w, w < sp_W mm → mm 8 w = nI (sp_L mm w) ∧ sp_L mm w < sp_K mm ∧ ∃ k d e : Nat, k < 4 ∧ d < 3 ∧ e < 7 ∧ mm 11 (sp_L mm w) = nI (1000 * w + 100 * k + 10 * d + e)
def iv_4 (mm : q_Mem) : Prop := ∀ j, j < sp_K mm → sp_V (sp_W mm) (mm 11 j)
def iv_5 (mm : q_Mem) : Prop := ∀ j, j < sp_K mm → (mm 12 j = -1 ∧ mm 21 j = nI 0) ∨ (mm 12 j = nI (sp_A mm j) ∧ sp_A mm j < j ∧ mm 11 (sp_A mm j) / 1000 = mm 11 j / 1000 ∧ ∃ n, n < j ∧ mm 21 (sp_A mm j) = nI n ∧ mm 21 j = nI (n + 1))
def iv_6 (mm : q_Mem) : Prop := ∀ w, w < sp_W mm → ∃ n, n < sp_K mm ∧ mm 21 (sp_L mm w) = nI n ∧ mm 7 w = nI (n + 1)
def iv_7 (mm : q_Mem) : Prop := ∀ w, w < sp_W mm → sp_Q (mm 9 w)
def iv_8 (mm : q_Mem) : Prop := ∀ w, w < sp_W mm → ∃ x y z u : Nat, x ≤ 16 ∧ y ≤ 16 ∧ z ≤ 16 ∧ u ≤ 16 ∧ mm 2 w = nI x ∧ mm 3 w = nI y ∧ mm 4 w = nI z ∧ mm 5 w = nI u
def iv_9 (mm : q_Mem) : Prop := ∀ c, c < 3 → ∃ x y : Nat, x ≤ 16 ∧ y ≤ 16 ∧ mm 15 c = nI x ∧ mm 16 c = nI y
def iv_10 (mm : q_Mem) : Prop := ∀ t, t < 341 → ∃ n, n ≤ sp_K mm + 1 ∧ mm 13 t = nI n
/-- every version of a way is its latest one, or ahead of another one of it -/
def iv_11 (mm : q_Mem) : Prop := ∀ j, j < sp_K mm → ∀ w, w < sp_W mm → mm 11 j / 1000 = nI w → j = sp_L mm w ∨ ∃ i, i < sp_K mm ∧ j < i ∧ mm 11 i / 1000 = nI w ∧ mm 12 i = nI j
def iv_12 (mm : q_Mem) : Prop := ∀ w, w < sp_W mm → ∀ c d, c < 3 → d < 3 → mm 20 (9 * w + (3 * c + d)) = -1 ∨ ∃ q, q < 100 ∧ mm 20 (9 * w + (3 * c + d)) = nI q
/-- ways that aren't there yet -/
def iv_13 (mm : q_Mem) : Prop := ∀ w, sp_W mm ≤ w → mm 7 w = 0 ∧ mm 6 w = 0
def Inv (mm : q_Mem) : Prop := iv_1 mm ∧ iv_2 mm ∧ iv_3 mm ∧ iv_4 mm ∧ iv_5 mm ∧ iv_6 mm ∧ iv_7 mm ∧ iv_8 mm ∧ iv_9 mm ∧ iv_10 mm ∧ iv_11 mm ∧ iv_12 mm ∧ iv_13 mm
/-! the calls -/
def sp_in (v x y : Int32) : Prop := x ≤ v ∧ v ≤ y
def sp_ed (x : Int32) : Prop := 0 ≤ x ∧ x < 6
def sp_cr (x y : Int32) : Prop := (0 ≤ x ∧ x ≤ 16) ∧ (0 ≤ y ∧ y ≤ 16)
def sp_wy (mm : q_Mem) (x : Int32) : Prop := 0 ≤ x ∧ x < mm 1 0
def sp_car (x : Int32) : Prop := 0 ≤ x ∧ x < 3
/-- what waits, or a version without its way, as a number -/
def sp_co (k d e : Int32) : Int32 := 100 * k + 10 * d + e + 1
/-- a new version of a way -/
def sp_make (mm : q_Mem) (w : Nat) (k d e : Int32) : q_Mem :=
  up2 (up2 (up2 (up2 (up2 (up2 (up2 mm 11 (sp_K mm) (1000 * nI w + 100 * k + 10 * d + e + 1)) 12 (sp_K mm) (if mm 7 w = 0 then -1 else mm 8 w)) 8 w (mm 10 0)) 7 w (mm 7 w + 1)) 9 w (-1)) 10 0 (mm 10 0 + 1)) 21 (sp_K mm) (if mm 7 w = 0 then 0 else mm 21 (sp_L mm w) + 1)
/-- an editor's trust, more by x -/
def sp_lim (x : Int32) : Int32 := if x < 0 then 0 else if 100 < x then 100 else x
def sp_tru (mm : q_Mem) (e : Nat) (x : Int32) : q_Mem := up2 mm 0 e (sp_lim (mm 0 e + x))
