/-! ===== tiles ===== -/
/-- 0 to n - 1, one behind the other -/
def it_n {α : Type} (f : Nat → α → α) : Nat → α → α
  | 0, x => x
  | n + 1, x => f n (it_n f n x)
/-- .. from b on -/
def it_b {α : Type} (f : Nat → α → α) (b : Nat) : Nat → α → α
  | 0, x => x
  | n + 1, x => f (b + n) (it_b f b n x)
def an_y (p : Nat → Bool) : Nat → Bool
  | 0 => false
  | n + 1 => an_y p n || p n
theorem an_y_iff {p : Nat → Bool} : ∀ {n : Nat}, an_y p n = true ↔ ∃ k, k < n ∧ p k = true
  | 0 => ⟨fun h => absurd h Bool.false_ne_true, fun ⟨k, h, _⟩ => absurd h (Nat.not_lt_zero k)⟩
  | n + 1 => by
    unfold an_y
    rw [Bool.or_eq_true, an_y_iff]
    constructor
    · rintro (⟨k, h1, h2⟩ | h)
      · exact ⟨k, by omega, h2⟩
      · exact ⟨n, by omega, h⟩
    · rintro ⟨k, h1, h2⟩
      by_cases q : k = n
      · subst q; exact Or.inr h2
      · exact Or.inl ⟨k, by omega, h2⟩
def sp_sd (z : Int32) : Int32 := 16 >>> (z &&& 31)
abbrev sp_isin (mm : q_Mem) (w : Nat) (z x y : Int32) : Prop := mm 2 w ≤ sp_sd z * (x + 1) ∧ sp_sd z * x ≤ mm 4 w ∧ mm 3 w ≤ sp_sd z * (y + 1) ∧ sp_sd z * y ≤ mm 5 w
abbrev sp_sh (v z : Int32) : Prop := 3 - z ≤ sp_vk v
def sp_mn (z : Int32) : Int32 := 1 <<< (z &&& 31)
abbrev sp_zm (z : Int32) : Prop := 0 ≤ z ∧ z < 5
abbrev sp_tl (z x y : Int32) : Prop := sp_zm z ∧ (0 ≤ x ∧ x ≤ sp_mn z - 1) ∧ (0 ≤ y ∧ y ≤ sp_mn z - 1)
/-- where the tiles of a zoom begin, and a tile's place -/
def tb_z (z : Nat) : Nat := (2 ^ z * 2 ^ z - 1) / 3
def tb_i (z x y : Nat) : Nat := tb_z z + 2 ^ z * y + x
/-- a place's zoom, and its x and y -/
def tz_t (t : Nat) : Nat := if t < 1 then 0 else if t < 5 then 1 else if t < 21 then 2 else if t < 85 then 3 else 4
def tx_t (t : Nat) : Nat := (t - tb_z (tz_t t)) % 2 ^ tz_t t
def ty_t (t : Nat) : Nat := (t - tb_z (tz_t t)) / 2 ^ tz_t t
theorem sp_mn_nI : ∀ z, z < 5 → sp_mn (nI z) = nI (2 ^ z) := by decide +kernel
theorem sp_sd_nI : ∀ z, z < 5 → sp_sd (nI z) = nI (16 / 2 ^ z) := by decide +kernel
theorem pw_le : ∀ z, z < 5 → 2 ^ z ≤ 16 := by decide +kernel
theorem tb_all : ∀ z, z < 5 → ∀ x, x < 2 ^ z → ∀ y, y < 2 ^ z → tb_i z x y < 341 ∧ tz_t (tb_i z x y) = z ∧ tx_t (tb_i z x y) = x ∧ ty_t (tb_i z x y) = y := by decide +kernel
theorem tt_all : ∀ t, t < 341 → tz_t t < 5 ∧ tx_t t < 2 ^ tz_t t ∧ ty_t t < 2 ^ tz_t t ∧ tb_i (tz_t t) (tx_t t) (ty_t t) = t := by decide +kernel
theorem nt_zm {z : Int32} (h : sp_zm z) : ∃ j : Nat, j < 5 ∧ z = nI j := nt_lt (n := 5) (by decide) h
theorem nt_pm {j : Nat} (hj : j < 5) {x : Int32} (h : 0 ≤ x ∧ x ≤ sp_mn (nI j) - 1) : ∃ i : Nat, i < 2 ^ j ∧ x = nI i := by
  have h1 := pw_le j hj
  have h0 : 0 < 2 ^ j := Nat.pow_pos (by decide)
  rw [sp_mn_nI j hj, nI_m1 h0] at h
  obtain ⟨i, hi, e⟩ := nt_le (n := 2 ^ j - 1) (by omega) h
  exact ⟨i, by omega, e⟩
theorem nt_tl {z x y : Int32} (h : sp_tl z x y) : ∃ zi xi yi : Nat, zi < 5 ∧ xi < 2 ^ zi ∧ yi < 2 ^ zi ∧ z = nI zi ∧ x = nI xi ∧ y = nI yi := by
  obtain ⟨zi, hz, rfl⟩ := nt_zm h.1
  obtain ⟨xi, hx, rfl⟩ := nt_pm hz h.2.1
  obtain ⟨yi, hy, rfl⟩ := nt_pm hz h.2.2
  exact ⟨zi, xi, yi, hz, hx, hy, rfl, rfl, rfl⟩
theorem tb_raw {z x y : Nat} (hz : z < 5) (hx : x < 2 ^ z) (hy : y < 2 ^ z) : (sp_mn (nI z) * sp_mn (nI z) - 1) / 3 + sp_mn (nI z) * nI y + nI x = nI (tb_i z x y) := by
  have h1 := pw_le z hz
  have h0 : 0 < 2 ^ z := Nat.pow_pos (by decide)
  have h2 : 2 ^ z * 2 ^ z ≤ 256 := Nat.mul_le_mul h1 h1
  have h3 : 0 < 2 ^ z * 2 ^ z := Nat.mul_pos h0 h0
  rw [sp_mn_nI z hz, pk_mul, nI_m1 h3]
  rw [show (3 : Int32) = nI 3 from rfl, pk_div (by omega) (by decide) (by decide), pk_mul, nI_add, nI_add]
  rfl
/-- the latest version of a way with a stamp up to u (its place below u): n steps at the most -/
def sp_seek (mm : q_Mem) (u : Nat) : Nat → Int32 → Int32
  | 0, v => v
  | n + 1, v => if v = -1 then v else if v.toNatClampNeg < u then v else sp_seek mm u n (mm 12 v.toNatClampNeg)
def sp_vis (mm : q_Mem) (w u : Nat) : Int32 := sp_seek mm u 600 (mm 8 w)
/-- is the way in the picture that is drawn by the versions below u -/
abbrev sp_pin (mm : q_Mem) (z x y : Int32) (u w : Nat) : Prop := ¬ sp_vis mm w u = -1 ∧ sp_sh (mm 11 (sp_vis mm w u).toNatClampNeg) z ∧ sp_isin mm w z x y
def sp_pic1 (mm : q_Mem) (z x y : Int32) (u w : Nat) (q : Int32) : Int32 :=
  if sp_pin mm z x y u w then 31 * q + 16 * nI w + 4 * sp_vk (mm 11 (sp_vis mm w u).toNatClampNeg) + sp_vd (mm 11 (sp_vis mm w u).toNatClampNeg) else q
def sp_pic (mm : q_Mem) (z x y : Int32) (u : Nat) : Int32 := it_n (sp_pic1 mm z x y u) (sp_W mm) 17
def sp_draws (mm : q_Mem) (t : Nat) (z x y : Int32) : q_Mem := up2 (up2 mm 14 t (sp_pic mm z x y (sp_K mm))) 13 t (mm 10 0 + 1)
def sp_cnt1 (mm : q_Mem) (z x y : Int32) (w : Nat) (q : Int32) : Int32 := q + (if sp_sh (mm 11 (sp_L mm w)) z ∧ sp_isin mm w z x y then 1 else 0)
def sp_draw0 (mm : q_Mem) (t : Nat) (z x y : Int32) : Int32 × q_Mem := (it_n (sp_cnt1 mm z x y) (sp_W mm) 0, sp_draws mm t z x y)
abbrev sp_t (z x y : Int32) : Nat := tb_i z.toNatClampNeg x.toNatClampNeg y.toNatClampNeg
def sp_draw (mm : q_Mem) (z x y : Int32) : Int32 × q_Mem := if sp_tl z x y then sp_draw0 (up2 mm 19 0 0) (sp_t z x y) z x y else (0, up2 mm 19 0 1)
def sp_ptr (mm : q_Mem) (z x y : Int32) : Int32 × q_Mem := if sp_tl z x y then (if mm 13 (sp_t z x y) = 0 then (0, up2 mm 19 0 2) else (mm 14 (sp_t z x y), up2 mm 19 0 0)) else (0, up2 mm 19 0 1)
def sp_anew (mm : q_Mem) (z x y : Int32) : Int32 × q_Mem := if sp_tl z x y then (if mm 13 (sp_t z x y) = 0 then (0, up2 mm 19 0 2) else (sp_pic mm z x y ((mm 13 (sp_t z x y)).toNatClampNeg - 1), up2 mm 19 0 0)) else (0, up2 mm 19 0 1)
def sp_tst (mm : q_Mem) (z x y : Int32) : Int32 × q_Mem := if sp_tl z x y then (mm 13 (sp_t z x y) - 1, up2 mm 19 0 0) else (0, up2 mm 19 0 1)
/-- is a tile stale -/
def sp_old1 (mm : q_Mem) (z x y : Int32) (k : Nat) : Bool := decide ((sp_sh (mm 11 k) z ∨ (¬ mm 12 k = -1 ∧ sp_sh (mm 11 (sp_A mm k)) z)) ∧ sp_isin mm (mm 11 k / 1000).toNatClampNeg z x y)
def sp_old (mm : q_Mem) (t : Nat) (z x y : Int32) : Bool := decide (0 < (mm 13 t).toNatClampNeg) && an_y (fun k => decide ((mm 13 t).toNatClampNeg - 1 ≤ k) && sp_old1 mm z x y k) (sp_K mm)
def sp_isst (mm : q_Mem) (z x y : Int32) : Int32 × q_Mem := if sp_tl z x y then (if sp_old mm (sp_t z x y) z x y = true then 1 else 0, up2 mm 19 0 0) else (0, up2 mm 19 0 1)
/-- the tile at the place t -/
def sp_oldp (mm : q_Mem) (z x y : Int32) (n k : Nat) : Bool := decide (n - 1 ≤ k) && sp_old1 mm z x y k
abbrev sp_oldt (mm : q_Mem) (t : Nat) : Bool := sp_old mm t (nI (tz_t t)) (nI (tx_t t)) (nI (ty_t t))
/-- a tile's turn when a zoom's tiles are gone through: it is counted and, if told, drawn, if it is stale -/
def sp_ste (dr : Bool) (t : Nat) (q : Int32 × q_Mem) : Int32 × q_Mem := if sp_oldt q.2 t = true then (q.1 + 1, if dr = true then sp_draws q.2 t (nI (tz_t t)) (nI (tx_t t)) (nI (ty_t t)) else q.2) else (q.1 + 0, q.2)
abbrev sp_z4 (z : Int32) : Prop := 0 ≤ z ∧ z ≤ 4
def sp_stl (mm : q_Mem) (z : Int32) : Int32 × q_Mem := if sp_z4 z then ((it_b (sp_ste false) (tb_z z.toNatClampNeg) (2 ^ z.toNatClampNeg * 2 ^ z.toNatClampNeg) (0, up2 mm 19 0 0)).1, up2 mm 19 0 0) else (0, up2 mm 19 0 1)
def sp_refr (mm : q_Mem) : Int32 × q_Mem := it_n (sp_ste true) 341 (0, up2 mm 19 0 0)
/-! cars -/
def sp_far (mm : q_Mem) (c : Nat) (x y : Int32) : Int32 := (if x < mm 15 c then mm 15 c - x else x - mm 15 c) + (if y < mm 16 c then mm 16 c - y else y - mm 16 c)
def sp_goes (mm : q_Mem) (c : Nat) (x y : Int32) : q_Mem := up2 (up2 mm 15 c x) 16 c y
def sp_drive (mm : q_Mem) (c x y : Int32) : Int32 × q_Mem := if sp_car c ∧ sp_cr x y then (sp_far mm c.toNatClampNeg x y, sp_goes (up2 mm 19 0 0) c.toNatClampNeg x y) else (0, up2 mm 19 0 1)
def sp_cat (mm : q_Mem) (c : Int32) : Int32 × q_Mem := if sp_car c then (100 * mm 15 c.toNatClampNeg + mm 16 c.toNatClampNeg, up2 mm 19 0 0) else (0, up2 mm 19 0 1)
theorem nI_dec {k : Nat} (h : 0 < k) : nI k + Int32.ofInt (-1) = nI (k - 1) := by
  obtain ⟨j, rfl⟩ : ∃ j, k = j + 1 := ⟨k - 1, by omega⟩
  exact pk_m1 j
theorem nI_nle2 {a b : Nat} (h : a < b) (hb : b < 2 ^ 31) : ¬ nI b ≤ nI a := nI_ge h hb
