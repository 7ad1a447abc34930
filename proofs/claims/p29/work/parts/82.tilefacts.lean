/-! ===== tiles: a zoom drawn, what is stale, what is refreshed ===== -/
/-- tables that differ in stamps and pictures alone -/
def dx (A B : q_Mem) : Prop := ∀ k, k ≠ 13 → k ≠ 14 → A k = B k
theorem dx.rf (A : q_Mem) : dx A A := fun _ _ _ => rfl
theorem dx.tr {A B C : q_Mem} (h : dx A B) (h2 : dx B C) : dx A C := fun k a b => (h k a b).trans (h2 k a b)
theorem dx_draws {m : q_Mem} {t : Nat} {z x y : Int32} : dx (sp_draws m t z x y) m := fun k h1 h2 => by
  unfold sp_draws
  rw [up2_k h1, up2_k h2]
section
variable {A B : q_Mem}
theorem dx.W (h : dx A B) : sp_W A = sp_W B := by unfold sp_W; rw [h 1 (by decide) (by decide)]
theorem dx.K (h : dx A B) : sp_K A = sp_K B := by unfold sp_K; rw [h 10 (by decide) (by decide)]
theorem dx.L (h : dx A B) (w : Nat) : sp_L A w = sp_L B w := by unfold sp_L; rw [h 8 (by decide) (by decide)]
theorem dx.kdo (h : dx A B) (w : Nat) : kd A w = kd B w := by
  show sp_vk (A 11 (sp_L A w)) = sp_vk (B 11 (sp_L B w))
  rw [h.L, h 11 (by decide) (by decide)]
theorem dx.tdo (h : dx A B) (w : Nat) : td A w = td B w := by
  show sp_vd (A 11 (sp_L A w)) = sp_vd (B 11 (sp_L B w))
  rw [h.L, h 11 (by decide) (by decide)]
theorem dx.J (h : dx A B) (hB : Jv B) : Jv A := Jv_of hB (h 0 (by decide) (by decide)) (h 1 (by decide) (by decide)) (h 2 (by decide) (by decide)) (h 3 (by decide) (by decide)) (h 4 (by decide) (by decide)) (h 5 (by decide) (by decide)) (h 6 (by decide) (by decide))
theorem dx.pic (h : dx A B) (z x y : Int32) (u : Nat) : sp_pic A z x y u = sp_pic B z x y u := pic_x (fun k hk => h k (by omega) (by omega)) z x y u
theorem dx.old1 (h : dx A B) (z x y : Int32) (k : Nat) : sp_old1 A z x y k = sp_old1 B z x y k := by
  unfold sp_old1 sp_isin sp_A
  rw [h 11 (by decide) (by decide), h 12 (by decide) (by decide), h 2 (by decide) (by decide), h 3 (by decide) (by decide), h 4 (by decide) (by decide), h 5 (by decide) (by decide)]
/-- stale is by the stamp and what the table holds else -/
theorem dx.old (h : dx A B) {t : Nat} (ht : A 13 t = B 13 t) (z x y : Int32) : sp_old A t z x y = sp_old B t z x y := by
  have e : (fun k => decide ((B 13 t).toNatClampNeg - 1 ≤ k) && sp_old1 A z x y k) = fun k => decide ((B 13 t).toNatClampNeg - 1 ≤ k) && sp_old1 B z x y k := by
    funext k
    rw [h.old1]
  unfold sp_old
  rw [ht, h.K, e]
theorem old_now (hK : sp_K A < 2 ^ 30) {t : Nat} (ht : A 13 t = nI (sp_K A + 1)) (z x y : Int32) : ¬ sp_old A t z x y = true := by
  rw [old_eq ht (by omega)]
  intro q
  rw [Bool.and_eq_true] at q
  obtain ⟨k, h1, h2⟩ := an_y_iff.mp q.2
  unfold sp_oldp at h2
  rw [Bool.and_eq_true, decide_eq_true_eq] at h2
  omega
theorem old_un {t : Nat} (ht : A 13 t = 0) (z x y : Int32) : ¬ sp_old A t z x y = true := by
  unfold sp_old
  rw [ht]
  intro q
  rw [Bool.and_eq_true] at q
  exact absurd q.1 (by decide)
end
/-! how many are stale -/
theorem stl_ct (mm : q_Mem) (b : Nat) : ∀ n, n < 1000 → (it_b (sp_ste false) b n (0, mm)) = (nI (fb_ct (fun k => sp_oldt mm (b + k)) n), mm)
  | 0, _ => rfl
  | n + 1, h => by
    show sp_ste false (b + n) (it_b (sp_ste false) b n (0, mm)) = _
    rw [stl_ct mm b n (by omega), fb_ct_succ]
    by_cases q : sp_oldt mm (b + n) = true
    · rw [ste_y (q := (nI (fb_ct (fun k => sp_oldt mm (b + k)) n), mm)) q]
      simp only [q, if_true]
      rw [nI_1]
      rfl
    · rw [ste_n (q := (nI (fb_ct (fun k => sp_oldt mm (b + k)) n), mm)) q]
      simp only [q]
      rw [Int32.add_zero]
      rfl
theorem stl_eq {mm : q_Mem} {z : Nat} (hz : z < 5) : stl mm z = nI (fb_ct (fun k => sp_oldt mm (tb_z z + k)) (2 ^ z * 2 ^ z)) := by
  have h1 := pw_le z hz
  have h2 : 2 ^ z * 2 ^ z ≤ 256 := Nat.mul_le_mul h1 h1
  unfold stl
  rw [stl_ct mm _ _ (by omega)]
theorem stl_0 {mm : q_Mem} {z : Nat} (hz : z < 5) (h : ∀ k, k < 2 ^ z * 2 ^ z → ¬ sp_oldt mm (tb_z z + k) = true) : stl mm z = 0 := by
  rw [stl_eq hz, fb_ct_none (fun k hk => by
    cases q : sp_oldt mm (tb_z z + k) with
    | false => rfl
    | true => exact absurd q (h k hk))]
  rfl
theorem fb_ct_app (p : Nat → Bool) (a : Nat) : ∀ b, fb_ct p (a + b) = fb_ct p a + fb_ct (fun k => p (a + k)) b
  | 0 => rfl
  | b + 1 => by
    show fb_ct p (a + b + 1) = _
    rw [fb_ct_succ, fb_ct_succ, fb_ct_app p a b]
    omega
/-! refresh -/
section
variable {mm : q_Mem}
/-- gone through up to n -/
theorem rfn_ct (h : LI mm) : ∀ n, n ≤ 341 → (rfn mm n).1 = nI (fb_ct (sp_oldt mm) n) ∧ dx (rfn mm n).2 mm ∧ (∀ t, n ≤ t → (rfn mm n).2 13 t = mm 13 t) ∧ ∀ t, t < n → ¬ sp_oldt (rfn mm n).2 t = true
  | 0, _ => ⟨rfl, fun k h1 _ => by show up2 mm 19 0 0 k = _; rw [h.z], fun t _ => rfl, fun t ht => absurd ht (Nat.not_lt_zero t)⟩
  | n + 1, hn => by
    obtain ⟨i1, i2, i3, i4⟩ := rfn_ct h n (by omega)
    have hK := h.1.K512
    have ho : sp_oldt (rfn mm n).2 n = sp_oldt mm n := i2.old (i3 n (Nat.le_refl n)) _ _ _
    by_cases q : sp_oldt (rfn mm n).2 n = true
    · rw [rfn_y q]
      dsimp only
      have d1 : dx (sp_draws (rfn mm n).2 n (nI (tz_t n)) (nI (tx_t n)) (nI (ty_t n))) (rfn mm n).2 := dx_draws
      have e13 : ∀ t, t ≠ n → sp_draws (rfn mm n).2 n (nI (tz_t n)) (nI (tx_t n)) (nI (ty_t n)) 13 t = (rfn mm n).2 13 t := fun t ht => by
        unfold sp_draws
        rw [up2_i ht, up2_c (by decide)]
      have eS : sp_draws (rfn mm n).2 n (nI (tz_t n)) (nI (tx_t n)) (nI (ty_t n)) 13 n = nI (sp_K (sp_draws (rfn mm n).2 n (nI (tz_t n)) (nI (tx_t n)) (nI (ty_t n))) + 1) := by
        rw [d1.K, ← nI_1]
        unfold sp_draws
        rw [up2_s, i2 10 (by decide) (by decide), i2.K, h.1.K]
      refine ⟨?_, d1.tr i2, fun t ht => (e13 t (by omega)).trans (i3 t (by omega)), fun t ht => ?_⟩
      · rw [i1, fb_ct_succ, ← ho, q, nI_1]; rfl
      · by_cases e : t = n
        · subst e
          exact old_now (by rw [d1.K, i2.K]; omega) eS _ _ _
        · have := i4 t (by omega)
          rw [show sp_oldt (sp_draws (rfn mm n).2 n (nI (tz_t n)) (nI (tx_t n)) (nI (ty_t n))) t = sp_oldt (rfn mm n).2 t from d1.old (e13 t e) _ _ _]
          exact this
    · rw [rfn_n q]
      refine ⟨?_, i2, fun t ht => i3 t (by omega), fun t ht => ?_⟩
      · rw [i1, fb_ct_succ]
        have : sp_oldt mm n = false := by
          rw [← ho]
          cases z : sp_oldt (rfn mm n).2 n with
          | false => rfl
          | true => exact absurd z q
        rw [this]; rfl
      · by_cases e : t = n
        · subst e; exact q
        · exact i4 t (by omega)
theorem rf_all (h : LI mm) {n : Nat} (hn : n = 341) : ∃ R : q_Mem, sp_refr mm = (nI (fb_ct (sp_oldt mm) n), R) ∧ LI R ∧ sp_K R = sp_K mm ∧ ∀ t, t < n → ¬ sp_oldt R t = true := by
  obtain ⟨a1, a2, a3, a4⟩ := rfn_ct h n (by omega)
  have e := rfn_endn (mm := mm) n hn
  have hI : Inv (rfn mm n).2 := rfn_I h.1 n
  exact ⟨(rfn mm n).2, by rw [e, a1], ⟨hI, rfn_19 n, a2.J h.2.2⟩, a2.K, a4⟩
theorem ct_5 (p : Nat → Bool) {n : Nat} (hn : n = 341) : fb_ct p n = 0 + fb_ct (fun k => p (tb_z 0 + k)) (2 ^ 0 * 2 ^ 0) + fb_ct (fun k => p (tb_z 1 + k)) (2 ^ 1 * 2 ^ 1) + fb_ct (fun k => p (tb_z 2 + k)) (2 ^ 2 * 2 ^ 2) + fb_ct (fun k => p (tb_z 3 + k)) (2 ^ 3 * 2 ^ 3) + fb_ct (fun k => p (tb_z 4 + k)) (2 ^ 4 * 2 ^ 4) := by
  have z0 : tb_z 0 = 0 := by decide
  have b0 : tb_z 0 + 2 ^ 0 * 2 ^ 0 = tb_z 1 := by decide
  have b1 : tb_z 1 + 2 ^ 1 * 2 ^ 1 = tb_z 2 := by decide
  have b2 : tb_z 2 + 2 ^ 2 * 2 ^ 2 = tb_z 3 := by decide
  have b3 : tb_z 3 + 2 ^ 3 * 2 ^ 3 = tb_z 4 := by decide
  have b4 : tb_z 4 + 2 ^ 4 * 2 ^ 4 = n := by rw [hn]; decide
  rw [← b4, fb_ct_app p (tb_z 4), ← b3, fb_ct_app p (tb_z 3), ← b2, fb_ct_app p (tb_z 2), ← b1, fb_ct_app p (tb_z 1), ← b0, fb_ct_app p (tb_z 0), z0]
  rfl
/-- what the zooms tell together -/
def st5 (mm : q_Mem) : Nat → Int32
  | 0 => 0
  | z + 1 => st5 mm z + stl mm z
theorem rf_sum (h : LI mm) : ∃ R : q_Mem, sp_refr mm = (st5 mm 5, R) ∧ LI R ∧ sp_K R = sp_K mm ∧ (∀ z, z < 5 → stl R z = 0) ∧ sp_refr R = (0, R) := by
  obtain ⟨n, hn⟩ : ∃ n, n = 341 := ⟨_, rfl⟩
  obtain ⟨R, e1, hL, e2, e3⟩ := rf_all h hn
  have e5 : st5 mm 5 = nI (fb_ct (sp_oldt mm) n) := by
    rw [ct_5 (sp_oldt mm) hn]
    show (((((0 : Int32) + stl mm 0) + stl mm 1) + stl mm 2) + stl mm 3) + stl mm 4 = _
    rw [stl_eq (by decide), stl_eq (by decide), stl_eq (by decide), stl_eq (by decide), stl_eq (by decide), show (0 : Int32) = nI 0 from rfl, nI_add, nI_add, nI_add, nI_add, nI_add]
  have hz : ∀ z, z < 5 → stl R z = 0 := fun z hz => stl_0 hz (fun k hk => e3 _ (by rw [hn]; exact (tt_of z hz k hk).1))
  refine ⟨R, by rw [e5]; exact e1, hL, e2, hz, ?_⟩
  have key : ∀ i, i ≤ n → rfn R i = (0, R) := by
    intro i
    induction i with
    | zero => intro _; show ((0 : Int32), up2 R 19 0 0) = _; rw [hL.z]
    | succ i ih =>
      intro hi
      have ih2 := ih (by omega)
      have ho : ¬ sp_oldt (rfn R i).2 i = true := by rw [ih2]; exact e3 i (by omega)
      rw [rfn_n ho, ih2]
  rw [rfn_endn n hn, key n (Nat.le_refl n)]
end
