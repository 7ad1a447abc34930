/-! ===== all tiles of a zoom, drawn one behind the other ===== -/
def dm (mm : q_Mem) (z : Nat) : Nat → q_Mem
  | 0 => mm
  | k + 1 => sp_draws (dm mm z k) (tb_z z + k) (nI z) (nI (k % 2 ^ z)) (nI (k / 2 ^ z))
/-- is a way in the picture of the tile k -/
def pw (mm : q_Mem) (z k w : Nat) : Bool := decide (sp_sh (mm 11 (sp_L mm w)) (nI z) ∧ sp_isin mm w (nI z) (nI (k % 2 ^ z)) (nI (k / 2 ^ z)))
def cn (mm : q_Mem) (z k : Nat) : Nat := fb_ct (pw mm z k) (sp_W mm)
def ss (f : Nat → Nat) : Nat → Nat
  | 0 => 0
  | n + 1 => ss f n + f n
abbrev sm (mm : q_Mem) (z n : Nat) : Nat := ss (cn mm z) n
def dp (mm : q_Mem) (z k : Nat) : Int32 := sp_pic mm (nI z) (nI (k % 2 ^ z)) (nI (k / 2 ^ z)) (sp_K mm)
/-- is a way shown, as the law asks it; how many are; their picture -/
def qs (mm : q_Mem) (z w : Nat) : Bool := decide (2 < kd mm w + nI z)
abbrev sw (mm : q_Mem) (z n : Nat) : Nat := fb_ct (qs mm z) n
def pcf (mm : q_Mem) (z w : Nat) (q : Int32) : Int32 := if qs mm z w = true then q * 31 + 16 * nI w + 4 * kd mm w + td mm w else q
theorem ss_add (f g : Nat → Nat) : ∀ n, ss (fun k => f k + g k) n = ss f n + ss g n
  | 0 => rfl
  | n + 1 => by
    show ss (fun k => f k + g k) n + (f n + g n) = (ss f n + f n) + (ss g n + g n)
    rw [ss_add f g n]
    omega
theorem ss_one {f : Nat → Nat} : ∀ {n : Nat}, (∃ k, k < n ∧ 1 ≤ f k) → 1 ≤ ss f n
  | 0, ⟨k, h, _⟩ => absurd h (Nat.not_lt_zero k)
  | n + 1, ⟨k, h, h2⟩ => by
    show 1 ≤ ss f n + f n
    by_cases q : k = n
    · subst q; omega
    · have := ss_one (f := f) (n := n) ⟨k, by omega, h2⟩
      omega
theorem ss_0 {f : Nat → Nat} : ∀ {n : Nat}, (∀ k, k < n → f k = 0) → ss f n = 0
  | 0, _ => rfl
  | n + 1, h => by
    show ss f n + f n = 0
    rw [ss_0 (fun k hk => h k (by omega)), h n (by omega)]
theorem ss_le {f : Nat → Nat} {c : Nat} (h : ∀ k, f k ≤ c) : ∀ n, ss f n ≤ c * n
  | 0 => Nat.zero_le _
  | n + 1 => by
    show ss f n + f n ≤ c * (n + 1)
    have h1 := ss_le h n
    have h2 := h n
    rw [Nat.mul_add]
    omega
/-- each that is counted once is counted by one of the n -/
theorem ss_ct {q : Nat → Bool} {p : Nat → Nat → Bool} {n : Nat} : ∀ {W : Nat}, (∀ w, w < W → q w = true → ∃ k, k < n ∧ p k w = true) → fb_ct q W ≤ ss (fun k => fb_ct (p k) W) n
  | 0, _ => Nat.zero_le _
  | W + 1, h => by
    have ih := ss_ct (q := q) (p := p) (n := n) (W := W) (fun w hw => h w (by omega))
    have e : ss (fun k => fb_ct (p k) (W + 1)) n = ss (fun k => fb_ct (p k) W) n + ss (fun k => if p k W then 1 else 0) n := ss_add _ _ n
    rw [e, fb_ct_succ]
    by_cases hq : q W = true
    · obtain ⟨k, hk, hp⟩ := h W (by omega) hq
      have := ss_one (f := fun k => if p k W then 1 else 0) (n := n) ⟨k, hk, by show 1 ≤ (if p k W then 1 else 0); rw [hp]; exact Nat.le_refl _⟩
      rw [hq]
      simp only [if_true]
      omega
    · have : q W = false := by
        cases z : q W with
        | false => rfl
        | true => exact absurd z hq
      rw [this]
      simp only [Bool.false_eq_true, if_false]
      omega
section
variable {mm M : q_Mem} {z k w : Nat}
theorem tp_t (hz : z < 5) (hk : k < 2 ^ z * 2 ^ z) : tb_i z (k % 2 ^ z) (k / 2 ^ z) = tb_z z + k ∧ k % 2 ^ z < 2 ^ z ∧ k / 2 ^ z < 2 ^ z ∧ tb_z z + k < 341 ∧ sp_oldt M (tb_z z + k) = sp_old M (tb_z z + k) (nI z) (nI (k % 2 ^ z)) (nI (k / 2 ^ z)) := by
  obtain ⟨a1, a2, a3, a4⟩ := tt_of z hz k hk
  obtain ⟨b1, b2, b3, b4⟩ := tt_all _ a1
  rw [a2, a3, a4] at b4
  rw [a2] at b2 b3
  rw [a3] at b2
  rw [a4] at b3
  exact ⟨b4, b2, b3, a1, by show sp_old M _ (nI (tz_t _)) (nI (tx_t _)) (nI (ty_t _)) = _; rw [a2, a3, a4]⟩
theorem LI_draws (h : LI mm) {t : Nat} {a b c : Int32} : LI (sp_draws mm t a b c) := ⟨Inv_draws h.1, by rw [dx_draws 19 (by decide) (by decide)]; exact h.2.1, dx_draws.J h.2.2⟩
theorem dm_f (h : LI mm) (hz : z < 5) : ∀ k, k ≤ 2 ^ z * 2 ^ z → dx (dm mm z k) mm ∧ LI (dm mm z k) ∧ ∀ j, j < k → dm mm z k 13 (tb_z z + j) = nI (sp_K mm + 1) ∧ dm mm z k 14 (tb_z z + j) = dp mm z j
  | 0, _ => ⟨dx.rf _, h, fun j hj => absurd hj (Nat.not_lt_zero j)⟩
  | k + 1, hk => by
    obtain ⟨i1, i2, i3⟩ := dm_f h hz k (by omega)
    refine ⟨dx_draws.tr i1, LI_draws i2, fun j hj => ?_⟩
    show sp_draws (dm mm z k) (tb_z z + k) (nI z) (nI (k % 2 ^ z)) (nI (k / 2 ^ z)) 13 (tb_z z + j) = _ ∧ sp_draws (dm mm z k) (tb_z z + k) (nI z) (nI (k % 2 ^ z)) (nI (k / 2 ^ z)) 14 (tb_z z + j) = _
    unfold sp_draws
    rw [up2_c (j := 14) (by decide)]
    by_cases e : j = k
    · subst e
      rw [up2_s, up2_s, i1 10 (by decide) (by decide), h.1.K, nI_1, i1.pic, i1.K]
      exact ⟨rfl, rfl⟩
    · obtain ⟨a1, a2⟩ := i3 j (by omega)
      rw [up2_i (by omega), up2_c (by decide), up2_i (by omega)]
      exact ⟨a1, a2⟩
theorem cnt_ct {a b c : Int32} {W0 : Nat} : ∀ n, n < 1000 → it_n (sp_cnt1 mm a b c) n 0 = nI (fb_ct (fun w => decide (sp_sh (mm 11 (sp_L mm w)) a ∧ sp_isin mm w a b c)) n)
  | 0, _ => rfl
  | n + 1, h => by
    show sp_cnt1 mm a b c n (it_n (sp_cnt1 mm a b c) n 0) = _
    rw [cnt_ct (W0 := W0) n (by omega), fb_ct_succ]
    unfold sp_cnt1
    by_cases q : sp_sh (mm 11 (sp_L mm n)) a ∧ sp_isin mm n a b c
    · rw [if_pos q, nI_1, decide_eq_true q]; rfl
    · rw [if_neg q, Int32.add_zero, decide_eq_false q]; rfl
theorem pw_x (h : dx M mm) : pw M z k w = pw mm z k w := by
  unfold pw sp_isin
  rw [h.L, h 11 (by decide) (by decide), h 2 (by decide) (by decide), h 3 (by decide) (by decide), h 4 (by decide) (by decide), h 5 (by decide) (by decide)]
theorem cn_x (h : dx M mm) : cn M z k = cn mm z k := by
  unfold cn
  rw [h.W]
  exact fb_ct_cong (fun w _ => pw_x h)
theorem qs_x (h : dx M mm) : qs M z w = qs mm z w := by unfold qs; rw [h.kdo]
/-- a tile drawn -/
theorem dr_call (h : LI mm) (hz : z < 5) (hk : k < 2 ^ z * 2 ^ z) : sp_draw (dm mm z k) (nI z) (nI (k % 2 ^ z)) (nI (k / 2 ^ z)) = (nI (cn mm z k), dm mm z (k + 1)) := by
  obtain ⟨t1, t2, t3, t4, -⟩ := tp_t (M := mm) hz hk
  obtain ⟨i1, i2, -⟩ := dm_f h hz k (by omega)
  have h40 := i2.1.W40
  unfold sp_draw
  rw [if_pos (v_tl hz t2 t3).1, (v_tl hz t2 t3).2, t1, i2.z]
  unfold sp_draw0
  rw [cnt_ct (W0 := 0) _ (by omega)]
  show (nI (cn (dm mm z k) z k), _) = _
  rw [cn_x i1]
  rfl
theorem dr_13 (h : LI mm) (hz : z < 5) (hk : k < 2 ^ z * 2 ^ z) : dm mm z (k + 1) 13 (tb_i z (k % 2 ^ z) (k / 2 ^ z)) = nI (sp_K mm + 1) ∧ ¬ dm mm z (k + 1) 13 (tb_i z (k % 2 ^ z) (k / 2 ^ z)) = 0 ∧ dm mm z (k + 1) 14 (tb_i z (k % 2 ^ z) (k / 2 ^ z)) = dp mm z k := by
  obtain ⟨t1, -⟩ := tp_t (M := mm) hz hk
  obtain ⟨-, -, i3⟩ := dm_f h hz (k + 1) (by omega)
  obtain ⟨a1, a2⟩ := i3 k (by omega)
  have hK := h.1.K512
  rw [t1]
  exact ⟨a1, by rw [a1]; exact nI_ne0 (by omega) (by omega), a2⟩
theorem dr_tst (h : LI mm) (hz : z < 5) (hk : k < 2 ^ z * 2 ^ z) : sp_tst (dm mm z (k + 1)) (nI z) (nI (k % 2 ^ z)) (nI (k / 2 ^ z)) = (mm 10 0, dm mm z (k + 1)) := by
  obtain ⟨-, t2, t3, -⟩ := tp_t (M := mm) hz hk
  obtain ⟨-, i2, -⟩ := dm_f h hz (k + 1) (by omega)
  rw [v_tst i2 hz t2 t3, (dr_13 h hz hk).1, nI_pred, h.1.K]
theorem dr_ptr (h : LI mm) (hz : z < 5) (hk : k < 2 ^ z * 2 ^ z) : sp_ptr (dm mm z (k + 1)) (nI z) (nI (k % 2 ^ z)) (nI (k / 2 ^ z)) = (dp mm z k, dm mm z (k + 1)) := by
  obtain ⟨-, t2, t3, -⟩ := tp_t (M := mm) hz hk
  obtain ⟨-, i2, -⟩ := dm_f h hz (k + 1) (by omega)
  rw [v_ptr i2 hz t2 t3 (dr_13 h hz hk).2.1, (dr_13 h hz hk).2.2]
theorem dr_anew (h : LI mm) (hz : z < 5) (hk : k < 2 ^ z * 2 ^ z) : sp_anew (dm mm z (k + 1)) (nI z) (nI (k % 2 ^ z)) (nI (k / 2 ^ z)) = (dp mm z k, dm mm z (k + 1)) := by
  obtain ⟨-, t2, t3, -⟩ := tp_t (M := mm) hz hk
  obtain ⟨i1, i2, -⟩ := dm_f h hz (k + 1) (by omega)
  have hK := h.1.K512
  rw [v_anew i2 hz t2 t3 (dr_13 h hz hk).2.1, (dr_13 h hz hk).1, nI_clamp (by omega), i1.pic]
  rfl
/-! which ways are in a picture -/
theorem pin_pw (h : LI mm) (hw : w < sp_W mm) : sp_pin mm (nI z) (nI (k % 2 ^ z)) (nI (k / 2 ^ z)) (sp_K mm) w ↔ pw mm z k w = true := by
  have hl := h.1.L4200 hw
  unfold sp_pin pw
  rw [vis_K h.1 hw, nI_clamp (by omega), decide_eq_true_eq]
  exact ⟨fun q => q.2, fun q => ⟨nI_nm1 (by omega), q⟩⟩
theorem ct_0 {p : Nat → Bool} : ∀ {n : Nat}, fb_ct p n = 0 → ∀ k, k < n → ¬ p k = true
  | 0, _, k, hk => absurd hk (Nat.not_lt_zero k)
  | n + 1, h, k, hk => by
    rw [fb_ct_succ] at h
    by_cases q : k = n
    · subst q
      intro hp
      rw [hp] at h
      simp only [if_true] at h
      omega
    · exact ct_0 (n := n) (by omega) k (by omega)
/-- no way, the bare picture -/
theorem dp_0 (h : LI mm) (hc : cn mm z k = 0) : dp mm z k = 17 := by
  have hno := ct_0 hc
  unfold dp sp_pic
  have key : ∀ n, n ≤ sp_W mm → it_n (sp_pic1 mm (nI z) (nI (k % 2 ^ z)) (nI (k / 2 ^ z)) (sp_K mm)) n 17 = 17 := by
    intro n
    induction n with
    | zero => intro _; rfl
    | succ n ih =>
      intro hn
      rw [← pic_no (fun q => hno n (by omega) ((pin_pw h (by omega)).mp q))]
      exact ih (by omega)
  exact key _ (Nat.le_refl _)
theorem sh_qs (h : LI mm) (hw : w < sp_W mm) (hz : z < 4) : sp_sh (mm 11 (sp_L mm w)) (nI z) ↔ qs mm z w = true := by
  obtain ⟨k, hk, e⟩ := iv_vk h.1 hw
  unfold qs
  rw [decide_eq_true_eq, show kd mm w = nI k from e]
  show 3 - nI z ≤ sp_vk (mm 11 (sp_L mm w)) ↔ _
  rw [e, show (3 : Int32) = nI 3 from rfl, pk_sub (by omega), nI_add, nI_leI (by omega) (by omega), show (2 : Int32) = nI 2 from rfl, nI_ltI (by omega) (by omega)]
  omega
theorem tile_of : ∀ z, z < 5 → ∀ x, x < 17 → min (x / (16 / 2 ^ z)) (2 ^ z - 1) < 2 ^ z ∧ 16 / 2 ^ z * min (x / (16 / 2 ^ z)) (2 ^ z - 1) ≤ x ∧ x ≤ 16 / 2 ^ z * (min (x / (16 / 2 ^ z)) (2 ^ z - 1) + 1) := by decide +kernel
/-- each way has a part in some tile -/
theorem in_tile (h : LI mm) (hw : w < sp_W mm) (hz : z < 5) : ∃ k, k < 2 ^ z * 2 ^ z ∧ sp_isin mm w (nI z) (nI (k % 2 ^ z)) (nI (k / 2 ^ z)) := by
  obtain ⟨x, y, x2, y2, hx, hy, hx2, hy2, e2, e3, e4, e5⟩ := iv_xy h.1 hw
  obtain ⟨r1, r2⟩ := h.2.2.2.2 w hw
  rw [e2, e4] at r1
  rw [e3, e5] at r2
  have r1' := (nI_leI (by omega) (by omega)).mp r1
  have r2' := (nI_leI (by omega) (by omega)).mp r2
  obtain ⟨a1, a2, a3⟩ := tile_of z hz x (by omega)
  obtain ⟨b1, b2, b3⟩ := tile_of z hz y (by omega)
  generalize min (x / (16 / 2 ^ z)) (2 ^ z - 1) = xt at a1 a2 a3
  generalize min (y / (16 / 2 ^ z)) (2 ^ z - 1) = yt at b1 b2 b3
  have hp := pw_le z hz
  have h0 : 0 < 2 ^ z := Nat.pow_pos (by decide)
  have hs : 16 / 2 ^ z ≤ 16 := Nat.div_le_self _ _
  have km : (2 ^ z * yt + xt) % 2 ^ z = xt := by rw [Nat.mul_add_mod]; exact Nat.mod_eq_of_lt a1
  have kd : (2 ^ z * yt + xt) / 2 ^ z = yt := by rw [Nat.mul_add_div h0, Nat.div_eq_of_lt a1]; exact Nat.add_zero _
  have hk : 2 ^ z * yt + xt < 2 ^ z * 2 ^ z := by
    have h1 : 2 ^ z * (yt + 1) ≤ 2 ^ z * 2 ^ z := Nat.mul_le_mul_left _ b1
    rw [Nat.mul_add] at h1
    omega
  have lim : ∀ q, q ≤ 16 → 16 / 2 ^ z * q ≤ 256 := fun q hq => Nat.mul_le_mul hs hq
  refine ⟨2 ^ z * yt + xt, hk, ?_⟩
  rw [km, kd]
  unfold sp_isin
  rw [sp_sd_nI z hz, e2, e3, e4, e5, nI_1, nI_1, pk_mul, pk_mul, pk_mul, pk_mul]
  have l1 := lim (xt + 1) (by omega)
  have l2 := lim xt (by omega)
  have l3 := lim (yt + 1) (by omega)
  have l4 := lim yt (by omega)
  exact ⟨nI_le a3 (by omega), nI_le (by omega) (by omega), nI_le b3 (by omega), nI_le (by omega) (by omega)⟩
theorem dz_ge (h : LI mm) (hd : dx M mm) (hz : z < 4) : sw M z (sp_W M) ≤ sm mm z (2 ^ z * 2 ^ z) := by
  rw [hd.W]
  show fb_ct (qs M z) (sp_W mm) ≤ ss (fun k => fb_ct (pw mm z k) (sp_W mm)) (2 ^ z * 2 ^ z)
  refine ss_ct (fun w hw hq => ?_)
  rw [qs_x hd] at hq
  obtain ⟨k, hk, hin⟩ := in_tile (z := z) h hw (by omega)
  exact ⟨k, hk, decide_eq_true ⟨(sh_qs h hw hz).mpr hq, hin⟩⟩
theorem dz_n (h : LI mm) (hd : dx M mm) (hz : z < 4) (h0 : sw M z (sp_W M) = 0) : sm mm z (2 ^ z * 2 ^ z) = 0 := by
  rw [hd.W] at h0
  have hno := ct_0 h0
  refine ss_0 (fun k hk => fb_ct_none (fun w hw => decide_eq_false (fun q => hno w hw ?_)))
  rw [qs_x hd]
  exact (sh_qs h hw hz).mp q.1
theorem in_0 (h : LI mm) (hw : w < sp_W mm) : sp_isin mm w (nI 0) (nI (0 % 2 ^ 0)) (nI (0 / 2 ^ 0)) := by
  obtain ⟨k, hk, q⟩ := in_tile (z := 0) h hw (by decide)
  have : k = 0 := by
    have : k < 1 := hk
    omega
  subst this
  exact q
theorem pw_0 (h : LI mm) (hw : w < sp_W mm) : pw mm 0 0 w = qs mm 0 w := by
  by_cases q : qs mm 0 w = true
  · rw [q]; exact decide_eq_true ⟨(sh_qs h hw (by decide)).mpr q, in_0 h hw⟩
  · have : qs mm 0 w = false := by
      cases z : qs mm 0 w with
      | false => rfl
      | true => exact absurd z q
    rw [this]
    exact decide_eq_false (fun z => q ((sh_qs h hw (by decide)).mp z.1))
theorem dz_0 (h : LI mm) (hd : dx M mm) : sm mm 0 (2 ^ 0 * 2 ^ 0) = sw M 0 (sp_W M) := by
  rw [hd.W]
  show 0 + cn mm 0 0 = _
  rw [Nat.zero_add]
  exact fb_ct_cong (fun w hw => by rw [qs_x hd]; exact pw_0 h hw)
theorem dz_pc (h : LI mm) (hd : dx M mm) : dp mm 0 0 = it_n (pcf M 0) (sp_W M) 17 := by
  rw [hd.W]
  unfold dp sp_pic
  have key : ∀ n, n ≤ sp_W mm → it_n (sp_pic1 mm (nI 0) (nI (0 % 2 ^ 0)) (nI (0 / 2 ^ 0)) (sp_K mm)) n 17 = it_n (pcf M 0) n 17 := by
    intro n
    induction n with
    | zero => intro _; rfl
    | succ n ih =>
      intro hn
      rw [it_n_s, it_n_s, ih (by omega)]
      have hw : n < sp_W mm := by omega
      have hl := h.1.L4200 hw
      generalize it_n (pcf M 0) n 17 = X
      by_cases q : qs mm 0 n = true
      · have hp : sp_pin mm (nI 0) (nI (0 % 2 ^ 0)) (nI (0 / 2 ^ 0)) (sp_K mm) n := (pin_pw h hw).mpr (by rw [pw_0 h hw]; exact q)
        have q2 : qs M 0 n = true := by rw [qs_x hd]; exact q
        refine (if_pos hp).trans (Eq.trans ?_ (if_pos q2).symm)
        rw [vis_K h.1 hw, nI_clamp (by omega), hd.kdo, hd.tdo, Int32.mul_comm 31]
      · have hp : ¬ sp_pin mm (nI 0) (nI (0 % 2 ^ 0)) (nI (0 / 2 ^ 0)) (sp_K mm) n := fun z => q (by rw [← pw_0 h hw]; exact (pin_pw h hw).mp z)
        have q2 : ¬ qs M 0 n = true := fun z => q (by rw [← qs_x hd]; exact z)
        exact (if_neg hp).trans (if_neg q2).symm
  exact key _ (Nat.le_refl _)
/-- behind it none is stale -/
theorem dz_st (h : LI mm) (hz : z < 5) : stl (dm mm z (2 ^ z * 2 ^ z)) z = 0 := by
  obtain ⟨i1, i2, i3⟩ := dm_f h hz _ (Nat.le_refl _)
  have hK := h.1.K512
  refine stl_0 hz (fun k hk => ?_)
  obtain ⟨-, -, -, -, t5⟩ := tp_t (M := dm mm z (2 ^ z * 2 ^ z)) hz hk
  rw [t5]
  exact old_now (by rw [i1.K]; omega) (by rw [i1.K]; exact (i3 k hk).1) _ _ _
theorem sm_lim (h : LI mm) (hz : z < 4) {n : Nat} (hn : n ≤ 2 ^ z * 2 ^ z) : sm mm z n ≤ 40 * n := ss_le (fun k => Nat.le_trans (fb_ct_le _ _) h.1.W40) n
end
