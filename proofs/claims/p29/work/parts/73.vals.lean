/-! ===== what the class's reads answer, where they throw nothing ===== -/
theorem z19 {mm : q_Mem} (h : mm 19 0 = 0) : up2 mm 19 0 0 = mm := by
  funext a b
  unfold up2
  by_cases q : a = 19 ∧ b = 0
  · rw [if_pos q, q.1, q.2, h]
  · rw [if_neg q]
/-- ranges of guards and trusts; a way goes to the right or downwards -/
def Jv (mm : q_Mem) : Prop := (∀ w, w < sp_W mm → ∃ g, g ≤ 100 ∧ mm 6 w = nI g) ∧ (∀ f, f < 6 → ∃ t, t ≤ 100 ∧ mm 0 f = nI t) ∧ ∀ w, w < sp_W mm → mm 2 w ≤ mm 4 w ∧ mm 3 w ≤ mm 5 w
def LI (mm : q_Mem) : Prop := Inv mm ∧ mm 19 0 = 0 ∧ Jv mm
/-- a way's latest version: its number without its way, its kind, direction, author -/
def vc (mm : q_Mem) (w : Nat) : Int32 := mm 11 (sp_L mm w) - mm 11 (sp_L mm w) / 1000 * 1000
abbrev kd (mm : q_Mem) (w : Nat) : Int32 := sp_vk (mm 11 (sp_L mm w))
abbrev td (mm : q_Mem) (w : Nat) : Int32 := sp_vd (mm 11 (sp_L mm w))
abbrev be (mm : q_Mem) (w : Nat) : Int32 := sp_ve (mm 11 (sp_L mm w))
section
variable {mm : q_Mem} {w f c k : Nat}
theorem LI.z (h : LI mm) : up2 mm 19 0 0 = mm := z19 h.2.1
theorem LI.cl (h : LI mm) (hw : w < sp_W mm) : (nI w).toNatClampNeg = w := nI_clamp (by have := h.1.W40; omega)
theorem LI.wy (h : LI mm) (hw : w < sp_W mm) : sp_wy mm (nI w) := by
  have := h.1.W40
  exact ⟨nI_pos' (by omega), by rw [h.1.W]; exact nI_lt hw (by omega)⟩
theorem v_of (h : LI mm) (hw : w < sp_W mm) : sp_ofway k mm (nI w) = (mm k w, mm) := by
  unfold sp_ofway
  rw [if_pos (h.wy hw), h.cl hw, h.z]
theorem v_tru (h : LI mm) (hf : f < 6) : sp_trust mm (nI f) = (mm 0 f, mm) := by
  unfold sp_trust
  rw [if_pos ⟨nI_pos' (by omega), nI_lt (b := 6) hf (by decide)⟩, nt_c (by omega), h.z]
theorem v_sgt (h : LI mm) (hw : w < sp_W mm) : sp_sgt mm (nI w) = (sp_dc mm w, mm) := by
  unfold sp_sgt
  rw [if_pos (h.wy hw), h.cl hw, h.z]
theorem v_dear (h : LI mm) (hw : w < sp_W mm) : sp_dear mm (nI w) = (sp_dv mm w, mm) := by
  unfold sp_dear
  rw [if_pos (h.wy hw), h.cl hw, h.z]
theorem v_car (hc : c < 3) : sp_car (nI c) := ⟨nI_pos' (by omega), nI_lt (b := 3) hc (by decide)⟩
theorem v_cat (h : LI mm) (hc : c < 3) : sp_cat mm (nI c) = (100 * mm 15 c + mm 16 c, mm) := by
  unfold sp_cat
  rw [if_pos (v_car hc), nt_c (by omega), h.z]
theorem v_tar (h : LI mm) (hc : c < 3) : sp_tar mm (nI c) = (sp_tg mm c, mm) := by
  unfold sp_tar
  rw [if_pos (v_car hc), nt_c (by omega), h.z]
/-- how many tiles of a zoom are stale -/
def stl (mm : q_Mem) (z : Nat) : Int32 := (it_b (sp_ste false) (tb_z z) (2 ^ z * 2 ^ z) (0, mm)).1
theorem v_stl {z : Nat} (h : LI mm) (hz : z < 5) : sp_stl mm (nI z) = (stl mm z, mm) := by
  unfold sp_stl stl
  rw [if_pos ⟨nI_pos' (by omega), nI_le (a := z) (b := 4) (by omega) (by decide)⟩, nt_c (by omega), h.z]
theorem v_tl {z x y : Nat} (hz : z < 5) (hx : x < 2 ^ z) (hy : y < 2 ^ z) : sp_tl (nI z) (nI x) (nI y) ∧ sp_t (nI z) (nI x) (nI y) = tb_i z x y := by
  have h1 := pw_le z hz
  have h0 : 0 < 2 ^ z := Nat.pow_pos (by decide)
  refine ⟨⟨⟨nI_pos' (by omega), nI_lt (b := 5) hz (by decide)⟩, ?_, ?_⟩, by show tb_i _ _ _ = _; rw [nt_c (by omega), nt_c (by omega), nt_c (by omega)]⟩
  · rw [sp_mn_nI z hz, nI_m1 h0]; exact ⟨nI_pos' (by omega), nI_le (by omega) (by omega)⟩
  · rw [sp_mn_nI z hz, nI_m1 h0]; exact ⟨nI_pos' (by omega), nI_le (by omega) (by omega)⟩
theorem v_tst {z x y : Nat} (h : LI mm) (hz : z < 5) (hx : x < 2 ^ z) (hy : y < 2 ^ z) : sp_tst mm (nI z) (nI x) (nI y) = (mm 13 (tb_i z x y) - 1, mm) := by
  unfold sp_tst
  rw [if_pos (v_tl hz hx hy).1, (v_tl hz hx hy).2, h.z]
theorem v_ptr {z x y : Nat} (h : LI mm) (hz : z < 5) (hx : x < 2 ^ z) (hy : y < 2 ^ z) (hd : ¬ mm 13 (tb_i z x y) = 0) : sp_ptr mm (nI z) (nI x) (nI y) = (mm 14 (tb_i z x y), mm) := by
  unfold sp_ptr
  rw [if_pos (v_tl hz hx hy).1, (v_tl hz hx hy).2, if_neg hd, h.z]
theorem v_ptn {z x y : Nat} (hz : z < 5) (hx : x < 2 ^ z) (hy : y < 2 ^ z) (hd : mm 13 (tb_i z x y) = 0) : sp_ptr mm (nI z) (nI x) (nI y) = (0, up2 mm 19 0 2) := by
  unfold sp_ptr
  rw [if_pos (v_tl hz hx hy).1, (v_tl hz hx hy).2, if_pos hd]
theorem v_anew {z x y : Nat} (h : LI mm) (hz : z < 5) (hx : x < 2 ^ z) (hy : y < 2 ^ z) (hd : ¬ mm 13 (tb_i z x y) = 0) : sp_anew mm (nI z) (nI x) (nI y) = (sp_pic mm (nI z) (nI x) (nI y) ((mm 13 (tb_i z x y)).toNatClampNeg - 1), mm) := by
  unfold sp_anew
  rw [if_pos (v_tl hz hx hy).1, (v_tl hz hx hy).2, if_neg hd, h.z]
theorem v_num (h : LI mm) (hw : w < sp_W mm) : ∃ n, n < sp_K mm ∧ mm 21 (sp_L mm w) = nI n ∧ mm 7 w = nI (n + 1) := h.1.N hw
theorem v_at (h : LI mm) (hw : w < sp_W mm) {n : Nat} (hn : mm 7 w = nI (n + 1)) (hn2 : n < 2 ^ 30) (t : Nat) (ht : t ≤ n) : sp_isv mm (nI w) (nI (n - t)) ∧ sp_at mm (nI w) (nI (n - t)) = sp_back mm t (sp_L mm w) := by
  refine ⟨⟨h.wy hw, nI_pos' (by omega), by rw [h.cl hw, hn]; exact nI_lt (by omega) (by omega)⟩, ?_⟩
  unfold sp_at
  rw [h.cl hw, hn, nI_clamp (by omega), nI_clamp (by omega)]
  congr 1
  omega
theorem v_ver (h : LI mm) (hw : w < sp_W mm) : sp_ver mm (nI w) (mm 7 w - 1) = (vc mm w, mm) := by
  obtain ⟨n, h1, -, h3⟩ := v_num h hw
  have hK := h.1.K512
  obtain ⟨a1, a2⟩ := v_at h hw h3 (by omega) 0 (Nat.zero_le _)
  have e : mm 7 w - 1 = nI (n - 0) := by rw [h3]; exact nI_pred n
  unfold sp_ver
  rw [e, if_pos a1, a2, h.z]
  rfl
theorem v_sta (h : LI mm) (hw : w < sp_W mm) : sp_sta mm (nI w) (mm 7 w - 1) = (nI (sp_L mm w) + 1, mm) := by
  obtain ⟨n, h1, -, h3⟩ := v_num h hw
  have hK := h.1.K512
  obtain ⟨a1, a2⟩ := v_at h hw h3 (by omega) 0 (Nat.zero_le _)
  have e : mm 7 w - 1 = nI (n - 0) := by rw [h3]; exact nI_pred n
  unfold sp_sta
  rw [e, if_pos a1, a2, h.z]
  rfl
theorem v_cod (h : LI mm) (hw : w < sp_W mm) : ∃ k d f : Nat, k < 4 ∧ d < 3 ∧ f < 7 ∧ vc mm w = nI (100 * k + 10 * d + f) ∧ kd mm w = nI k ∧ td mm w = nI d ∧ be mm w = nI f - 1 := by
  obtain ⟨k, d, f, hk, hd, hf, e⟩ := iv_D h.1 hw
  have h40 := h.1.W40
  refine ⟨k, d, f, hk, hd, hf, ?_, ?_, ?_, ?_⟩
  · unfold vc
    rw [e, show (1000 : Int32) = nI 1000 from rfl, pk_rem (by omega) (by decide) (by decide)]
    congr 1; omega
  · rw [kd, e, vk_nI (by omega)]; congr 1; omega
  · rw [td, e, vd_nI (by omega)]; congr 1; omega
  · rw [be, e, ve_nI (by omega)]; congr 2; omega
theorem v_kd (h : LI mm) (hw : w < sp_W mm) : vc mm w / 100 = kd mm w := rfl
theorem v_td (h : LI mm) (hw : w < sp_W mm) : vc mm w / 10 - vc mm w / 10 / 10 * 10 = td mm w := by
  obtain ⟨k, d, f, hk, hd, hf, e, e1, e2, e3⟩ := v_cod h hw
  rw [e, e2, show (10 : Int32) = nI 10 from rfl, pk_div (by omega) (by decide) (by decide), pk_rem (by omega) (by decide) (by decide)]
  congr 1; omega
theorem v_be (h : LI mm) (hw : w < sp_W mm) : vc mm w - vc mm w / 10 * 10 - 1 = be mm w := by
  obtain ⟨k, d, f, hk, hd, hf, e, e1, e2, e3⟩ := v_cod h hw
  rw [e, e3, show (10 : Int32) = nI 10 from rfl, pk_rem (by omega) (by decide) (by decide)]
  congr 2; omega
end
