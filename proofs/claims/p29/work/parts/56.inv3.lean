/-! ===== the invariant behind each call (but addWay): at most one change more ===== -/
def IK (mm m2 : q_Mem) : Prop := Inv m2 ∧ sp_K m2 ≤ sp_K mm + 1
section
variable {mm : q_Mem}
theorem IK_19 {v : Int32} (h : Inv mm) : IK mm (up2 mm 19 0 v) := ⟨h, Nat.le_succ _⟩
theorem IK_s {m2 : q_Mem} {v : Int32} (h : IK mm m2) : IK mm (up2 m2 19 0 v) := h
theorem IK_tru {m2 : q_Mem} {f : Nat} {x : Int32} (h : IK mm m2) : IK mm (sp_tru m2 f x) := h
theorem IK_make {w k d e : Nat} {ff : Int32} (hI : Inv mm) (hK1 : sp_K mm < 512) (hw : w < sp_W mm) (hk : k < 4) (hd : d < 3) (he : e < 7) (hf : ff = nI e - 1) : IK mm (sp_make mm w (nI k) (nI d) ff) := by
  obtain ⟨h1, h2⟩ := Inv_make hI hw hK1 hk hd he hf
  exact ⟨h1, Nat.le_of_eq h2⟩
theorem IK_edit {x y k d : Int32} (hI : Inv mm) (hK1 : sp_K mm < 512) : IK mm (sp_edit mm x y k d).2 := by
  by_cases cP : sp_ed x ∧ sp_wy mm y
  · obtain ⟨f, hf, rfl⟩ := nt_ed cP.1
    obtain ⟨w, hw, rfl⟩ := nt_wy hI cP.2
    have hW := hI.W40
    rw [sp_edit, if_pos cP, nt_c (by omega), nt_c (by omega)]
    unfold sp_edit0
    by_cases c1 : (0 ≤ k ∧ k ≤ 3) ∧ (0 ≤ d ∧ d ≤ 2)
    · obtain ⟨ki, hk, rfl⟩ := nt_le (n := 3) (by decide) c1.1
      obtain ⟨di, hd, rfl⟩ := nt_le (n := 2) (by decide) c1.2
      rw [if_pos c1]
      split
      · exact IK_19 hI
      · split
        · rw [mk_19]
          exact IK_s (IK_make (e := f + 1) hI hK1 hw (by omega) (by omega) (by omega) (nI_pred f).symm)
        · refine ⟨Inv_wait (Inv_19 hI) (Or.inr ⟨ki, di, f + 1, by omega, by omega, by omega, by omega, co_mk⟩), Nat.le_succ _⟩
    · rw [if_neg c1]; exact IK_19 hI
  · rw [sp_edit, if_neg cP]; exact IK_19 hI
theorem IK_judge {x y : Int32} {ref : Prop} [Decidable ref] (hI : Inv mm) (hK1 : sp_K mm < 512) : IK mm (sp_judge mm x y ref).2 := by
  by_cases cP : sp_ed x ∧ sp_wy mm y
  · obtain ⟨f, hf, rfl⟩ := nt_ed cP.1
    obtain ⟨w, hw, rfl⟩ := nt_wy hI cP.2
    have hW := hI.W40
    rw [sp_judge, if_pos cP, nt_c (by omega), nt_c (by omega)]
    by_cases c1 : ¬ mm 9 w = -1 ∧ ¬ sp_ve (mm 9 w) = nI f ∧ mm 6 w ≤ mm 0 f
    · by_cases c2 : ref
      · rw [sp_judge_ref c1 c2 rfl]
        exact IK_tru ⟨Inv_wait (Inv_19 hI) (Or.inl rfl), Nat.le_succ _⟩
      · rw [sp_judge_con c1 c2 rfl, mk_19]
        refine IK_tru (IK_s ?_)
        rcases hI.Q hw with h | ⟨k, d, e, hk, hd, he0, he, hv⟩
        · exact absurd h c1.1
        · have e1 : mm 9 w / 100 = nI k := by
            rw [hv]
            show nI (100 * k + 10 * d + e) / nI 100 = _
            rw [pk_div (by omega) (by decide) (by decide)]; congr 1; omega
          have e2 : sp_vd (mm 9 w) = nI d := by rw [hv, vd_nI (by omega)]; congr 1; omega
          have e3 : sp_ve (mm 9 w) = nI e - 1 := by rw [hv, ve_nI (by omega)]; congr 2; omega
          rw [e1, e2]
          exact IK_make hI hK1 hw hk hd he e3
    · rw [sp_judge_no c1]; exact IK_19 hI
  · rw [sp_judge, if_neg cP]; exact IK_19 hI
theorem IK_rev {x y : Int32} (hI : Inv mm) (hK1 : sp_K mm < 512) : IK mm (sp_rev mm x y).2 := by
  by_cases cP : sp_ed x ∧ sp_wy mm y
  · obtain ⟨f, hf, rfl⟩ := nt_ed cP.1
    obtain ⟨w, hw, rfl⟩ := nt_wy hI cP.2
    have hW := hI.W40
    rw [sp_rev, if_pos cP, nt_c (by omega), nt_c (by omega)]
    by_cases c1 : ¬ mm 7 w < 2 ∧ ¬ sp_ve (mm 11 (sp_L mm w)) = -1 ∧ ¬ sp_ve (mm 11 (sp_L mm w)) = nI f ∧ mm 0 (sp_ve (mm 11 (sp_L mm w))).toNatClampNeg < mm 0 f
    · rw [rev_fin c1 rfl]
      have hLK := hI.LK hw
      have hAK : sp_A mm (sp_L mm w) < sp_K mm := by
        rcases hI.A hLK with ⟨a, -⟩ | ⟨-, a2, -⟩
        · exact absurd ((v7_lt hI hw).mp a) c1.1
        · omega
      refine IK_s (IK_tru ?_)
      obtain ⟨w2, k, d, e, hw2, hk, hd, he, hv⟩ := hI.V hAK
      have e1 : sp_vk (mm 11 (sp_A mm (sp_L mm w))) = nI k := by rw [hv, vk_nI (by omega)]; congr 1; omega
      have e2 : sp_vd (mm 11 (sp_A mm (sp_L mm w))) = nI d := by rw [hv, vd_nI (by omega)]; congr 1; omega
      rw [e1, e2]
      exact IK_make (e := f + 1) hI hK1 hw hk hd (by omega) (nI_pred f).symm
    · rw [sp_rev_no c1]; exact IK_19 hI
  · rw [sp_rev, if_neg cP]; exact IK_19 hI
theorem K_forg {m2 : q_Mem} {w : Nat} : sp_K (sp_forg m2 w) = sp_K m2 := by
  have e : sp_forg m2 w 10 0 = m2 10 0 := if_neg (fun z => absurd z.1 (by decide))
  unfold sp_K
  rw [e]
theorem K_keep {m2 : q_Mem} {w c d : Nat} {q : Int32} : sp_K (sp_keep m2 w c d q) = sp_K m2 := by
  have e : sp_keep m2 w c d q 10 0 = m2 10 0 := if_neg (fun z => absurd z.1 (by decide))
  unfold sp_K
  rw [e]
theorem W_keep {m2 : q_Mem} {w c d : Nat} {q : Int32} : sp_W (sp_keep m2 w c d q) = sp_W m2 := by
  have e : sp_keep m2 w c d q 1 0 = m2 1 0 := if_neg (fun z => absurd z.1 (by decide))
  unfold sp_W
  rw [e]
theorem IK_see {x y z v : Int32} (hI : Inv mm) (hK1 : sp_K mm < 512) : IK mm (sp_see mm x y z v).2 := by
  by_cases cP : sp_car x ∧ sp_wy mm y
  · obtain ⟨c, hc, rfl⟩ := nt_car cP.1
    obtain ⟨w, hw, rfl⟩ := nt_wy hI cP.2
    have hW := hI.W40
    rw [sp_see, if_pos cP]
    by_cases cR : sp_rng z v
    · obtain ⟨d, hd, rfl⟩ := nt_le (n := 2) (by decide) cR.1
      obtain ⟨q, hq, rfl⟩ := nt_le (n := 99) (by decide) cR.2
      rw [if_pos cR, nt_c (by omega), nt_c (by omega), nt_c (by omega)]
      by_cases cN : sp_nr mm c w
      · rw [if_pos cN]
        have hI5 : Inv (sp_keep mm w c d (nI q)) := Inv_keep hI hw hc (by omega) (by omega)
        generalize hm : sp_keep mm w c d (nI q) = m5 at hI5
        have hw5 : w < sp_W m5 := by rw [← hm, W_keep]; exact hw
        have hK5 : sp_K m5 = sp_K mm := by rw [← hm, K_keep]
        by_cases hC : ¬ sp_vd (m5 11 (sp_L m5 w)) = nI d ∧ sp_agr m5 w d
        · rw [see0_y hm.symm hC]
          obtain ⟨kn, hkn, hkv⟩ := iv_vk hI5 hw5
          have h := IK_make (e := 0) (ff := -1) hI5 (by omega) hw5 hkn (by omega : d < 3) (by omega) (by decide)
          rw [← hkv] at h
          exact IK_s ⟨Inv_forg h.1, by rw [K_forg, ← hK5]; exact h.2⟩
        · rw [see0_n hm.symm hC]
          exact IK_s ⟨hI5, by omega⟩
      · rw [if_neg cN]; exact IK_19 hI
    · rw [if_neg cR]; exact IK_19 hI
  · rw [sp_see, if_neg cP]; exact IK_19 hI
theorem IK_guard {x y : Int32} (hI : Inv mm) : IK mm (sp_guard mm x y).2 := by
  by_cases cP : sp_wy mm x
  · obtain ⟨w, hw, rfl⟩ := nt_wy hI cP
    have hW := hI.W40
    rw [sp_guard, if_pos cP, nt_c (by omega)]
    split
    · exact ⟨Inv_guard (Inv_19 hI) hw, Nat.le_succ _⟩
    · exact IK_19 hI
  · rw [sp_guard, if_neg cP]; exact IK_19 hI
theorem K_draws {m2 : q_Mem} {t : Nat} {z x y : Int32} : sp_K (sp_draws m2 t z x y) = sp_K m2 := by
  unfold sp_draws sp_K
  rw [up2_c (by decide), up2_c (by decide)]
theorem IK_draw {z x y : Int32} (hI : Inv mm) : IK mm (sp_draw mm z x y).2 := by
  unfold sp_draw
  split
  · refine ⟨Inv_draws (Inv_19 hI), ?_⟩
    show sp_K (sp_draws (up2 mm 19 0 0) _ z x y) ≤ _
    rw [K_draws]
    exact Nat.le_succ _
  · exact IK_19 hI
end
