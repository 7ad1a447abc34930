section
variable {mm : q_Mem}
theorem K_goes {m2 : q_Mem} {c : Nat} {x y : Int32} : sp_K (sp_goes m2 c x y) = sp_K m2 := by
  unfold sp_goes sp_K
  rw [up2_c (by decide), up2_c (by decide)]
theorem IK_drive {c x y : Int32} (hI : Inv mm) : IK mm (sp_drive mm c x y).2 := by
  unfold sp_drive
  by_cases h : sp_car c ∧ sp_cr x y
  · obtain ⟨xi, hx, rfl⟩ := nt_le (n := 16) (by decide) h.2.1
    obtain ⟨yi, hy, rfl⟩ := nt_le (n := 16) (by decide) h.2.2
    rw [if_pos h]
    refine ⟨Inv_goes (Inv_19 hI) hx hy, ?_⟩
    show sp_K (sp_goes (up2 mm 19 0 0) _ _ _) ≤ _
    rw [K_goes]; exact Nat.le_succ _
  · rw [if_neg h]; exact IK_19 hI
theorem IK_snd {c : Int32} (hI : Inv mm) : IK mm (sp_snd mm c).2 := by
  by_cases h : sp_car c
  · obtain ⟨ci, hc, rfl⟩ := nt_car h
    rw [sp_snd, if_pos h, nt_c (by omega)]
    by_cases hT : sp_tg mm ci = -1
    · rw [if_pos hT]; exact IK_19 hI
    · obtain ⟨w, hw, e⟩ := (tg_or mm ci).resolve_left hT
      have hW := hI.W40
      obtain ⟨x, y, z, u, hx, hy, hz, hu, e1, e2, e3, e4⟩ := iv_xy hI hw
      rw [if_neg hT, e, nt_c (by omega)]
      unfold sp_snd0
      have g : ∀ a b : Nat, a ≤ 16 → b ≤ 16 → IK mm (sp_goes (up2 mm 19 0 0) ci (nI a) (nI b)) := fun a b ha hb => by
        refine ⟨Inv_goes (Inv_19 hI) ha hb, ?_⟩
        rw [K_goes]; exact Nat.le_succ _
      split
      · show IK mm (sp_goes (up2 mm 19 0 0) ci (mm 2 w) (mm 3 w))
        rw [e1, e2]; exact g x y hx hy
      · show IK mm (sp_goes (up2 mm 19 0 0) ci (mm 4 w) (mm 5 w))
        rw [e3, e4]; exact g z u hz hu
  · rw [sp_snd, if_neg h]; exact IK_19 hI
theorem rfn_K (i : Nat) : sp_K (rfn mm i).2 = sp_K mm := by
  induction i with
  | zero => rfl
  | succ i ih =>
    by_cases q : sp_oldt (rfn mm i).2 i = true
    · rw [rfn_y q]; exact K_draws.trans ih
    · rw [rfn_n q]; exact ih
theorem rfn_IK (hI : Inv mm) (i : Nat) : IK mm (rfn mm i).2 := ⟨rfn_I hI i, by rw [rfn_K]; exact Nat.le_succ _⟩
theorem rfn_endn : ∀ n, n = 341 → sp_refr mm = ((rfn mm n).1, (rfn mm n).2) := fun n h => h.symm ▸ rfn_end
theorem IK_refrn (hI : Inv mm) (n : Nat) (hn : n = 341) : IK mm (sp_refr mm).2 := by
  rw [rfn_endn n hn]
  exact rfn_IK hI n
theorem IK_refr (hI : Inv mm) : IK mm (sp_refr mm).2 := IK_refrn hI _ rfl
/-! calls that only answer -/
theorem IK_trust {x : Int32} (hI : Inv mm) : IK mm (sp_trust mm x).2 := by unfold sp_trust; split <;> exact IK_19 hI
theorem IK_ofway {k : Nat} {x : Int32} (hI : Inv mm) : IK mm (sp_ofway k mm x).2 := by unfold sp_ofway; split <;> exact IK_19 hI
theorem IK_ver {x y : Int32} (hI : Inv mm) : IK mm (sp_ver mm x y).2 := by unfold sp_ver; split <;> exact IK_19 hI
theorem IK_sta {x y : Int32} (hI : Inv mm) : IK mm (sp_sta mm x y).2 := by unfold sp_sta; split <;> exact IK_19 hI
theorem IK_ptr {x y z : Int32} (hI : Inv mm) : IK mm (sp_ptr mm x y z).2 := by
  unfold sp_ptr
  split
  · split <;> exact IK_19 hI
  · exact IK_19 hI
theorem IK_anew {x y z : Int32} (hI : Inv mm) : IK mm (sp_anew mm x y z).2 := by
  unfold sp_anew
  split
  · split <;> exact IK_19 hI
  · exact IK_19 hI
theorem IK_tst {x y z : Int32} (hI : Inv mm) : IK mm (sp_tst mm x y z).2 := by unfold sp_tst; split <;> exact IK_19 hI
theorem IK_isst {x y z : Int32} (hI : Inv mm) : IK mm (sp_isst mm x y z).2 := by unfold sp_isst; split <;> exact IK_19 hI
theorem IK_stl {x : Int32} (hI : Inv mm) : IK mm (sp_stl mm x).2 := by unfold sp_stl; split <;> exact IK_19 hI
theorem IK_cat {x : Int32} (hI : Inv mm) : IK mm (sp_cat mm x).2 := by unfold sp_cat; split <;> exact IK_19 hI
theorem IK_sgt {x : Int32} (hI : Inv mm) : IK mm (sp_sgt mm x).2 := by unfold sp_sgt; split <;> exact IK_19 hI
theorem IK_dear {x : Int32} (hI : Inv mm) : IK mm (sp_dear mm x).2 := by unfold sp_dear; split <;> exact IK_19 hI
theorem IK_tar {x : Int32} (hI : Inv mm) : IK mm (sp_tar mm x).2 := by unfold sp_tar; split <;> exact IK_19 hI
end
