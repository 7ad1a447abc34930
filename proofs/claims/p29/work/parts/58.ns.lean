/-! ===== the lists of sightings: kept by every call but see ===== -/
def NS (mm m2 : q_Mem) : Prop := m2 17 = mm 17 ∧ m2 18 = mm 18 ∧ m2 20 = mm 20
section
variable {mm m2 m3 : q_Mem}
theorem NS.rf : NS mm mm := ⟨rfl, rfl, rfl⟩
theorem NS.up {k i : Nat} {v : Int32} (h : NS mm m2) (hk : k ≠ 17 ∧ k ≠ 18 ∧ k ≠ 20) : NS mm (up2 m2 k i v) := ⟨(up2_k hk.1.symm).trans h.1, (up2_k hk.2.1.symm).trans h.2.1, (up2_k hk.2.2.symm).trans h.2.2⟩
theorem NS.mk {w : Nat} {k d f : Int32} (h : NS mm m2) : NS mm (sp_make m2 w k d f) := ⟨(mk_o (by decide)).trans h.1, (mk_o (by decide)).trans h.2.1, (mk_o (by decide)).trans h.2.2⟩
theorem NS.tru {f : Nat} {x : Int32} (h : NS mm m2) : NS mm (sp_tru m2 f x) := h.up (by decide)
theorem NS.draws {t : Nat} {z x y : Int32} (h : NS mm m2) : NS mm (sp_draws m2 t z x y) := (h.up (by decide)).up (by decide)
theorem NS.goes {c : Nat} {x y : Int32} (h : NS mm m2) : NS mm (sp_goes m2 c x y) := (h.up (by decide)).up (by decide)
theorem NS.N (h : NS mm m2) {w : Nat} (hN : sp_N mm w) : sp_N m2 w := sp_N_ext h.1 h.2.1 h.2.2 hN
theorem NS.s {v : Int32} : NS mm (up2 mm 19 0 v) := NS.rf.up (by decide)
theorem NS.edit {x y k d : Int32} : NS mm (sp_edit mm x y k d).2 := by
  unfold sp_edit
  split
  · unfold sp_edit0
    split
    · split
      · exact NS.s.up (by decide)
      · split
        · exact NS.s.mk
        · exact NS.s.up (by decide)
    · exact NS.s.up (by decide)
  · exact NS.s
theorem NS.judge {x y : Int32} {ref : Prop} [Decidable ref] : NS mm (sp_judge mm x y ref).2 := by
  unfold sp_judge
  split
  · unfold sp_judge0
    split
    · dsimp only
      split
      · exact (NS.s.up (by decide)).tru
      · exact NS.s.mk.tru
    · exact NS.s.up (by decide)
  · exact NS.s
theorem NS.rev {x y : Int32} : NS mm (sp_rev mm x y).2 := by
  unfold sp_rev
  split
  · unfold sp_rev0
    split
    · exact NS.s.mk.tru
    · exact NS.s.up (by decide)
  · exact NS.s
theorem NS.guard {x y : Int32} : NS mm (sp_guard mm x y).2 := by
  unfold sp_guard
  split
  · split
    · exact NS.s.up (by decide)
    · exact NS.s
  · exact NS.s
theorem NS.draw {z x y : Int32} : NS mm (sp_draw mm z x y).2 := by
  unfold sp_draw
  split
  · exact NS.s.draws
  · exact NS.s
theorem NS.drive {c x y : Int32} : NS mm (sp_drive mm c x y).2 := by
  unfold sp_drive
  split
  · exact NS.s.goes
  · exact NS.s
theorem NS.snd {c : Int32} : NS mm (sp_snd mm c).2 := by
  unfold sp_snd
  split
  · split
    · exact NS.s
    · unfold sp_snd0
      split
      · exact NS.s.goes
      · exact NS.s.goes
  · exact NS.s
theorem NS_rfn : ∀ i, NS mm (rfn mm i).2
  | 0 => NS.s
  | i + 1 => by
    by_cases q : sp_oldt (rfn mm i).2 i = true
    · rw [rfn_y q]; exact (NS_rfn i).draws
    · rw [rfn_n q]; exact NS_rfn i
end
