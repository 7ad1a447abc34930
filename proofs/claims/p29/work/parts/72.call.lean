/-! ===== the law's small helpers; call and both ===== -/
/-- an exception's number as the law tells it -/
def cl_E (E : String) : Int32 := if E = k_IOB then -2100000001 else if E = k_IAE then -2100000002 else -2100000003
def cl (nm : Int32 → String) (sp : Int32 × q_Mem) (mm : q_Mem) : Int32 × q_Mem := if sp.2 19 0 = 0 then sp else (cl_E (nm (sp.2 19 0)), mm)
theorem cl_ok {nm : Int32 → String} {sp : Int32 × q_Mem} {mm m0 : q_Mem} {r0 : Int32} (h : sp = (r0, m0)) (h0 : m0 19 0 = 0) : cl nm sp mm = (r0, m0) := by
  subst h; exact if_pos h0
theorem cl_th {nm : Int32 → String} {sp : Int32 × q_Mem} {mm : q_Mem} {v : Int32} (h : sp = (0, up2 mm 19 0 v)) (hv : ¬ v = 0) : cl nm sp mm = (cl_E (nm v), mm) := by
  subst h
  have e : (up2 mm 19 0 v) 19 0 = v := up2_s
  have h0 : ¬ (((0 : Int32), up2 mm 19 0 v).2 19 0 = 0) := fun q => hv (e.symm.trans q)
  refine (if_neg h0).trans ?_
  show (cl_E (nm (up2 mm 19 0 v 19 0)), mm) = _
  rw [e]
theorem k_nm_or {nm : Int32 → String} (h : nm = k_n3 ∨ nm = k_n2) (v : Int32) : nm v = k_IOB ∨ nm v = k_IAE ∨ nm v = k_ISE := by
  rcases h with rfl | rfl
  · unfold k_n3
    by_cases h1 : v = 1
    · exact Or.inl (if_pos h1)
    · rw [if_neg h1]
      by_cases h2 : v = 2
      · exact Or.inr (Or.inl (if_pos h2))
      · exact Or.inr (Or.inr (if_neg h2))
  · unfold k_n2
    by_cases h1 : v = 1
    · exact Or.inl (if_pos h1)
    · exact Or.inr (Or.inr (if_neg h1))
theorem ushr1 (x : Int32) : ∃ j : Nat, j < 2 ^ 31 ∧ (x.toUInt32 >>> ((1 : Int32).toUInt32 &&& Int32.toUInt32 31)).toInt32 = nI j := by
  have e : (1 : Int32).toUInt32 &&& Int32.toUInt32 31 = (1 : UInt32) := by decide
  rw [e]
  refine ⟨(x.toUInt32 >>> 1).toNat, ?_, ?_⟩
  · have h1 := x.toUInt32.toNat_lt
    rw [UInt32.toNat_shiftRight]
    have h2 : (1 : UInt32).toNat % 32 = 1 := by decide
    rw [h2, Nat.shiftRight_eq_div_pow]
    omega
  · generalize x.toUInt32 >>> 1 = y
    apply Int32.toBitVec_inj.mp
    show y.toBitVec = (BitVec.ofNat 32 y.toNat)
    exact BitVec.eq_of_toNat_eq (by rw [BitVec.toNat_ofNat]; exact (Nat.mod_eq_of_lt y.toBitVec.isLt).symm)
