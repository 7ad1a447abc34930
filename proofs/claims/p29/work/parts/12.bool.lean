/-! ===== a boolean answer: 'if P then 1 else 0' ===== -/
section
variable {p : Program} {l : Launch} {e : Env} {R : Room} {s : State} {m : MethodId} {args : Array Value} {below : List Frame} {meth : Method} {c : Code} {H : Heap} {locs : List Loc} {cells slots : Nat} {Q : State → Prop}
variable {cc : ByteArray} {pc : Nat} {ls : Array Slot} {rest : List Value}
theorem bo_eq {P : Prop} [Decidable P] {r : Int32} (h : r = if P then 1 else 0) (hexec : p.tables.exec = Jvm.exec) (hb : c.code = cc) {off : Int} {tgt : Nat} (hdg : decode cc pc = .ok (.ifCond .eq off, 3)) (ht : (pc : Int) + off = (tgt : Int))
    (kt : ¬ P → W p l e R s m args below meth c H locs cells slots Q (F0 m tgt ls rest)) (kf : P → W p l e R s m args below meth c H locs cells slots Q (F0 m (pc + 3) ls rest)) : W p l e R s m args below meth c H locs cells slots Q (F0 m pc ls (.int r :: rest)) := by
  refine lv_if_eq hexec hb hdg ht (fun q => kt fun hp => ?_) (fun q => kf ?_)
  · rw [h, if_pos hp] at q; exact absurd q (by decide)
  · by_cases hp : P
    · exact hp
    · exact absurd (by rw [h, if_neg hp]) q
theorem bo_ne {P : Prop} [Decidable P] {r : Int32} (h : r = if P then 1 else 0) (hexec : p.tables.exec = Jvm.exec) (hb : c.code = cc) {off : Int} {tgt : Nat} (hdg : decode cc pc = .ok (.ifCond .ne off, 3)) (ht : (pc : Int) + off = (tgt : Int))
    (kt : P → W p l e R s m args below meth c H locs cells slots Q (F0 m tgt ls rest)) (kf : ¬ P → W p l e R s m args below meth c H locs cells slots Q (F0 m (pc + 3) ls rest)) : W p l e R s m args below meth c H locs cells slots Q (F0 m pc ls (.int r :: rest)) := by
  refine lv_if_ne hexec hb hdg ht (fun q => kt ?_) (fun q => kf fun hp => ?_)
  · by_cases hp : P
    · exact hp
    · exact absurd (by rw [h, if_neg hp]) q
  · rw [h, if_pos hp] at q; exact absurd q (by decide)
theorem bo_cut {E : Int32} {tgt : Nat} {g : JFrame} (k : ∀ v : Int32, v = E → W p l e R s m args below meth c H locs cells slots Q (F0 m tgt ls (.int v :: rest))) (j : (∀ v : Int32, v = E → W p l e R s m args below meth c H locs cells slots Q (F0 m tgt ls (.int v :: rest))) → W p l e R s m args below meth c H locs cells slots Q g) : W p l e R s m args below meth c H locs cells slots Q g := j k
theorem bo_to {v x : Int32} (h : x = v) (k : W p l e R s m args below meth c H locs cells slots Q (F0 m pc ls (.int v :: rest))) : W p l e R s m args below meth c H locs cells slots Q (F0 m pc ls (.int x :: rest)) := by rw [h]; exact k
/-- a loop: x tells how far it is, I what holds at its head -/
theorem bo_loop {σ : Type} (μ : σ → Nat) (I : σ → Heap → List Loc → Array Slot → Prop) (x0 : σ) (h0 : I x0 H locs ls)
    (step : ∀ (x : σ) (H : Heap) (locs : List Loc) (ls : Array Slot), I x H locs ls → (∀ (y : σ) (H1 : Heap) (locs1 : List Loc) (ls1 : Array Slot), μ y < μ x → I y H1 locs1 ls1 → W p l e R s m args below meth c H1 locs1 cells slots Q (F0 m pc ls1 rest)) → W p l e R s m args below meth c H locs cells slots Q (F0 m pc ls rest)) : W p l e R s m args below meth c H locs cells slots Q (F0 m pc ls rest) := by
  have key : ∀ (n : Nat) (x : σ) (H : Heap) (locs : List Loc) (ls : Array Slot), μ x < n → I x H locs ls → W p l e R s m args below meth c H locs cells slots Q (F0 m pc ls rest) := by
    intro n
    induction n with
    | zero => intro x H locs ls h; exact absurd h (Nat.not_lt_zero _)
    | succ n ih => intro x H locs ls h hI; exact step x H locs ls hI (fun y H1 locs1 ls1 hy hI1 => ih y H1 locs1 ls1 (by omega) hI1)
  exact key (μ x0 + 1) x0 H locs ls (Nat.lt_succ_self _) h0
end
theorem bo_y {P Q : Prop} [Decidable P] [Decidable Q] (h1 : P) (h2 : Q) : (1 : Int32) = if P ∧ Q then 1 else 0 := (if_pos ⟨h1, h2⟩).symm
theorem bo_n1 {P Q : Prop} [Decidable P] [Decidable Q] (h1 : ¬ P) : (0 : Int32) = if P ∧ Q then 1 else 0 := (if_neg (fun h => h1 h.1)).symm
theorem bo_n2 {P Q : Prop} [Decidable P] [Decidable Q] (h2 : ¬ Q) : (0 : Int32) = if P ∧ Q then 1 else 0 := (if_neg (fun h => h2 h.2)).symm
theorem bo_p {P : Prop} [Decidable P] (h : P) : (1 : Int32) = if P then 1 else 0 := (if_pos h).symm
theorem bo_n {P : Prop} [Decidable P] (h : ¬ P) : (0 : Int32) = if P then 1 else 0 := (if_neg h).symm
theorem bo_bit {P : Prop} [Decidable P] {r : Int32} (h : r = if P then 1 else 0) : r = 0 ∨ r = 1 := by
  by_cases q : P
  · exact Or.inr (by rw [h, if_pos q])
  · exact Or.inl (by rw [h, if_neg q])
theorem bo_le {x y : Int32} (h : ¬ x ≤ y) : y < x := by
  rw [Int32.lt_iff_toInt_lt]; rw [Int32.le_iff_toInt_le] at h; omega
theorem bo_lt {x y : Int32} (h : ¬ x < y) : y ≤ x := by
  rw [Int32.le_iff_toInt_le]; rw [Int32.lt_iff_toInt_lt] at h; omega
theorem bo_nle {x y : Int32} (h : x < y) : ¬ y ≤ x := by
  rw [Int32.lt_iff_toInt_lt] at h; rw [Int32.le_iff_toInt_le]; omega
theorem bo_nlt {x y : Int32} (h : x ≤ y) : ¬ y < x := by
  rw [Int32.le_iff_toInt_le] at h; rw [Int32.lt_iff_toInt_lt]; omega
