/-! ===== the property's law: one map, or two, by their numbers alone ===== -/
abbrev p_Im (S : Type) : Type := (Nat → Prop) → S → Heap → Prop
def lo_N (U : State) : Prop := va_Nc k_IAE k_IOB U ∧ va_Nc k_ISE k_IOB U ∧ va_Nc k_ISE k_IAE U
theorem lo_N.moved {u U : State} (hvm : u.vm.Alike U.vm) (h : lo_N u) : lo_N U := ⟨h.1.moved hvm, h.2.1.moved hvm, h.2.2.moved hvm⟩
theorem lo_c1 : Cond.castable k_IOB k_IOB ∈ k_ngs := by simp [k_ngs, k_IOB]
theorem lo_c2 : Cond.castable k_IAE k_IAE ∈ k_ngs := by simp [k_ngs, k_IAE]
theorem lo_c3 : Cond.castable k_ISE k_ISE ∈ k_ngs := by simp [k_ngs, k_ISE]
theorem k_T.nar {G : k_G} {A B : Nat → Prop} {U : State} {H : Heap} (h : k_T G A U H) (hAB : ∀ q, B q → A q) (hB : ∀ q, H.size ≤ q → B q) : k_T G B U H :=
  ⟨h.1.narrow hAB, h.2.1.narrow hAB, ⟨h.2.2.1.1.narrow hAB, h.2.2.1.2.narrow hAB⟩, ⟨h.2.2.2.1.1.narrow hAB, h.2.2.2.1.2.narrow hAB⟩, hB⟩
/-- one map: its object is the cell xa -/
def p_I (G : k_G) (xa : Nat) : p_Im q_Mem := fun Z mm H => ∃ ad : k_Ad, ad 0 0 = xa ∧ k_H G ad (k_C G ad mm) H ∧ k_N Z ad (k_C G ad mm)
def p_ap (ad : k_Ad) (ct : k_Ct) (ad2 : k_Ad) (ct2 : k_Ct) : Prop := ∀ k i k2 i2 e e2, ct k i = some e → ct2 k2 i2 = some e2 → ¬ ad k i = ad2 k2 i2
/-- two maps, apart -/
def p_J (G : k_G) (xa xb : Nat) : p_Im (q_Mem × q_Mem) := fun Z u H => ∃ ad ad2 : k_Ad, (ad 0 0 = xa ∧ k_H G ad (k_C G ad u.1) H ∧ k_N Z ad (k_C G ad u.1)) ∧ (ad2 0 0 = xb ∧ k_H G ad2 (k_C G ad2 u.2) H ∧ k_N Z ad2 (k_C G ad2 u.2)) ∧ p_ap ad (k_C G ad u.1) ad2 (k_C G ad2 u.2)
/-- what else a state must bear -/
def p_E0 (G : k_G) (Z : Nat → Prop) (U : State) : Prop := va_K G.1 vwCl (k_ty G) U ∧ k_P G U ∧ lo_N U ∧ k_T G Z U U.heap
def p_M {S : Type} (G : k_G) (I : p_Im S) (Z : Nat → Prop) (u : S) : State → Prop := fun U => I Z u U.heap ∧ p_E0 G Z U
theorem p_M.bl {S : Type} {G : k_G} {I : p_Im S} {Z : Nat → Prop} {u : S} : bl_V (p_M G I Z u) := fun U V hh hv h => ⟨by rw [← hh]; exact h.1, h.2.1.moved (by rw [hv]; exact Vm.Alike.refl _), h.2.2.1.same hv, h.2.2.2.1.moved (by rw [hv]; exact Vm.Alike.refl _), by rw [← hh]; exact h.2.2.2.2.moved (by rw [hv]; exact Vm.Alike.refl _)⟩
/-- a contract: any Z -/
def p_C {S : Type} (l : Launch) (y : MethodName) (w0 : Cond) (fr lo mc ms : Nat) (G : k_G) (I : p_Im S) (u : S) (As : List Value) (Qr : (Nat → Prop) → Array Value → State → Outcome → State → Prop) (pX : String → Prop) : Prop :=
  ∀ Z : Nat → Prop, vx_Met l y (w0 :: wsL_law) { frames := fr, cells := mc, slots := ms, locals := lo } (va_Pc As (p_M G I Z u)) (Qr Z) (vx_X (fun v : S => v = u) (fun E v U => pX E ∧ I Z v U.heap) Z) mc ms Z
def p_Qi {S : Type} (I : p_Im S) (post : Int32 → S → Prop) (Z : Nat → Prop) : Array Value → State → Outcome → State → Prop := va_Qi post (fun v U => I Z v U.heap) Z
def p_Ql {S : Type} (I : p_Im S) (post : Int64 → S → Prop) (Z : Nat → Prop) : Array Value → State → Outcome → State → Prop := va_Ql post (fun v U => I Z v U.heap) Z
abbrev p_Ci {S : Type} (l : Launch) (y : MethodName) (w0 : Cond) (fr lo mc ms : Nat) (G : k_G) (I : p_Im S) (u : S) (As : List Value) (post : Int32 → S → Prop) (pX : String → Prop) : Prop := p_C l y w0 fr lo mc ms G I u As (p_Qi I post) pX
abbrev p_Cl {S : Type} (l : Launch) (y : MethodName) (w0 : Cond) (fr lo mc ms : Nat) (G : k_G) (I : p_Im S) (u : S) (As : List Value) (post : Int64 → S → Prop) (pX : String → Prop) : Prop := p_C l y w0 fr lo mc ms G I u As (p_Ql I post) pX
/-! what a callee sees of a caller's picture, and how it goes back -/
def p_Em {S S1 : Type} (I : p_Im S) (I1 : p_Im S1) (u : S) (u1 : S1) (em : S1 → S) : Prop := ∀ (Z : Nat → Prop) (H : Heap), (∀ q, H.size ≤ q → Z q) → I Z u H → ∃ Z1 : Nat → Prop, (∀ q, Z1 q → Z q) ∧ (∀ q, H.size ≤ q → Z1 q) ∧ I1 Z1 u1 H ∧ ∀ (H1 : Heap) (v : S1), I1 Z1 v H1 → H.size ≤ H1.size → (∀ q : Nat, q < H.size → ¬ Z1 q → H1[q]? = H[q]?) → I Z (em v) H1
theorem p_Em.id {S : Type} {I : p_Im S} {u : S} : p_Em I I u u (fun v => v) := fun Z H hZ h => ⟨Z, fun _ h => h, hZ, h, fun H1 v h1 _ _ => h1⟩
theorem p_Em.l {G : k_G} {xa xb : Nat} {m1 m2 : q_Mem} : p_Em (p_J G xa xb) (p_I G xa) (m1, m2) m1 (fun v => (v, m2)) := by
  intro Z H hZ h
  obtain ⟨ad, ad2, ⟨h1, h2, h3⟩, ⟨g1, g2, g3⟩, ap⟩ := h
  refine ⟨fun q => Z q ∧ ¬ ∃ k i e, k_C G ad2 m2 k i = some e ∧ ad2 k i = q, fun q h => h.1, fun q hq => ⟨hZ q hq, fun ⟨k, i, e, he, hx⟩ => ?_⟩, ⟨ad, h1, h2, h3.1, fun k i e he => ⟨h3.2 k i e he, fun ⟨k2, i2, e2, he2, hq⟩ => ap k i k2 i2 e e2 he he2 hq.symm⟩⟩, ?_⟩
  · have hlt : ad2 k i < H.size := (g2 k i e he).lt
    omega
  · intro H1 v h4 hz hk
    obtain ⟨ad3, k1, k2, k3⟩ := h4
    exact ⟨ad3, ad2, ⟨k1, k2, k3.1, fun k i e he => (k3.2 k i e he).1⟩, ⟨g1, fun k i e he => (g2 k i e he).kept (hk _ (g2 k i e he).lt (fun z => z.2 ⟨k, i, e, he, rfl⟩)), g3⟩, fun k i k2 i2 e e2 he he2 hq => (k3.2 k i e he).2 ⟨k2, i2, e2, he2, hq.symm⟩⟩
theorem p_Em.r {G : k_G} {xa xb : Nat} {m1 m2 : q_Mem} : p_Em (p_J G xa xb) (p_I G xb) (m1, m2) m2 (fun v => (m1, v)) := by
  intro Z H hZ h
  obtain ⟨ad2, ad, ⟨g1, g2, g3⟩, ⟨h1, h2, h3⟩, ap⟩ := h
  refine ⟨fun q => Z q ∧ ¬ ∃ k i e, k_C G ad2 m1 k i = some e ∧ ad2 k i = q, fun q h => h.1, fun q hq => ⟨hZ q hq, fun ⟨k, i, e, he, hx⟩ => ?_⟩, ⟨ad, h1, h2, h3.1, fun k i e he => ⟨h3.2 k i e he, fun ⟨k2, i2, e2, he2, hq⟩ => ap k2 i2 k i e2 e he2 he hq⟩⟩, ?_⟩
  · have hlt : ad2 k i < H.size := (g2 k i e he).lt
    omega
  · intro H1 v h4 hz hk
    obtain ⟨ad3, k1, k2, k3⟩ := h4
    exact ⟨ad2, ad3, ⟨g1, fun k i e he => (g2 k i e he).kept (hk _ (g2 k i e he).lt (fun z => z.2 ⟨k, i, e, he, rfl⟩)), g3⟩, ⟨k1, k2, k3.1, fun k i e he => (k3.2 k i e he).1⟩, fun k i k2 i2 e e2 he he2 hq => (k3.2 k2 i2 e2 he2).2 ⟨k, i, e, he, hq⟩⟩
/-! the class's contracts in this form -/
theorem p_of_kx {l : Launch} {y : MethodName} {b : ByteArray} {nL : Nat} {r : Option FieldType} {fr lo mc ms : Nat} {G : k_G} {xa : Nat} {mm : q_Mem} {As : List Value} {sp : Int32 × q_Mem} {pX : String → Prop}
    (hM : ∀ (Z : Nat → Prop) (ad : k_Ad), ad 0 0 = xa → kx_i l y b nL r fr lo mc ms G Z ad (k_C G ad mm) As (k_po G ad sp) pX) : p_Ci l y (Cond.code y b nL r) fr lo mc ms G (p_I G xa) mm As (fun v u => v = sp.1 ∧ u = sp.2 ∧ sp.2 19 0 = 0) pX := by
  intro Z p e ha hc hk s m args below hf happ hP hK
  obtain ⟨rfl, ⟨ad, h1, h2, h3⟩, e1, e2, e3, e4⟩ := hP
  obtain ⟨n, o, w1, w2, w3, q⟩ := hM Z ad h1 p e ha hc hk s m _ below hf happ ⟨rfl, ⟨h2, h3⟩, e1, e2, e4⟩ hK
  refine ⟨n, o, w1, w2, w3, ?_⟩
  rcases q with ⟨⟨⟨v, u, q1, q2, q3⟩, q4⟩, q5⟩ | ⟨q, q1, E, ce, L, ⟨u, x1, ⟨x2, x3⟩, x4⟩, x5⟩
  · obtain ⟨u1, u2⟩ := u
    obtain ⟨p1, p2, p3, p4⟩ := q2
    obtain ⟨k1, k2, k3⟩ := q3
    have p1' : u2 = k_C G u1 sp.2 := p1
    subst p1'
    exact Or.inl ⟨⟨⟨v, sp.2, q1, ⟨p2, rfl, p3⟩, ⟨u1, p4.trans h1, k1, k2⟩⟩, q4⟩, q5⟩
  · subst x1
    exact Or.inr ⟨q, q1, E, ce, L, ⟨mm, rfl, ⟨x2, ⟨ad, h1, x3.1, x3.2.1⟩⟩, x4⟩, x5⟩
/-- .. where it can't throw -/
theorem p_val {l : Launch} {y : MethodName} {b : ByteArray} {nL : Nat} {r : Option FieldType} {fr lo mc ms : Nat} {G : k_G} {xa : Nat} {mm m0 : q_Mem} {r0 : Int32} {As : List Value} {sp : Int32 × q_Mem} {nm : Int32 → String}
    (hM : ∀ (Z : Nat → Prop) (ad : k_Ad), ad 0 0 = xa → kx_i l y b nL r fr lo mc ms G Z ad (k_C G ad mm) As (k_po G ad sp) (k_px nm sp mm)) (h : sp = (r0, m0)) (h0 : m0 19 0 = 0) : p_Ci l y (Cond.code y b nL r) fr lo mc ms G (p_I G xa) mm As (fun v u => v = r0 ∧ u = m0) (fun _ => False) := by
  intro Z p e ha hc hk s m args below hf happ hP hK
  obtain ⟨n, o, w1, w2, w3, q⟩ := p_of_kx hM Z p e ha hc hk s m args below hf happ hP hK
  refine ⟨n, o, w1, w2, w3, ?_⟩
  rcases q with ⟨⟨⟨v, u, q1, q2, q3⟩, q4⟩, q5⟩ | ⟨q, q1, E, ce, L, ⟨u, x1, ⟨x2, x3⟩, x4⟩, x5⟩
  · subst h
    exact Or.inl ⟨⟨⟨v, u, q1, ⟨q2.1, q2.2.1⟩, q3⟩, q4⟩, q5⟩
  · exfalso
    obtain ⟨c, hc1, hc2, -⟩ := x2
    have e1 : m0 = up2 mm 19 0 c := congrArg Prod.snd (h.symm.trans hc2)
    rw [e1, up2_s] at h0
    rcases hc1 with rfl | rfl | ⟨rfl, -⟩
    · exact absurd h0 (by decide)
    · exact absurd h0 (by decide)
    · exact absurd h0 (by decide)
theorem p_valF {l : Launch} {y : MethodName} {b : ByteArray} {nL : Nat} {r : Option FieldType} {fr lo mc ms : Nat} {G : k_G} {xa : Nat} {mm m0 : q_Mem} {r0 : Int32} {As : List Value} {sp : Int32 × q_Mem}
    (hM : ∀ (Z : Nat → Prop) (ad : k_Ad), ad 0 0 = xa → kx_i l y b nL r fr lo mc ms G Z ad (k_C G ad mm) As (k_po G ad sp) (fun _ => False)) (h : sp = (r0, m0)) : p_Ci l y (Cond.code y b nL r) fr lo mc ms G (p_I G xa) mm As (fun v u => v = r0 ∧ u = m0) (fun _ => False) := by
  intro Z p e ha hc hk s m args below hf happ hP hK
  obtain ⟨n, o, w1, w2, w3, q⟩ := p_of_kx hM Z p e ha hc hk s m args below hf happ hP hK
  refine ⟨n, o, w1, w2, w3, ?_⟩
  rcases q with ⟨⟨⟨v, u, q1, q2, q3⟩, q4⟩, q5⟩ | ⟨q, q1, E, ce, L, ⟨u, x1, ⟨x2, x3⟩, x4⟩, x5⟩
  · subst h
    exact Or.inl ⟨⟨⟨v, u, q1, ⟨q2.1, q2.2.1⟩, q3⟩, q4⟩, q5⟩
  · exact x2.elim
theorem p_rd {l : Launch} {y : MethodName} {b : ByteArray} {nL : Nat} {r : Option FieldType} {fr lo : Nat} {G : k_G} {xa : Nat} {mm : q_Mem} {r0 : Int32} {As : List Value}
    (hM : ∀ (Z : Nat → Prop) (ad : k_Ad), ad 0 0 = xa → rc_C l y b nL r fr lo As (k_R G Z ad mm) (fun v => v = r0)) : p_Ci l y (Cond.code y b nL r) fr lo 0 0 G (p_I G xa) mm As (fun v u => v = r0 ∧ u = mm) (fun _ => False) := by
  intro Z p e ha hc hk s m args below hf happ hP hK
  obtain ⟨rfl, ⟨ad, h1, h2, h3⟩, e1, e2, e3, e4⟩ := hP
  obtain ⟨n, o, w1, w2, w3, ⟨⟨v, q1, q2, q3⟩, L, q4, q5⟩⟩ := hM Z ad h1 p e ha hc hk s m _ below hf happ ⟨rfl, h2, e1, e2, e4⟩ hK
  exact ⟨n, o, w1, w2, w3, Or.inl ⟨⟨⟨v, mm, q1, ⟨q2, rfl⟩, ⟨ad, h1, by rw [q3]; exact h2, h3⟩⟩, by rw [q3]; exact Nat.le_refl _, fun q _ _ => by rw [q3]⟩, L, q4, fun q hq => (q5 q hq).elim⟩⟩
/-! bodies -/
theorem p_of {S : Type} {l : Launch} {y : MethodName} {b : ByteArray} {nL : Nat} {r : Option FieldType} {fr lo mc ms : Nat} {G : k_G} {I : p_Im S} {u : S} {As : List Value} {Qr : (Nat → Prop) → Array Value → State → Outcome → State → Prop} {pX : String → Prop} (hy : plainName y.cls = true) (hn : (lg_sl As).length ≤ nL)
    (body : ∀ (Z : Nat → Prop) (p : Program) (e : Env) (s : State) (m : MethodId) (args : Array Value) (below : List Frame) (meth : Method) (c : Code), p.tables.exec = Jvm.exec → c.code = b → meth.sig.returnType = r → CallFix p m c b nL s args wsL_law y.cls → meth.locks = false → I Z u s.heap → p_E0 G Z s → ∀ ls : Array Slot, lv_has ls nL (lv_args 0 As) →
      W p l e { frames := fr, cells := mc, slots := ms, locals := lo } s m args below meth c s.heap [] 0 0 (vx_MQ below (Qr Z) (vx_X (fun v : S => v = u) (fun E v U => pX E ∧ I Z v U.heap) Z) args s mc ms Z) (F0 m 0 ls [])) : p_C l y (Cond.code y b nL r) fr lo mc ms G I u As Qr pX := by
  intro Z
  refine vx_ofW (cc := b) (maxL := nL) (ret := r) hy rfl ?_
  intro p e s m args below meth c s₁ B0 hml hnt hv
  obtain ⟨rfl, hB⟩ := hv
  have hts := atoms_spec (ws := Cond.code y b nL r :: wsL_law) B0.pre
  have hl := lv_entry As (n := nL) hn
  rw [lg_entry_eq]
  exact body Z p e s m _ below meth c B0.exec B0.bytes B0.returns ⟨B0.exec, B0.bytes, hml, findClass_of_methodNamed B0.named, fun w h => hts w (List.mem_cons_of_mem _ h)⟩ B0.notSynchronized hB.1 hB.2 _ hl
theorem p_ofT {S : Type} {l : Launch} {y : MethodName} {b : ByteArray} {nL : Nat} {r : Option FieldType} {hh : List (Nat × Nat × Nat × Nat)} {fr lo mc ms : Nat} {G : k_G} {I : p_Im S} {u : S} {As : List Value} {Qr : (Nat → Prop) → Array Value → State → Outcome → State → Prop} {pX : String → Prop} (hy : plainName y.cls = true) (hn : (lg_sl As).length ≤ nL)
    (body : ∀ (Z : Nat → Prop) (p : Program) (e : Env) (s : State) (m : MethodId) (args : Array Value) (below : List Frame) (meth : Method) (c : Code), p.tables.exec = Jvm.exec → c.code = b → meth.sig.returnType = r → CallFix p m c b nL s args wsL_law y.cls → meth.locks = false → c.exceptionTable.toList = tableOf hh → I Z u s.heap → p_E0 G Z s → ∀ ls : Array Slot, lv_has ls nL (lv_args 0 As) →
      W p l e { frames := fr, cells := mc, slots := ms, locals := lo } s m args below meth c s.heap [] 0 0 (vx_MQ below (Qr Z) (vx_X (fun v : S => v = u) (fun E v U => pX E ∧ I Z v U.heap) Z) args s mc ms Z) (F0 m 0 ls [])) : p_C l y (Cond.codeWith y b nL r hh) fr lo mc ms G I u As Qr pX := by
  intro Z
  refine vx_ofWH (cc := b) (maxL := nL) (ret := r) (hh := hh) hy rfl ?_
  intro p e s m args below meth c s₁ B0 hml hv
  obtain ⟨rfl, hB⟩ := hv
  have hts := atoms_spec (ws := Cond.codeWith y b nL r hh :: wsL_law) B0.pre
  have htab := vx_table (x := y) B0 (hts _ List.mem_cons_self)
  have hl := lv_entry As (n := nL) hn
  rw [lg_entry_eq]
  exact body Z p e s m _ below meth c B0.exec B0.bytes B0.returns ⟨B0.exec, B0.bytes, hml, findClass_of_methodNamed B0.named, fun w h => hts w (List.mem_cons_of_mem _ h)⟩ B0.notSynchronized htab hB.1 hB.2 _ hl
/-- a call of one of the law's helpers with a table -/
def wl_SW (y : MethodName) (bytes : ByteArray) (maxL : Nat) (hh : List (Nat × Nat × Nat × Nat)) (n : Nat) : Prop :=
  Cond.codeWith y bytes maxL (some .int) hh ∈ wsL_law ∧ Cond.static y ∈ wsL_law ∧ Cond.initialized y.cls ∈ wsL_law ∧ (y.cls ≠ "java/lang/invoke/MethodHandle" ∧ y.cls ≠ "java/lang/invoke/VarHandle") ∧ (parseMethodDescriptor y.desc).map (fun d => d.parameters.length) = some n
section
variable {p : Program} {l : Launch} {e : Env} {R : Room} {s : State} {m : MethodId} {args : Array Value} {below : List Frame} {meth : Method} {c : Code} {H : Heap} {locs : List Loc} {cells slots : Nat} {Q : State → Prop}
variable {cc : ByteArray} {pc nL : Nat} {ls : Array Slot} {rest st0 : List Value} {own : String} {G : k_G} {Z : Nat → Prop} {S S1 : Type} {I : p_Im S} {I1 : p_Im S1} {u : S} {u1 : S1} {em : S1 → S} {xa : Nat} {mc ms : Nat} {XC : String → State → State → Prop}
theorem wl_callSW {index n fr lo mc ms maxL : Nat} {y : MethodName} {bytes : ByteArray} {hh : List (Nat × Nat × Nat × Nat)} (hw : ∀ w ∈ wsL_law, w.before args s = true) (h : wl_SW y bytes maxL hh n) (hl : Cond.methodLink own index y ∈ wsL_law) (hR : fr + 1 ≤ R.frames ∧ 8 + (maxL + 11) + lo ≤ R.locals) :
    vx_CSW R s args own index y bytes maxL (some .int) hh (Cond.codeWith y bytes maxL (some .int) hh :: wsL_law) { frames := fr, cells := mc, slots := ms, locals := lo } mc ms n := by
  obtain ⟨h1, h2, h4, h5, h6⟩ := h
  refine ⟨⟨rfl, rfl, hR.1, hR.2, ?_, List.mem_cons_self⟩, hw _ h1, hw _ h4, h5, fun sig h => ?_, hw _ hl, hw _ h2⟩
  · intro w h
    rcases List.mem_cons.mp h with h | h
    · rw [h]; exact wl_pay hw _ h1
    · exact wl_pay hw _ h
  · rw [h] at h6
    exact (Option.some.inj h6).symm
theorem p_new (hX : p_E0 G Z s) (hS : va_S Z s.heap H locs) : ∀ q, H.size ≤ q → Z q := fun q hq => hX.2.2.2.2.2.2.2 q (Nat.le_trans hS.1 hq)
theorem p_call {U : State} {Z1 : Nat → Prop} (hX : p_E0 G Z s) (hS : va_S Z s.heap H locs) (h1 : ∀ q, Z1 q → Z q) (h2 : ∀ q, H.size ≤ q → Z1 q) (hI : I1 Z1 u1 H) (hU : U.heap = H) (hW : s.WarmedH U.vm) : p_M G I1 Z1 u1 U :=
  ⟨by rw [hU]; exact hI, hX.1.moved hW.alike, hX.2.1.warm hW, hX.2.2.1.moved hW.alike, by rw [hU]; exact ((hX.2.2.2.kept hS.1 hS.2.1).nar h1 h2).moved hW.alike⟩
theorem p_recv {mm : q_Mem} (hX : p_E0 G Z s) {Z1 : Nat → Prop} (h : p_I G xa Z1 mm H) : ∃ cell : Cell, H[xa]? = some cell ∧ cell.vm.isStatics = false ∧ s.vm.findClass RX4 = some cell.cls := by
  obtain ⟨ad, rfl, h2, -⟩ := h
  exact g_recv hX.1 (h2 0 0 _ rfl) rfl
/-- the class, called, and it answers -/
theorem p_iV {index n fr lo mc1 ms1 maxL : Nat} {y : MethodName} {bytes : ByteArray} {ret : Option FieldType} {As : List Value} {mm : q_Mem} {post : Int32 → q_Mem → Prop} {em : q_Mem → S} (hF : CallFix p m c cc nL s args wsL_law own) (hM : p_Ci l y (Cond.code y bytes maxL ret) fr lo mc1 ms1 G (p_I G xa) mm (.ref xa :: As) post (fun _ => False)) (hE : p_Em I (p_I G xa) u mm em) (hk : wl_V RX4 y bytes maxL ret n) (hl : Cond.methodLink own index y ∈ wsL_law) (hR : fr + 1 ≤ R.frames ∧ 8 + (maxL + 11) + lo ≤ R.locals)
    (hI : I Z u H) (hX : p_E0 G Z s) (hS : va_S Z s.heap H locs) (hn : As.length = n) (hsz : ls.size = nL) (hst : st0 = As.reverse ++ .ref xa :: rest) (hro : (rest.map fun v => v.category).sum ≤ 8) (hdg : decode cc pc = .ok (.invokevirtual index, 3)) (hf : cells + mc1 ≤ R.cells ∧ slots + ms1 ≤ R.slots)
    (kk : ∀ (r : Int32) (v : q_Mem) (H1 : Heap) (locs1 : List Loc), post r v → I Z (em v) H1 → va_S Z s.heap H1 locs1 → W p l e R s m args below meth c H1 locs1 (cells + mc1) (slots + ms1) Q (F0 m (pc + 3) ls (.int r :: rest))) : W p l e R s m args below meth c H locs cells slots Q (F0 m pc ls st0) := by
  obtain ⟨Z1, z1, z2, hI1, hback⟩ := hE Z H (p_new hX hS) hI
  refine vx_calli (A0 := Z) (vx_runV hF (hM Z1) (wl_callW hF.2.2.2.2 hk hl hR) ⟨bl_blindV p_M.bl, p_recv hX hI1, fun U hU hW => ⟨rfl, p_call hX hS z1 z2 hI1 hU hW⟩⟩ rfl hn hsz hst (lv_room hro) hdg hf) hS (fun q _ h => z1 q h) z1 (fun q _ h => z1 q h) ?_ ?_
  · intro E ce q9 v t H1 locs1 ht hvm hu hB
    exact hB.1.elim
  · intro r v t H1 locs1 ht hvm hp hB hz hk2 hS1
    exact kk r v H1 locs1 hp (hback H1 v (by rw [← ht]; exact hB) hz hk2) hS1
/-- one of the law's helpers that throws nothing -/
theorem p_iS {index n fr lo mc1 ms1 maxL : Nat} {y : MethodName} {bytes : ByteArray} {ret : Option FieldType} {As : List Value} {post : Int32 → S1 → Prop} (hF : CallFix p m c cc nL s args wsL_law own) (hM : p_Ci l y (Cond.code y bytes maxL ret) fr lo mc1 ms1 G I1 u1 As post (fun _ => False)) (hE : p_Em I I1 u u1 em) (hk : wl_S y bytes maxL ret n) (hl : Cond.methodLink own index y ∈ wsL_law) (hR : fr + 1 ≤ R.frames ∧ 8 + (maxL + 11) + lo ≤ R.locals)
    (hI : I Z u H) (hX : p_E0 G Z s) (hS : va_S Z s.heap H locs) (hn : As.length = n) (hsz : ls.size = nL) (hst : st0 = As.reverse ++ rest) (hro : (rest.map fun v => v.category).sum ≤ 8) (hdg : decode cc pc = .ok (.invokestatic index, 3)) (hf : cells + mc1 ≤ R.cells ∧ slots + ms1 ≤ R.slots)
    (kk : ∀ (r : Int32) (v : S1) (H1 : Heap) (locs1 : List Loc), post r v → I Z (em v) H1 → va_S Z s.heap H1 locs1 → W p l e R s m args below meth c H1 locs1 (cells + mc1) (slots + ms1) Q (F0 m (pc + 3) ls (.int r :: rest))) : W p l e R s m args below meth c H locs cells slots Q (F0 m pc ls st0) := by
  obtain ⟨Z1, z1, z2, hI1, hback⟩ := hE Z H (p_new hX hS) hI
  refine vx_calli (A0 := Z) (vx_runS hF (hM Z1) (wl_callS hF.2.2.2.2 hk hl hR) ⟨bl_blindV p_M.bl, fun U hU hW => ⟨rfl, p_call hX hS z1 z2 hI1 hU hW⟩⟩ rfl hn hsz hst (lv_room hro) hdg hf) hS (fun q _ h => z1 q h) z1 (fun q _ h => z1 q h) ?_ ?_
  · intro E ce q9 v t H1 locs1 ht hvm hu hB
    exact hB.1.elim
  · intro r v t H1 locs1 ht hvm hp hB hz hk2 hS1
    exact kk r v H1 locs1 hp (hback H1 v (by rw [← ht]; exact hB) hz hk2) hS1
theorem p_iSX {index n fr lo mc1 ms1 maxL : Nat} {y : MethodName} {bytes : ByteArray} {hh : List (Nat × Nat × Nat × Nat)} {As : List Value} {post : Int32 → S1 → Prop} (hF : CallFix p m c cc nL s args wsL_law own) (hM : p_Ci l y (Cond.codeWith y bytes maxL (some .int) hh) fr lo mc1 ms1 G I1 u1 As post (fun _ => False)) (hE : p_Em I I1 u u1 em) (hk : wl_SW y bytes maxL hh n) (hl : Cond.methodLink own index y ∈ wsL_law) (hR : fr + 1 ≤ R.frames ∧ 8 + (maxL + 11) + lo ≤ R.locals)
    (hI : I Z u H) (hX : p_E0 G Z s) (hS : va_S Z s.heap H locs) (hn : As.length = n) (hsz : ls.size = nL) (hst : st0 = As.reverse ++ rest) (hro : (rest.map fun v => v.category).sum ≤ 8) (hdg : decode cc pc = .ok (.invokestatic index, 3)) (hf : cells + mc1 ≤ R.cells ∧ slots + ms1 ≤ R.slots)
    (kk : ∀ (r : Int32) (v : S1) (H1 : Heap) (locs1 : List Loc), post r v → I Z (em v) H1 → va_S Z s.heap H1 locs1 → W p l e R s m args below meth c H1 locs1 (cells + mc1) (slots + ms1) Q (F0 m (pc + 3) ls (.int r :: rest))) : W p l e R s m args below meth c H locs cells slots Q (F0 m pc ls st0) := by
  obtain ⟨Z1, z1, z2, hI1, hback⟩ := hE Z H (p_new hX hS) hI
  refine vx_calli (A0 := Z) (vx_runSX hF (hM Z1) (wl_callSW hF.2.2.2.2 hk hl hR) ⟨bl_blindV p_M.bl, fun U hU hW => ⟨rfl, p_call hX hS z1 z2 hI1 hU hW⟩⟩ rfl hn hsz hst (lv_room hro) hdg hf) hS (fun q _ h => z1 q h) z1 (fun q _ h => z1 q h) ?_ ?_
  · intro E ce q9 v t H1 locs1 ht hvm hu hB
    exact hB.1.elim
  · intro r v t H1 locs1 ht hvm hp hB hz hk2 hS1
    exact kk r v H1 locs1 hp (hback H1 v (by rw [← ht]; exact hB) hz hk2) hS1
theorem p_lS {index n fr lo mc1 ms1 maxL : Nat} {y : MethodName} {bytes : ByteArray} {ret : Option FieldType} {As : List Value} {post : Int64 → S1 → Prop} (hF : CallFix p m c cc nL s args wsL_law own) (hM : p_Cl l y (Cond.code y bytes maxL ret) fr lo mc1 ms1 G I1 u1 As post (fun _ => False)) (hE : p_Em I I1 u u1 em) (hk : wl_S y bytes maxL ret n) (hl : Cond.methodLink own index y ∈ wsL_law) (hR : fr + 1 ≤ R.frames ∧ 8 + (maxL + 11) + lo ≤ R.locals)
    (hI : I Z u H) (hX : p_E0 G Z s) (hS : va_S Z s.heap H locs) (hn : As.length = n) (hsz : ls.size = nL) (hst : st0 = As.reverse ++ rest) (hro : (rest.map fun v => v.category).sum ≤ 8) (hdg : decode cc pc = .ok (.invokestatic index, 3)) (hf : cells + mc1 ≤ R.cells ∧ slots + ms1 ≤ R.slots)
    (kk : ∀ (r : Int64) (v : S1) (H1 : Heap) (locs1 : List Loc), post r v → I Z (em v) H1 → va_S Z s.heap H1 locs1 → W p l e R s m args below meth c H1 locs1 (cells + mc1) (slots + ms1) Q (F0 m (pc + 3) ls (.long r :: rest))) : W p l e R s m args below meth c H locs cells slots Q (F0 m pc ls st0) := by
  obtain ⟨Z1, z1, z2, hI1, hback⟩ := hE Z H (p_new hX hS) hI
  refine vx_calll (A0 := Z) (vx_runS hF (hM Z1) (wl_callS hF.2.2.2.2 hk hl hR) ⟨bl_blindV p_M.bl, fun U hU hW => ⟨rfl, p_call hX hS z1 z2 hI1 hU hW⟩⟩ rfl hn hsz hst (lv_room hro) hdg hf) hS (fun q _ h => z1 q h) z1 (fun q _ h => z1 q h) ?_ ?_
  · intro E ce q9 v t H1 locs1 ht hvm hu hB
    exact hB.1.elim
  · intro r v t H1 locs1 ht hvm hp hB hz hk2 hS1
    exact kk r v H1 locs1 hp (hback H1 v (by rw [← ht]; exact hB) hz hk2) hS1
/-- .. and one that may throw, seen by the same picture -/
theorem p_iSt {index n fr lo mc1 ms1 maxL : Nat} {y : MethodName} {bytes : ByteArray} {ret : Option FieldType} {As : List Value} {post : Int32 → S → Prop} {pX : String → Prop} (hF : CallFix p m c cc nL s args wsL_law own) (hM : p_Ci l y (Cond.code y bytes maxL ret) fr lo mc1 ms1 G I u As post pX) (hk : wl_S y bytes maxL ret n) (hl : Cond.methodLink own index y ∈ wsL_law) (hR : fr + 1 ≤ R.frames ∧ 8 + (maxL + 11) + lo ≤ R.locals)
    (hI : I Z u H) (hX : p_E0 G Z s) (hS : va_S Z s.heap H locs) (hn : As.length = n) (hsz : ls.size = nL) (hst : st0 = As.reverse ++ rest) (hro : (rest.map fun v => v.category).sum ≤ 8) (hdg : decode cc pc = .ok (.invokestatic index, 3)) (hf : cells + mc1 ≤ R.cells ∧ slots + ms1 ≤ R.slots)
    (kx : ∀ (E : String) (ce : Cell) (q9 : Addr) (H1 : Heap) (locs1 : List Loc), pX E → I Z u H1 → va_S Z s.heap H1 locs1 → H1[q9]? = some ce → ce.vm = .none → s.vm.findClass E = some ce.cls → vx_W p l e R s m args below meth c H1 locs1 (cells + mc1) (slots + ms1) Q (F0 m pc ls rest) q9)
    (kk : ∀ (r : Int32) (v : S) (H1 : Heap) (locs1 : List Loc), post r v → I Z v H1 → va_S Z s.heap H1 locs1 → W p l e R s m args below meth c H1 locs1 (cells + mc1) (slots + ms1) Q (F0 m (pc + 3) ls (.int r :: rest))) : W p l e R s m args below meth c H locs cells slots Q (F0 m pc ls st0) := by
  refine vx_calli (A0 := Z) (vx_runS hF (hM Z) (wl_callS hF.2.2.2.2 hk hl hR) ⟨bl_blindV p_M.bl, fun U hU hW => ⟨rfl, p_call hX hS (fun _ h => h) (p_new hX hS) hI hU hW⟩⟩ rfl hn hsz hst (lv_room hro) hdg hf) hS (fun q _ h => h) (fun _ h => h) (fun q _ h => h) ?_ ?_
  · intro E ce q9 v t H1 locs1 ht hvm hu hB hz hk2 hS1 hcell hv hcl
    subst hu
    exact kx E ce q9 H1 locs1 hB.1 (by rw [← ht]; exact hB.2) hS1 hcell hv hcl
  · intro r v t H1 locs1 ht hvm hp hB hz hk2 hS1
    exact kk r v H1 locs1 hp (by rw [← ht]; exact hB) hS1
theorem lo_catch (hF : CallFix p m c cc nL s args wsL_law own) (hP : k_P G s) {E : String} {ce : Cell} {q : Addr} (pre : List ExceptionTableEntry) (x : ExceptionTableEntry) (suf : List ExceptionTableEntry) (htab : c.exceptionTable.toList = pre ++ x :: suf) (hpass : ∀ z ∈ pre, z.catchType ≠ 0 ∧ ∃ nm : String, Cond.classLink own z.catchType nm ∈ wsL_law ∧ va_Nc E nm s) (hx : covers x pc = true) (h0 : x.catchType ≠ 0) (hlink : Cond.classLink own x.catchType E ∈ wsL_law) (hc : Cond.castable E E ∈ k_ngs) (hcell : H[q]? = some ce) (hv : ce.vm = .none) (hcl : s.vm.findClass E = some ce.cls)
    (kk : W p l e R s m args below meth c H locs cells slots Q (F0 m x.handlerPc ls [.ref q])) : vx_W p l e R s m args below meth c H locs cells slots Q (F0 m pc ls rest) q :=
  vx_catch hF.2.2.2.1 pre x suf htab (fun z hz => by
    obtain ⟨h1, nm, h2, h3⟩ := hpass z hz
    exact Or.inr ⟨h1, nm, hF.2.2.2.2 _ h2, h3⟩) hx h0 (hF.2.2.2.2 _ hlink) ((hP.2.2.2.2.2.2 _ hc).use (k_ng_t _ hc)) hcell hv hcl kk
/-! ends -/
theorem p_iret {post : Int32 → S → Prop} {v : Int32} {u1 : S} (hx : p.tables.exec = Jvm.exec) (hb : c.code = cc) (hr : meth.sig.returnType = some .int) (hlk : meth.locks = false) (hI : I Z u1 H) (hS : va_S Z s.heap H locs) (hc : cells ≤ mc) (hs : slots ≤ ms) (hp : post v u1) (hdg : decode cc pc = .ok (.ireturn, 1)) : W p l e R s m args below meth c H locs cells slots (vx_MQ below (p_Qi I post Z) XC args s mc ms Z) (F0 m pc ls [.int v]) :=
  W.widen hc hs (vx_ret (W.iret hx hb hr (fun t ht hW => ⟨⟨v, u1, rfl, hp, by show I Z u1 t.heap; rw [ht]; exact hI⟩, hS.F ht⟩) hS.2.2 hdg hlk))
theorem p_zret {post : Int32 → S → Prop} {v : Int32} {u1 : S} (hx : p.tables.exec = Jvm.exec) (hb : c.code = cc) (hr : meth.sig.returnType = some .boolean) (hlk : meth.locks = false) (hI : I Z u1 H) (hS : va_S Z s.heap H locs) (hc : cells ≤ mc) (hs : slots ≤ ms) (hv : v = 0 ∨ v = 1) (hp : post v u1) (hdg : decode cc pc = .ok (.ireturn, 1)) : W p l e R s m args below meth c H locs cells slots (vx_MQ below (p_Qi I post Z) XC args s mc ms Z) (F0 m pc ls [.int v]) :=
  W.widen hc hs (vx_ret (W.zret hx hb hr (by rcases hv with rfl | rfl <;> decide) (fun t ht hW => ⟨⟨v, u1, rfl, hp, by show I Z u1 t.heap; rw [ht]; exact hI⟩, hS.F ht⟩) hS.2.2 hdg hlk))
theorem p_lret {post : Int64 → S → Prop} {v : Int64} {u1 : S} (hx : p.tables.exec = Jvm.exec) (hb : c.code = cc) (hr : meth.sig.returnType = some .long) (hlk : meth.locks = false) (hI : I Z u1 H) (hS : va_S Z s.heap H locs) (hc : cells ≤ mc) (hs : slots ≤ ms) (hp : post v u1) (hdg : decode cc pc = .ok (.lreturn, 1)) : W p l e R s m args below meth c H locs cells slots (vx_MQ below (p_Ql I post Z) XC args s mc ms Z) (F0 m pc ls [.long v]) :=
  W.widen hc hs (vx_ret (W.lret hx hb hr (fun t ht hW => ⟨⟨v, u1, rfl, hp, by show I Z u1 t.heap; rw [ht]; exact hI⟩, hS.F ht⟩) hS.2.2 hdg hlk))
/-- a loop in which cells are made: so many and so many slots behind each turn -/
theorem p_loop {σ : Type} (μ : σ → Nat) (cs ss : σ → Nat) (J : σ → Heap → List Loc → Array Slot → Prop) (x0 : σ) (hc : cells ≤ cs x0) (hs : slots ≤ ss x0) (h0 : J x0 H locs ls)
    (step : ∀ (x : σ) (H : Heap) (locs : List Loc) (ls : Array Slot), J x H locs ls → (∀ (y : σ) (H1 : Heap) (locs1 : List Loc) (ls1 : Array Slot), μ y < μ x → J y H1 locs1 ls1 → W p l e R s m args below meth c H1 locs1 (cs y) (ss y) Q (F0 m pc ls1 rest)) → W p l e R s m args below meth c H locs (cs x) (ss x) Q (F0 m pc ls rest)) : W p l e R s m args below meth c H locs cells slots Q (F0 m pc ls rest) := by
  have key : ∀ (n : Nat) (x : σ) (H : Heap) (locs : List Loc) (ls : Array Slot), μ x < n → J x H locs ls → W p l e R s m args below meth c H locs (cs x) (ss x) Q (F0 m pc ls rest) := by
    intro n
    induction n with
    | zero => intro x H locs ls h; exact absurd h (Nat.not_lt_zero _)
    | succ n ih => intro x H locs ls h hJ; exact step x H locs ls hJ (fun y H1 locs1 ls1 hy hJ1 => ih y H1 locs1 ls1 (by omega) hJ1)
  exact W.widen hc hs (key (μ x0 + 1) x0 H locs ls (Nat.lt_succ_self _) h0)
end
