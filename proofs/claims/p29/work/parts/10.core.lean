/-! ===== words: all methods share one list ===== -/
theorem wl_good0 : wsL_law0.all goodWord = true := by decide +kernel
theorem wl_good : ∀ w ∈ wsL_law, goodWord w = true := by
  intro w h
  unfold wsL_law at h
  rcases List.mem_append.mp h with h | h
  · rcases List.mem_append.mp h with h | h
    · rcases List.mem_append.mp h with h | h
      · exact List.all_eq_true.mp wl_good0 w h
      · exact (List.mem_filter.mp h).2
    · exact (List.mem_filter.mp h).2
  · exact (List.mem_filter.mp h).2
theorem wl_pay {args : Array Value} {s : State} (hw : ∀ w ∈ wsL_law, w.before args s = true) : ∀ w ∈ wsL_law, ∀ (a' : Array Value) (U : State), s.WarmedH U.vm → w.before a' U = true := fun w h a' U hW => word_at hW (good_of_word (wl_good w h)) (hw w h)
/-- a method called by name on an object of the class C: its own words -/
def wl_V (C : String) (y : MethodName) (bytes : ByteArray) (maxL : Nat) (ret : Option FieldType) (n : Nat) : Prop :=
  Cond.code y bytes maxL ret ∈ wsL_law ∧ Cond.instanceMethod y ∈ wsL_law ∧ Cond.selects C y y ∈ wsL_law ∧ Cond.initialized y.cls ∈ wsL_law ∧ (y.cls ≠ "java/lang/invoke/MethodHandle" ∧ y.cls ≠ "java/lang/invoke/VarHandle") ∧ (parseMethodDescriptor y.desc).map (fun d => d.parameters.length) = some n
def wl_S (y : MethodName) (bytes : ByteArray) (maxL : Nat) (ret : Option FieldType) (n : Nat) : Prop :=
  Cond.code y bytes maxL ret ∈ wsL_law ∧ Cond.static y ∈ wsL_law ∧ Cond.initialized y.cls ∈ wsL_law ∧ (y.cls ≠ "java/lang/invoke/MethodHandle" ∧ y.cls ≠ "java/lang/invoke/VarHandle") ∧ (parseMethodDescriptor y.desc).map (fun d => d.parameters.length) = some n
def wl_I (y : MethodName) (bytes : ByteArray) (maxL : Nat) (n : Nat) : Prop :=
  Cond.code y bytes maxL none ∈ wsL_law ∧ Cond.instanceMethod y ∈ wsL_law ∧ Cond.initialized y.cls ∈ wsL_law ∧ (y.cls ≠ "java/lang/invoke/MethodHandle" ∧ y.cls ≠ "java/lang/invoke/VarHandle") ∧ (parseMethodDescriptor y.desc).map (fun d => d.parameters.length) = some n ∧ y.name = "<init>"
section
variable {p : Program} {l : Launch} {e : Env} {R : Room} {s : State} {m : MethodId} {args : Array Value} {below : List Frame} {meth : Method} {c : Code} {H : Heap} {locs : List Loc} {cells slots : Nat} {Q : State → Prop}
variable {cc : ByteArray} {pc nL : Nat} {ls : Array Slot} {rest st0 : List Value} {own : String}
theorem wl_callB {index n fr lo mc ms maxL : Nat} {y : MethodName} {bytes : ByteArray} {ret : Option FieldType} (hw : ∀ w ∈ wsL_law, w.before args s = true) (h1 : Cond.code y bytes maxL ret ∈ wsL_law) (h4 : Cond.initialized y.cls ∈ wsL_law) (h5 : y.cls ≠ "java/lang/invoke/MethodHandle" ∧ y.cls ≠ "java/lang/invoke/VarHandle") (h6 : (parseMethodDescriptor y.desc).map (fun d => d.parameters.length) = some n) (hl : Cond.methodLink own index y ∈ wsL_law) (hR : fr + 1 ≤ R.frames ∧ 8 + (maxL + 11) + lo ≤ R.locals) :
    CallB R s args own index y bytes maxL ret (Cond.code y bytes maxL ret :: wsL_law) { frames := fr, cells := mc, slots := ms, locals := lo } mc ms n := by
  have hws : ∀ w ∈ (Cond.code y bytes maxL ret :: wsL_law), ∀ (a' : Array Value) (U : State), s.WarmedH U.vm → w.before a' U = true := by
    intro w h
    rcases List.mem_cons.mp h with h | h
    · rw [h]; exact wl_pay hw _ h1
    · exact wl_pay hw _ h
  refine ⟨rfl, rfl, hR.1, hR.2, hws, List.mem_cons_self, hw _ h1, hw _ h4, h5, fun sig h => ?_, hw _ hl⟩
  rw [h] at h6
  exact (Option.some.inj h6).symm
theorem wl_callW {index n fr lo mc ms maxL : Nat} {C : String} {y : MethodName} {bytes : ByteArray} {ret : Option FieldType} (hw : ∀ w ∈ wsL_law, w.before args s = true) (h : wl_V C y bytes maxL ret n) (hl : Cond.methodLink own index y ∈ wsL_law) (hR : fr + 1 ≤ R.frames ∧ 8 + (maxL + 11) + lo ≤ R.locals) :
    CallW R s args own C index y bytes maxL ret (Cond.code y bytes maxL ret :: wsL_law) { frames := fr, cells := mc, slots := ms, locals := lo } mc ms n := by
  obtain ⟨h1, h2, h3, h4, h5, h6⟩ := h
  exact ⟨wl_callB hw h1 h4 h5 h6 hl hR, hw _ h2, hw _ h3⟩
theorem wl_callS {index n fr lo mc ms maxL : Nat} {y : MethodName} {bytes : ByteArray} {ret : Option FieldType} (hw : ∀ w ∈ wsL_law, w.before args s = true) (h : wl_S y bytes maxL ret n) (hl : Cond.methodLink own index y ∈ wsL_law) (hR : fr + 1 ≤ R.frames ∧ 8 + (maxL + 11) + lo ≤ R.locals) :
    CallB R s args own index y bytes maxL ret (Cond.code y bytes maxL ret :: wsL_law) { frames := fr, cells := mc, slots := ms, locals := lo } mc ms n ∧ (Cond.static y).before args s = true := by
  obtain ⟨h1, h2, h4, h5, h6⟩ := h
  exact ⟨wl_callB hw h1 h4 h5 h6 hl hR, hw _ h2⟩
theorem wl_callI {index n fr lo mc ms maxL : Nat} {y : MethodName} {bytes : ByteArray} (hw : ∀ w ∈ wsL_law, w.before args s = true) (h : wl_I y bytes maxL n) (hl : Cond.methodLink own index y ∈ wsL_law) (hR : fr + 1 ≤ R.frames ∧ 8 + (maxL + 11) + lo ≤ R.locals) :
    CallB R s args own index y bytes maxL none (Cond.code y bytes maxL none :: wsL_law) { frames := fr, cells := mc, slots := ms, locals := lo } mc ms n ∧ y.name = "<init>" ∧ (Cond.instanceMethod y).before args s = true := by
  obtain ⟨h1, h2, h4, h5, h6, h7⟩ := h
  exact ⟨wl_callB hw h1 h4 h5 h6 hl hR, h7, hw _ h2⟩
/-! ===== a method that only reads and answers an int ===== -/
def rc_C (l : Launch) (y : MethodName) (b : ByteArray) (nL : Nat) (r : Option FieldType) (fr lo : Nat) (As : List Value) (B : State → Prop) (post : Int32 → Prop) : Prop :=
  Met l y (Cond.code y b nL r :: wsL_law) { frames := fr, cells := 0, slots := 0, locals := lo } (va_Pc As B) (vp_Si post) 0 0 (fun _ => False)
/-- .. and a reference or null -/
def rq_C (l : Launch) (y : MethodName) (b : ByteArray) (nL : Nat) (r : Option FieldType) (fr lo : Nat) (As : List Value) (B : State → Prop) (post : Option Nat → Prop) : Prop :=
  Met l y (Cond.code y b nL r :: wsL_law) { frames := fr, cells := 0, slots := 0, locals := lo } (va_Pc As B) (va_Sq post) 0 0 (fun _ => False)
/-- what a state's part must bear: the steps between a caller's state and its callee's start -/
def bl_B (B : State → Prop) : Prop := ∀ (U V : State), U.heap = V.heap → U.vm.Alike V.vm → B U → B V
theorem bl_blind {As : List Value} {B : State → Prop} (h : bl_B B) : FrameBlind (va_Pc As B) := fun a U g mk q => ⟨q.1, h U (U.calling g mk a) rfl (Vm.Alike.refl U.vm) q.2⟩
theorem bl_true : bl_B (fun _ => True) := fun _ _ _ _ _ => trivial
theorem rc_S {index n fr lo maxL : Nat} {y : MethodName} {bytes : ByteArray} {ret : Option FieldType} {As : List Value} {B : State → Prop} {post : Int32 → Prop} (hF : CallFix p m c cc nL s args wsL_law own) (hM : rc_C l y bytes maxL ret fr lo As B post) (hk : wl_S y bytes maxL ret n) (hl : Cond.methodLink own index y ∈ wsL_law) (hR : fr + 1 ≤ R.frames ∧ 8 + (maxL + 11) + lo ≤ R.locals) (hbl : bl_B B) (hB : ∀ U : State, U.heap = H → s.vm.Alike U.vm → B U)
    (hn : As.length = n) (hsz : ls.size = nL) (hst : st0 = As.reverse ++ rest) (hro : (rest.map fun v => v.category).sum ≤ 8) (hdg : decode cc pc = .ok (.invokestatic index, 3)) (hf : cells ≤ R.cells ∧ slots ≤ R.slots)
    (kk : ∀ r : Int32, post r → W p l e R s m args below meth c H locs cells slots Q (F0 m (pc + 3) ls (.int r :: rest))) : W p l e R s m args below meth c H locs cells slots Q (F0 m pc ls st0) :=
  vp_callSi (W.runS hF hM (wl_callS hF.2.2.2.2 hk hl hR) ⟨bl_blind hbl, fun U hU hW => ⟨rfl, hB U hU hW.alike⟩⟩ rfl hn hsz hst (lv_room hro) hdg ⟨hf.1, hf.2⟩) kk
theorem rc_V {index n fr lo maxL : Nat} {C : String} {y : MethodName} {bytes : ByteArray} {ret : Option FieldType} {b : Nat} {As : List Value} {B : State → Prop} {post : Int32 → Prop} (hF : CallFix p m c cc nL s args wsL_law own) (hM : rc_C l y bytes maxL ret fr lo (.ref b :: As) B post) (hk : wl_V C y bytes maxL ret n) (hl : Cond.methodLink own index y ∈ wsL_law) (hR : fr + 1 ≤ R.frames ∧ 8 + (maxL + 11) + lo ≤ R.locals) (hbl : bl_B B) (hB : ∀ U : State, U.heap = H → s.vm.Alike U.vm → B U)
    (hrv : ∃ cellB : Cell, H[b]? = some cellB ∧ cellB.vm.isStatics = false ∧ s.vm.findClass C = some cellB.cls)
    (hn : As.length = n) (hsz : ls.size = nL) (hst : st0 = As.reverse ++ .ref b :: rest) (hro : (rest.map fun v => v.category).sum ≤ 8) (hdg : decode cc pc = .ok (.invokevirtual index, 3)) (hf : cells ≤ R.cells ∧ slots ≤ R.slots)
    (kk : ∀ r : Int32, post r → W p l e R s m args below meth c H locs cells slots Q (F0 m (pc + 3) ls (.int r :: rest))) : W p l e R s m args below meth c H locs cells slots Q (F0 m pc ls st0) :=
  vp_callSi (W.runV hF hM (wl_callW hF.2.2.2.2 hk hl hR) ⟨bl_blind hbl, hrv, fun U hU hW => ⟨rfl, hB U hU hW.alike⟩⟩ rfl hn hsz hst (lv_room hro) hdg ⟨hf.1, hf.2⟩) kk
theorem rq_V {index n fr lo maxL : Nat} {C : String} {y : MethodName} {bytes : ByteArray} {ret : Option FieldType} {b : Nat} {As : List Value} {B : State → Prop} {post : Option Nat → Prop} (hF : CallFix p m c cc nL s args wsL_law own) (hM : rq_C l y bytes maxL ret fr lo (.ref b :: As) B post) (hk : wl_V C y bytes maxL ret n) (hl : Cond.methodLink own index y ∈ wsL_law) (hR : fr + 1 ≤ R.frames ∧ 8 + (maxL + 11) + lo ≤ R.locals) (hbl : bl_B B) (hB : ∀ U : State, U.heap = H → s.vm.Alike U.vm → B U)
    (hrv : ∃ cellB : Cell, H[b]? = some cellB ∧ cellB.vm.isStatics = false ∧ s.vm.findClass C = some cellB.cls)
    (hn : As.length = n) (hsz : ls.size = nL) (hst : st0 = As.reverse ++ .ref b :: rest) (hro : (rest.map fun v => v.category).sum ≤ 8) (hdg : decode cc pc = .ok (.invokevirtual index, 3)) (hf : cells ≤ R.cells ∧ slots ≤ R.slots)
    (kk : ∀ r : Option Nat, post r → W p l e R s m args below meth c H locs cells slots Q (F0 m (pc + 3) ls (va_rf r :: rest))) : W p l e R s m args below meth c H locs cells slots Q (F0 m pc ls st0) :=
  va_csq (W.runV hF hM (wl_callW hF.2.2.2.2 hk hl hR) ⟨bl_blind hbl, hrv, fun U hU hW => ⟨rfl, hB U hU hW.alike⟩⟩ rfl hn hsz hst (lv_room hro) hdg ⟨hf.1, hf.2⟩) kk
/-- the body of such a method -/
theorem rc_of {l : Launch} {y : MethodName} {b : ByteArray} {nL : Nat} {r : Option FieldType} {fr lo : Nat} {As : List Value} {B : State → Prop} {post : Int32 → Prop} (hy : plainName y.cls = true) (hn : (lg_sl As).length ≤ nL)
    (body : ∀ (p : Program) (e : Env) (s : State) (m : MethodId) (args : Array Value) (below : List Frame) (meth : Method) (c : Code), p.tables.exec = Jvm.exec → c.code = b → meth.sig.returnType = r → CallFix p m c b nL s args wsL_law y.cls → meth.locks = false → B s → ∀ ls : Array Slot, lv_has ls nL (lv_args 0 As) →
      W p l e { frames := fr, cells := 0, slots := 0, locals := lo } s m args below meth c s.heap [] 0 0 (MQ below (vp_Si post) args s 0 0 (fun _ => False)) (F0 m 0 ls [])) : rc_C l y b nL r fr lo As B post := by
  refine Met.ofW (cc := b) (maxL := nL) (ret := r) hy rfl ?_
  intro p e s m args below meth c s₁ B0 hml hv
  obtain ⟨rfl, hB⟩ := hv
  have hts := atoms_spec (ws := Cond.code y b nL r :: wsL_law) B0.pre
  have hl := lv_entry As (n := nL) hn
  rw [lg_entry_eq]
  exact body p e s m _ below meth c B0.exec B0.bytes B0.returns ⟨B0.exec, B0.bytes, hml, findClass_of_methodNamed B0.named, fun w h => hts w (List.mem_cons_of_mem _ h)⟩ B0.notSynchronized hB _ hl
theorem rq_of {l : Launch} {y : MethodName} {b : ByteArray} {nL : Nat} {r : Option FieldType} {fr lo : Nat} {As : List Value} {B : State → Prop} {post : Option Nat → Prop} (hy : plainName y.cls = true) (hn : (lg_sl As).length ≤ nL)
    (body : ∀ (p : Program) (e : Env) (s : State) (m : MethodId) (args : Array Value) (below : List Frame) (meth : Method) (c : Code), p.tables.exec = Jvm.exec → c.code = b → meth.sig.returnType = r → CallFix p m c b nL s args wsL_law y.cls → meth.locks = false → B s → ∀ ls : Array Slot, lv_has ls nL (lv_args 0 As) →
      W p l e { frames := fr, cells := 0, slots := 0, locals := lo } s m args below meth c s.heap [] 0 0 (MQ below (va_Sq post) args s 0 0 (fun _ => False)) (F0 m 0 ls [])) : rq_C l y b nL r fr lo As B post := by
  refine Met.ofW (cc := b) (maxL := nL) (ret := r) hy rfl ?_
  intro p e s m args below meth c s₁ B0 hml hv
  obtain ⟨rfl, hB⟩ := hv
  have hts := atoms_spec (ws := Cond.code y b nL r :: wsL_law) B0.pre
  have hl := lv_entry As (n := nL) hn
  rw [lg_entry_eq]
  exact body p e s m _ below meth c B0.exec B0.bytes B0.returns ⟨B0.exec, B0.bytes, hml, findClass_of_methodNamed B0.named, fun w h => hts w (List.mem_cons_of_mem _ h)⟩ B0.notSynchronized hB _ hl
theorem rc_iret {post : Int32 → Prop} {v : Int32} (hx : p.tables.exec = Jvm.exec) (hb : c.code = cc) (hr : meth.sig.returnType = some .int) (hlocks : meth.locks = false) (hp : post v) (hdg : decode cc pc = .ok (.ireturn, 1)) : W p l e R s m args below meth c s.heap [] cells slots (MQ below (vp_Si post) args s cells slots (fun _ => False)) (F0 m pc ls [.int v]) :=
  W.iret hx hb hr (fun t ht _ => ⟨v, rfl, hp, ht⟩) (fun _ h => by cases h) hdg hlocks
theorem rc_zret {post : Int32 → Prop} {v : Int32} (hx : p.tables.exec = Jvm.exec) (hb : c.code = cc) (hr : meth.sig.returnType = some .boolean) (hlocks : meth.locks = false) (hv : v = 0 ∨ v = 1) (hp : post v) (hdg : decode cc pc = .ok (.ireturn, 1)) : W p l e R s m args below meth c s.heap [] cells slots (MQ below (vp_Si post) args s cells slots (fun _ => False)) (F0 m pc ls [.int v]) :=
  W.zret hx hb hr (by rcases hv with rfl | rfl <;> decide) (fun t ht _ => ⟨v, rfl, hp, ht⟩) (fun _ h => by cases h) hdg hlocks
end
/-! ===== numbers in a table: k an array's number, i a place ===== -/
abbrev q_Mem : Type := Nat → Nat → Int32
def up2 (mm : q_Mem) (k i : Nat) (v : Int32) : q_Mem := fun a b => if a = k ∧ b = i then v else mm a b
theorem up2_s {mm : q_Mem} {k i : Nat} {v : Int32} : up2 mm k i v k i = v := by simp [up2]
theorem up2_k {mm : q_Mem} {k i j : Nat} {v : Int32} (h : j ≠ k) : up2 mm k i v j = mm j := by funext b; simp [up2, h]
theorem up2_i {mm : q_Mem} {k i j : Nat} {v : Int32} (h : j ≠ i) : up2 mm k i v k j = mm k j := by simp [up2, h]
theorem up2_row {mm : q_Mem} {k i : Nat} {v : Int32} : up2 mm k i v k = upd (mm k) i v := by funext b; simp [up2, upd]
theorem up2_comm {mm : q_Mem} {k i k2 i2 : Nat} {v v2 : Int32} (h : k ≠ k2) : up2 (up2 mm k i v) k2 i2 v2 = up2 (up2 mm k2 i2 v2) k i v := by
  funext a b
  unfold up2
  by_cases h1 : a = k2 ∧ b = i2
  · rw [if_pos h1, if_neg (fun q => h (q.1.symm.trans h1.1)), if_pos h1]
  · rw [if_neg h1]
    by_cases h2 : a = k ∧ b = i
    · rw [if_pos h2, if_pos h2]
    · rw [if_neg h2, if_neg h2, if_neg h1]
theorem up2_twice {mm : q_Mem} {k i : Nat} {v w : Int32} : up2 (up2 mm k i v) k i w = up2 mm k i w := by
  funext a b
  unfold up2
  by_cases h1 : a = k ∧ b = i
  · rw [if_pos h1, if_pos h1]
  · rw [if_neg h1, if_neg h1, if_neg h1]
theorem up2_c {mm : q_Mem} {k i j b : Nat} {v : Int32} (h : j ≠ k) : up2 mm k i v j b = mm j b := by rw [up2_k h]
