/-! ===== the reference's object: its arrays at a k, its numbers mm k i ===== -/
def mo_ar (k : Nat) : Bool := decide (k < 19) && !(k == 1) && !(k == 10)
def mo_ln (k : Nat) : Nat := match k with
  | 0 => 6
  | 11 => 4200
  | 12 => 4200
  | 13 => 341
  | 14 => 341
  | 15 => 3
  | 16 => 3
  | 18 => 360
  | _ => 40
theorem mo_ln_lt (k : Nat) : mo_ln k < 2 ^ 31 := by
  unfold mo_ln
  split <;> decide
def mo_fs (a : Nat → Nat) (mm : q_Mem) : List Value := [.ref (a 0), .int (mm 1 0), .ref (a 2), .ref (a 3), .ref (a 4), .ref (a 5), .ref (a 6), .ref (a 7), .ref (a 8), .ref (a 9), .int (mm 10 0), .ref (a 11), .ref (a 12), .ref (a 13), .ref (a 14), .ref (a 15), .ref (a 16), .ref (a 17), .ref (a 18), .int (mm 19 0)]
def mo_H (D : va_G) (cI : ClassId) (o : Nat) (a : Nat → Nat) (mm : q_Mem) (H : Heap) : Prop :=
  va_at D vwCl (o, .inr (6, mo_fs a mm)) H ∧ ∀ k, mo_ar k = true → va_at D vwCl (a k, .inl (cI, mo_ln k, .inl (mm k))) H
def mo_D (o : Nat) (a : Nat → Nat) : Prop := (∀ j k, mo_ar j = true → mo_ar k = true → a j = a k → j = k) ∧ ∀ k, mo_ar k = true → a k ≠ o
def mo_R (o : Nat) (a : Nat → Nat) : Nat → Prop := fun q => q = o ∨ ∃ k, mo_ar k = true ∧ q = a k
def mo_B (D : va_G) (cI : ClassId) (o : Nat) (a : Nat → Nat) (mm : q_Mem) : State → Prop := fun U => mo_H D cI o a mm U.heap ∧ va_K D vwCl [(cI, .int)] U
theorem mo_H.kept {D : va_G} {cI : ClassId} {o : Nat} {a : Nat → Nat} {mm : q_Mem} {H H1 : Heap} (h : mo_H D cI o a mm H) (hq : ∀ q, mo_R o a q → H1[q]? = H[q]?) : mo_H D cI o a mm H1 :=
  ⟨h.1.kept (hq o (Or.inl rfl)), fun k hk => (h.2 k hk).kept (hq (a k) (Or.inr ⟨k, hk, rfl⟩))⟩
theorem mo_blind {D : va_G} {cI : ClassId} {o : Nat} {a : Nat → Nat} {mm : q_Mem} : bl_B (mo_B D cI o a mm) := fun U V hh hv h => ⟨by rw [← hh]; exact h.1, h.2.moved hv⟩
theorem mo_one {D : va_G} {q : Nat × va_E} {H : Heap} (h : va_at D vwCl q H) : va_P D vwCl [q] H := by
  intro k x hk
  cases k with
  | zero => cases hk; exact h
  | succ k => simp at hk
theorem mo_T1 : ∀ k, k < 20 → (TX5 k).1 = RX5 := by decide +kernel
theorem mo_fs_up {a : Nat → Nat} {mm : q_Mem} {k i : Nat} {v : Int32} (hk : mo_ar k = true) : mo_fs a (up2 mm k i v) = mo_fs a mm := by
  have h1 : (1 : Nat) ≠ k := fun h => by subst h; exact absurd hk (by decide)
  have h10 : (10 : Nat) ≠ k := fun h => by subst h; exact absurd hk (by decide)
  have h19 : (19 : Nat) ≠ k := fun h => by subst h; exact absurd hk (by decide)
  unfold mo_fs
  rw [up2_k h1, up2_k h10, up2_k h19]
section
variable {p : Program} {l : Launch} {e : Env} {R : Room} {s : State} {m : MethodId} {args : Array Value} {below : List Frame} {meth : Method} {c : Code} {H : Heap} {locs : List Loc} {cells slots : Nat} {Q : State → Prop}
variable {cc : ByteArray} {pc nL : Nat} {ls : Array Slot} {rest st0 : List Value} {D : va_G} {cI : ClassId} {o : Nat} {a : Nat → Nat} {mm : q_Mem} {A : Nat → Prop} {H0 : Heap} {own : String}
theorem mo_get (hF : CallFix p m c cc nL s args wsL_law RX5) (hK : va_K D vwCl [(cI, .int)] s) (hM : mo_H D cI o a mm H) {idx : Nat} (k : Nat) (hk : k < 20) (hlink : Cond.fieldLink RX5 idx RX5 (TX5 k).2.1 (TX5 k).2.2.1 ∈ wsL_law) {v : Value} (hv : (mo_fs a mm)[k]? = some v) (hdg : decode cc pc = .ok (.getfield idx, 3))
    (kk : W p l e R s m args below meth c H locs cells slots Q (F0 m (pc + 3) ls (v :: rest))) : W p l e R s m args below meth c H locs cells slots Q (F0 m pc ls (.ref o :: rest)) :=
  va_get (ci := 6) (C := RX5) (T := TX5) (N := 20) hF.1 hF.2.1 hF.2.2.2.2 inlX5 hF.2.2.2.1 hK (mo_one hM.1) 0 rfl rfl k hk (hF.2.2.2.2 _ hlink) (fun x h => by rw [mo_T1 k hk] at h; exact h) hv hdg kk
theorem mo_put (hF : CallFix p m c cc nL s args wsL_law RX5) (hK : va_K D vwCl [(cI, .int)] s) (hM : mo_H D cI o a mm H) (hMD : mo_D o a) (hS : va_S A H0 H locs) (hA : ∀ q, mo_R o a q → A q) {idx : Nat} (k : Nat) (hk : k = 1 ∨ k = 10 ∨ k = 19) (hlink : Cond.fieldLink RX5 idx RX5 (TX5 k).2.1 (TX5 k).2.2.1 ∈ wsL_law) {v : Int32} (hdg : decode cc pc = .ok (.putfield idx, 3))
    (kk : ∀ (H1 : Heap) (locs1 : List Loc), mo_H D cI o a (up2 mm k 0 v) H1 → va_S A H0 H1 locs1 → W p l e R s m args below meth c H1 locs1 cells slots Q (F0 m (pc + 3) ls rest)) : W p l e R s m args below meth c H locs cells slots Q (F0 m pc ls (.int v :: .ref o :: rest)) := by
  obtain ⟨hx, hb, -, hown, hw⟩ := hF
  have hc : vwCl[6]? = some (RX5, TX5, 20) := rfl
  have hk20 : k < 20 := by omega
  have hap := va_apart (own := RX5) hw inlX5 tyX5 tyX5_ok nmX5 hK hc
  obtain ⟨r, h1, cell, q1, q2, q3, q4⟩ := hM.1
  have hr : r = (RX5, TX5, 20) := Option.some.inj (h1.symm.trans hc)
  subst hr
  obtain ⟨hSl, hfc, kC, hkC, hkind⟩ := hK.1 6 _ hc
  obtain ⟨cf, kf, fi, f, hi, hsl⟩ := hSl k hk20
  have hlay := hw _ (inlX5 _ (u_in_lay hk20))
  have hfin : (TX5 k).2.2.2 = false := by rcases hk with rfl | rfl | rfl <;> rfl
  have hty : parseFieldDescriptor (TX5 k).2.2.1 = some .int := by rcases hk with rfl | rfl | rfl <;> exact tyX5_ok _ (by decide)
  have hsame : s.fieldFound? RX5 (TX5 k).2.1 (TX5 k).2.2.1 = some (cf, kf, fi, f) := by rw [← mo_T1 k hk20]; exact hi
  unfold u_lay at hlay
  rw [if_neg (by rw [hfin]; decide)] at hlay
  have hst := (u_facts hfc hkC (u_lays hw inlX5 hk20) hi).1
  have h6 := u_store hfc hkC hkind hlay hi hty (v := .int v) rfl rfl
  refine W.putK hx hb (f := f) ⟨hown, hw _ hlink, ⟨_, _, _, hsame⟩, hst⟩ (by rw [q2]; exact h6) q1 q3 (by rw [hsl]; exact k2_hasslot (q4 k hk20)) rfl rfl hdg fun H' e1 e2 e3 => ?_
  rw [hsl] at e1 ⊢
  have hset : ∀ j, j < 20 → updV (vp_V (mo_fs a mm)) k (.int v) j = vp_V (mo_fs a (up2 mm k 0 v)) j := by
    intro j hj
    rcases hk with rfl | rfl | rfl <;> rw [vp_updV_set (Nat.le_of_ble_eq_true rfl)] <;> unfold mo_fs <;> simp [up2_s, up2_k]
  refine kk H' _ ⟨⟨_, hc, t_OB.to ⟨_, e1, q2, q3, t_set q4 hap hk20 (.int v)⟩ hset⟩, fun j hj => ?_⟩ (hS.put e2 e3 (hA o (Or.inl rfl)))
  have hjk : j ≠ k := fun q => by subst q; rcases hk with rfl | rfl | rfl <;> exact absurd hj (by decide)
  have h2 := (hM.2 j hj).kept (e3 (a j) (hMD.2 j hj))
  rw [up2_k hjk]
  exact h2
theorem mo_ald (hF : CallFix p m c cc nL s args wsL_law RX5) (hK : va_K D vwCl [(cI, .int)] s) (hM : mo_H D cI o a mm H) (k i : Nat) (hk : mo_ar k = true) {x : Int32} (hx : x = nI i) (hi : i < mo_ln k) (hdg : decode cc pc = .ok (.iaload, 1))
    (kk : W p l e R s m args below meth c H locs cells slots Q (F0 m (pc + 1) ls (.int (mm k i) :: rest))) : W p l e R s m args below meth c H locs cells slots Q (F0 m pc ls (.int x :: .ref (a k) :: rest)) := by
  subst hx
  have hcl : (nI i).toNatClampNeg = i := nI_clamp (Nat.lt_trans hi (mo_ln_lt k))
  refine va_iald hF.1 hF.2.1 hK (mo_one (hM.2 k hk)) 0 0 rfl rfl (vp_in_nI hi (mo_ln_lt k)) hdg ?_
  rw [hcl]
  exact kk
theorem mo_ast (hF : CallFix p m c cc nL s args wsL_law RX5) (hK : va_K D vwCl [(cI, .int)] s) (hM : mo_H D cI o a mm H) (hMD : mo_D o a) (hS : va_S A H0 H locs) (hA : ∀ q, mo_R o a q → A q) (k i : Nat) (hk : mo_ar k = true) {x v : Int32} (hx : x = nI i) (hi : i < mo_ln k) (hdg : decode cc pc = .ok (.iastore, 1))
    (kk : ∀ (H1 : Heap) (locs1 : List Loc), mo_H D cI o a (up2 mm k i v) H1 → va_S A H0 H1 locs1 → W p l e R s m args below meth c H1 locs1 cells slots Q (F0 m (pc + 1) ls rest)) : W p l e R s m args below meth c H locs cells slots Q (F0 m pc ls (.int v :: .int x :: .ref (a k) :: rest)) := by
  subst hx
  have hcl : (nI i).toNatClampNeg = i := nI_clamp (Nat.lt_trans hi (mo_ln_lt k))
  refine W.iast hF.1 hF.2.1 (hM.2 k hk) ((hK.2 0 _ rfl).1 (mo_ln k) (fun j => .int (mm k j))) (fun q => by cases q) (by show ¬ (nI i < 0 ∨ (arrV _ _ _).slots.size ≤ _); rw [arrV_size]; exact vp_in_nI hi (mo_ln_lt k)) rfl rfl hdg fun H1 e1 z oq => ?_
  refine kk H1 _ ⟨?_, fun j hj => ?_⟩ (hS.put z oq (hA (a k) (Or.inr ⟨k, hk, rfl⟩)))
  · rw [mo_fs_up hk]
    exact hM.1.kept (oq o (fun q => hMD.2 k hk q.symm))
  · by_cases hjk : j = k
    · subst hjk
      rw [up2_row]
      show H1[a j]? = some (vp_cell _ _)
      rw [e1, vp_cell_i, vp_cell_i, arrV_store, hcl]
      congr 2
      funext q
      by_cases hq : q = i
      · subst hq
        simp [updV, upd]
      · simp [updV, upd, hq]
    · rw [up2_k hjk]
      exact (hM.2 j hj).kept (oq (a j) (fun q => hjk (hMD.1 j k hj hk q)))
theorem mo_recv (hK : va_K D vwCl [(cI, .int)] s) (hM : mo_H D cI o a mm H) : ∃ cell : Cell, H[o]? = some cell ∧ cell.vm.isStatics = false ∧ s.vm.findClass RX5 = some cell.cls :=
  va_recv hK (mo_one hM.1) (q := (RX5, TX5, 20)) (ci := 6) (q0 := 0) rfl rfl
/-! contracts: a method of the reference, that answers an int, and may change the numbers -/
def mo_Ci (l : Launch) (y : MethodName) (b : ByteArray) (nL : Nat) (r : Option FieldType) (fr lo : Nat) (D : va_G) (cI : ClassId) (o : Nat) (a : Nat → Nat) (mm : q_Mem) (As : List Value) (post : Int32 → q_Mem → Prop) : Prop :=
  Met l y (Cond.code y b nL r :: wsL_law) { frames := fr, cells := 0, slots := 0, locals := lo } (va_Pc (.ref o :: As) (mo_B D cI o a mm)) (va_Qi post (mo_B D cI o a) (mo_R o a)) 0 0 (mo_R o a)
def mo_Cv (l : Launch) (y : MethodName) (b : ByteArray) (nL : Nat) (r : Option FieldType) (fr lo : Nat) (D : va_G) (cI : ClassId) (o : Nat) (a : Nat → Nat) (mm : q_Mem) (As : List Value) (post : q_Mem → Prop) : Prop :=
  Met l y (Cond.code y b nL r :: wsL_law) { frames := fr, cells := 0, slots := 0, locals := lo } (va_Pc (.ref o :: As) (mo_B D cI o a mm)) (va_Qv post (mo_B D cI o a) (mo_R o a)) 0 0 (mo_R o a)
theorem mo_ofQ {l : Launch} {y : MethodName} {b : ByteArray} {nL : Nat} {r : Option FieldType} {fr lo : Nat} {As : List Value} {Qc : Array Value → State → Outcome → State → Prop} (hy : plainName y.cls = true) (hn : (lg_sl (.ref o :: As)).length ≤ nL)
    (body : ∀ (p : Program) (e : Env) (s : State) (m : MethodId) (args : Array Value) (below : List Frame) (meth : Method) (c : Code), p.tables.exec = Jvm.exec → c.code = b → meth.sig.returnType = r → CallFix p m c b nL s args wsL_law y.cls → meth.locks = false → mo_H D cI o a mm s.heap → va_K D vwCl [(cI, .int)] s → va_S (mo_R o a) s.heap s.heap [] → ∀ ls : Array Slot, lv_has ls nL (lv_args 0 (.ref o :: As)) →
      W p l e { frames := fr, cells := 0, slots := 0, locals := lo } s m args below meth c s.heap [] 0 0 (MQ below Qc args s 0 0 (mo_R o a)) (F0 m 0 ls [])) : Met l y (Cond.code y b nL r :: wsL_law) { frames := fr, cells := 0, slots := 0, locals := lo } (va_Pc (.ref o :: As) (mo_B D cI o a mm)) Qc 0 0 (mo_R o a) := by
  refine Met.ofW (cc := b) (maxL := nL) (ret := r) hy rfl ?_
  intro p e s m args below meth c s₁ B0 hml hv
  obtain ⟨rfl, hM, hK⟩ := hv
  have hts := atoms_spec (ws := Cond.code y b nL r :: wsL_law) B0.pre
  have hl := lv_entry (.ref o :: As) (n := nL) hn
  rw [lg_entry_eq]
  exact body p e s m _ below meth c B0.exec B0.bytes B0.returns ⟨B0.exec, B0.bytes, hml, findClass_of_methodNamed B0.named, fun w h => hts w (List.mem_cons_of_mem _ h)⟩ B0.notSynchronized hM hK va_S.rf _ hl
theorem mo_iret {post : Int32 → q_Mem → Prop} {v : Int32} (hx : p.tables.exec = Jvm.exec) (hb : c.code = cc) (hr : meth.sig.returnType = some .int) (hlocks : meth.locks = false) (hK : va_K D vwCl [(cI, .int)] s) (hM : mo_H D cI o a mm H) (hS : va_S (mo_R o a) s.heap H locs) (hp : post v mm) (hdg : decode cc pc = .ok (.ireturn, 1)) : W p l e R s m args below meth c H locs cells slots (MQ below (va_Qi post (mo_B D cI o a) (mo_R o a)) args s cells slots (mo_R o a)) (F0 m pc ls [.int v]) :=
  W.iret hx hb hr (fun t ht hW => ⟨⟨v, mm, rfl, hp, by rw [ht]; exact hM, hK.moved hW.alike⟩, hS.F ht⟩) hS.2.2 hdg hlocks
theorem mo_zret {post : Int32 → q_Mem → Prop} {v : Int32} (hx : p.tables.exec = Jvm.exec) (hb : c.code = cc) (hr : meth.sig.returnType = some .boolean) (hlocks : meth.locks = false) (hv : v = 0 ∨ v = 1) (hK : va_K D vwCl [(cI, .int)] s) (hM : mo_H D cI o a mm H) (hS : va_S (mo_R o a) s.heap H locs) (hp : post v mm) (hdg : decode cc pc = .ok (.ireturn, 1)) : W p l e R s m args below meth c H locs cells slots (MQ below (va_Qi post (mo_B D cI o a) (mo_R o a)) args s cells slots (mo_R o a)) (F0 m pc ls [.int v]) :=
  W.zret hx hb hr (by rcases hv with rfl | rfl <;> decide) (fun t ht hW => ⟨⟨v, mm, rfl, hp, by rw [ht]; exact hM, hK.moved hW.alike⟩, hS.F ht⟩) hS.2.2 hdg hlocks
theorem mo_vret {post : q_Mem → Prop} (hx : p.tables.exec = Jvm.exec) (hb : c.code = cc) (hr : meth.sig.returnType = none) (hlocks : meth.locks = false) (hK : va_K D vwCl [(cI, .int)] s) (hM : mo_H D cI o a mm H) (hS : va_S (mo_R o a) s.heap H locs) (hp : post mm) (hdg : decode cc pc = .ok (.return_, 1)) : W p l e R s m args below meth c H locs cells slots (MQ below (va_Qv post (mo_B D cI o a) (mo_R o a)) args s cells slots (mo_R o a)) (F0 m pc ls []) :=
  W.vret hx hb hr (fun t ht hW => ⟨⟨mm, rfl, hp, by rw [ht]; exact hM, hK.moved hW.alike⟩, hS.F ht⟩) hS.2.2 hdg hlocks
/-- the call of such a method, by whoever owns its cells -/
theorem mo_iV {index n fr lo maxL : Nat} {y : MethodName} {bytes : ByteArray} {ret : Option FieldType} {As : List Value} {post : Int32 → q_Mem → Prop} (hF : CallFix p m c cc nL s args wsL_law own) (hM : mo_Ci l y bytes maxL ret fr lo D cI o a mm As post) (hk : wl_V RX5 y bytes maxL ret n) (hl : Cond.methodLink own index y ∈ wsL_law) (hR : fr + 1 ≤ R.frames ∧ 8 + (maxL + 11) + lo ≤ R.locals) (hK : va_K D vwCl [(cI, .int)] s) (hP : mo_H D cI o a mm H) (hS : va_S A H0 H locs) (hA : ∀ q, mo_R o a q → A q)
    (hn : As.length = n) (hsz : ls.size = nL) (hst : st0 = As.reverse ++ .ref o :: rest) (hro : (rest.map fun v => v.category).sum ≤ 8) (hdg : decode cc pc = .ok (.invokevirtual index, 3)) (hf : cells ≤ R.cells ∧ slots ≤ R.slots)
    (kk : ∀ (r : Int32) (mm1 : q_Mem) (H1 : Heap) (locs1 : List Loc), post r mm1 → mo_H D cI o a mm1 H1 → va_S A H0 H1 locs1 → H.size ≤ H1.size → (∀ q : Nat, q < H.size → ¬ mo_R o a q → H1[q]? = H[q]?) → W p l e R s m args below meth c H1 locs1 cells slots Q (F0 m (pc + 3) ls (.int r :: rest))) : W p l e R s m args below meth c H locs cells slots Q (F0 m pc ls st0) := by
  refine va_calli (A0 := A) (va_runV hF hM (wl_callW hF.2.2.2.2 hk hl hR) ⟨bl_blind mo_blind, mo_recv hK hP, fun U hU hW => ⟨rfl, by rw [hU]; exact hP, hK.moved hW.alike⟩⟩ rfl hn hsz hst (lv_room hro) hdg ⟨hf.1, hf.2⟩) hS (fun q _ h => hA q h) (fun q h => hA q h) ?_
  intro r u t H1 locs1 ht hvm hp hB hz hk2 hS1
  exact kk r u H1 locs1 hp (by rw [← ht]; exact hB.1) hS1 hz hk2
theorem mo_vV {index n fr lo maxL : Nat} {y : MethodName} {bytes : ByteArray} {ret : Option FieldType} {As : List Value} {post : q_Mem → Prop} (hF : CallFix p m c cc nL s args wsL_law own) (hM : mo_Cv l y bytes maxL ret fr lo D cI o a mm As post) (hk : wl_V RX5 y bytes maxL ret n) (hl : Cond.methodLink own index y ∈ wsL_law) (hR : fr + 1 ≤ R.frames ∧ 8 + (maxL + 11) + lo ≤ R.locals) (hK : va_K D vwCl [(cI, .int)] s) (hP : mo_H D cI o a mm H) (hS : va_S A H0 H locs) (hA : ∀ q, mo_R o a q → A q)
    (hn : As.length = n) (hsz : ls.size = nL) (hst : st0 = As.reverse ++ .ref o :: rest) (hro : (rest.map fun v => v.category).sum ≤ 8) (hdg : decode cc pc = .ok (.invokevirtual index, 3)) (hf : cells ≤ R.cells ∧ slots ≤ R.slots)
    (kk : ∀ (mm1 : q_Mem) (H1 : Heap) (locs1 : List Loc), post mm1 → mo_H D cI o a mm1 H1 → va_S A H0 H1 locs1 → W p l e R s m args below meth c H1 locs1 cells slots Q (F0 m (pc + 3) ls rest)) : W p l e R s m args below meth c H locs cells slots Q (F0 m pc ls st0) := by
  refine va_callv (A0 := A) (va_runV hF hM (wl_callW hF.2.2.2.2 hk hl hR) ⟨bl_blind mo_blind, mo_recv hK hP, fun U hU hW => ⟨rfl, by rw [hU]; exact hP, hK.moved hW.alike⟩⟩ rfl hn hsz hst (lv_room hro) hdg ⟨hf.1, hf.2⟩) hS (fun q _ h => hA q h) (fun q h => hA q h) ?_
  intro u t H1 locs1 ht hvm hp hB hz hk2 hS1
  exact kk u H1 locs1 hp (by rw [← ht]; exact hB.1) hS1
end
theorem mo_gh {D : va_G} {cI : ClassId} {o : Nat} {a : Nat → Nat} {mm : q_Mem} {H : Heap} {k i : Nat} {v : Int32} (hk : 20 ≤ k) (h : mo_H D cI o a mm H) : mo_H D cI o a (up2 mm k i v) H := by
  refine ⟨?_, fun j hj => ?_⟩
  · have e : mo_fs a (up2 mm k i v) = mo_fs a mm := by
      unfold mo_fs
      rw [up2_k (by omega : (1 : Nat) ≠ k), up2_k (by omega : (10 : Nat) ≠ k), up2_k (by omega : (19 : Nat) ≠ k)]
    rw [e]; exact h.1
  · have hjk : j ≠ k := fun q => by
      subst q
      simp only [mo_ar, Bool.and_eq_true, decide_eq_true_eq] at hj
      omega
    rw [up2_k hjk]; exact h.2 j hj
