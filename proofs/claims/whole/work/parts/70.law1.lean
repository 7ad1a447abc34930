/-! ===== the law's calls of the class: the answer lies in a row of one long, or an exception's number comes back ===== -/
def lo_N (U : State) : Prop := va_Nc k_IAE k_IOB U ∧ va_Nc k_ISE k_IOB U ∧ va_Nc k_ISE k_IAE U
theorem lo_N.moved {u U : State} (hvm : u.vm.Alike U.vm) (h : lo_N u) : lo_N U := ⟨h.1.moved hvm, h.2.1.moved hvm, h.2.2.moved hvm⟩
def lo_M (G : k_G) (Z : Nat → Prop) (w : Nat) (cJ : ClassId) (ad : k_Ad) (ct : k_Ct) (f : Nat → Int64) : State → Prop := fun U => k_M G Z ad ct U ∧ (va_at G.1 vwCl (w, .inl (cJ, 1, .inr (.inl f))) U.heap ∧ ¬ Z w) ∧ va_K G.1 vwCl [(cJ, .long)] U ∧ lo_N U
def lo_A (Z : Nat → Prop) (w : Nat) : Nat → Prop := fun q => Z q ∨ q = w
def lo_B (G : k_G) (Z : Nat → Prop) (w : Nat) (cJ : ClassId) (u : (k_Ad × k_Ct) × (Nat → Int64)) : State → Prop := fun U => k_B G Z u.1 U ∧ va_at G.1 vwCl (w, .inl (cJ, 1, .inr (.inl u.2))) U.heap
def lo_P (G : k_G) (ad0 : k_Ad) (cv : Int32 → Int64) (res : Int32 × q_Mem) : Int32 → (k_Ad × k_Ct) × (Nat → Int64) → Prop := fun r u => r = res.2 19 0 ∧ u.1.2 = k_C G u.1.1 res.2 ∧ u.1.1 0 0 = ad0 0 0 ∧ (r = 0 → u.2 0 = cv res.1)
def lo_C (l : Launch) (y : MethodName) (b : ByteArray) (nL : Nat) (hh : List (Nat × Nat × Nat × Nat)) (fr lo mc ms : Nat) (G : k_G) (Z : Nat → Prop) (w : Nat) (cJ : ClassId) (ad : k_Ad) (ct : k_Ct) (f : Nat → Int64) (As : List Value) (post : Int32 → (k_Ad × k_Ct) × (Nat → Int64) → Prop) : Prop :=
  vx_Met l y (Cond.codeWith y b nL (some .int) hh :: wsL_law) { frames := fr, cells := mc, slots := ms, locals := lo } (va_Pc As (lo_M G Z w cJ ad ct f)) (va_Qi post (lo_B G Z w cJ) (lo_A Z w)) (vx_X (fun _ : Unit => False) (fun _ _ _ => True) Z) mc ms (lo_A Z w)
theorem lo_M.bl {G : k_G} {Z : Nat → Prop} {w : Nat} {cJ : ClassId} {ad : k_Ad} {ct : k_Ct} {f : Nat → Int64} : bl_V (lo_M G Z w cJ ad ct f) := fun U V hh hv h => ⟨k_M.bl U V hh hv h.1, ⟨by rw [← hh]; exact h.2.1.1, h.2.1.2⟩, h.2.2.1.moved (by rw [hv]; exact Vm.Alike.refl _), h.2.2.2.moved (by rw [hv]; exact Vm.Alike.refl _)⟩
theorem lo_of {l : Launch} {y : MethodName} {b : ByteArray} {nL : Nat} {hh : List (Nat × Nat × Nat × Nat)} {fr lo mc ms : Nat} {G : k_G} {Z : Nat → Prop} {w : Nat} {cJ : ClassId} {ad : k_Ad} {ct : k_Ct} {f : Nat → Int64} {As : List Value} {post : Int32 → (k_Ad × k_Ct) × (Nat → Int64) → Prop} (hy : plainName y.cls = true) (hn : (lg_sl As).length ≤ nL)
    (body : ∀ (p : Program) (e : Env) (s : State) (m : MethodId) (args : Array Value) (below : List Frame) (meth : Method) (c : Code), p.tables.exec = Jvm.exec → c.code = b → meth.sig.returnType = some .int → CallFix p m c b nL s args wsL_law y.cls → meth.locks = false → c.exceptionTable.toList = tableOf hh → lo_M G Z w cJ ad ct f s → ∀ ls : Array Slot, lv_has ls nL (lv_args 0 As) →
      W p l e { frames := fr, cells := mc, slots := ms, locals := lo } s m args below meth c s.heap [] 0 0 (vx_MQ below (va_Qi post (lo_B G Z w cJ) (lo_A Z w)) (vx_X (fun _ : Unit => False) (fun _ _ _ => True) Z) args s mc ms (lo_A Z w)) (F0 m 0 ls [])) : lo_C l y b nL hh fr lo mc ms G Z w cJ ad ct f As post := by
  refine vx_ofWH (cc := b) (maxL := nL) (ret := some .int) (hh := hh) hy rfl ?_
  intro p e s m args below meth c s₁ B0 hml hv
  obtain ⟨rfl, hB⟩ := hv
  have hts := atoms_spec (ws := Cond.codeWith y b nL (some .int) hh :: wsL_law) B0.pre
  have htab := vx_table (x := y) B0 (hts _ List.mem_cons_self)
  have hl := lv_entry As (n := nL) hn
  rw [lg_entry_eq]
  exact body p e s m _ below meth c B0.exec B0.bytes B0.returns ⟨B0.exec, B0.bytes, hml, findClass_of_methodNamed B0.named, fun w h => hts w (List.mem_cons_of_mem _ h)⟩ B0.notSynchronized htab hB _ hl
section
variable {p : Program} {l : Launch} {e : Env} {R : Room} {s : State} {m : MethodId} {args : Array Value} {below : List Frame} {meth : Method} {c : Code} {H : Heap} {locs : List Loc} {cells slots : Nat} {Q : State → Prop}
variable {cc : ByteArray} {pc nL : Nat} {ls : Array Slot} {rest st0 : List Value} {own : String} {G : k_G} {Z : Nat → Prop} {ad : k_Ad} {ct : k_Ct} {w : Nat} {cJ : ClassId} {f : Nat → Int64} {mc ms : Nat} {XC : String → State → State → Prop}
theorem lo_iret {post : Int32 → (k_Ad × k_Ct) × (Nat → Int64) → Prop} {v : Int32} (hx : p.tables.exec = Jvm.exec) (hb : c.code = cc) (hr : meth.sig.returnType = some .int) (hlk : meth.locks = false) (hM : k_H G ad ct H) (hN : k_N Z ad ct) (hK : va_K G.1 vwCl (k_ty G) s) (hw : va_at G.1 vwCl (w, .inl (cJ, 1, .inr (.inl f))) H) (hS : va_S (lo_A Z w) s.heap H locs) (hc : cells ≤ mc) (hs : slots ≤ ms) (hp : post v ((ad, ct), f)) (hdg : decode cc pc = .ok (.ireturn, 1)) : W p l e R s m args below meth c H locs cells slots (vx_MQ below (va_Qi post (lo_B G Z w cJ) (lo_A Z w)) XC args s mc ms (lo_A Z w)) (F0 m pc ls [.int v]) :=
  W.widen hc hs (vx_ret (W.iret hx hb hr (fun t ht hW => ⟨⟨v, ((ad, ct), f), rfl, hp, ⟨by rw [ht]; exact hM, hN, hK.moved hW.alike⟩, by rw [ht]; exact hw⟩, hS.F ht⟩) hS.2.2 hdg hlk))
theorem lo_last (hF : CallFix p m c cc nL s args wsL_law own) (hKJ : va_K G.1 vwCl [(cJ, .long)] s) (hw : va_at G.1 vwCl (w, .inl (cJ, 1, .inr (.inl f))) H) (hM : k_H G ad ct H) (hN : k_N Z ad ct) (hwZ : ¬ Z w) (hS : va_S (lo_A Z w) s.heap H locs) {x : Int64} (hdg : decode cc pc = .ok (.lastore, 1))
    (kk : ∀ (H1 : Heap) (locs1 : List Loc) (f1 : Nat → Int64), f1 0 = x → va_at G.1 vwCl (w, .inl (cJ, 1, .inr (.inl f1))) H1 → k_H G ad ct H1 → va_S (lo_A Z w) s.heap H1 locs1 → W p l e R s m args below meth c H1 locs1 cells slots Q (F0 m (pc + 1) ls rest)) : W p l e R s m args below meth c H locs cells slots Q (F0 m pc ls (.long x :: .int 0 :: .ref w :: rest)) := by
  refine W.last hF.1 hF.2.1 hw ((hKJ.2 0 _ rfl).1 1 (fun j => .long (f j))) (fun q => by cases q) (by show ¬ ((0 : Int32) < 0 ∨ (arrV _ _ _).slots.size ≤ _); rw [arrV_size]; show ¬ ((0 : Int32) < 0 ∨ 1 ≤ (0 : Int32).toNatClampNeg); decide) rfl rfl hdg fun H1 e z oq => ?_
  refine kk H1 _ (vp_updL f 0 x) (by simp [vp_updL]) ?_ (fun k i e0 he => (hM k i e0 he).kept (oq _ (fun h => hwZ (by have h2 : ad k i = w := h; rw [← h2]; exact hN.2 k i e0 he)))) (hS.put z oq (Or.inr rfl))
  show H1[w]? = some (vp_cell _ _)
  rw [e, vp_cell_l, vp_cell_l, arrV_store]
  congr 2
  funext q
  by_cases hq : q = 0
  · subst hq
    simp [updV, vp_updL]
  · simp [updV, vp_updL, hq]
theorem lo_iV {index n fr lo mc1 ms1 maxL : Nat} {C : String} {y : MethodName} {bytes : ByteArray} {ret : Option FieldType} {b : Nat} {As : List Value} {post : Int32 → k_Ad × k_Ct → Prop} {pX1 : String → Prop} {A0 : Nat → Prop} (hF : CallFix p m c cc nL s args wsL_law own) (hM : kx_i l y bytes maxL ret fr lo mc1 ms1 G Z ad ct (.ref b :: As) post pX1) (hk : wl_V C y bytes maxL ret n) (hl : Cond.methodLink own index y ∈ wsL_law) (hR : fr + 1 ≤ R.frames ∧ 8 + (maxL + 11) + lo ≤ R.locals)
    (hB : k_M G Z ad ct s) (hrv : ∃ cellB : Cell, s.heap[b]? = some cellB ∧ cellB.vm.isStatics = false ∧ s.vm.findClass C = some cellB.cls) (hn : As.length = n) (hsz : ls.size = nL) (hst : st0 = As.reverse ++ .ref b :: rest) (hro : (rest.map fun v => v.category).sum ≤ 8) (hdg : decode cc pc = .ok (.invokevirtual index, 3)) (hf : 0 + mc1 ≤ R.cells ∧ 0 + ms1 ≤ R.slots) (hA : ∀ q, Z q → A0 q)
    (kx : ∀ (E : String) (ce : Cell) (q9 : Addr) (H1 : Heap) (locs1 : List Loc), pX1 E → k_H G ad ct H1 → k_N Z ad ct → va_S A0 s.heap H1 locs1 → (∀ q : Nat, q < s.heap.size → ¬ Z q → H1[q]? = s.heap[q]?) → H1[q9]? = some ce → ce.vm = .none → s.vm.findClass E = some ce.cls → vx_W p l e R s m args below meth c H1 locs1 (0 + mc1) (0 + ms1) Q (F0 m pc ls rest) q9)
    (kk : ∀ (r : Int32) (u : k_Ad × k_Ct) (H1 : Heap) (locs1 : List Loc), post r u → k_H G u.1 u.2 H1 → k_N Z u.1 u.2 → va_S A0 s.heap H1 locs1 → (∀ q : Nat, q < s.heap.size → ¬ Z q → H1[q]? = s.heap[q]?) → W p l e R s m args below meth c H1 locs1 (0 + mc1) (0 + ms1) Q (F0 m (pc + 3) ls (.int r :: rest))) : W p l e R s m args below meth c s.heap [] 0 0 Q (F0 m pc ls st0) := by
  refine vx_calli (A0 := A0) (vx_runV hF hM (wl_callW hF.2.2.2.2 hk hl hR) ⟨bl_blindV k_M.bl, hrv, fun U hU hW => ⟨rfl, k_M.call hB.1.1 hB.1.2 hB.2.1 hB.2.2.1 hB.2.2.2 va_S.rf hU hW⟩⟩ rfl hn hsz hst (lv_room hro) hdg hf) va_S.rf (fun q _ h => hA q h) hA (fun q _ h => hA q h) ?_ ?_
  · intro E ce q9 u t H1 locs1 ht hvm hu hB1 hz hk2 hS1 hcell hv hcl
    subst hu
    obtain ⟨hp1, hb1, hb2, hb3⟩ := hB1
    exact kx E ce q9 H1 locs1 hp1 (by rw [← ht]; exact hb1) hb2 hS1 hk2 hcell hv hcl
  · intro r u t H1 locs1 ht hvm hp hB1 hz hk2 hS1
    exact kk r u H1 locs1 hp (by rw [← ht]; exact hB1.1) hB1.2.1 hS1 hk2
theorem lo_catch (hF : CallFix p m c cc nL s args wsL_law own) (hP : k_P G s) {E : String} {ce : Cell} {q : Addr} (pre : List ExceptionTableEntry) (x : ExceptionTableEntry) (suf : List ExceptionTableEntry) (htab : c.exceptionTable.toList = pre ++ x :: suf) (hpass : ∀ z ∈ pre, z.catchType ≠ 0 ∧ ∃ nm : String, Cond.classLink own z.catchType nm ∈ wsL_law ∧ va_Nc E nm s) (hx : covers x pc = true) (h0 : x.catchType ≠ 0) (hlink : Cond.classLink own x.catchType E ∈ wsL_law) (hc : Cond.castable E E ∈ k_ngs) (hcell : H[q]? = some ce) (hv : ce.vm = .none) (hcl : s.vm.findClass E = some ce.cls)
    (kk : W p l e R s m args below meth c H locs cells slots Q (F0 m x.handlerPc ls [.ref q])) : vx_W p l e R s m args below meth c H locs cells slots Q (F0 m pc ls rest) q :=
  vx_catch hF.2.2.2.1 pre x suf htab (fun z hz => by
    obtain ⟨h1, nm, h2, h3⟩ := hpass z hz
    exact Or.inr ⟨h1, nm, hF.2.2.2.2 _ h2, h3⟩) hx h0 (hF.2.2.2.2 _ hlink) ((hP.2.2.2.2.2.2 _ hc).use (k_ng_t _ hc)) hcell hv hcl kk
end
theorem lo_c1 : Cond.castable k_IOB k_IOB ∈ k_ngs := by simp [k_ngs, k_IOB]
theorem lo_c2 : Cond.castable k_IAE k_IAE ∈ k_ngs := by simp [k_ngs, k_IAE]
theorem lo_c3 : Cond.castable k_ISE k_ISE ∈ k_ngs := by simp [k_ngs, k_ISE]
/-! codes that the law's table knows -/
section
variable {mm : q_Mem} {x y z : Int32}
theorem cd_trust : (sp_trust mm x).2 19 0 = 0 ∨ (sp_trust mm x).2 19 0 = 1 := by
  unfold sp_trust; split
  · exact Or.inl rfl
  · exact Or.inr rfl
theorem cd_ofway {k : Nat} : (sp_ofway k mm x).2 19 0 = 0 ∨ (sp_ofway k mm x).2 19 0 = 1 := by
  unfold sp_ofway; split
  · exact Or.inl rfl
  · exact Or.inr rfl
theorem cd_ver : (sp_ver mm x y).2 19 0 = 0 ∨ (sp_ver mm x y).2 19 0 = 1 := by
  unfold sp_ver; split
  · exact Or.inl rfl
  · exact Or.inr rfl
theorem cd_sta : (sp_sta mm x y).2 19 0 = 0 ∨ (sp_sta mm x y).2 19 0 = 1 := by
  unfold sp_sta; split
  · exact Or.inl rfl
  · exact Or.inr rfl
theorem cd_draw : (sp_draw mm z x y).2 19 0 = 0 ∨ (sp_draw mm z x y).2 19 0 = 1 := by
  unfold sp_draw; split
  · exact Or.inl rfl
  · exact Or.inr rfl
theorem cd_tst : (sp_tst mm z x y).2 19 0 = 0 ∨ (sp_tst mm z x y).2 19 0 = 1 := by
  unfold sp_tst; split
  · exact Or.inl rfl
  · exact Or.inr rfl
theorem cd_isst : (sp_isst mm z x y).2 19 0 = 0 ∨ (sp_isst mm z x y).2 19 0 = 1 := by
  unfold sp_isst; split
  · exact Or.inl rfl
  · exact Or.inr rfl
theorem cd_stl : (sp_stl mm x).2 19 0 = 0 ∨ (sp_stl mm x).2 19 0 = 1 := by
  unfold sp_stl; split
  · exact Or.inl rfl
  · exact Or.inr rfl
theorem cd_drive : (sp_drive mm x y z).2 19 0 = 0 ∨ (sp_drive mm x y z).2 19 0 = 1 := by
  unfold sp_drive; split
  · exact Or.inl rfl
  · exact Or.inr rfl
theorem cd_sgt : (sp_sgt mm x).2 19 0 = 0 ∨ (sp_sgt mm x).2 19 0 = 1 := by
  unfold sp_sgt; split
  · exact Or.inl rfl
  · exact Or.inr rfl
theorem cd_dear : (sp_dear mm x).2 19 0 = 0 ∨ (sp_dear mm x).2 19 0 = 1 := by
  unfold sp_dear; split
  · exact Or.inl rfl
  · exact Or.inr rfl
theorem cd_tar : (sp_tar mm x).2 19 0 = 0 ∨ (sp_tar mm x).2 19 0 = 1 := by
  unfold sp_tar; split
  · exact Or.inl rfl
  · exact Or.inr rfl
theorem cd_cat : (sp_cat mm x).2 19 0 = 0 ∨ (sp_cat mm x).2 19 0 = 1 := by
  unfold sp_cat; split
  · exact Or.inl rfl
  · exact Or.inr rfl
theorem cd_guard : ¬ (sp_guard mm x y).2 19 0 = 3 := by
  unfold sp_guard; split
  · split
    · show ¬ (0 : Int32) = 3; decide
    · show ¬ (2 : Int32) = 3; decide
  · show ¬ (1 : Int32) = 3; decide
theorem cd_x {v : Int32} (h : v = 0 ∨ v = 1) {c : Int32} (hc : v = c) (h0 : ¬ c = 0) (h1 : ¬ c = 1) : False := by
  rcases h with h | h
  · exact h0 (hc.symm.trans h)
  · exact h1 (hc.symm.trans h)
end
