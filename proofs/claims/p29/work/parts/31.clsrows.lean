section
variable {p : Program} {l : Launch} {e : Env} {R : Room} {s : State} {m : MethodId} {args : Array Value} {below : List Frame} {meth : Method} {c : Code} {H : Heap} {locs : List Loc} {cells slots : Nat} {Q : State → Prop}
variable {cc : ByteArray} {pc nL : Nat} {ls : Array Slot} {rest st0 : List Value} {own : String} {G : k_G} {Z : Nat → Prop} {ad : k_Ad} {mm : q_Mem}
/-- a call of a method that only reads -/
theorem kr_V {index n fr lo maxL : Nat} {C : String} {y : MethodName} {bytes : ByteArray} {ret : Option FieldType} {b : Nat} {As : List Value} {post : Int32 → Prop} (hF : CallFix p m c cc nL s args wsL_law own) (hM : rc_C l y bytes maxL ret fr lo (.ref b :: As) (k_R G Z ad mm) post) (hk : wl_V C y bytes maxL ret n) (hl : Cond.methodLink own index y ∈ wsL_law) (hR : fr + 1 ≤ R.frames ∧ 8 + (maxL + 11) + lo ≤ R.locals)
    (hH : k_H G ad (k_C G ad mm) H) (hK : va_K G.1 vwCl (k_ty G) s) (hP : k_P G s) (hT : k_T G Z s s.heap) (hS : va_S Z s.heap H locs)
    (hrv : ∃ cellB : Cell, H[b]? = some cellB ∧ cellB.vm.isStatics = false ∧ s.vm.findClass C = some cellB.cls)
    (hn : As.length = n) (hsz : ls.size = nL) (hst : st0 = As.reverse ++ .ref b :: rest) (hro : (rest.map fun v => v.category).sum ≤ 8) (hdg : decode cc pc = .ok (.invokevirtual index, 3)) (hf : cells ≤ R.cells ∧ slots ≤ R.slots)
    (kk : ∀ r : Int32, post r → W p l e R s m args below meth c H locs cells slots Q (F0 m (pc + 3) ls (.int r :: rest))) : W p l e R s m args below meth c H locs cells slots Q (F0 m pc ls st0) :=
  vp_callSi (W.runV hF hM (wl_callW hF.2.2.2.2 hk hl hR) ⟨bl_blindV k_R.bl, hrv, fun U hU hW => ⟨rfl, k_R.call hH hK hP hT hS hU hW⟩⟩ rfl hn hsz hst (lv_room hro) hdg ⟨hf.1, hf.2⟩) kk
theorem kq_V {index n fr lo maxL : Nat} {C : String} {y : MethodName} {bytes : ByteArray} {ret : Option FieldType} {b : Nat} {As : List Value} {post : Option Nat → Prop} (hF : CallFix p m c cc nL s args wsL_law own) (hM : rq_C l y bytes maxL ret fr lo (.ref b :: As) (k_R G Z ad mm) post) (hk : wl_V C y bytes maxL ret n) (hl : Cond.methodLink own index y ∈ wsL_law) (hR : fr + 1 ≤ R.frames ∧ 8 + (maxL + 11) + lo ≤ R.locals)
    (hH : k_H G ad (k_C G ad mm) H) (hK : va_K G.1 vwCl (k_ty G) s) (hP : k_P G s) (hT : k_T G Z s s.heap) (hS : va_S Z s.heap H locs)
    (hrv : ∃ cellB : Cell, H[b]? = some cellB ∧ cellB.vm.isStatics = false ∧ s.vm.findClass C = some cellB.cls)
    (hn : As.length = n) (hsz : ls.size = nL) (hst : st0 = As.reverse ++ .ref b :: rest) (hro : (rest.map fun v => v.category).sum ≤ 8) (hdg : decode cc pc = .ok (.invokevirtual index, 3)) (hf : cells ≤ R.cells ∧ slots ≤ R.slots)
    (kk : ∀ r : Option Nat, post r → W p l e R s m args below meth c H locs cells slots Q (F0 m (pc + 3) ls (va_rf r :: rest))) : W p l e R s m args below meth c H locs cells slots Q (F0 m pc ls st0) :=
  va_csq (W.runV hF hM (wl_callW hF.2.2.2.2 hk hl hR) ⟨bl_blindV k_R.bl, hrv, fun U hU hW => ⟨rfl, k_R.call hH hK hP hT hS hU hW⟩⟩ rfl hn hsz hst (lv_room hro) hdg ⟨hf.1, hf.2⟩) kk
/-- a nest mate's static method, of numbers alone -/
theorem kr_SN {index n fr lo maxL : Nat} {host : String} {y : MethodName} {bytes : ByteArray} {ret : Option FieldType} {As : List Value} {post : Int32 → Prop} (hF : CallFix p m c cc nL s args wsL_law own) (hM : rc_C l y bytes maxL ret fr lo As (fun _ => True) post) (hk : wl_S y bytes maxL ret n) (hl : va_Nw (.methodLinkNest own index y host) s) (hR : fr + 1 ≤ R.frames ∧ 8 + (maxL + 11) + lo ≤ R.locals)
    (hn : As.length = n) (hsz : ls.size = nL) (hst : st0 = As.reverse ++ rest) (hro : (rest.map fun v => v.category).sum ≤ 8) (hdg : decode cc pc = .ok (.invokestatic index, 3)) (hf : cells ≤ R.cells ∧ slots ≤ R.slots)
    (kk : ∀ r : Int32, post r → W p l e R s m args below meth c H locs cells slots Q (F0 m (pc + 3) ls (.int r :: rest))) : W p l e R s m args below meth c H locs cells slots Q (F0 m pc ls st0) := by
  obtain ⟨h1, h2, h4, h5, h6⟩ := hk
  have hw := hF.2.2.2.2
  have hws : ∀ w ∈ (Cond.code y bytes maxL ret :: wsL_law), ∀ (a' : Array Value) (U : State), s.WarmedH U.vm → w.before a' U = true := by
    intro w h
    rcases List.mem_cons.mp h with h | h
    · rw [h]; exact wl_pay hw _ h1
    · exact wl_pay hw _ h
  have cw : va_CN R s args own index y host bytes maxL ret (Cond.code y bytes maxL ret :: wsL_law) { frames := fr, cells := 0, slots := 0, locals := lo } 0 0 n := by
    refine ⟨⟨rfl, rfl, hR.1, hR.2, hws, List.mem_cons_self⟩, hw _ h1, hw _ h4, h5, fun sig h => ?_, va_Nw.use rfl hl⟩
    rw [h] at h6
    exact (Option.some.inj h6).symm
  have hr := va_runSN (e := e) (below := below) (meth := meth) (g := F0 m pc ls st0) (rest := rest) (H := H) (locs := locs) (cells := cells) (slots := slots) hF hM ⟨cw, hw _ h2, trivial⟩ ⟨bl_blindV (B := fun _ => True) (fun _ _ _ _ _ => trivial), fun U _ _ => ⟨rfl, trivial⟩⟩ rfl hn hsz hst (lv_room hro) hdg ⟨hf.1, hf.2⟩
  intro T hT X
  obtain ⟨v, st₀, t, T', L, h0, X', hL, e1, e2, ⟨r, hv, hp, hh⟩, st⟩ := hr T hT X
  cases hv
  obtain ⟨t2, a1, b1⟩ := kk r hp T' (by rw [e1, hh, h0]) (Stand.forget X' (fun q h => (hL q h).elim))
  exact ⟨t2, st t2 a1, b1⟩
theorem g_cast {D : va_G} {tys : List (ClassId × FieldType)} {a index ci N : Nat} {C : String} {T : u_T} {fs : List Value} (hF : CallFix p m c cc nL s args wsL_law own) (hK : va_K D vwCl tys s) (hM : va_at D vwCl (a, .inr (ci, fs)) H) (hc : vwCl[ci]? = some (C, T, N)) (hlink : Cond.classLink own index C ∈ wsL_law) (hdg : decode cc pc = .ok (.checkcast index, 3))
    (k : W p l e R s m args below meth c H locs cells slots Q (F0 m (pc + 3) ls (.ref a :: rest))) : W p l e R s m args below meth c H locs cells slots Q (F0 m pc ls (.ref a :: rest)) :=
  va_castS hF.1 hF.2.1 hF.2.2.2.1 (hF.2.2.2.2 _ hlink) (hK.1 ci (C, T, N) hc).2 (g_recv hK hM hc) hdg k
/-- a value that is null or an address -/
theorem k_split {b : Prop} [Decidable b] {a : Nat} (h1 : b → W p l e R s m args below meth c H locs cells slots Q (F0 m pc ls (.null :: rest))) (h2 : ¬ b → W p l e R s m args below meth c H locs cells slots Q (F0 m pc ls (.ref a :: rest))) : W p l e R s m args below meth c H locs cells slots Q (F0 m pc ls (k_rf b a :: rest)) := by
  unfold k_rf
  by_cases h : b
  · rw [if_pos h]; exact h1 h
  · rw [if_neg h]; exact h2 h
theorem lv_aload_nV (hx : p.tables.exec = Jvm.exec) (hb : c.code = cc) {k : Fin 4} {i : Nat} {b : Prop} [Decidable b] {x : Nat} (hdg : decode cc pc = .ok (.aload_n k, 1)) (hi : (k : Nat) = i) (hl : ls[i]? = some (.val (k_rf b x)))
    (kk : W p l e R s m args below meth c H locs cells slots Q (F0 m (pc + 1) ls (k_rf b x :: rest))) : W p l e R s m args below meth c H locs cells slots Q (F0 m pc ls rest) := by
  unfold k_rf at hl kk
  by_cases h : b
  · rw [if_pos h] at hl kk; exact lv_aload_nN hx hb hdg hi hl kk
  · rw [if_neg h] at hl kk; exact lv_aload_n hx hb hdg hi hl kk
theorem lv_aloadV (hx : p.tables.exec = Jvm.exec) (hb : c.code = cc) {i : Nat} {b : Prop} [Decidable b] {x : Nat} (hdg : decode cc pc = .ok (.aload i, 2)) (hl : ls[i]? = some (.val (k_rf b x)))
    (kk : W p l e R s m args below meth c H locs cells slots Q (F0 m (pc + 2) ls (k_rf b x :: rest))) : W p l e R s m args below meth c H locs cells slots Q (F0 m pc ls rest) := by
  unfold k_rf at hl kk
  by_cases h : b
  · rw [if_pos h] at hl kk; exact lv_aloadN hx hb hdg hl kk
  · rw [if_neg h] at hl kk; exact lv_aload hx hb hdg hl kk
theorem lv_astore_nV (hx : p.tables.exec = Jvm.exec) (hb : c.code = cc) {k : Fin 4} {i nL : Nat} {b : Prop} [Decidable b] {x : Nat} {lv lv' : List (Nat × Value)} (hdg : decode cc pc = .ok (.astore_n k, 1)) (hi : (k : Nat) = i) (h : lv_has ls nL lv) (hn : i < nL) (hl : (i, k_rf b x) :: lv.filter (fun q => !(q.1 == i) && !(q.1 + 1 == i && q.2.category == 2)) = lv')
    (kk : ∀ ls' : Array Slot, lv_has ls' nL lv' → W p l e R s m args below meth c H locs cells slots Q (F0 m (pc + 1) ls' rest)) : W p l e R s m args below meth c H locs cells slots Q (F0 m pc ls (k_rf b x :: rest)) := by
  unfold k_rf at hl ⊢
  by_cases hq : b
  · rw [if_pos hq] at hl ⊢; exact lv_astore_nN hx hb hdg hi h hn hl kk
  · rw [if_neg hq] at hl ⊢; exact lv_astore_n hx hb hdg hi h hn hl kk
theorem lv_astoreV (hx : p.tables.exec = Jvm.exec) (hb : c.code = cc) {i nL : Nat} {b : Prop} [Decidable b] {x : Nat} {lv lv' : List (Nat × Value)} (hdg : decode cc pc = .ok (.astore i, 2)) (h : lv_has ls nL lv) (hn : i < nL) (hl : (i, k_rf b x) :: lv.filter (fun q => !(q.1 == i) && !(q.1 + 1 == i && q.2.category == 2)) = lv')
    (kk : ∀ ls' : Array Slot, lv_has ls' nL lv' → W p l e R s m args below meth c H locs cells slots Q (F0 m (pc + 2) ls' rest)) : W p l e R s m args below meth c H locs cells slots Q (F0 m pc ls (k_rf b x :: rest)) := by
  unfold k_rf at hl ⊢
  by_cases hq : b
  · rw [if_pos hq] at hl ⊢; exact lv_astoreN hx hb hdg h hn hl kk
  · rw [if_neg hq] at hl ⊢; exact lv_astore hx hb hdg h hn hl kk
/-- a reference or null is answered -/
theorem rq_ret {post : Option Nat → Prop} {o : Option Nat} {cls : String} (hx : p.tables.exec = Jvm.exec) (hb : c.code = cc) (hr : meth.sig.returnType = some (.object cls)) (hlocks : meth.locks = false) (hp : post o) (hdg : decode cc pc = .ok (.areturn, 1)) : W p l e R s m args below meth c s.heap [] cells slots (MQ below (va_Sq post) args s cells slots (fun _ => False)) (F0 m pc ls [va_rf o]) :=
  W.aret hx hb hr (Or.inl ⟨_, rfl⟩) (va_rf_or o) (fun t ht _ => ⟨o, rfl, hp, ht⟩) (fun _ h => by cases h) hdg hlocks
/-- tests of null -/
theorem k_ifnull {b : Prop} [Decidable b] {a : Nat} (hx : p.tables.exec = Jvm.exec) (hb : c.code = cc) {off : Int} {tgt : Nat} (hdg : decode cc pc = .ok (.ifnull off, 3)) (ht : (pc : Int) + off = (tgt : Int)) (h1 : b → W p l e R s m args below meth c H locs cells slots Q (F0 m tgt ls rest)) (h2 : ¬ b → W p l e R s m args below meth c H locs cells slots Q (F0 m (pc + 3) ls rest)) : W p l e R s m args below meth c H locs cells slots Q (F0 m pc ls (k_rf b a :: rest)) :=
  k_split (fun h => lv_ifnullN hx hb hdg ht (h1 h)) (fun h => lv_ifnull hx hb hdg (h2 h))
theorem k_ifnonnull {b : Prop} [Decidable b] {a : Nat} (hx : p.tables.exec = Jvm.exec) (hb : c.code = cc) {off : Int} {tgt : Nat} (hdg : decode cc pc = .ok (.ifnonnull off, 3)) (ht : (pc : Int) + off = (tgt : Int)) (h1 : b → W p l e R s m args below meth c H locs cells slots Q (F0 m (pc + 3) ls rest)) (h2 : ¬ b → W p l e R s m args below meth c H locs cells slots Q (F0 m tgt ls rest)) : W p l e R s m args below meth c H locs cells slots Q (F0 m pc ls (k_rf b a :: rest)) :=
  k_split (fun h => lv_ifnonnullN hx hb hdg (h1 h)) (fun h => lv_ifnonnull hx hb hdg ht (h2 h))
end
theorem cp_le {n : Nat} (h : n ≤ 40) : n ≤ k_cp n := by
  unfold k_cp
  split
  · omega
  · split
    · omega
    · split
      · omega
      · split <;> omega
theorem cp_lt (n : Nat) : k_cp n < 2 ^ 31 := by
  unfold k_cp
  split
  · decide
  · split
    · decide
    · split
      · decide
      · split <;> decide
