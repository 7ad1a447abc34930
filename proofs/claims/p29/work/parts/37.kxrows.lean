/-! ===== contracts of methods that change the cells, or throw ===== -/
def kx_v (l : Launch) (y : MethodName) (b : ByteArray) (nL : Nat) (r : Option FieldType) (fr lo mc ms : Nat) (G : k_G) (Z : Nat → Prop) (ad : k_Ad) (ct : k_Ct) (As : List Value) (post : k_Ad × k_Ct → Prop) (pX : String → Prop) : Prop :=
  vx_Met l y (Cond.code y b nL r :: wsL_law) { frames := fr, cells := mc, slots := ms, locals := lo } (va_Pc As (k_M G Z ad ct)) (va_Qv post (k_B G Z) Z) (k_XC G Z ad ct pX) mc ms Z
def kx_i (l : Launch) (y : MethodName) (b : ByteArray) (nL : Nat) (r : Option FieldType) (fr lo mc ms : Nat) (G : k_G) (Z : Nat → Prop) (ad : k_Ad) (ct : k_Ct) (As : List Value) (post : Int32 → k_Ad × k_Ct → Prop) (pX : String → Prop) : Prop :=
  vx_Met l y (Cond.code y b nL r :: wsL_law) { frames := fr, cells := mc, slots := ms, locals := lo } (va_Pc As (k_M G Z ad ct)) (va_Qi post (k_B G Z) Z) (k_XC G Z ad ct pX) mc ms Z
def kx_q (l : Launch) (y : MethodName) (b : ByteArray) (nL : Nat) (r : Option FieldType) (fr lo mc ms : Nat) (G : k_G) (Z : Nat → Prop) (ad : k_Ad) (ct : k_Ct) (As : List Value) (post : Option Nat → k_Ad × k_Ct → Prop) (pX : String → Prop) : Prop :=
  vx_Met l y (Cond.code y b nL r :: wsL_law) { frames := fr, cells := mc, slots := ms, locals := lo } (va_Pc As (k_M G Z ad ct)) (va_Qq post (k_B G Z) Z) (k_XC G Z ad ct pX) mc ms Z
theorem kx_of {l : Launch} {y : MethodName} {b : ByteArray} {nL : Nat} {r : Option FieldType} {fr lo mc ms : Nat} {G : k_G} {Z : Nat → Prop} {ad : k_Ad} {ct : k_Ct} {As : List Value} {Qc : Array Value → State → Outcome → State → Prop} {XC : String → State → State → Prop} (hy : plainName y.cls = true) (hn : (lg_sl As).length ≤ nL)
    (body : ∀ (p : Program) (e : Env) (s : State) (m : MethodId) (args : Array Value) (below : List Frame) (meth : Method) (c : Code), p.tables.exec = Jvm.exec → c.code = b → meth.sig.returnType = r → CallFix p m c b nL s args wsL_law y.cls → meth.locks = false → (∀ x ∈ c.exceptionTable.toList, False) → k_M G Z ad ct s → ∀ ls : Array Slot, lv_has ls nL (lv_args 0 As) →
      W p l e { frames := fr, cells := mc, slots := ms, locals := lo } s m args below meth c s.heap [] 0 0 (vx_MQ below Qc XC args s mc ms Z) (F0 m 0 ls [])) : vx_Met l y (Cond.code y b nL r :: wsL_law) { frames := fr, cells := mc, slots := ms, locals := lo } (va_Pc As (k_M G Z ad ct)) Qc XC mc ms Z := by
  refine vx_ofW (cc := b) (maxL := nL) (ret := r) hy rfl ?_
  intro p e s m args below meth c s₁ B0 hml hnt hv
  obtain ⟨rfl, hB⟩ := hv
  have hts := atoms_spec (ws := Cond.code y b nL r :: wsL_law) B0.pre
  have hl := lv_entry As (n := nL) hn
  rw [lg_entry_eq]
  exact body p e s m _ below meth c B0.exec B0.bytes B0.returns ⟨B0.exec, B0.bytes, hml, findClass_of_methodNamed B0.named, fun w h => hts w (List.mem_cons_of_mem _ h)⟩ B0.notSynchronized hnt hB _ hl
section
variable {p : Program} {l : Launch} {e : Env} {R : Room} {s : State} {m : MethodId} {args : Array Value} {below : List Frame} {meth : Method} {c : Code} {H : Heap} {locs : List Loc} {cells slots : Nat} {Q : State → Prop}
variable {cc : ByteArray} {pc nL : Nat} {ls : Array Slot} {rest st0 : List Value} {own : String} {G : k_G} {Z : Nat → Prop} {ad ad1 : k_Ad} {ct ct1 : k_Ct} {Qc : Array Value → State → Outcome → State → Prop} {XC : String → State → State → Prop} {mc ms : Nat}
theorem kx_vret {post : k_Ad × k_Ct → Prop} (hx : p.tables.exec = Jvm.exec) (hb : c.code = cc) (hr : meth.sig.returnType = none) (hlk : meth.locks = false) (hM : k_H G ad ct H) (hN : k_N Z ad ct) (hK : va_K G.1 vwCl (k_ty G) s) (hS : va_S Z s.heap H locs) (hc : cells ≤ mc) (hs : slots ≤ ms) (hp : post (ad, ct)) (hdg : decode cc pc = .ok (.return_, 1)) : W p l e R s m args below meth c H locs cells slots (vx_MQ below (va_Qv post (k_B G Z) Z) XC args s mc ms Z) (F0 m pc ls []) :=
  W.widen hc hs (vx_ret (W.vret hx hb hr (fun t ht hW => ⟨⟨(ad, ct), rfl, hp, by rw [ht]; exact hM, hN, hK.moved hW.alike⟩, hS.F ht⟩) hS.2.2 hdg hlk))
theorem kx_iret {post : Int32 → k_Ad × k_Ct → Prop} {v : Int32} (hx : p.tables.exec = Jvm.exec) (hb : c.code = cc) (hr : meth.sig.returnType = some .int) (hlk : meth.locks = false) (hM : k_H G ad ct H) (hN : k_N Z ad ct) (hK : va_K G.1 vwCl (k_ty G) s) (hS : va_S Z s.heap H locs) (hc : cells ≤ mc) (hs : slots ≤ ms) (hp : post v (ad, ct)) (hdg : decode cc pc = .ok (.ireturn, 1)) : W p l e R s m args below meth c H locs cells slots (vx_MQ below (va_Qi post (k_B G Z) Z) XC args s mc ms Z) (F0 m pc ls [.int v]) :=
  W.widen hc hs (vx_ret (W.iret hx hb hr (fun t ht hW => ⟨⟨v, (ad, ct), rfl, hp, by rw [ht]; exact hM, hN, hK.moved hW.alike⟩, hS.F ht⟩) hS.2.2 hdg hlk))
theorem kx_zret {post : Int32 → k_Ad × k_Ct → Prop} {v : Int32} (hx : p.tables.exec = Jvm.exec) (hb : c.code = cc) (hr : meth.sig.returnType = some .boolean) (hlk : meth.locks = false) (hM : k_H G ad ct H) (hN : k_N Z ad ct) (hK : va_K G.1 vwCl (k_ty G) s) (hS : va_S Z s.heap H locs) (hc : cells ≤ mc) (hs : slots ≤ ms) (hv : v = 0 ∨ v = 1) (hp : post v (ad, ct)) (hdg : decode cc pc = .ok (.ireturn, 1)) : W p l e R s m args below meth c H locs cells slots (vx_MQ below (va_Qi post (k_B G Z) Z) XC args s mc ms Z) (F0 m pc ls [.int v]) :=
  W.widen hc hs (vx_ret (W.zret hx hb hr (by rcases hv with rfl | rfl <;> decide) (fun t ht hW => ⟨⟨v, (ad, ct), rfl, hp, by rw [ht]; exact hM, hN, hK.moved hW.alike⟩, hS.F ht⟩) hS.2.2 hdg hlk))
theorem kx_qret {post : Option Nat → k_Ad × k_Ct → Prop} {o : Option Nat} {cls : String} (hx : p.tables.exec = Jvm.exec) (hb : c.code = cc) (hr : meth.sig.returnType = some (.object cls)) (hlk : meth.locks = false) (hM : k_H G ad ct H) (hN : k_N Z ad ct) (hK : va_K G.1 vwCl (k_ty G) s) (hS : va_S Z s.heap H locs) (hc : cells ≤ mc) (hs : slots ≤ ms) (hp : post o (ad, ct)) (hdg : decode cc pc = .ok (.areturn, 1)) : W p l e R s m args below meth c H locs cells slots (vx_MQ below (va_Qq post (k_B G Z) Z) XC args s mc ms Z) (F0 m pc ls [va_rf o]) :=
  W.widen hc hs (vx_ret (W.aret hx hb hr (Or.inl ⟨_, rfl⟩) (va_rf_or o) (fun t ht hW => ⟨⟨o, (ad, ct), rfl, hp, by rw [ht]; exact hM, hN, hK.moved hW.alike⟩, hS.F ht⟩) hS.2.2 hdg hlk))
theorem kx_vS {index n fr lo mc1 ms1 maxL : Nat} {y : MethodName} {bytes : ByteArray} {ret : Option FieldType} {As : List Value} {post : k_Ad × k_Ct → Prop} {pX pX1 : String → Prop} (hF : CallFix p m c cc nL s args wsL_law own) (hM : kx_v l y bytes maxL ret fr lo mc1 ms1 G Z ad1 ct1 As post pX1) (hk : wl_S y bytes maxL ret n) (hl : Cond.methodLink own index y ∈ wsL_law) (hR : fr + 1 ≤ R.frames ∧ 8 + (maxL + 11) + lo ≤ R.locals)
    (hH : k_H G ad1 ct1 H) (hN : k_N Z ad1 ct1) (hK : va_K G.1 vwCl (k_ty G) s) (hP : k_P G s) (hT : k_T G Z s s.heap) (hS : va_S Z s.heap H locs) (hn : As.length = n) (hsz : ls.size = nL) (hst : st0 = As.reverse ++ rest) (hro : (rest.map fun v => v.category).sum ≤ 8) (hdg : decode cc pc = .ok (.invokestatic index, 3)) (hf : cells + mc1 ≤ R.cells ∧ slots + ms1 ≤ R.slots)
    (hout : ∀ x ∈ c.exceptionTable.toList, False) (hlk : meth.locks = false) (hpx : ∀ E, pX1 E → pX E ∧ ad1 = ad ∧ ct1 = ct) (hc : cells + mc1 ≤ mc) (hs : slots + ms1 ≤ ms)
    (kk : ∀ (u : k_Ad × k_Ct) (H1 : Heap) (locs1 : List Loc), post u → k_H G u.1 u.2 H1 → k_N Z u.1 u.2 → va_S Z s.heap H1 locs1 → H.size ≤ H1.size → (∀ q : Nat, q < H.size → ¬ Z q → H1[q]? = H[q]?) → W p l e R s m args below meth c H1 locs1 (cells + mc1) (slots + ms1) (vx_MQ below Qc (k_XC G Z ad ct pX) args s mc ms Z) (F0 m (pc + 3) ls (rest))) : W p l e R s m args below meth c H locs cells slots (vx_MQ below Qc (k_XC G Z ad ct pX) args s mc ms Z) (F0 m pc ls st0) := by
  refine vx_callv (A0 := Z) (vx_runS hF hM (wl_callS hF.2.2.2.2 hk hl hR) ⟨bl_blindV k_M.bl, fun U hU hW => ⟨rfl, k_M.call hH hN hK hP hT hS hU hW⟩⟩ rfl hn hsz hst (lv_room hro) hdg hf) hS (fun q _ h => h) (fun q h => h) (fun q _ h => h) ?_ ?_
  · intro E ce q9 u t H1 locs1 ht hvm hu hB hz hk2 hS1 hcell hv hcl
    subst hu
    obtain ⟨hp1, hb1, hb2, hb3⟩ := hB
    obtain ⟨hp2, rfl, rfl⟩ := hpx E hp1
    exact vx_out (fun x hx => (hout x hx).elim) hlk hcell hv hcl (fun t2 ht2 hv2 => ⟨_, rfl, ⟨hp2, by rw [ht2, ← ht]; exact hb1, hb2, hK.moved hv2⟩, hS1.F ht2⟩) hS1.2.2 hc hs
  · intro u t H1 locs1 ht hvm hp hB hz hk2 hS1
    exact kk u H1 locs1 hp (by rw [← ht]; exact hB.1) hB.2.1 hS1 hz hk2
theorem kx_vV {index n fr lo mc1 ms1 maxL : Nat} {C : String} {y : MethodName} {bytes : ByteArray} {ret : Option FieldType} {b : Nat} {As : List Value} {post : k_Ad × k_Ct → Prop} {pX pX1 : String → Prop} (hF : CallFix p m c cc nL s args wsL_law own) (hM : kx_v l y bytes maxL ret fr lo mc1 ms1 G Z ad1 ct1 (.ref b :: As) post pX1) (hk : wl_V C y bytes maxL ret n) (hl : Cond.methodLink own index y ∈ wsL_law) (hR : fr + 1 ≤ R.frames ∧ 8 + (maxL + 11) + lo ≤ R.locals)
    (hH : k_H G ad1 ct1 H) (hN : k_N Z ad1 ct1) (hK : va_K G.1 vwCl (k_ty G) s) (hP : k_P G s) (hT : k_T G Z s s.heap) (hS : va_S Z s.heap H locs) (hrv : ∃ cellB : Cell, H[b]? = some cellB ∧ cellB.vm.isStatics = false ∧ s.vm.findClass C = some cellB.cls) (hn : As.length = n) (hsz : ls.size = nL) (hst : st0 = As.reverse ++ .ref b :: rest) (hro : (rest.map fun v => v.category).sum ≤ 8) (hdg : decode cc pc = .ok (.invokevirtual index, 3)) (hf : cells + mc1 ≤ R.cells ∧ slots + ms1 ≤ R.slots)
    (hout : ∀ x ∈ c.exceptionTable.toList, False) (hlk : meth.locks = false) (hpx : ∀ E, pX1 E → pX E ∧ ad1 = ad ∧ ct1 = ct) (hc : cells + mc1 ≤ mc) (hs : slots + ms1 ≤ ms)
    (kk : ∀ (u : k_Ad × k_Ct) (H1 : Heap) (locs1 : List Loc), post u → k_H G u.1 u.2 H1 → k_N Z u.1 u.2 → va_S Z s.heap H1 locs1 → H.size ≤ H1.size → (∀ q : Nat, q < H.size → ¬ Z q → H1[q]? = H[q]?) → W p l e R s m args below meth c H1 locs1 (cells + mc1) (slots + ms1) (vx_MQ below Qc (k_XC G Z ad ct pX) args s mc ms Z) (F0 m (pc + 3) ls (rest))) : W p l e R s m args below meth c H locs cells slots (vx_MQ below Qc (k_XC G Z ad ct pX) args s mc ms Z) (F0 m pc ls st0) := by
  refine vx_callv (A0 := Z) (vx_runV hF hM (wl_callW hF.2.2.2.2 hk hl hR) ⟨bl_blindV k_M.bl, hrv, fun U hU hW => ⟨rfl, k_M.call hH hN hK hP hT hS hU hW⟩⟩ rfl hn hsz hst (lv_room hro) hdg hf) hS (fun q _ h => h) (fun q h => h) (fun q _ h => h) ?_ ?_
  · intro E ce q9 u t H1 locs1 ht hvm hu hB hz hk2 hS1 hcell hv hcl
    subst hu
    obtain ⟨hp1, hb1, hb2, hb3⟩ := hB
    obtain ⟨hp2, rfl, rfl⟩ := hpx E hp1
    exact vx_out (fun x hx => (hout x hx).elim) hlk hcell hv hcl (fun t2 ht2 hv2 => ⟨_, rfl, ⟨hp2, by rw [ht2, ← ht]; exact hb1, hb2, hK.moved hv2⟩, hS1.F ht2⟩) hS1.2.2 hc hs
  · intro u t H1 locs1 ht hvm hp hB hz hk2 hS1
    exact kk u H1 locs1 hp (by rw [← ht]; exact hB.1) hB.2.1 hS1 hz hk2
theorem kx_vI {index n fr lo mc1 ms1 maxL : Nat} {y : MethodName} {bytes : ByteArray} {b : Nat} {As : List Value} {post : k_Ad × k_Ct → Prop} {pX pX1 : String → Prop} (hF : CallFix p m c cc nL s args wsL_law own) (hM : kx_v l y bytes maxL none fr lo mc1 ms1 G Z ad1 ct1 (.ref b :: As) post pX1) (hk : wl_I y bytes maxL n) (hl : Cond.methodLink own index y ∈ wsL_law) (hR : fr + 1 ≤ R.frames ∧ 8 + (maxL + 11) + lo ≤ R.locals)
    (hH : k_H G ad1 ct1 H) (hN : k_N Z ad1 ct1) (hK : va_K G.1 vwCl (k_ty G) s) (hP : k_P G s) (hT : k_T G Z s s.heap) (hS : va_S Z s.heap H locs) (hn : As.length = n) (hsz : ls.size = nL) (hst : st0 = As.reverse ++ .ref b :: rest) (hro : (rest.map fun v => v.category).sum ≤ 8) (hdg : decode cc pc = .ok (.invokespecial index, 3)) (hf : cells + mc1 ≤ R.cells ∧ slots + ms1 ≤ R.slots)
    (hout : ∀ x ∈ c.exceptionTable.toList, False) (hlk : meth.locks = false) (hpx : ∀ E, pX1 E → pX E ∧ ad1 = ad ∧ ct1 = ct) (hc : cells + mc1 ≤ mc) (hs : slots + ms1 ≤ ms)
    (kk : ∀ (u : k_Ad × k_Ct) (H1 : Heap) (locs1 : List Loc), post u → k_H G u.1 u.2 H1 → k_N Z u.1 u.2 → va_S Z s.heap H1 locs1 → H.size ≤ H1.size → (∀ q : Nat, q < H.size → ¬ Z q → H1[q]? = H[q]?) → W p l e R s m args below meth c H1 locs1 (cells + mc1) (slots + ms1) (vx_MQ below Qc (k_XC G Z ad ct pX) args s mc ms Z) (F0 m (pc + 3) ls (rest))) : W p l e R s m args below meth c H locs cells slots (vx_MQ below Qc (k_XC G Z ad ct pX) args s mc ms Z) (F0 m pc ls st0) := by
  refine vx_callv (A0 := Z) (vx_runI hF hM (wl_callI hF.2.2.2.2 hk hl hR) ⟨bl_blindV k_M.bl, fun U hU hW => ⟨rfl, k_M.call hH hN hK hP hT hS hU hW⟩⟩ rfl hn hsz hst (lv_room hro) hdg hf) hS (fun q _ h => h) (fun q h => h) (fun q _ h => h) ?_ ?_
  · intro E ce q9 u t H1 locs1 ht hvm hu hB hz hk2 hS1 hcell hv hcl
    subst hu
    obtain ⟨hp1, hb1, hb2, hb3⟩ := hB
    obtain ⟨hp2, rfl, rfl⟩ := hpx E hp1
    exact vx_out (fun x hx => (hout x hx).elim) hlk hcell hv hcl (fun t2 ht2 hv2 => ⟨_, rfl, ⟨hp2, by rw [ht2, ← ht]; exact hb1, hb2, hK.moved hv2⟩, hS1.F ht2⟩) hS1.2.2 hc hs
  · intro u t H1 locs1 ht hvm hp hB hz hk2 hS1
    exact kk u H1 locs1 hp (by rw [← ht]; exact hB.1) hB.2.1 hS1 hz hk2
theorem kx_iS {index n fr lo mc1 ms1 maxL : Nat} {y : MethodName} {bytes : ByteArray} {ret : Option FieldType} {As : List Value} {post : Int32 → k_Ad × k_Ct → Prop} {pX pX1 : String → Prop} (hF : CallFix p m c cc nL s args wsL_law own) (hM : kx_i l y bytes maxL ret fr lo mc1 ms1 G Z ad1 ct1 As post pX1) (hk : wl_S y bytes maxL ret n) (hl : Cond.methodLink own index y ∈ wsL_law) (hR : fr + 1 ≤ R.frames ∧ 8 + (maxL + 11) + lo ≤ R.locals)
    (hH : k_H G ad1 ct1 H) (hN : k_N Z ad1 ct1) (hK : va_K G.1 vwCl (k_ty G) s) (hP : k_P G s) (hT : k_T G Z s s.heap) (hS : va_S Z s.heap H locs) (hn : As.length = n) (hsz : ls.size = nL) (hst : st0 = As.reverse ++ rest) (hro : (rest.map fun v => v.category).sum ≤ 8) (hdg : decode cc pc = .ok (.invokestatic index, 3)) (hf : cells + mc1 ≤ R.cells ∧ slots + ms1 ≤ R.slots)
    (hout : ∀ x ∈ c.exceptionTable.toList, False) (hlk : meth.locks = false) (hpx : ∀ E, pX1 E → pX E ∧ ad1 = ad ∧ ct1 = ct) (hc : cells + mc1 ≤ mc) (hs : slots + ms1 ≤ ms)
    (kk : ∀ (r : Int32) (u : k_Ad × k_Ct) (H1 : Heap) (locs1 : List Loc), post r u → k_H G u.1 u.2 H1 → k_N Z u.1 u.2 → va_S Z s.heap H1 locs1 → H.size ≤ H1.size → (∀ q : Nat, q < H.size → ¬ Z q → H1[q]? = H[q]?) → W p l e R s m args below meth c H1 locs1 (cells + mc1) (slots + ms1) (vx_MQ below Qc (k_XC G Z ad ct pX) args s mc ms Z) (F0 m (pc + 3) ls (.int r :: rest))) : W p l e R s m args below meth c H locs cells slots (vx_MQ below Qc (k_XC G Z ad ct pX) args s mc ms Z) (F0 m pc ls st0) := by
  refine vx_calli (A0 := Z) (vx_runS hF hM (wl_callS hF.2.2.2.2 hk hl hR) ⟨bl_blindV k_M.bl, fun U hU hW => ⟨rfl, k_M.call hH hN hK hP hT hS hU hW⟩⟩ rfl hn hsz hst (lv_room hro) hdg hf) hS (fun q _ h => h) (fun q h => h) (fun q _ h => h) ?_ ?_
  · intro E ce q9 u t H1 locs1 ht hvm hu hB hz hk2 hS1 hcell hv hcl
    subst hu
    obtain ⟨hp1, hb1, hb2, hb3⟩ := hB
    obtain ⟨hp2, rfl, rfl⟩ := hpx E hp1
    exact vx_out (fun x hx => (hout x hx).elim) hlk hcell hv hcl (fun t2 ht2 hv2 => ⟨_, rfl, ⟨hp2, by rw [ht2, ← ht]; exact hb1, hb2, hK.moved hv2⟩, hS1.F ht2⟩) hS1.2.2 hc hs
  · intro r u t H1 locs1 ht hvm hp hB hz hk2 hS1
    exact kk r u H1 locs1 hp (by rw [← ht]; exact hB.1) hB.2.1 hS1 hz hk2
theorem kx_iV {index n fr lo mc1 ms1 maxL : Nat} {C : String} {y : MethodName} {bytes : ByteArray} {ret : Option FieldType} {b : Nat} {As : List Value} {post : Int32 → k_Ad × k_Ct → Prop} {pX pX1 : String → Prop} (hF : CallFix p m c cc nL s args wsL_law own) (hM : kx_i l y bytes maxL ret fr lo mc1 ms1 G Z ad1 ct1 (.ref b :: As) post pX1) (hk : wl_V C y bytes maxL ret n) (hl : Cond.methodLink own index y ∈ wsL_law) (hR : fr + 1 ≤ R.frames ∧ 8 + (maxL + 11) + lo ≤ R.locals)
    (hH : k_H G ad1 ct1 H) (hN : k_N Z ad1 ct1) (hK : va_K G.1 vwCl (k_ty G) s) (hP : k_P G s) (hT : k_T G Z s s.heap) (hS : va_S Z s.heap H locs) (hrv : ∃ cellB : Cell, H[b]? = some cellB ∧ cellB.vm.isStatics = false ∧ s.vm.findClass C = some cellB.cls) (hn : As.length = n) (hsz : ls.size = nL) (hst : st0 = As.reverse ++ .ref b :: rest) (hro : (rest.map fun v => v.category).sum ≤ 8) (hdg : decode cc pc = .ok (.invokevirtual index, 3)) (hf : cells + mc1 ≤ R.cells ∧ slots + ms1 ≤ R.slots)
    (hout : ∀ x ∈ c.exceptionTable.toList, False) (hlk : meth.locks = false) (hpx : ∀ E, pX1 E → pX E ∧ ad1 = ad ∧ ct1 = ct) (hc : cells + mc1 ≤ mc) (hs : slots + ms1 ≤ ms)
    (kk : ∀ (r : Int32) (u : k_Ad × k_Ct) (H1 : Heap) (locs1 : List Loc), post r u → k_H G u.1 u.2 H1 → k_N Z u.1 u.2 → va_S Z s.heap H1 locs1 → H.size ≤ H1.size → (∀ q : Nat, q < H.size → ¬ Z q → H1[q]? = H[q]?) → W p l e R s m args below meth c H1 locs1 (cells + mc1) (slots + ms1) (vx_MQ below Qc (k_XC G Z ad ct pX) args s mc ms Z) (F0 m (pc + 3) ls (.int r :: rest))) : W p l e R s m args below meth c H locs cells slots (vx_MQ below Qc (k_XC G Z ad ct pX) args s mc ms Z) (F0 m pc ls st0) := by
  refine vx_calli (A0 := Z) (vx_runV hF hM (wl_callW hF.2.2.2.2 hk hl hR) ⟨bl_blindV k_M.bl, hrv, fun U hU hW => ⟨rfl, k_M.call hH hN hK hP hT hS hU hW⟩⟩ rfl hn hsz hst (lv_room hro) hdg hf) hS (fun q _ h => h) (fun q h => h) (fun q _ h => h) ?_ ?_
  · intro E ce q9 u t H1 locs1 ht hvm hu hB hz hk2 hS1 hcell hv hcl
    subst hu
    obtain ⟨hp1, hb1, hb2, hb3⟩ := hB
    obtain ⟨hp2, rfl, rfl⟩ := hpx E hp1
    exact vx_out (fun x hx => (hout x hx).elim) hlk hcell hv hcl (fun t2 ht2 hv2 => ⟨_, rfl, ⟨hp2, by rw [ht2, ← ht]; exact hb1, hb2, hK.moved hv2⟩, hS1.F ht2⟩) hS1.2.2 hc hs
  · intro r u t H1 locs1 ht hvm hp hB hz hk2 hS1
    exact kk r u H1 locs1 hp (by rw [← ht]; exact hB.1) hB.2.1 hS1 hz hk2
theorem kx_qS {index n fr lo mc1 ms1 maxL : Nat} {y : MethodName} {bytes : ByteArray} {ret : Option FieldType} {As : List Value} {post : Option Nat → k_Ad × k_Ct → Prop} {pX pX1 : String → Prop} (hF : CallFix p m c cc nL s args wsL_law own) (hM : kx_q l y bytes maxL ret fr lo mc1 ms1 G Z ad1 ct1 As post pX1) (hk : wl_S y bytes maxL ret n) (hl : Cond.methodLink own index y ∈ wsL_law) (hR : fr + 1 ≤ R.frames ∧ 8 + (maxL + 11) + lo ≤ R.locals)
    (hH : k_H G ad1 ct1 H) (hN : k_N Z ad1 ct1) (hK : va_K G.1 vwCl (k_ty G) s) (hP : k_P G s) (hT : k_T G Z s s.heap) (hS : va_S Z s.heap H locs) (hn : As.length = n) (hsz : ls.size = nL) (hst : st0 = As.reverse ++ rest) (hro : (rest.map fun v => v.category).sum ≤ 8) (hdg : decode cc pc = .ok (.invokestatic index, 3)) (hf : cells + mc1 ≤ R.cells ∧ slots + ms1 ≤ R.slots)
    (hout : ∀ x ∈ c.exceptionTable.toList, False) (hlk : meth.locks = false) (hpx : ∀ E, pX1 E → pX E ∧ ad1 = ad ∧ ct1 = ct) (hc : cells + mc1 ≤ mc) (hs : slots + ms1 ≤ ms)
    (kk : ∀ (r : Option Nat) (u : k_Ad × k_Ct) (H1 : Heap) (locs1 : List Loc), post r u → k_H G u.1 u.2 H1 → k_N Z u.1 u.2 → va_S Z s.heap H1 locs1 → H.size ≤ H1.size → (∀ q : Nat, q < H.size → ¬ Z q → H1[q]? = H[q]?) → W p l e R s m args below meth c H1 locs1 (cells + mc1) (slots + ms1) (vx_MQ below Qc (k_XC G Z ad ct pX) args s mc ms Z) (F0 m (pc + 3) ls (va_rf r :: rest))) : W p l e R s m args below meth c H locs cells slots (vx_MQ below Qc (k_XC G Z ad ct pX) args s mc ms Z) (F0 m pc ls st0) := by
  refine vx_callq (A0 := Z) (vx_runS hF hM (wl_callS hF.2.2.2.2 hk hl hR) ⟨bl_blindV k_M.bl, fun U hU hW => ⟨rfl, k_M.call hH hN hK hP hT hS hU hW⟩⟩ rfl hn hsz hst (lv_room hro) hdg hf) hS (fun q _ h => h) (fun q h => h) (fun q _ h => h) ?_ ?_
  · intro E ce q9 u t H1 locs1 ht hvm hu hB hz hk2 hS1 hcell hv hcl
    subst hu
    obtain ⟨hp1, hb1, hb2, hb3⟩ := hB
    obtain ⟨hp2, rfl, rfl⟩ := hpx E hp1
    exact vx_out (fun x hx => (hout x hx).elim) hlk hcell hv hcl (fun t2 ht2 hv2 => ⟨_, rfl, ⟨hp2, by rw [ht2, ← ht]; exact hb1, hb2, hK.moved hv2⟩, hS1.F ht2⟩) hS1.2.2 hc hs
  · intro r u t H1 locs1 ht hvm hp hB hz hk2 hS1
    exact kk r u H1 locs1 hp (by rw [← ht]; exact hB.1) hB.2.1 hS1 hz hk2
theorem kx_qV {index n fr lo mc1 ms1 maxL : Nat} {C : String} {y : MethodName} {bytes : ByteArray} {ret : Option FieldType} {b : Nat} {As : List Value} {post : Option Nat → k_Ad × k_Ct → Prop} {pX pX1 : String → Prop} (hF : CallFix p m c cc nL s args wsL_law own) (hM : kx_q l y bytes maxL ret fr lo mc1 ms1 G Z ad1 ct1 (.ref b :: As) post pX1) (hk : wl_V C y bytes maxL ret n) (hl : Cond.methodLink own index y ∈ wsL_law) (hR : fr + 1 ≤ R.frames ∧ 8 + (maxL + 11) + lo ≤ R.locals)
    (hH : k_H G ad1 ct1 H) (hN : k_N Z ad1 ct1) (hK : va_K G.1 vwCl (k_ty G) s) (hP : k_P G s) (hT : k_T G Z s s.heap) (hS : va_S Z s.heap H locs) (hrv : ∃ cellB : Cell, H[b]? = some cellB ∧ cellB.vm.isStatics = false ∧ s.vm.findClass C = some cellB.cls) (hn : As.length = n) (hsz : ls.size = nL) (hst : st0 = As.reverse ++ .ref b :: rest) (hro : (rest.map fun v => v.category).sum ≤ 8) (hdg : decode cc pc = .ok (.invokevirtual index, 3)) (hf : cells + mc1 ≤ R.cells ∧ slots + ms1 ≤ R.slots)
    (hout : ∀ x ∈ c.exceptionTable.toList, False) (hlk : meth.locks = false) (hpx : ∀ E, pX1 E → pX E ∧ ad1 = ad ∧ ct1 = ct) (hc : cells + mc1 ≤ mc) (hs : slots + ms1 ≤ ms)
    (kk : ∀ (r : Option Nat) (u : k_Ad × k_Ct) (H1 : Heap) (locs1 : List Loc), post r u → k_H G u.1 u.2 H1 → k_N Z u.1 u.2 → va_S Z s.heap H1 locs1 → H.size ≤ H1.size → (∀ q : Nat, q < H.size → ¬ Z q → H1[q]? = H[q]?) → W p l e R s m args below meth c H1 locs1 (cells + mc1) (slots + ms1) (vx_MQ below Qc (k_XC G Z ad ct pX) args s mc ms Z) (F0 m (pc + 3) ls (va_rf r :: rest))) : W p l e R s m args below meth c H locs cells slots (vx_MQ below Qc (k_XC G Z ad ct pX) args s mc ms Z) (F0 m pc ls st0) := by
  refine vx_callq (A0 := Z) (vx_runV hF hM (wl_callW hF.2.2.2.2 hk hl hR) ⟨bl_blindV k_M.bl, hrv, fun U hU hW => ⟨rfl, k_M.call hH hN hK hP hT hS hU hW⟩⟩ rfl hn hsz hst (lv_room hro) hdg hf) hS (fun q _ h => h) (fun q h => h) (fun q _ h => h) ?_ ?_
  · intro E ce q9 u t H1 locs1 ht hvm hu hB hz hk2 hS1 hcell hv hcl
    subst hu
    obtain ⟨hp1, hb1, hb2, hb3⟩ := hB
    obtain ⟨hp2, rfl, rfl⟩ := hpx E hp1
    exact vx_out (fun x hx => (hout x hx).elim) hlk hcell hv hcl (fun t2 ht2 hv2 => ⟨_, rfl, ⟨hp2, by rw [ht2, ← ht]; exact hb1, hb2, hK.moved hv2⟩, hS1.F ht2⟩) hS1.2.2 hc hs
  · intro r u t H1 locs1 ht hvm hp hB hz hk2 hS1
    exact kk r u H1 locs1 hp (by rw [← ht]; exact hB.1) hB.2.1 hS1 hz hk2
end
