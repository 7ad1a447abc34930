/-! ===== the law's state: class and reference by one table of numbers ===== -/
def ll_Z (n o : Nat) (a : Nat → Nat) (w : Nat) : Nat → Prop := fun q => n ≤ q ∧ ¬ mo_R o a q ∧ q ≠ w
def ll_0 (n : Nat) : Nat → Prop := fun q => n ≤ q
/-- G, the classes; o, a the reference's cells; w the row of one long; n the heap's size at the start -/
def ll_I (G : k_G) (o : Nat) (a : Nat → Nat) (w : Nat) (cJ : ClassId) (n : Nat) (ad : k_Ad) (ct : k_Ct) (m1 : q_Mem) (f : Nat → Int64) (H : Heap) : Prop := k_H G ad ct H ∧ k_N (ll_Z n o a w) ad ct ∧ mo_H G.1 G.2.1 o a m1 H ∧ va_at G.1 vwCl (w, .inl (cJ, 1, .inr (.inl f))) H
/-- what doesn't change -/
def ll_F (l : Launch) (G : k_G) (o : Nat) (a : Nat → Nat) (w : Nat) (cJ : ClassId) (s : State) : Prop := l.stackTraces = false ∧ va_K G.1 vwCl (k_ty G) s ∧ k_P G s ∧ va_K G.1 vwCl [(cJ, .long)] s ∧ lo_N s ∧ k_T G (ll_0 s.heap.size) s s.heap ∧ mo_D o a ∧ (∀ q, mo_R o a q → s.heap.size ≤ q ∧ q ≠ w) ∧ s.heap.size ≤ w
theorem va_Z.nar {C n d : String} {v : Value} {A B : Nat → Prop} {U : State} {H : Heap} (h : va_Z C n d v A U H) (hAB : ∀ q, B q → A q) : va_Z C n d v B U H := h.narrow hAB
theorem k_T.nar {G : k_G} {A B : Nat → Prop} {U : State} {H : Heap} (h : k_T G A U H) (hAB : ∀ q, B q → A q) (hB : ∀ q, H.size ≤ q → B q) : k_T G B U H :=
  ⟨h.1.narrow hAB, h.2.1.narrow hAB, ⟨h.2.2.1.1.narrow hAB, h.2.2.1.2.narrow hAB⟩, ⟨h.2.2.2.1.1.narrow hAB, h.2.2.2.1.2.narrow hAB⟩, hB⟩
section
variable {p : Program} {l : Launch} {e : Env} {R : Room} {s : State} {m : MethodId} {args : Array Value} {below : List Frame} {meth : Method} {c : Code} {H : Heap} {locs : List Loc} {cells slots : Nat} {Q : State → Prop}
variable {cc : ByteArray} {pc nL : Nat} {ls : Array Slot} {rest st0 : List Value} {own : String} {G : k_G} {ad : k_Ad} {ct : k_Ct} {o w : Nat} {a : Nat → Nat} {cJ : ClassId} {f : Nat → Int64} {mm m1 : q_Mem}
theorem ll_I.obj (h : ll_I G o a w cJ s.heap.size ad ct m1 f H) : ∀ q, mo_R o a q → q < H.size := fun q hq => by
  rcases hq with rfl | ⟨k, hk, rfl⟩
  · exact h.2.2.1.1.lt
  · exact (h.2.2.1.2 k hk).lt
theorem ll_I.new (h : ll_I G o a w cJ s.heap.size ad ct m1 f H) (hz : s.heap.size ≤ H.size) : ∀ q, H.size ≤ q → ll_Z s.heap.size o a w q := fun q hq => ⟨Nat.le_trans hz hq, fun z => absurd (h.obj q z) (Nat.not_lt.mpr hq), fun z => by
  have h1 : w < H.size := h.2.2.2.lt
  omega⟩
theorem ll_F.T (hF : ll_F l G o a w cJ s) (hI : ll_I G o a w cJ s.heap.size ad ct m1 f H) (hS : va_S (ll_0 s.heap.size) s.heap H locs) : k_T G (ll_Z s.heap.size o a w) s H :=
  (hF.2.2.2.2.2.1.kept hS.1 hS.2.1).nar (fun q h => h.1) (hI.new hS.1)
/-- behind a change of the class's cells alone -/
theorem ll_I.cls {ad1 : k_Ad} {ct1 : k_Ct} {f1 : Nat → Int64} {H1 : Heap} (hI : ll_I G o a w cJ s.heap.size ad ct m1 f H) (hF : ll_F l G o a w cJ s) (hM : k_H G ad1 ct1 H1) (hN : k_N (ll_Z s.heap.size o a w) ad1 ct1) (hw : va_at G.1 vwCl (w, .inl (cJ, 1, .inr (.inl f1))) H1) (hk : ∀ q : Nat, q < H.size → ¬ lo_A (ll_Z s.heap.size o a w) w q → H1[q]? = H[q]?) : ll_I G o a w cJ s.heap.size ad1 ct1 m1 f1 H1 :=
  ⟨hM, hN, hI.2.2.1.kept (fun q hq => hk q (hI.obj q hq) (fun z => by
    rcases z with z | z
    · exact z.2.1 hq
    · exact (hF.2.2.2.2.2.2.2.1 q hq).2 z)), hw⟩
/-- behind a change of the reference's cells alone -/
theorem ll_I.ref {H1 : Heap} {m2 : q_Mem} (hI : ll_I G o a w cJ s.heap.size ad ct m1 f H) (hF : ll_F l G o a w cJ s) (hM : mo_H G.1 G.2.1 o a m2 H1) (hk : ∀ q : Nat, q < H.size → ¬ mo_R o a q → H1[q]? = H[q]?) : ll_I G o a w cJ s.heap.size ad ct m2 f H1 :=
  ⟨fun k i e0 he => (hI.1 k i e0 he).kept (hk _ (hI.1 k i e0 he).lt (hI.2.1.2 k i e0 he).2.1), hI.2.1, hM, hI.2.2.2.kept (hk _ hI.2.2.2.lt (fun z => (hF.2.2.2.2.2.2.2.1 w z).2 rfl))⟩
/-- a call of one of the law's helpers -/
def wl_SW (y : MethodName) (bytes : ByteArray) (maxL : Nat) (hh : List (Nat × Nat × Nat × Nat)) (n : Nat) : Prop :=
  Cond.codeWith y bytes maxL (some .int) hh ∈ wsL_law ∧ Cond.static y ∈ wsL_law ∧ Cond.initialized y.cls ∈ wsL_law ∧ (y.cls ≠ "java/lang/invoke/MethodHandle" ∧ y.cls ≠ "java/lang/invoke/VarHandle") ∧ (parseMethodDescriptor y.desc).map (fun d => d.parameters.length) = some n
theorem wl_callSW {index n fr lo mc ms maxL : Nat} {y : MethodName} {bytes : ByteArray} {hh : List (Nat × Nat × Nat × Nat)} (hw : ∀ w ∈ wsL_law, w.before args s = true) (h : wl_SW y bytes maxL hh n) (hl : Cond.methodLink own index y ∈ wsL_law) (hR : fr + 1 ≤ R.frames ∧ 8 + (maxL + 11) + lo ≤ R.locals) :
    vx_CSW R s args own index y bytes maxL (some .int) hh (Cond.codeWith y bytes maxL (some .int) hh :: wsL_law) { frames := fr, cells := mc, slots := ms, locals := lo } mc ms n := by
  obtain ⟨h1, h2, h4, h5, h6⟩ := h
  refine ⟨⟨rfl, rfl, hR.1, hR.2, ?_, List.mem_cons_self⟩, hw _ h1, hw _ h4, h5, fun sig h => ?_, hw _ hl, hw _ h2⟩
  · intro w h
    rcases List.mem_cons.mp h with h | h
    · rw [h]; exact wl_pay hw _ h1
    · exact wl_pay hw _ h
  · rw [h] at h6
    exact (Option.some.inj h6).symm
theorem ll_L {index n fr lo mc ms maxL : Nat} {y : MethodName} {bytes : ByteArray} {hh : List (Nat × Nat × Nat × Nat)} {As : List Value} {post : Int32 → (k_Ad × k_Ct) × (Nat → Int64) → Prop} (hF : CallFix p m c cc nL s args wsL_law own) (hM : lo_C l y bytes maxL hh fr lo mc ms G (ll_Z s.heap.size o a w) w cJ ad ct f As post) (hk : wl_SW y bytes maxL hh n) (hl : Cond.methodLink own index y ∈ wsL_law) (hR : fr + 1 ≤ R.frames ∧ 8 + (maxL + 11) + lo ≤ R.locals)
    (hX : ll_F l G o a w cJ s) (hI : ll_I G o a w cJ s.heap.size ad ct m1 f H) (hS : va_S (ll_0 s.heap.size) s.heap H locs) (hn : As.length = n) (hsz : ls.size = nL) (hst : st0 = As.reverse ++ rest) (hro : (rest.map fun v => v.category).sum ≤ 8) (hdg : decode cc pc = .ok (.invokestatic index, 3)) (hf : cells + mc ≤ R.cells ∧ slots + ms ≤ R.slots)
    (kk : ∀ (r : Int32) (ad1 : k_Ad) (ct1 : k_Ct) (f1 : Nat → Int64) (H1 : Heap) (locs1 : List Loc), post r ((ad1, ct1), f1) → ll_I G o a w cJ s.heap.size ad1 ct1 m1 f1 H1 → va_S (ll_0 s.heap.size) s.heap H1 locs1 → W p l e R s m args below meth c H1 locs1 (cells + mc) (slots + ms) Q (F0 m (pc + 3) ls (.int r :: rest))) : W p l e R s m args below meth c H locs cells slots Q (F0 m pc ls st0) := by
  have hA : ∀ q, lo_A (ll_Z s.heap.size o a w) w q → ll_0 s.heap.size q := fun q h => by
    rcases h with h | h
    · exact h.1
    · rw [h]; exact hX.2.2.2.2.2.2.2.2
  refine vx_calli (A0 := ll_0 s.heap.size) (vx_runSX hF hM (wl_callSW hF.2.2.2.2 hk hl hR) ⟨bl_blindV lo_M.bl, fun U hU hW => ⟨rfl, ⟨⟨by rw [hU]; exact hI.1, hI.2.1⟩, hX.2.1.moved hW.alike, hX.2.2.1.warm hW, by rw [hU]; exact (hX.T hI hS).moved hW.alike⟩, ⟨by rw [hU]; exact hI.2.2.2, fun z => z.2.2 rfl⟩, hX.2.2.2.1.moved hW.alike, hX.2.2.2.2.1.moved hW.alike⟩⟩ rfl hn hsz hst (lv_room hro) hdg hf) hS (fun q _ h => hA q h) hA (fun q _ h => h.1) ?_ ?_
  · intro E ce q9 u t H1 locs1 ht hvm hu
    exact hu.elim
  · intro r u t H1 locs1 ht hvm hp hB1 hz hk2 hS1
    obtain ⟨⟨ad1, ct1⟩, f1⟩ := u
    exact kk r ad1 ct1 f1 H1 locs1 hp (hI.cls hX (by rw [← ht]; exact hB1.1.1) hB1.1.2.1 (by rw [← ht]; exact hB1.2) hk2) hS1
theorem ll_R {index n fr lo maxL : Nat} {y : MethodName} {bytes : ByteArray} {ret : Option FieldType} {As : List Value} {post : Int32 → q_Mem → Prop} (hF : CallFix p m c cc nL s args wsL_law own) (hM : mo_Ci l y bytes maxL ret fr lo G.1 G.2.1 o a m1 As post) (hk : wl_V RX5 y bytes maxL ret n) (hl : Cond.methodLink own index y ∈ wsL_law) (hR : fr + 1 ≤ R.frames ∧ 8 + (maxL + 11) + lo ≤ R.locals)
    (hX : ll_F l G o a w cJ s) (hI : ll_I G o a w cJ s.heap.size ad ct m1 f H) (hS : va_S (ll_0 s.heap.size) s.heap H locs) (hn : As.length = n) (hsz : ls.size = nL) (hst : st0 = As.reverse ++ .ref o :: rest) (hro : (rest.map fun v => v.category).sum ≤ 8) (hdg : decode cc pc = .ok (.invokevirtual index, 3)) (hf : cells ≤ R.cells ∧ slots ≤ R.slots)
    (kk : ∀ (r : Int32) (m2 : q_Mem) (H1 : Heap) (locs1 : List Loc), post r m2 → ll_I G o a w cJ s.heap.size ad ct m2 f H1 → va_S (ll_0 s.heap.size) s.heap H1 locs1 → W p l e R s m args below meth c H1 locs1 cells slots Q (F0 m (pc + 3) ls (.int r :: rest))) : W p l e R s m args below meth c H locs cells slots Q (F0 m pc ls st0) :=
  mo_iV (A := ll_0 s.heap.size) hF hM hk hl hR (hX.2.1.sub [0] rfl) hI.2.2.1 hS (fun q h => (hX.2.2.2.2.2.2.2.1 q h).1) hn hsz hst hro hdg hf fun r m2 H1 locs1 hp h1 hS1 hz hk2 => kk r m2 H1 locs1 hp (hI.ref hX h1 hk2) hS1
/-- which exception the reference says -/
theorem ll_T {index : Nat} (hF : CallFix p m c cc nL s args wsL_law own) (hl : Cond.methodLink own index yX5_thrown ∈ wsL_law) (hR : 1 ≤ R.frames ∧ 20 ≤ R.locals) (hX : ll_F l G o a w cJ s) (hI : ll_I G o a w cJ s.heap.size ad ct m1 f H) (hsz : ls.size = nL) (hro : (rest.map fun v => v.category).sum ≤ 8) (hdg : decode cc pc = .ok (.invokevirtual index, 3)) (hf : cells ≤ R.cells ∧ slots ≤ R.slots)
    (kk : W p l e R s m args below meth c H locs cells slots Q (F0 m (pc + 3) ls (.int (m1 19 0) :: rest))) : W p l e R s m args below meth c H locs cells slots Q (F0 m pc ls (.ref o :: rest)) :=
  rc_V (As := []) hF (m_X5_thrown l G.1 G.2.1 o a m1) ke_X5_thrown hl ⟨hR.1, by omega⟩ mo_blind (fun U hU hv => ⟨by rw [hU]; exact hI.2.2.1, (hX.2.1.sub [0] rfl).moved hv⟩) (mo_recv (hX.2.1.sub [0] rfl) hI.2.2.1) rfl hsz rfl hro hdg hf (fun r h => by rw [h]; exact kk)
/-- the class, asked by a method that only reads -/
theorem ll_V {index n fr lo maxL : Nat} {C : String} {y : MethodName} {bytes : ByteArray} {ret : Option FieldType} {b : Nat} {As : List Value} {post : Int32 → Prop} (hF : CallFix p m c cc nL s args wsL_law own) (hM : rc_C l y bytes maxL ret fr lo (.ref b :: As) (k_R G (ll_Z s.heap.size o a w) ad mm) post) (hk : wl_V C y bytes maxL ret n) (hl : Cond.methodLink own index y ∈ wsL_law) (hR : fr + 1 ≤ R.frames ∧ 8 + (maxL + 11) + lo ≤ R.locals)
    (hX : ll_F l G o a w cJ s) (hI : ll_I G o a w cJ s.heap.size ad (k_C G ad mm) m1 f H) (hS : va_S (ll_0 s.heap.size) s.heap H locs) (hrv : ∃ cellB : Cell, H[b]? = some cellB ∧ cellB.vm.isStatics = false ∧ s.vm.findClass C = some cellB.cls) (hn : As.length = n) (hsz : ls.size = nL) (hst : st0 = As.reverse ++ .ref b :: rest) (hro : (rest.map fun v => v.category).sum ≤ 8) (hdg : decode cc pc = .ok (.invokevirtual index, 3)) (hf : cells ≤ R.cells ∧ slots ≤ R.slots)
    (kk : ∀ r : Int32, post r → W p l e R s m args below meth c H locs cells slots Q (F0 m (pc + 3) ls (.int r :: rest))) : W p l e R s m args below meth c H locs cells slots Q (F0 m pc ls st0) :=
  vp_callSi (W.runV hF hM (wl_callW hF.2.2.2.2 hk hl hR) ⟨bl_blindV k_R.bl, hrv, fun U hU hW => ⟨rfl, ⟨by rw [hU]; exact hI.1, hX.2.1.moved hW.alike, hX.2.2.1.warm hW, by rw [hU]; exact (hX.T hI hS).moved hW.alike⟩⟩⟩ rfl hn hsz hst (lv_room hro) hdg ⟨hf.1, hf.2⟩) kk
/-- .. and by one that changes its cells and never throws -/
theorem ll_K {index n fr lo mc ms maxL : Nat} {C : String} {y : MethodName} {bytes : ByteArray} {ret : Option FieldType} {b : Nat} {As : List Value} {post : Int32 → k_Ad × k_Ct → Prop} (hF : CallFix p m c cc nL s args wsL_law own) (hM : kx_i l y bytes maxL ret fr lo mc ms G (ll_Z s.heap.size o a w) ad ct (.ref b :: As) post (fun _ => False)) (hk : wl_V C y bytes maxL ret n) (hl : Cond.methodLink own index y ∈ wsL_law) (hR : fr + 1 ≤ R.frames ∧ 8 + (maxL + 11) + lo ≤ R.locals)
    (hX : ll_F l G o a w cJ s) (hI : ll_I G o a w cJ s.heap.size ad ct m1 f H) (hS : va_S (ll_0 s.heap.size) s.heap H locs) (hrv : ∃ cellB : Cell, H[b]? = some cellB ∧ cellB.vm.isStatics = false ∧ s.vm.findClass C = some cellB.cls) (hn : As.length = n) (hsz : ls.size = nL) (hst : st0 = As.reverse ++ .ref b :: rest) (hro : (rest.map fun v => v.category).sum ≤ 8) (hdg : decode cc pc = .ok (.invokevirtual index, 3)) (hf : cells + mc ≤ R.cells ∧ slots + ms ≤ R.slots)
    (kk : ∀ (r : Int32) (ad1 : k_Ad) (ct1 : k_Ct) (H1 : Heap) (locs1 : List Loc), post r (ad1, ct1) → ll_I G o a w cJ s.heap.size ad1 ct1 m1 f H1 → va_S (ll_0 s.heap.size) s.heap H1 locs1 → W p l e R s m args below meth c H1 locs1 (cells + mc) (slots + ms) Q (F0 m (pc + 3) ls (.int r :: rest))) : W p l e R s m args below meth c H locs cells slots Q (F0 m pc ls st0) := by
  have hA : ∀ q, ll_Z s.heap.size o a w q → ll_0 s.heap.size q := fun q h => h.1
  refine vx_calli (A0 := ll_0 s.heap.size) (vx_runV hF hM (wl_callW hF.2.2.2.2 hk hl hR) ⟨bl_blindV k_M.bl, hrv, fun U hU hW => ⟨rfl, ⟨⟨by rw [hU]; exact hI.1, hI.2.1⟩, hX.2.1.moved hW.alike, hX.2.2.1.warm hW, by rw [hU]; exact (hX.T hI hS).moved hW.alike⟩⟩⟩ rfl hn hsz hst (lv_room hro) hdg hf) hS (fun q _ h => hA q h) hA (fun q _ h => hA q h) ?_ ?_
  · intro E ce q9 u t H1 locs1 ht hvm hu hB
    exact hB.1.elim
  · intro r u t H1 locs1 ht hvm hp hB1 hz hk2 hS1
    obtain ⟨ad1, ct1⟩ := u
    have hk3 : ∀ q : Nat, q < H.size → ¬ lo_A (ll_Z s.heap.size o a w) w q → H1[q]? = H[q]? := fun q h1 h2 => hk2 q h1 (fun z => h2 (Or.inl z))
    exact kk r ad1 ct1 H1 locs1 hp (hI.cls hX (by rw [← ht]; exact hB1.1) hB1.2.1 (hI.2.2.2.kept (hk2 _ hI.2.2.2.lt (fun z => z.2.2 rfl))) hk3) hS1
end
theorem kC_x {G : k_G} {ad : k_Ad} {A B : q_Mem} (h : eqx A B) : k_C G ad A = k_C G ad B := by
  have e : B = fun k i => if k = 17 then B 17 i else if k = 18 then B 18 i else A k i := by
    funext k i
    by_cases h1 : k = 17
    · subst h1; rw [if_pos rfl]
    · rw [if_neg h1]
      by_cases h2 : k = 18
      · subst h2; rw [if_pos rfl]
      · rw [if_neg h2, h k h1 h2]
  rw [e]
  rfl
theorem sgt_of {mm : q_Mem} {x : Int32} (hI : Inv mm) (hN : ∀ w, w < 40 → sp_N mm w) : sp_sgt mm x = sp_ofway 17 mm x := by
  unfold sp_sgt sp_ofway
  by_cases h : sp_wy mm x
  · rw [if_pos h, if_pos h]
    obtain ⟨w, hw, rfl⟩ := nt_wy hI h
    have := hI.W40
    rw [nt_c (by omega), sn_cnt (hN w (by omega))]
  · rw [if_neg h, if_neg h]
