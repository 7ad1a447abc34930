/-! ===== cells made ===== -/
def k_ad (ad : k_Ad) (k i q : Nat) : k_Ad := fun a b => if a = k ∧ b = i then q else ad a b
theorem k_ad_s {ad : k_Ad} {k i q : Nat} : k_ad ad k i q k i = q := if_pos ⟨rfl, rfl⟩
theorem k_ad_o {ad : k_Ad} {k i q a b : Nat} (h : ¬ (a = k ∧ b = i)) : k_ad ad k i q a b = ad a b := if_neg h
theorem k_addH {G : k_G} {ad : k_Ad} {ct : k_Ct} {H H1 : Heap} {k i q : Nat} {e1 : va_E} (hM : k_H G ad ct H) (hfree : ct k i = none) (h1 : va_at G.1 vwCl (q, e1) H1) (o1 : ∀ q : Nat, q < H.size → H1[q]? = H[q]?) : k_H G (k_ad ad k i q) (k_up ct k i e1) H1 := by
  intro a b e h
  by_cases z : a = k ∧ b = i
  · obtain ⟨rfl, rfl⟩ := z
    rw [k_up_s] at h
    cases h
    rw [k_ad_s]; exact h1
  · rw [k_up_o z] at h
    rw [k_ad_o z]
    exact (hM a b e h).kept (o1 _ (hM a b e h).lt)
theorem k_addN {G : k_G} {Z : Nat → Prop} {ad : k_Ad} {ct : k_Ct} {H : Heap} {k i q : Nat} {e1 : va_E} (hM : k_H G ad ct H) (hN : k_N Z ad ct) (hq : H.size ≤ q) (hZ : Z q) : k_N Z (k_ad ad k i q) (k_up ct k i e1) := by
  refine ⟨fun a b c d e e2 h1 h2 h3 => ?_, fun a b e h => ?_⟩
  · by_cases z : a = k ∧ b = i
    · by_cases y : c = k ∧ d = i
      · exact ⟨z.1.trans y.1.symm, z.2.trans y.2.symm⟩
      · rw [k_up_o y] at h2
        have := (hM c d e2 h2).lt
        rw [z.1, z.2, k_ad_s, k_ad_o y] at h3
        have h4 : ad c d < H.size := this
        omega
    · rw [k_up_o z] at h1
      by_cases y : c = k ∧ d = i
      · have := (hM a b e h1).lt
        rw [y.1, y.2, k_ad_s, k_ad_o z] at h3
        have h4 : ad a b < H.size := this
        omega
      · rw [k_up_o y] at h2
        rw [k_ad_o z, k_ad_o y] at h3
        exact hN.1 a b c d e e2 h1 h2 h3
  · by_cases z : a = k ∧ b = i
    · rw [z.1, z.2, k_ad_s]; exact hZ
    · rw [k_up_o z] at h
      rw [k_ad_o z]; exact hN.2 a b e h
section
variable {p : Program} {l : Launch} {e : Env} {R : Room} {s : State} {m : MethodId} {args : Array Value} {below : List Frame} {meth : Method} {c : Code} {H : Heap} {locs : List Loc} {cells slots : Nat} {Q : State → Prop}
variable {cc : ByteArray} {pc nL : Nat} {ls : Array Slot} {rest st0 : List Value} {H0 : Heap} {own : String} {G : k_G} {Z : Nat → Prop} {ad : k_Ad} {ct : k_Ct}
theorem va_S.new {A : Nat → Prop} {H1 : Heap} (hS : va_S A H0 H locs) (z1 : H1.size = H.size + 1) (o1 : ∀ q : Nat, q < H.size → H1[q]? = H[q]?) : va_S A H0 H1 locs := ⟨Nat.le_trans hS.1 (by omega), fun x h1 h2 => (o1 x (Nat.lt_of_lt_of_le h1 hS.1)).trans (hS.2.1 x h1 h2), hS.2.2⟩
theorem k_new (hF : CallFix p m c cc nL s args wsL_law own) (hK : va_K G.1 vwCl (k_ty G) s) (hM : k_H G ad ct H) (hN : k_N Z ad ct) (hS : va_S Z H0 H locs) (hZ : ∀ q, H0.size ≤ q → Z q) (K i : Nat) (hfree : ct K i = none) {ci N idx : Nat} {C : String} {T : u_T} (hc : vwCl[ci]? = some (C, T, N)) (hin : ∀ w ∈ u_ws C T N, w ∈ wsL_law) (ty : Nat → FieldType) (hty : ∀ k, k < N → parseFieldDescriptor (T k).2.2.1 = some (ty k)) (hcl : Cond.classLink own idx C ∈ wsL_law) (hinst : Cond.instantiable C N ∈ wsL_law) (hini : Cond.initialized C ∈ wsL_law)
    {fs : List Value} (hfs : ∀ j, j < N → defaultValue (ty j) = vp_V fs j) (hcells : cells + 1 ≤ R.cells) (hslots : slots + N ≤ R.slots) (hdg : decode cc pc = .ok (.new idx, 3))
    (kk : ∀ (q : Nat) (H1 : Heap), k_H G (k_ad ad K i q) (k_up ct K i (.inr (ci, fs))) H1 → k_N Z (k_ad ad K i q) (k_up ct K i (.inr (ci, fs))) → va_S Z H0 H1 locs → W p l e R s m args below meth c H1 locs (cells + 1) (slots + N) Q (F0 m (pc + 3) ls (.ref q :: rest))) : W p l e R s m args below meth c H locs cells slots Q (F0 m pc ls rest) := by
  have hKn := hK.1 ci _ hc
  refine W.newcK hF.1 hF.2.1 hF.2.2.2.1 (hF.2.2.2.2 _ hcl) (hF.2.2.2.2 _ hinst) (hF.2.2.2.2 _ hini) rfl hdg hcells hslots hKn.2.1 rfl fun H1 kC hkC e1 z1 o1 => ?_
  refine kk H.size H1 (k_addH hM hfree ?_ o1) (k_addN hM hN (Nat.le_refl _) (hZ _ hS.1)) (hS.new z1 o1)
  exact ⟨_, hc, (u_born ty hF.2.2.2.2 hin hKn hkC e1 hty).to hfs⟩
theorem k_newa (hF : CallFix p m c cc nL s args wsL_law own) (hK : va_K G.1 vwCl (k_ty G) s) (hM : k_H G ad ct H) (hN : k_N Z ad ct) (hS : va_S Z H0 H locs) (hZ : ∀ q, H0.size ≤ q → Z q) (K i : Nat) (hfree : ct K i = none) {n : Int32} (n0 : Nat) (hn : ¬ n < 0) (hn0 : n.toNatClampNeg = n0) (hb4 : n0 * componentBytes (newarray.typeOf ArrayType.int) ≤ 536870912) (hcells : cells + 1 ≤ R.cells) (hslots : slots + n0 ≤ R.slots) (hdg : decode cc pc = .ok (.newarray .int, 2))
    (kk : ∀ (q : Nat) (H1 : Heap), k_H G (k_ad ad K i q) (k_up ct K i (.inl (G.2.1, n0, .inl (fun _ => 0)))) H1 → k_N Z (k_ad ad K i q) (k_up ct K i (.inl (G.2.1, n0, .inl (fun _ => 0)))) → va_S Z H0 H1 locs → W p l e R s m args below meth c H1 locs (cells + 1) (slots + n0) Q (F0 m (pc + 2) ls (.ref q :: rest))) : W p l e R s m args below meth c H locs cells slots Q (F0 m pc ls (.int n :: rest)) := by
  refine va_newaK (atype := .int) hF.1 hF.2.1 (hF.2.2.2.2 _ wd_x2) rfl hdg rfl hn hn0 hb4 hcells hslots rfl fun H1 cA e1 z1 o1 hAr hNm => ?_
  have hcA : cA = G.2.1 := Option.some.inj (hNm.symm.trans (hK.2 0 _ rfl).2)
  subst hcA
  refine kk H.size H1 (k_addH hM hfree ?_ o1) (k_addN hM hN (Nat.le_refl _) (hZ _ hS.1)) (hS.new z1 o1)
  show H1[H.size]? = some (vp_cell _ _)
  rw [vp_cell_i]
  exact e1
theorem k_newq (hF : CallFix p m c cc nL s args wsL_law own) (hK : va_K G.1 vwCl (k_ty G) s) (hM : k_H G ad ct H) (hN : k_N Z ad ct) (hS : va_S Z H0 H locs) (hZ : ∀ q, H0.size ≤ q → Z q) (K i : Nat) (hfree : ct K i = none) {idx t0 : Nat} {C : String} {cA : ClassId} (ht : (k_ty G)[t0]? = some (cA, .object C)) (hcl : Cond.classLink own idx C ∈ wsL_law) (hov : va_AO C s) {n : Int32} (n0 : Nat) (hn : ¬ n < 0) (hn0 : n.toNatClampNeg = n0) (hb4 : n0 * 4 ≤ 536870912) (hcells : cells + 1 ≤ R.cells) (hslots : slots + n0 ≤ R.slots) (hdg : decode cc pc = .ok (.anewarray idx, 3))
    (kk : ∀ (q : Nat) (H1 : Heap), k_H G (k_ad ad K i q) (k_up ct K i (.inl (cA, n0, .inr (.inr (.inr (.inr (fun _ => none))))))) H1 → k_N Z (k_ad ad K i q) (k_up ct K i (.inl (cA, n0, .inr (.inr (.inr (.inr (fun _ => none))))))) → va_S Z H0 H1 locs → W p l e R s m args below meth c H1 locs (cells + 1) (slots + n0) Q (F0 m (pc + 3) ls (.ref q :: rest))) : W p l e R s m args below meth c H locs cells slots Q (F0 m pc ls (.int n :: rest)) := by
  subst hn0
  refine W.anew hF.1 hF.2.1 hF.2.2.2.1 (hF.2.2.2.2 _ hcl) (va_AO.use hov) rfl hdg rfl hn hb4 hcells hslots fun cB kA comp f1 f2 f3 f4 => ?_
  obtain ⟨-, -, -, -, -, g4⟩ := (hK.2 t0 _ ht).2
  have hcB : cB = cA := Option.some.inj (f1.symm.trans g4)
  subst hcB
  generalize hH1 : H.push ({ cls := cB, slots := Array.replicate n.toNatClampNeg .null, vm := .none } : Cell) = H1
  have z1 : H1.size = H.size + 1 := by rw [← hH1, Array.size_push]
  have e1 : H1[H.size]? = some (arrV cB n.toNatClampNeg (fun _ => .null)) := by rw [← hH1, Array.getElem?_push_size, ← arrV_new]
  have o1 : ∀ q : Nat, q < H.size → H1[q]? = H[q]? := fun q hq => by rw [← hH1, Array.getElem?_push, if_neg (Nat.ne_of_lt hq)]
  refine kk H.size H1 (k_addH hM hfree ?_ o1) (k_addN hM hN (Nat.le_refl _) (hZ _ hS.1)) (hS.new z1 o1)
  show H1[H.size]? = some (vp_cell _ _)
  rw [vp_cell_q]
  exact e1
/-- a final field, in its class's constructor -/
theorem k_putF (hF : CallFix p m c cc nL s args wsL_law own) (hK : va_K G.1 vwCl (k_ty G) s) (hM : k_H G ad ct H) (hN : k_N Z ad ct) (hS : va_S Z H0 H locs) {idx ci N : Nat} {C ref : String} {T : u_T} {fs : List Value} (K i : Nat) (he : ct K i = some (.inr (ci, fs))) (hc : vwCl[ci]? = some (C, T, N)) (hin : ∀ w ∈ u_ws C T N, w ∈ wsL_law) (ty0 : Nat → FieldType) (hty : ∀ k, k < N → parseFieldDescriptor (T k).2.2.1 = some (ty0 k)) (hnm : ∀ a, a < N → ∀ b, b < N → a ≠ b → (T a).2.1 ≠ (T b).2.1)
    (k : Nat) (hk : k < N) (hT : (T k).1 = ref) (hlink : Cond.fieldLink own idx ref (T k).2.1 (T k).2.2.1 ∈ wsL_law) (hfin : (T k).2.2.2 = true) (hin2 : meth.name = "<init>") (hdecl : (T k).1 = own) {v : Value} (hn : narrow (ty0 k) v = v) (hfit : fits (ty0 k) v = true) (hl : k < fs.length) (hdg : decode cc pc = .ok (.putfield idx, 3))
    (kk : ∀ (H1 : Heap) (locs1 : List Loc), k_H G ad (k_up ct K i (.inr (ci, fs.set k v))) H1 → k_N Z ad (k_up ct K i (.inr (ci, fs.set k v))) → va_S Z H0 H1 locs1 → W p l e R s m args below meth c H1 locs1 cells slots Q (F0 m (pc + 3) ls rest)) : W p l e R s m args below meth c H locs cells slots Q (F0 m pc ls (v :: .ref (ad K i) :: rest)) := by
  obtain ⟨hx, hb, -, hown, hw⟩ := hF
  have hap := va_apart (own := own) hw hin ty0 hty hnm hK hc
  obtain ⟨r, h1, cell, q1, q2, q3, q4⟩ := hM K i _ he
  have hr : r = (C, T, N) := Option.some.inj (h1.symm.trans hc)
  subst hr
  obtain ⟨hSl, hfc, kC, hkC, hkind⟩ := hK.1 ci _ hc
  obtain ⟨cf, kf, fi, f, hi, hsl⟩ := hSl k hk
  have hlay := hw _ (hin _ (u_in_lay hk))
  unfold u_lay at hlay
  rw [if_pos hfin] at hlay
  have hst := (u_facts hfc hkC (u_lays hw hin hk) hi).1
  have hcf : m.cls = cf := by
    obtain ⟨_, _, c', _, _, _, -, -, hf', -, -, -, hown2, -⟩ := Cond.laysFinal_spec hlay
    have e1 : c' = cf := by have := hi.symm.trans hf'; simp at this; exact this.1.symm
    rw [hdecl] at hown2
    rw [← e1]; exact Option.some.inj (hown.symm.trans hown2)
  have h6 := u_fits hfc hkC hkind (Or.inr hlay) hi (hty k hk) hn hfit
  refine W.putFinK hx hb hown (hw _ hlink) (by rw [← hT]; exact hi) hst hcf hin2 (by rw [q2]; exact h6) q1 q3 (by rw [hsl]; exact k2_hasslot (q4 k hk)) rfl rfl hdg fun H' e1 e2 e3 => ?_
  rw [hsl] at e1 ⊢
  have hv : va_at G.1 vwCl (ad K i, .inr (ci, fs.set k v)) H' := ⟨_, hc, t_OB.to (V := updV (vp_V fs) k v) ⟨_, e1, q2, q3, t_set q4 hap hk v⟩ (fun j _ => vp_updV_set hl v j)⟩
  exact kk H' _ (k_upd hM hN he hv e3) (k_updN hN he) (hS.put e2 e3 (hN.2 K i _ he))
theorem g_oini (hF : CallFix p m c cc nL s args wsL_law own) {idx q : Nat} (hlink : Cond.methodLink own idx objectInit ∈ wsL_law) (hsz : ls.size = nL) (hd : decode cc pc = .ok (.invokespecial idx, 3)) (hf : 1 ≤ R.frames) (hl : (rest.map fun v => v.category).sum + 12 ≤ R.locals)
    (kk : W p l e R s m args below meth c H locs cells slots Q (F0 m (pc + 3) ls rest)) : W p l e R s m args below meth c H locs cells slots Q (F0 m pc ls (.ref q :: rest)) :=
  W.objInit hF.1 hF.2.1 hF.2.2.2.1 (hF.2.2.2.2 _ hlink) (hF.2.2.2.2 _ wd_x0) (hF.2.2.2.2 _ wd_x1) rfl (hsz.trans hF.2.2.1.symm) rfl hd hf (by show 2 * 0 + _ + 12 ≤ _; omega) kk
end
/-- as kx_of, for a constructor -/
theorem kx_ofI {l : Launch} {y : MethodName} {b : ByteArray} {nL : Nat} {r : Option FieldType} {fr lo mc ms : Nat} {G : k_G} {Z : Nat → Prop} {ad : k_Ad} {ct : k_Ct} {As : List Value} {Qc : Array Value → State → Outcome → State → Prop} {XC : String → State → State → Prop} (hy : plainName y.cls = true) (hn : (lg_sl As).length ≤ nL)
    (body : ∀ (p : Program) (e : Env) (s : State) (m : MethodId) (args : Array Value) (below : List Frame) (meth : Method) (c : Code), p.tables.exec = Jvm.exec → c.code = b → meth.sig.returnType = r → CallFix p m c b nL s args wsL_law y.cls → meth.locks = false → (∀ x ∈ c.exceptionTable.toList, False) → meth.name = y.name → k_M G Z ad ct s → ∀ ls : Array Slot, lv_has ls nL (lv_args 0 As) →
      W p l e { frames := fr, cells := mc, slots := ms, locals := lo } s m args below meth c s.heap [] 0 0 (vx_MQ below Qc XC args s mc ms Z) (F0 m 0 ls [])) : vx_Met l y (Cond.code y b nL r :: wsL_law) { frames := fr, cells := mc, slots := ms, locals := lo } (va_Pc As (k_M G Z ad ct)) Qc XC mc ms Z := by
  refine vx_ofW (cc := b) (maxL := nL) (ret := r) hy rfl ?_
  intro p e s m args below meth c s₁ B0 hml hnt hv
  obtain ⟨rfl, hB⟩ := hv
  have hts := atoms_spec (ws := Cond.code y b nL r :: wsL_law) B0.pre
  have hl := lv_entry As (n := nL) hn
  rw [lg_entry_eq]
  exact body p e s m _ below meth c B0.exec B0.bytes B0.returns ⟨B0.exec, B0.bytes, hml, findClass_of_methodNamed B0.named, fun w h => hts w (List.mem_cons_of_mem _ h)⟩ B0.notSynchronized hnt (name_of_methodNamed B0.named B0.method).1 hB _ hl
theorem k_up_c {ct : k_Ct} {k i k2 i2 : Nat} {e e2 : va_E} (h : ¬ (k = k2 ∧ i = i2)) : k_up (k_up ct k i e) k2 i2 e2 = k_up (k_up ct k2 i2 e2) k i e := by
  funext a b
  unfold k_up
  by_cases z : a = k2 ∧ b = i2
  · rw [if_pos z, if_neg (fun y => h ⟨y.1.symm.trans z.1, y.2.symm.trans z.2⟩), if_pos z]
  · rw [if_neg z]
    by_cases y : a = k ∧ b = i
    · rw [if_pos y, if_pos y]
    · rw [if_neg y, if_neg y, if_neg z]
