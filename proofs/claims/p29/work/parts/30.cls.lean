/-! ===== the class's objects: ad k i where they lie (k 0: the map itself, its list, trusts, cars' places, tiles, the list's row; 1 ways, 2 their doubts, 3 versions, 4 their changes, 5 changes that wait, 6 tiles); what they hold, by the same numbers mm ===== -/
abbrev k_Ad : Type := Nat → Nat → Nat
abbrev k_Ct : Type := Nat → Nat → Option va_E
/-- the tables: classes and slots; the array classes of ints, tiles, objects; where the empty row lies; where the zooms' first tiles lie; texts; the class object of rows of objects -/
abbrev k_G : Type := va_G × ClassId × ClassId × ClassId × Nat × Nat × (Nat → Nat) × Nat
def k_ty (G : k_G) : List (ClassId × FieldType) := [(G.2.1, .int), (G.2.2.1, .object "SignTiles$Tile"), (G.2.2.2.1, .object "java/lang/Object")]
def k_rf (b : Prop) [Decidable b] (a : Nat) : Value := if b then .null else .ref a
def k_cp (n : Nat) : Nat := if n ≤ 10 then 10 else if n ≤ 15 then 15 else if n ≤ 22 then 22 else if n ≤ 33 then 33 else 49
def k_mp (ad : k_Ad) (mm : q_Mem) : List Value := [.ref (ad 0 1), .ref (ad 0 2), .ref (ad 0 3), .ref (ad 0 4), .ref (ad 0 5), .int (mm 10 0)]
def k_li (G : k_G) (ad : k_Ad) (mm : q_Mem) : List Value := [.int (mm 1 0), .ref (if sp_W mm = 0 then G.2.2.2.2.1 else ad 0 6), .int (mm 1 0)]
def k_wy (ad : k_Ad) (mm : q_Mem) (i : Nat) : List Value := [.int (mm 2 i), .int (mm 3 i), .int (mm 4 i), .int (mm 5 i), .int (mm 6 i), .ref (ad 3 (sp_L mm i)), k_rf (mm 9 i = -1) (ad 5 i), .ref (ad 2 i)]
def k_vs (ad : k_Ad) (mm : q_Mem) (j : Nat) : List Value := [.ref (ad 4 j), .int (nI (j + 1)), .int (mm 21 j), k_rf (mm 12 j = -1) (ad 3 (sp_A mm j))]
def k_ch (v : Int32) : List Value := [.int (sp_vk v), .int (sp_vd v), .int (sp_ve v)]
def k_wc (v : Int32) : List Value := [.int (v / 100), .int (sp_vd v), .int (sp_ve v)]
def k_tl (mm : q_Mem) (t : Nat) : List Value := [.int (nI (tz_t t)), .int (sp_sd (nI (tz_t t)) * nI (tx_t t)), .int (sp_sd (nI (tz_t t)) * (nI (tx_t t) + 1)), .int (sp_sd (nI (tz_t t)) * nI (ty_t t)), .int (sp_sd (nI (tz_t t)) * (nI (ty_t t) + 1)), .int (mm 13 t - 1), .int (mm 14 t)]
def k_tr (ad : k_Ad) (mm : q_Mem) (t : Nat) : Option Nat := if mm 13 t = 0 then none else some (ad 6 t)
def k_er (ad : k_Ad) (mm : q_Mem) (i : Nat) : Option Nat := if i < sp_W mm then some (ad 1 i) else none
def k_db (mm : q_Mem) (i : Nat) (j : Nat) : Int32 := if j < 9 then mm 20 (9 * i + j) else 0
def k_C (G : k_G) (ad : k_Ad) (mm : q_Mem) : k_Ct := fun k i => match k with
  | 0 => (match i with
    | 0 => some (.inr (5, k_mp ad mm))
    | 1 => some (.inr (0, k_li G ad mm))
    | 2 => some (.inl (G.2.1, 6, .inl (mm 0)))
    | 3 => some (.inl (G.2.1, 3, .inl (mm 15)))
    | 4 => some (.inl (G.2.1, 3, .inl (mm 16)))
    | 5 => some (.inl (G.2.2.1, 341, .inr (.inr (.inr (.inr (k_tr ad mm))))))
    | 6 => if sp_W mm = 0 then none else some (.inl (G.2.2.2.1, k_cp (sp_W mm), .inr (.inr (.inr (.inr (k_er ad mm))))))
    | _ => none)
  | 1 => if i < sp_W mm then some (.inr (4, k_wy ad mm i)) else none
  | 2 => if i < sp_W mm then some (.inl (G.2.1, 9, .inl (k_db mm i))) else none
  | 3 => if i < sp_K mm then some (.inr (3, k_vs ad mm i)) else none
  | 4 => if i < sp_K mm then some (.inr (1, k_ch (mm 11 i))) else none
  | 5 => if i < sp_W mm ∧ ¬ mm 9 i = -1 then some (.inr (1, k_wc (mm 9 i))) else none
  | 6 => if i < 341 ∧ ¬ mm 13 i = 0 then some (.inr (2, k_tl mm i)) else none
  | _ => none
section
variable {G : k_G} {ad : k_Ad} {mm : q_Mem} {i : Nat}
theorem kc_w (h : i < sp_W mm) : k_C G ad mm 1 i = some (.inr (4, k_wy ad mm i)) := if_pos h
theorem kc_d (h : i < sp_W mm) : k_C G ad mm 2 i = some (.inl (G.2.1, 9, .inl (k_db mm i))) := if_pos h
theorem kc_v (h : i < sp_K mm) : k_C G ad mm 3 i = some (.inr (3, k_vs ad mm i)) := if_pos h
theorem kc_c (h : i < sp_K mm) : k_C G ad mm 4 i = some (.inr (1, k_ch (mm 11 i))) := if_pos h
theorem kc_q (h : i < sp_W mm) (h2 : ¬ mm 9 i = -1) : k_C G ad mm 5 i = some (.inr (1, k_wc (mm 9 i))) := if_pos ⟨h, h2⟩
theorem kc_t (h : i < 341) (h2 : ¬ mm 13 i = 0) : k_C G ad mm 6 i = some (.inr (2, k_tl mm i)) := if_pos ⟨h, h2⟩
theorem kc_e (h : ¬ sp_W mm = 0) : k_C G ad mm 0 6 = some (.inl (G.2.2.2.1, k_cp (sp_W mm), .inr (.inr (.inr (.inr (k_er ad mm)))))) := if_neg h
end
def k_H (G : k_G) (ad : k_Ad) (ct : k_Ct) (H : Heap) : Prop := ∀ k i e, ct k i = some e → va_at G.1 vwCl (ad k i, e) H
/-- the cells are apart, and in Z -/
def k_N (Z : Nat → Prop) (ad : k_Ad) (ct : k_Ct) : Prop := (∀ k i k2 i2 e e2, ct k i = some e → ct k2 i2 = some e2 → ad k i = ad k2 i2 → k = k2 ∧ i = i2) ∧ ∀ k i e, ct k i = some e → Z (ad k i)
def k_up (ct : k_Ct) (k i : Nat) (e : va_E) : k_Ct := fun a b => if a = k ∧ b = i then some e else ct a b
/-- the texts of exceptions -/
def k_strs : List (Nat × String) := [(60, "length or kind is out of range"), (75, "there is no room for a way"), (103, "kind or direction is out of range"), (111, "there is nothing to change"), (127, "this editor has nothing to judge here"), (142, "there is nothing to revert"), (147, "this editor can't revert it"), (153, "guard is out of range"), (214, "direction or doubt is out of range"), (219, "the car sees no sign of this way"), (239, "the car has no target"), (261, "there is no such editor"), (264, "there is no such crossing"), (266, "there is no such car"), (268, "there is no such zoom"), (270, "there is no such way"), (279, "there is no such version"), (292, "there is no such tile"), (294, "the tile was not drawn")]
def k_ngs : List Cond := [.castable "java/lang/IllegalArgumentException" "java/lang/IllegalArgumentException", .castable "java/lang/IllegalStateException" "java/lang/IllegalStateException", .castable "java/lang/IndexOutOfBoundsException" "java/lang/IndexOutOfBoundsException", .declares (Bundle.initS "java/lang/RuntimeException"), .declares (Bundle.initS "java/lang/Exception"), .declares (Bundle.initS Bundle.tN), .castable RX3 "java/lang/Object"]
theorem k_ng_t : ∀ w ∈ k_ngs, w.onTables = true := by decide +kernel
theorem k_ng_warm {s U : State} (hW : s.WarmedH U.vm) : ∀ w ∈ k_ngs, va_Nw w s → va_Nw w U := by
  intro w hw h
  unfold k_ngs at hw
  simp only [List.mem_cons, List.not_mem_nil, or_false] at hw
  rcases hw with rfl | rfl | rfl | rfl | rfl | rfl | rfl
  · exact va_Nw.warmC hW h
  · exact va_Nw.warmC hW h
  · exact va_Nw.warmC hW h
  · exact va_Nw.warmD hW h
  · exact va_Nw.warmD hW h
  · exact va_Nw.warmD hW h
  · exact va_Nw.warmC hW h
/-- what the tables say beside the words -/
def k_P (G : k_G) (U : State) : Prop := va_Nw (.methodLinkNest RX3 61 yX4_distance RX4) U ∧ (∀ q ∈ k_strs, vk_R RX4 q.1 q.2 (G.2.2.2.2.2.2.1 q.1) U) ∧ va_Mi "[Ljava/lang/Object;" G.2.2.2.2.2.2.2 U ∧ va_Dc U ∧ va_AO "java/lang/Object" U ∧ va_AO "SignTiles$Tile" U ∧ ∀ w ∈ k_ngs, va_Nw w U
theorem k_P.warm {G : k_G} {s U : State} (hW : s.WarmedH U.vm) (h : k_P G s) : k_P G U := ⟨va_Nw.warmM hW h.1, fun q hq => vk_R.warm hW (h.2.1 q hq), h.2.2.1.moved hW.alike, h.2.2.2.1.moved hW.alike, h.2.2.2.2.1.moved hW.alike, h.2.2.2.2.2.1.moved hW.alike, fun w hw => k_ng_warm hW w hw (h.2.2.2.2.2.2 w hw)⟩
def k_first (j : Nat) : Int32 := nI (tb_z j)
/-- statics and what they hold -/
def k_T (G : k_G) (Z : Nat → Prop) (U : State) (H : Heap) : Prop := vx_Zq Bundle.tN "UNASSIGNED_STACK" Bundle.steD Z U H ∧ vx_Zq Bundle.tN "SUPPRESSED_SENTINEL" Bundle.listD Z U H ∧
  (va_Z RX4 "FIRST_TILES" "[I" (.ref G.2.2.2.2.2.1) Z U H ∧ va_T .int G.2.2.2.2.2.1 5 (fun j => .int (k_first j)) Z U H) ∧
  (va_Z RJx4a65c "DEFAULTCAPACITY_EMPTY_ELEMENTDATA" "[Ljava/lang/Object;" (.ref G.2.2.2.2.1) Z U H ∧ va_T (.object "java/lang/Object") G.2.2.2.2.1 0 (fun _ => .null) Z U H) ∧ ∀ q, H.size ≤ q → Z q
theorem k_T.moved {G : k_G} {Z : Nat → Prop} {u U : State} {H : Heap} (hvm : u.vm.Alike U.vm) (h : k_T G Z u H) : k_T G Z U H := ⟨h.1.moved hvm, h.2.1.moved hvm, ⟨h.2.2.1.1.moved hvm, h.2.2.1.2.moved hvm⟩, ⟨h.2.2.2.1.1.moved hvm, h.2.2.2.1.2.moved hvm⟩, h.2.2.2.2⟩
theorem k_T.kept {G : k_G} {Z : Nat → Prop} {U : State} {H H1 : Heap} (h : k_T G Z U H) (hz : H.size ≤ H1.size) (hq : ∀ a : Nat, a < H.size → ¬ Z a → H1[a]? = H[a]?) : k_T G Z U H1 :=
  ⟨h.1.kept hq, h.2.1.kept hq, ⟨h.2.2.1.1.kept hq, h.2.2.1.2.kept hq⟩, ⟨h.2.2.2.1.1.kept hq, h.2.2.2.1.2.kept hq⟩, fun q h3 => h.2.2.2.2 q (Nat.le_trans hz h3)⟩
/-- what is read; Z, where the class may have its cells -/
def k_R (G : k_G) (Z : Nat → Prop) (ad : k_Ad) (mm : q_Mem) : State → Prop := fun U => k_H G ad (k_C G ad mm) U.heap ∧ va_K G.1 vwCl (k_ty G) U ∧ k_P G U ∧ k_T G Z U U.heap
/-- the same where it is changed, and whatever the cells hold -/
def k_M (G : k_G) (Z : Nat → Prop) (ad : k_Ad) (ct : k_Ct) : State → Prop := fun U => (k_H G ad ct U.heap ∧ k_N Z ad ct) ∧ va_K G.1 vwCl (k_ty G) U ∧ k_P G U ∧ k_T G Z U U.heap
/-- what is left behind -/
def k_B (G : k_G) (Z : Nat → Prop) (u : k_Ad × k_Ct) : State → Prop := fun U => k_H G u.1 u.2 U.heap ∧ k_N Z u.1 u.2 ∧ va_K G.1 vwCl (k_ty G) U
def bl_V (B : State → Prop) : Prop := ∀ (U V : State), U.heap = V.heap → U.vm = V.vm → B U → B V
theorem bl_blindV {As : List Value} {B : State → Prop} (h : bl_V B) : FrameBlind (va_Pc As B) := fun a U g mk q => ⟨q.1, h U (U.calling g mk a) rfl rfl q.2⟩
theorem k_P.same {G : k_G} {u U : State} (hv : u.vm = U.vm) (h : k_P G u) : k_P G U := ⟨h.1.same rfl hv, fun q hq => vk_R.same hv.symm (h.2.1 q hq), h.2.2.1.moved (by rw [hv]; exact Vm.Alike.refl _), h.2.2.2.1.moved (by rw [hv]; exact Vm.Alike.refl _), h.2.2.2.2.1.moved (by rw [hv]; exact Vm.Alike.refl _), h.2.2.2.2.2.1.moved (by rw [hv]; exact Vm.Alike.refl _), fun w hw => (h.2.2.2.2.2.2 w hw).same (k_ng_t w hw) hv⟩
theorem k_R.bl {G : k_G} {Z : Nat → Prop} {ad : k_Ad} {mm : q_Mem} : bl_V (k_R G Z ad mm) := fun U V hh hv h => ⟨by rw [← hh]; exact h.1, h.2.1.moved (by rw [hv]; exact Vm.Alike.refl _), h.2.2.1.same hv, by rw [← hh]; exact h.2.2.2.moved (by rw [hv]; exact Vm.Alike.refl _)⟩
theorem k_M.bl {G : k_G} {Z : Nat → Prop} {ad : k_Ad} {ct : k_Ct} : bl_V (k_M G Z ad ct) := fun U V hh hv h => ⟨by rw [← hh]; exact h.1, h.2.1.moved (by rw [hv]; exact Vm.Alike.refl _), h.2.2.1.same hv, by rw [← hh]; exact h.2.2.2.moved (by rw [hv]; exact Vm.Alike.refl _)⟩
theorem k_M.call {G : k_G} {Z : Nat → Prop} {ad : k_Ad} {ct : k_Ct} {s U : State} {H : Heap} {locs : List Loc} (hM : k_H G ad ct H) (hN : k_N Z ad ct) (hK : va_K G.1 vwCl (k_ty G) s) (hP : k_P G s) (hT : k_T G Z s s.heap) (hS : va_S Z s.heap H locs) (hU : U.heap = H) (hW : s.WarmedH U.vm) : k_M G Z ad ct U :=
  ⟨⟨by rw [hU]; exact hM, hN⟩, hK.moved hW.alike, hP.warm hW, by rw [hU]; exact (hT.kept hS.1 hS.2.1).moved hW.alike⟩
theorem k_H.kept {G : k_G} {ad : k_Ad} {ct : k_Ct} {H H1 : Heap} (h : k_H G ad ct H) (hq : ∀ q : Nat, q < H.size → H1[q]? = H[q]?) : k_H G ad ct H1 := fun k i e he => (h k i e he).kept (hq _ (h k i e he).lt)
theorem k_R.call {G : k_G} {Z : Nat → Prop} {ad : k_Ad} {mm : q_Mem} {s U : State} {H : Heap} {locs : List Loc} (hM : k_H G ad (k_C G ad mm) H) (hK : va_K G.1 vwCl (k_ty G) s) (hP : k_P G s) (hT : k_T G Z s s.heap) (hS : va_S Z s.heap H locs) (hU : U.heap = H) (hW : s.WarmedH U.vm) : k_R G Z ad mm U :=
  ⟨by rw [hU]; exact hM, hK.moved hW.alike, hP.warm hW, by rw [hU]; exact (hT.kept hS.1 hS.2.1).moved hW.alike⟩
theorem k_one {D : va_G} {q : Nat × va_E} {H : Heap} (h : va_at D vwCl q H) : va_P D vwCl [q] H := mo_one h
section
variable {p : Program} {l : Launch} {e : Env} {R : Room} {s : State} {m : MethodId} {args : Array Value} {below : List Frame} {meth : Method} {c : Code} {H : Heap} {locs : List Loc} {cells slots : Nat} {Q : State → Prop}
variable {cc : ByteArray} {pc nL : Nat} {ls : Array Slot} {rest st0 : List Value} {D : va_G} {A : Nat → Prop} {H0 : Heap} {own : String} {a : Nat} {tys : List (ClassId × FieldType)}
variable {G : k_G} {ad : k_Ad} {ct : k_Ct}
/-- one cell's field -/
theorem g_get (hF : CallFix p m c cc nL s args wsL_law own) (hK : va_K D vwCl tys s) {idx ci N : Nat} {C ref : String} {T : u_T} {fs : List Value} (hM : va_at D vwCl (a, .inr (ci, fs)) H) (hc : vwCl[ci]? = some (C, T, N)) (hin : ∀ w ∈ u_ws C T N, w ∈ wsL_law) (k : Nat) (hk : k < N) (hT : (T k).1 = ref) (hlink : Cond.fieldLink own idx ref (T k).2.1 (T k).2.2.1 ∈ wsL_law) {v : Value} (hv : fs[k]? = some v) (hdg : decode cc pc = .ok (.getfield idx, 3))
    (kk : W p l e R s m args below meth c H locs cells slots Q (F0 m (pc + 3) ls (v :: rest))) : W p l e R s m args below meth c H locs cells slots Q (F0 m pc ls (.ref a :: rest)) :=
  va_get hF.1 hF.2.1 hF.2.2.2.2 hin hF.2.2.2.1 hK (mo_one hM) 0 rfl hc k hk (hF.2.2.2.2 _ hlink) (fun x h => by rw [hT] at h; exact h) hv hdg kk
theorem g_put (hF : CallFix p m c cc nL s args wsL_law own) (hK : va_K D vwCl tys s) {idx ci N : Nat} {C ref : String} {T : u_T} {fs : List Value} (hM : va_at D vwCl (a, .inr (ci, fs)) H) (hc : vwCl[ci]? = some (C, T, N)) (hin : ∀ w ∈ u_ws C T N, w ∈ wsL_law) (ty0 : Nat → FieldType) (hty : ∀ k, k < N → parseFieldDescriptor (T k).2.2.1 = some (ty0 k)) (hnm : ∀ a, a < N → ∀ b, b < N → a ≠ b → (T a).2.1 ≠ (T b).2.1)
    (k : Nat) (hk : k < N) (hT : (T k).1 = ref) (hlink : Cond.fieldLink own idx ref (T k).2.1 (T k).2.2.1 ∈ wsL_law) (hfin : (T k).2.2.2 = false) {v : Value} (hn : narrow (ty0 k) v = v) (hfit : fits (ty0 k) v = true) (hl : k < fs.length) (hdg : decode cc pc = .ok (.putfield idx, 3))
    (kk : ∀ (H1 : Heap) (j : Nat), va_at D vwCl (a, .inr (ci, fs.set k v)) H1 → H1.size = H.size → (∀ q : Nat, q ≠ a → H1[q]? = H[q]?) → W p l e R s m args below meth c H1 (locs ++ [⟨a, j⟩]) cells slots Q (F0 m (pc + 3) ls rest)) : W p l e R s m args below meth c H locs cells slots Q (F0 m pc ls (v :: .ref a :: rest)) := by
  obtain ⟨hx, hb, -, hown, hw⟩ := hF
  have hap := va_apart (own := own) hw hin ty0 hty hnm hK hc
  obtain ⟨r, h1, cell, q1, q2, q3, q4⟩ := hM
  have hr : r = (C, T, N) := Option.some.inj (h1.symm.trans hc)
  subst hr
  obtain ⟨hSl, hfc, kC, hkC, hkind⟩ := hK.1 ci _ hc
  obtain ⟨cf, kf, fi, f, hi, hsl⟩ := hSl k hk
  have hlay := hw _ (hin _ (u_in_lay hk))
  unfold u_lay at hlay
  rw [if_neg (by rw [hfin]; decide)] at hlay
  have hst := (u_facts hfc hkC (u_lays hw hin hk) hi).1
  have h6 := u_store hfc hkC hkind hlay hi (hty k hk) hn hfit
  refine W.putK hx hb (f := f) ⟨hown, hw _ hlink, ⟨_, _, _, by rw [← hT]; exact hi⟩, hst⟩ (by rw [q2]; exact h6) q1 q3 (by rw [hsl]; exact k2_hasslot (q4 k hk)) rfl rfl hdg fun H' e1 e2 e3 => ?_
  rw [hsl] at e1 ⊢
  exact kk H' _ ⟨_, hc, t_OB.to (V := updV (vp_V fs) k v) ⟨_, e1, q2, q3, t_set q4 hap hk v⟩ (fun j _ => vp_updV_set hl v j)⟩ e2 e3
/-- an int array's place -/
theorem g_ald (hF : CallFix p m c cc nL s args wsL_law own) (hK : va_K D vwCl tys s) {cA : ClassId} {n i t0 : Nat} {f : Nat → Int32} (hM : va_at D vwCl (a, .inl (cA, n, .inl f)) H) (ht : tys[t0]? = some (cA, .int)) {x : Int32} (hx : x = nI i) (hi : i < n) (hn : n < 2 ^ 31) (hdg : decode cc pc = .ok (.iaload, 1))
    (kk : W p l e R s m args below meth c H locs cells slots Q (F0 m (pc + 1) ls (.int (f i) :: rest))) : W p l e R s m args below meth c H locs cells slots Q (F0 m pc ls (.int x :: .ref a :: rest)) := by
  subst hx
  have hcl : (nI i).toNatClampNeg = i := nI_clamp (Nat.lt_trans hi hn)
  refine va_iald hF.1 hF.2.1 hK (mo_one hM) 0 t0 rfl ht (vp_in_nI hi hn) hdg ?_
  rw [hcl]; exact kk
theorem g_ast (hF : CallFix p m c cc nL s args wsL_law own) (hK : va_K D vwCl tys s) {cA : ClassId} {n i t0 : Nat} {f : Nat → Int32} (hM : va_at D vwCl (a, .inl (cA, n, .inl f)) H) (ht : tys[t0]? = some (cA, .int)) {x v : Int32} (hx : x = nI i) (hi : i < n) (hn : n < 2 ^ 31) (hdg : decode cc pc = .ok (.iastore, 1))
    (kk : ∀ (H1 : Heap) (j : Nat), va_at D vwCl (a, .inl (cA, n, .inl (upd f i v))) H1 → H1.size = H.size → (∀ q : Nat, q ≠ a → H1[q]? = H[q]?) → W p l e R s m args below meth c H1 (locs ++ [⟨a, j⟩]) cells slots Q (F0 m (pc + 1) ls rest)) : W p l e R s m args below meth c H locs cells slots Q (F0 m pc ls (.int v :: .int x :: .ref a :: rest)) := by
  subst hx
  have hcl : (nI i).toNatClampNeg = i := nI_clamp (Nat.lt_trans hi hn)
  refine W.iast hF.1 hF.2.1 hM ((hK.2 t0 _ ht).1 n (fun j => .int (f j))) (fun q => by cases q) (by show ¬ (nI i < 0 ∨ (arrV _ _ _).slots.size ≤ _); rw [arrV_size]; exact vp_in_nI hi hn) rfl rfl hdg fun H1 e1 z oq => ?_
  refine kk H1 _ ?_ z oq
  show H1[a]? = some (vp_cell _ _)
  rw [e1, vp_cell_i, vp_cell_i, arrV_store, hcl]
  congr 2
  funext q
  by_cases hq : q = i
  · subst hq
    simp [updV, upd]
  · simp [updV, upd, hq]
theorem g_aldq (hF : CallFix p m c cc nL s args wsL_law own) (hK : va_K D vwCl tys s) {cA : ClassId} {C : String} {n i t0 : Nat} {f : Nat → Option Nat} (hM : va_at D vwCl (a, .inl (cA, n, .inr (.inr (.inr (.inr f))))) H) (ht : tys[t0]? = some (cA, .object C)) {x : Int32} (hx : x = nI i) (hi : i < n) (hn : n < 2 ^ 31) (hdg : decode cc pc = .ok (.aaload, 1))
    (kk : W p l e R s m args below meth c H locs cells slots Q (F0 m (pc + 1) ls (va_rf (f i) :: rest))) : W p l e R s m args below meth c H locs cells slots Q (F0 m pc ls (.int x :: .ref a :: rest)) := by
  subst hx
  have hcl : (nI i).toNatClampNeg = i := nI_clamp (Nat.lt_trans hi hn)
  refine va_aldq hF.1 hF.2.1 hK (mo_one hM) 0 t0 rfl ht (vp_in_nI hi hn) hdg ?_
  rw [hcl]; exact kk
theorem g_alen (hF : CallFix p m c cc nL s args wsL_law own) (hK : va_K D vwCl tys s) {cA : ClassId} {x : vp_A} {t0 : Nat} {ty : FieldType} (hM : va_at D vwCl (a, .inl (cA, x)) H) (ht : tys[t0]? = some (cA, ty)) (hdg : decode cc pc = .ok (.arraylength, 1))
    (kk : W p l e R s m args below meth c H locs cells slots Q (F0 m (pc + 1) ls (.int (nI x.1) :: rest))) : W p l e R s m args below meth c H locs cells slots Q (F0 m pc ls (.ref a :: rest)) :=
  va_alen hF.1 hF.2.1 hK (mo_one hM) 0 t0 rfl ht rfl hdg kk
theorem g_recv {ci N : Nat} {C : String} {T : u_T} {fs : List Value} (hK : va_K D vwCl tys s) (hM : va_at D vwCl (a, .inr (ci, fs)) H) (hc : vwCl[ci]? = some (C, T, N)) : ∃ cell : Cell, H[a]? = some cell ∧ cell.vm.isStatics = false ∧ s.vm.findClass C = some cell.cls :=
  va_recv hK (mo_one hM) (q := (C, T, N)) (ci := ci) (q0 := 0) hc rfl
theorem bo_toV {v x : Value} (h : x = v) (k : W p l e R s m args below meth c H locs cells slots Q (F0 m pc ls (v :: rest))) : W p l e R s m args below meth c H locs cells slots Q (F0 m pc ls (x :: rest)) := by rw [h]; exact k
end
theorem k_rf_tr (ad : k_Ad) (mm : q_Mem) (t : Nat) : va_rf (k_tr ad mm t) = k_rf (mm 13 t = 0) (ad 6 t) := by
  unfold k_tr k_rf
  by_cases h : mm 13 t = 0
  · rw [if_pos h, if_pos h]; rfl
  · rw [if_neg h, if_neg h]; rfl
theorem k_er_w {ad : k_Ad} {mm : q_Mem} {i : Nat} (h : i < sp_W mm) : va_rf (k_er ad mm i) = .ref (ad 1 i) := by
  unfold k_er
  rw [if_pos h]; rfl
/-- a chain of versions: v tells which, -1 none -/
theorem k_rf_L {ad : k_Ad} {mm : q_Mem} {w : Nat} (h : ¬ mm 8 w = -1) : Value.ref (ad 3 (sp_L mm w)) = k_rf (mm 8 w = -1) (ad 3 (mm 8 w).toNatClampNeg) := (if_neg h).symm
