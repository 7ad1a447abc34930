theorem dJ7_copyOf_1904c_0 : decode cJ7_copyOf_1904c 0 = .ok (.aload_n 0, 1) := by decide +kernel
theorem dJ7_copyOf_1904c_1 : decode cJ7_copyOf_1904c 1 = .ok (.iload_n 1, 1) := by decide +kernel
theorem dJ7_copyOf_1904c_2 : decode cJ7_copyOf_1904c 2 = .ok (.aload_n 0, 1) := by decide +kernel
theorem dJ7_copyOf_1904c_3 : decode cJ7_copyOf_1904c 3 = .ok (.invokevirtual 86, 3) := by decide +kernel
theorem dJ7_copyOf_1904c_6 : decode cJ7_copyOf_1904c 6 = .ok (.invokestatic 300, 3) := by decide +kernel
theorem dJ7_copyOf_1904c_9 : decode cJ7_copyOf_1904c 9 = .ok (.areturn, 1) := by decide +kernel
theorem dJ7_copyOf_6403c_0 : decode cJ7_copyOf_6403c 0 = .ok (.aload_n 2, 1) := by decide +kernel
theorem dJ7_copyOf_6403c_1 : decode cJ7_copyOf_6403c 1 = .ok (.ldc 110, 2) := by decide +kernel
theorem dJ7_copyOf_6403c_3 : decode cJ7_copyOf_6403c 3 = .ok (.if_acmp .ne 10, 3) := by decide +kernel
theorem dJ7_copyOf_6403c_6 : decode cJ7_copyOf_6403c 6 = .ok (.iload_n 1, 1) := by decide +kernel
theorem dJ7_copyOf_6403c_7 : decode cJ7_copyOf_6403c 7 = .ok (.anewarray 2, 3) := by decide +kernel
theorem dJ7_copyOf_6403c_10 : decode cJ7_copyOf_6403c 10 = .ok (.goto 14, 3) := by decide +kernel
theorem dJ7_copyOf_6403c_24 : decode cJ7_copyOf_6403c 24 = .ok (.astore_n 3, 1) := by decide +kernel
theorem dJ7_copyOf_6403c_25 : decode cJ7_copyOf_6403c 25 = .ok (.aload_n 0, 1) := by decide +kernel
theorem dJ7_copyOf_6403c_26 : decode cJ7_copyOf_6403c 26 = .ok (.iconst 0, 1) := by decide +kernel
theorem dJ7_copyOf_6403c_27 : decode cJ7_copyOf_6403c 27 = .ok (.aload_n 3, 1) := by decide +kernel
theorem dJ7_copyOf_6403c_28 : decode cJ7_copyOf_6403c 28 = .ok (.iconst 0, 1) := by decide +kernel
theorem dJ7_copyOf_6403c_29 : decode cJ7_copyOf_6403c 29 = .ok (.aload_n 0, 1) := by decide +kernel
theorem dJ7_copyOf_6403c_30 : decode cJ7_copyOf_6403c 30 = .ok (.arraylength, 1) := by decide +kernel
theorem dJ7_copyOf_6403c_31 : decode cJ7_copyOf_6403c 31 = .ok (.iload_n 1, 1) := by decide +kernel
theorem dJ7_copyOf_6403c_32 : decode cJ7_copyOf_6403c 32 = .ok (.invokestatic 304, 3) := by decide +kernel
theorem dJ7_copyOf_6403c_35 : decode cJ7_copyOf_6403c 35 = .ok (.invokestatic 150, 3) := by decide +kernel
theorem dJ7_copyOf_6403c_38 : decode cJ7_copyOf_6403c 38 = .ok (.aload_n 3, 1) := by decide +kernel
theorem dJ7_copyOf_6403c_39 : decode cJ7_copyOf_6403c 39 = .ok (.areturn, 1) := by decide +kernel
theorem dJ8_newLength_cabcc_0 : decode cJ8_newLength_cabcc 0 = .ok (.iload_n 0, 1) := by decide +kernel
theorem dJ8_newLength_cabcc_1 : decode cJ8_newLength_cabcc 1 = .ok (.iload_n 1, 1) := by decide +kernel
theorem dJ8_newLength_cabcc_2 : decode cJ8_newLength_cabcc 2 = .ok (.iload_n 2, 1) := by decide +kernel
theorem dJ8_newLength_cabcc_3 : decode cJ8_newLength_cabcc 3 = .ok (.invokestatic 194, 3) := by decide +kernel
theorem dJ8_newLength_cabcc_6 : decode cJ8_newLength_cabcc 6 = .ok (.iadd, 1) := by decide +kernel
theorem dJ8_newLength_cabcc_7 : decode cJ8_newLength_cabcc 7 = .ok (.istore_n 3, 1) := by decide +kernel
theorem dJ8_newLength_cabcc_8 : decode cJ8_newLength_cabcc 8 = .ok (.iconst 0, 1) := by decide +kernel
theorem dJ8_newLength_cabcc_9 : decode cJ8_newLength_cabcc 9 = .ok (.iload_n 3, 1) := by decide +kernel
theorem dJ8_newLength_cabcc_10 : decode cJ8_newLength_cabcc 10 = .ok (.if_icmp .ge 11, 3) := by decide +kernel
theorem dJ8_newLength_cabcc_13 : decode cJ8_newLength_cabcc 13 = .ok (.iload_n 3, 1) := by decide +kernel
theorem dJ8_newLength_cabcc_14 : decode cJ8_newLength_cabcc 14 = .ok (.ldc 200, 2) := by decide +kernel
theorem dJ8_newLength_cabcc_16 : decode cJ8_newLength_cabcc 16 = .ok (.if_icmp .gt 5, 3) := by decide +kernel
theorem dJ8_newLength_cabcc_19 : decode cJ8_newLength_cabcc 19 = .ok (.iload_n 3, 1) := by decide +kernel
theorem dJ8_newLength_cabcc_20 : decode cJ8_newLength_cabcc 20 = .ok (.ireturn, 1) := by decide +kernel
theorem dJx4a65c_grow_92f84_0 : decode cJx4a65c_grow_92f84 0 = .ok (.aload_n 0, 1) := by decide +kernel
theorem dJx4a65c_grow_92f84_1 : decode cJx4a65c_grow_92f84 1 = .ok (.getfield 9, 3) := by decide +kernel
theorem dJx4a65c_grow_92f84_4 : decode cJx4a65c_grow_92f84 4 = .ok (.arraylength, 1) := by decide +kernel
theorem dJx4a65c_grow_92f84_5 : decode cJx4a65c_grow_92f84 5 = .ok (.istore_n 2, 1) := by decide +kernel
theorem dJx4a65c_grow_92f84_6 : decode cJx4a65c_grow_92f84 6 = .ok (.iload_n 2, 1) := by decide +kernel
theorem dJx4a65c_grow_92f84_7 : decode cJx4a65c_grow_92f84 7 = .ok (.ifCond .gt 13, 3) := by decide +kernel
theorem dJx4a65c_grow_92f84_10 : decode cJx4a65c_grow_92f84 10 = .ok (.aload_n 0, 1) := by decide +kernel
theorem dJx4a65c_grow_92f84_11 : decode cJx4a65c_grow_92f84 11 = .ok (.getfield 9, 3) := by decide +kernel
theorem dJx4a65c_grow_92f84_14 : decode cJx4a65c_grow_92f84 14 = .ok (.getstatic 39, 3) := by decide +kernel
theorem dJx4a65c_grow_92f84_17 : decode cJx4a65c_grow_92f84 17 = .ok (.if_acmp .eq 28, 3) := by decide +kernel
theorem dJx4a65c_grow_92f84_20 : decode cJx4a65c_grow_92f84 20 = .ok (.iload_n 2, 1) := by decide +kernel
theorem dJx4a65c_grow_92f84_21 : decode cJx4a65c_grow_92f84 21 = .ok (.iload_n 1, 1) := by decide +kernel
theorem dJx4a65c_grow_92f84_22 : decode cJx4a65c_grow_92f84 22 = .ok (.iload_n 2, 1) := by decide +kernel
theorem dJx4a65c_grow_92f84_23 : decode cJx4a65c_grow_92f84 23 = .ok (.isub, 1) := by decide +kernel
theorem dJx4a65c_grow_92f84_24 : decode cJx4a65c_grow_92f84 24 = .ok (.iload_n 2, 1) := by decide +kernel
theorem dJx4a65c_grow_92f84_25 : decode cJx4a65c_grow_92f84 25 = .ok (.iconst 1, 1) := by decide +kernel
theorem dJx4a65c_grow_92f84_26 : decode cJx4a65c_grow_92f84 26 = .ok (.ishr, 1) := by decide +kernel
theorem dJx4a65c_grow_92f84_27 : decode cJx4a65c_grow_92f84 27 = .ok (.invokestatic 73, 3) := by decide +kernel
theorem dJx4a65c_grow_92f84_30 : decode cJx4a65c_grow_92f84 30 = .ok (.istore_n 3, 1) := by decide +kernel
theorem dJx4a65c_grow_92f84_31 : decode cJx4a65c_grow_92f84 31 = .ok (.aload_n 0, 1) := by decide +kernel
theorem dJx4a65c_grow_92f84_32 : decode cJx4a65c_grow_92f84 32 = .ok (.aload_n 0, 1) := by decide +kernel
theorem dJx4a65c_grow_92f84_33 : decode cJx4a65c_grow_92f84 33 = .ok (.getfield 9, 3) := by decide +kernel
theorem dJx4a65c_grow_92f84_36 : decode cJx4a65c_grow_92f84 36 = .ok (.iload_n 3, 1) := by decide +kernel
theorem dJx4a65c_grow_92f84_37 : decode cJx4a65c_grow_92f84 37 = .ok (.invokestatic 66, 3) := by decide +kernel
theorem dJx4a65c_grow_92f84_40 : decode cJx4a65c_grow_92f84 40 = .ok (.dup_x1, 1) := by decide +kernel
theorem dJx4a65c_grow_92f84_41 : decode cJx4a65c_grow_92f84 41 = .ok (.putfield 9, 3) := by decide +kernel
theorem dJx4a65c_grow_92f84_44 : decode cJx4a65c_grow_92f84 44 = .ok (.areturn, 1) := by decide +kernel
theorem dJx4a65c_grow_92f84_45 : decode cJx4a65c_grow_92f84 45 = .ok (.aload_n 0, 1) := by decide +kernel
theorem dJx4a65c_grow_92f84_46 : decode cJx4a65c_grow_92f84 46 = .ok (.bipush 10, 2) := by decide +kernel
theorem dJx4a65c_grow_92f84_48 : decode cJx4a65c_grow_92f84 48 = .ok (.iload_n 1, 1) := by decide +kernel
theorem dJx4a65c_grow_92f84_49 : decode cJx4a65c_grow_92f84 49 = .ok (.invokestatic 79, 3) := by decide +kernel
theorem dJx4a65c_grow_92f84_52 : decode cJx4a65c_grow_92f84 52 = .ok (.anewarray 7, 3) := by decide +kernel
theorem dJx4a65c_grow_92f84_55 : decode cJx4a65c_grow_92f84 55 = .ok (.dup_x1, 1) := by decide +kernel
theorem dJx4a65c_grow_92f84_56 : decode cJx4a65c_grow_92f84 56 = .ok (.putfield 9, 3) := by decide +kernel
theorem dJx4a65c_grow_92f84_59 : decode cJx4a65c_grow_92f84 59 = .ok (.areturn, 1) := by decide +kernel
theorem dJx4a65c_grow_d5877_0 : decode cJx4a65c_grow_d5877 0 = .ok (.aload_n 0, 1) := by decide +kernel
theorem dJx4a65c_grow_d5877_1 : decode cJx4a65c_grow_d5877 1 = .ok (.aload_n 0, 1) := by decide +kernel
theorem dJx4a65c_grow_d5877_2 : decode cJx4a65c_grow_d5877 2 = .ok (.getfield 48, 3) := by decide +kernel
theorem dJx4a65c_grow_d5877_5 : decode cJx4a65c_grow_d5877 5 = .ok (.iconst 1, 1) := by decide +kernel
theorem dJx4a65c_grow_d5877_6 : decode cJx4a65c_grow_d5877 6 = .ok (.iadd, 1) := by decide +kernel
theorem dJx4a65c_grow_d5877_7 : decode cJx4a65c_grow_d5877 7 = .ok (.invokevirtual 69, 3) := by decide +kernel
theorem dJx4a65c_grow_d5877_10 : decode cJx4a65c_grow_d5877 10 = .ok (.areturn, 1) := by decide +kernel
/-! ===== rows of objects: what is stored in them, copied ===== -/
section
variable {p : Program} {l : Launch} {e : Env} {R : Room} {s : State} {m : MethodId} {args : Array Value} {below : List Frame} {meth : Method} {c : Code} {H : Heap} {locs : List Loc} {cells slots : Nat} {Q : State → Prop}
variable {cc : ByteArray} {pc nL : Nat} {ls : Array Slot} {rest st0 : List Value} {H0 : Heap} {own : String} {G : k_G} {Z : Nat → Prop} {ad : k_Ad} {ct : k_Ct} {a : Nat}
theorem k_anyW {fs : List Value} (hK : va_K G.1 vwCl (k_ty G) s) (hP : k_P G s) (hM : va_at G.1 vwCl (a, .inr (4, fs)) H) : va_Any "java/lang/Object" s H a := by
  refine va_rAny hK (mo_one hM) (q0 := 0) rfl (r := (RX3, TX3, 8)) rfl (fun comp c0 h1 h2 => ?_)
  have hw : Cond.castable RX3 "java/lang/Object" ∈ k_ngs := by simp [k_ngs]
  obtain ⟨c1, t1, e1, e2, e3⟩ := Cond.castable_spec ((hP.2.2.2.2.2.2 _ hw).use (k_ng_t _ hw) (A := #[]))
  cases h1.symm.trans e2
  cases h2.symm.trans e1
  exact e3
theorem k_astqM (hF : CallFix p m c cc nL s args wsL_law own) (hK : va_K G.1 vwCl (k_ty G) s) (hM : k_H G ad ct H) (hN : k_N Z ad ct) (hS : va_S Z H0 H locs) (K j : Nat) {n i t0 : Nat} {E : String} {cA : ClassId} {f : Nat → Option Nat} {v a1 : Nat} (he : ct K j = some (.inl (cA, n, .inr (.inr (.inr (.inr f)))))) (ha : ad K j = a1) (ht : (k_ty G)[t0]? = some (cA, .object E)) (hr : va_Any E s H v) {x : Int32} (hx : x = nI i) (hi : i < n) (hn : n < 2 ^ 31) (hdg : decode cc pc = .ok (.aastore, 1))
    (kk : ∀ (H1 : Heap) (locs1 : List Loc), k_H G ad (k_up ct K j (.inl (cA, n, .inr (.inr (.inr (.inr (va_up f i (some v)))))))) H1 → k_N Z ad (k_up ct K j (.inl (cA, n, .inr (.inr (.inr (.inr (va_up f i (some v)))))))) → va_S Z H0 H1 locs1 → W p l e R s m args below meth c H1 locs1 cells slots Q (F0 m (pc + 1) ls rest)) : W p l e R s m args below meth c H locs cells slots Q (F0 m pc ls (.ref v :: .int x :: .ref a1 :: rest)) := by
  subst hx
  subst ha
  have hcl : (nI i).toNatClampNeg = i := nI_clamp (Nat.lt_trans hi hn)
  have hin := vp_in_nI hi hn
  have hlt : (nI i).toNatClampNeg < n := Nat.not_le.mp fun q => hin (Or.inr q)
  have h0 : ¬ nI i < 0 := fun q => hin (Or.inl q)
  obtain ⟨cellV, g1, g3, ⟨kC, hkC⟩, hasg⟩ := hr
  obtain ⟨kA, comp, k1, k2, k3, -⟩ := (hK.2 t0 _ ht).2
  obtain ⟨kE, hkE, -⟩ := Vm.findClass_spec k3
  refine W.aast hF.1 hF.2.1 (hM K j _ he) (fun q h => by cases h) (fun h => by cases h) k1 k2 rfl hkE ⟨h0, by show _ < (arrV _ _ _).slots.size; rw [arrV_size]; exact hlt⟩ g1 (fun q h => by rw [h] at g3; cases g3) hkC (hasg _ k3) rfl rfl hdg fun H1 e z oq => ?_
  have h1 : va_at G.1 vwCl (ad K j, .inl (cA, n, .inr (.inr (.inr (.inr (va_up f i (some v))))))) H1 := by
    show H1[ad K j]? = some (vp_cell _ _)
    rw [e, vp_cell_q, vp_cell_q, arrV_store, hcl]
    congr 2
    funext q
    by_cases hq : q = i
    · subst hq
      simp [updV, va_up, va_rf]
    · simp [updV, va_up, hq]
  exact kk H1 _ (k_upd hM hN he h1 oq) (k_updN hN he) (hS.put z oq (hN.2 K j _ he))
/-- System.arraycopy out of a row's beginning into another's -/
theorem k_copyq (hF : CallFix p m c cc nL s args wsL_law own) (hK : va_K G.1 vwCl (k_ty G) s) (hM : k_H G ad ct H) (hN : k_N Z ad ct) (hS : va_S Z H0 H locs) (hsz : ls.size = nL) {index : Nat} (hlink : Cond.methodLink own index arraycopyName ∈ wsL_law) (K2 i2 : Nat) {a0 a1 n n0 n1 t0 t1 : Nat} {c0 c1 : ClassId} {E0 E1 : String} {f g : Nat → Option Nat}
    (h0 : va_at G.1 vwCl (a0, .inl (c0, n0, .inr (.inr (.inr (.inr f))))) H) (he2 : ct K2 i2 = some (.inl (c1, n1, .inr (.inr (.inr (.inr g)))))) (ha1 : ad K2 i2 = a1) (ht0 : (k_ty G)[t0]? = some (c0, .object E0)) (ht1 : (k_ty G)[t1]? = some (c1, .object E1)) {x : Int32} (hx : x = nI n) (hn31 : n < 2 ^ 31) (h4 : n ≤ n0) (h5 : n ≤ n1) (hel : ∀ i : Nat, i < n → ∀ y : Nat, f i = some y → va_Any E1 s H y)
    (hframes : 1 ≤ R.frames) (hlocals : (rest.map fun v => v.category).sum + (nativeFrameWords "java/lang/System" "arraycopy" 5 + 11) ≤ R.locals) (hdg : decode cc pc = .ok (.invokestatic index, 3))
    (kk : ∀ (H1 : Heap) (locs1 : List Loc), k_H G ad (k_up ct K2 i2 (.inl (c1, n1, .inr (.inr (.inr (.inr (fun j => if j < n then f j else g j))))))) H1 → k_N Z ad (k_up ct K2 i2 (.inl (c1, n1, .inr (.inr (.inr (.inr (fun j => if j < n then f j else g j))))))) → va_S Z H0 H1 locs1 → W p l e R s m args below meth c H1 locs1 cells slots Q (F0 m (pc + 3) ls rest)) : W p l e R s m args below meth c H locs cells slots Q (F0 m pc ls (.int x :: .int 0 :: .ref a1 :: .int 0 :: .ref a0 :: rest)) := by
  subst hx
  subst ha1
  have hcl : (nI n).toNatClampNeg = n := nI_clamp hn31
  have hz : (0 : Int32).toNatClampNeg = 0 := rfl
  have hnn : ¬ nI n < 0 := nI_pos hn31
  have hni : (nI n).toInt = (n : Int) := by
    have hz0 : (0 : Int) ≤ (nI n).toInt := by
      have := Int32.not_lt.mp hnn
      simpa using Int32.le_iff_toInt_le.mp this
    have h1 : (((nI n).toInt.toNat : Nat) : Int) = (n : Int) := congrArg Int.ofNat hcl
    omega
  have hc0 : H[a0]? = some (vp_cell c0 (n0, .inr (.inr (.inr (.inr f))))) := h0
  have hc1 : H[ad K2 i2]? = some (vp_cell c1 (n1, .inr (.inr (.inr (.inr g))))) := hM K2 i2 _ he2
  obtain ⟨-, k0, hk0, cm0, hkk0⟩ := (hK.2 t0 _ ht0).1 n0 (fun j => va_rf (f j))
  obtain ⟨-, k1, hk1, cm1, hkk1⟩ := (hK.2 t1 _ ht1).1 n1 (fun j => va_rf (g j))
  intro T hT X
  obtain ⟨vm', X', step⟩ := X.arraycopy hF.1 hF.2.2.2.1 (hF.2.2.2.2 _ hlink) (hF.2.2.2.2 _ wd_x33) (hF.2.2.2.2 _ wd_x34) (hF.2.2.2.2 _ wd_x35) (src := a0) (dst := ad K2 i2) (cs := vp_cell c0 (n0, .inr (.inr (.inr (.inr f))))) (cd := vp_cell c1 (n1, .inr (.inr (.inr (.inr g))))) (srcPos := 0) (destPos := 0) (n := nI n) (by rw [hT]; exact hc0) (by rw [hT]; exact hc1)
    (fun _ h => by cases h) (fun _ h => by cases h) (fun h => by cases h) (fun h => by cases h) hk0 hk1 hkk0 hkk1 rfl (by decide) (by decide) hnn
    (by rw [hni]; show ¬ (0 : Int) + _ > ((arrV c0 n0 (fun j => va_rf (f j))).slots.size : Int); rw [arrV_size]; omega)
    (by rw [hni]; show ¬ (0 : Int) + _ > ((arrV c1 n1 (fun j => va_rf (g j))).slots.size : Int); rw [arrV_size]; omega)
    (fun vm₁ hal i hi => by
      rw [hcl] at hi
      rw [hz, Nat.zero_add]
      have e : (vp_cell c0 (n0, .inr (.inr (.inr (.inr f))))).slots.getD i .null = va_rf (f i) := by
        show (arrV c0 n0 (fun j => va_rf (f j))).slots.getD _ _ = _
        rw [Array.getD_eq_getD_getElem?, arrV_read _ _ (by omega)]
        rfl
      rw [e]
      cases hy : f i with
      | none => exact ⟨rfl, trivial⟩
      | some y =>
        obtain ⟨cellV, g1, g2, ⟨kC, hkC⟩, hasg⟩ := hel i hi y hy
        obtain ⟨kA, comp, r1, r2, r3, -⟩ := (hK.2 t1 _ ht1).2
        cases hk1.symm.trans r1
        cases hkk1.symm.trans r2
        obtain ⟨kE, hkE, -⟩ := Vm.findClass_spec r3
        obtain ⟨kC', hkC', -⟩ := hal.2.2 _ _ hkC
        obtain ⟨kE', hkE', -⟩ := hal.2.2 _ _ hkE
        refine ⟨rfl, cellV, (show T.heap[y]? = some cellV by rw [hT]; exact g1), (fun q h => by rw [h] at g2; cases g2), ⟨kC', hkC'⟩, ⟨kE', hkE'⟩, ?_⟩
        show vm₁.assignable _ _ = true
        rw [hal.assignable]
        exact hasg _ r3)
    (g := F0 m pc ls (.int (nI n) :: .int 0 :: .ref (ad K2 i2) :: .int 0 :: .ref a0 :: rest)) rfl (by show ls.size = _; rw [hF.2.2.1]; exact hsz) (rest := rest) rfl (by rw [hF.2.1]; exact hdg) hframes (by show 2 * 0 + _ + _ ≤ _; omega)
  have e1 : copied (vp_cell c0 (n0, .inr (.inr (.inr (.inr f))))) (vp_cell c1 (n1, .inr (.inr (.inr (.inr g))))) 0 0 (nI n) = vp_cell c1 (n1, .inr (.inr (.inr (.inr (fun j => if j < n then f j else g j))))) := by
    have e2 := va_copied (fun z => va_rf z) c0 c1 f g (n0 := n0) (n1 := n1) (sp := 0) (dp := 0) (n := n) (by rw [Nat.zero_add]; exact h4)
    rw [vp_cell_q, vp_cell_q, vp_cell_q]
    unfold copied
    rw [hcl, hz]
    refine e2.trans ?_
    congr 1
    funext j
    simp [va_cpy]
  rw [e1] at X' step
  have hl : ad K2 i2 < H.size := (Array.getElem?_eq_some_iff.mp hc1).1
  have hheap : ((T.setVm vm').setCell (ad K2 i2) (vp_cell c1 (n1, .inr (.inr (.inr (.inr (fun j => if j < n then f j else g j))))))).heap = H.setIfInBounds (ad K2 i2) (vp_cell c1 (n1, .inr (.inr (.inr (.inr (fun j => if j < n then f j else g j)))))) := by rw [← hT]; rfl
  have oq : ∀ q : Nat, q ≠ ad K2 i2 → (H.setIfInBounds (ad K2 i2) (vp_cell c1 (n1, .inr (.inr (.inr (.inr (fun j => if j < n then f j else g j)))))))[q]? = H[q]? := fun q hq => by simp [Array.getElem?_setIfInBounds, Ne.symm hq]
  obtain ⟨t, a1, b1⟩ := kk _ _ (k_upd hM hN he2 (show (H.setIfInBounds (ad K2 i2) _)[ad K2 i2]? = some _ by simp [Array.getElem?_setIfInBounds, hl]) oq) (k_updN hN he2) ⟨by simp; exact hS.1, fun q g1 g2 => by
      rw [oq q (fun e => g2 (by rw [e]; exact hN.2 K2 i2 _ he2))]
      exact hS.2.1 q g1 g2, fun q hq => by
      rcases List.mem_append.mp hq with h | h
      · exact hS.2.2 q h
      · obtain ⟨z, -, hz⟩ := List.mem_map.mp h
        rw [← hz]
        exact hN.2 K2 i2 _ he2⟩ _ hheap X'
  exact ⟨t, step t a1, b1⟩
theorem kx_qretA {post : Option Nat → k_Ad × k_Ct → Prop} {o : Option Nat} {ty : FieldType} {XC : String → State → State → Prop} {mc ms : Nat} (hx : p.tables.exec = Jvm.exec) (hb : c.code = cc) (hr : meth.sig.returnType = some (.array ty)) (hlk : meth.locks = false) (hM : k_H G ad ct H) (hN : k_N Z ad ct) (hK : va_K G.1 vwCl (k_ty G) s) (hS : va_S Z s.heap H locs) (hc : cells ≤ mc) (hs : slots ≤ ms) (hp : post o (ad, ct)) (hdg : decode cc pc = .ok (.areturn, 1)) : W p l e R s m args below meth c H locs cells slots (vx_MQ below (va_Qq post (k_B G Z) Z) XC args s mc ms Z) (F0 m pc ls [va_rf o]) :=
  W.widen hc hs (vx_ret (W.aret hx hb hr (Or.inr ⟨_, rfl⟩) (va_rf_or o) (fun t ht hW => ⟨⟨o, (ad, ct), rfl, hp, by rw [ht]; exact hM, hN, hK.moved hW.alike⟩, hS.F ht⟩) hS.2.2 hdg hlk))
end
/-- the row of a list: its first n places hold the ways 0 to n - 1 -/
def k_rw (ad : k_Ad) (n : Nat) (j : Nat) : Option Nat := if j < n then some (ad 1 j) else none
abbrev k_row (G : k_G) (ad : k_Ad) (c n : Nat) : va_E := .inl (G.2.2.2.1, c, .inr (.inr (.inr (.inr (k_rw ad n)))))
theorem k_rw_cpy {ad : k_Ad} {n c : Nat} (h : n ≤ c) : (fun j => if j < c then k_rw ad n j else none) = k_rw ad n := by
  funext j
  unfold k_rw
  by_cases h1 : j < c
  · rw [if_pos h1]
  · rw [if_neg h1, if_neg (by omega)]
theorem k_rw_up {ad : k_Ad} {n : Nat} : va_up (k_rw ad n) n (some (ad 1 n)) = k_rw ad (n + 1) := by
  funext j
  unfold k_rw va_up
  by_cases h : j = n
  · subst h; rw [if_pos rfl, if_pos (by omega)]
  · rw [if_neg h]
    show (if j < n then some (ad 1 j) else none) = _
    by_cases h1 : j < n
    · rw [if_pos h1, if_pos (by omega)]
    · rw [if_neg h1, if_neg (by omega)]
theorem k_cp_step {n : Nat} (h : n ≤ 40) (h0 : ¬ n = 0) (hc : k_cp n = n) : nI n + (if (1 : Int32) < nI n >>> (1 &&& 31) then nI n >>> (1 &&& 31) else 1) = nI (k_cp (n + 1)) ∧ k_cp (n + 1) ≤ 49 ∧ n + 1 ≤ k_cp (n + 1) ∧ 0 < k_cp (n + 1) := by
  unfold k_cp at hc
  by_cases h1 : n = 10
  · subst h1; decide
  by_cases h2 : n = 15
  · subst h2; decide
  by_cases h3 : n = 22
  · subst h3; decide
  by_cases h4 : n = 33
  · subst h4; decide
  · exfalso
    repeat' split at hc
    all_goals omega
theorem k_cp_same {n : Nat} (h : n ≤ 40) (h0 : ¬ n = 0) (hc : ¬ k_cp n = n) : k_cp (n + 1) = k_cp n ∧ n < k_cp n := by
  unfold k_cp at *
  constructor
  · repeat' split at hc
    all_goals repeat' split
    all_goals omega
  · repeat' split at hc
    all_goals repeat' split
    all_goals omega
theorem k_adH {G : k_G} {ad ad2 : k_Ad} {ct : k_Ct} {H : Heap} (h : k_H G ad ct H) (he : ∀ k i e, ct k i = some e → ad2 k i = ad k i) : k_H G ad2 ct H := fun k i e hc => by rw [he k i e hc]; exact h k i e hc
theorem k_adN {Z : Nat → Prop} {ad ad2 : k_Ad} {ct : k_Ct} (h : k_N Z ad ct) (he : ∀ k i e, ct k i = some e → ad2 k i = ad k i) : k_N Z ad2 ct := ⟨fun a b c d e e2 h1 h2 h3 => by rw [he a b e h1, he c d e2 h2] at h3; exact h.1 a b c d e e2 h1 h2 h3, fun a b e h1 => by rw [he a b e h1]; exact h.2 a b e h1⟩
theorem nI_d1 {n : Nat} : nI (n + 1) - nI n = 1 := by
  rw [← nI_1, Int32.add_comm, Int32.add_sub_cancel]
theorem mn_c {g1 g2 : Nat} (h : g1 ≤ g2) (h2 : g2 < 2 ^ 31) : (if nI g2 < nI g1 then nI g2 else nI g1) = nI g1 := if_neg (by
  intro q
  have := (nI_ltI (by omega) (by omega)).mp q
  omega)
theorem mn_c2 {g1 g2 : Nat} (h : g1 ≤ g2) (h2 : g2 < 2 ^ 31) : (if nI g1 < nI g2 then nI g1 else nI g2) = nI g1 := by
  by_cases q : nI g1 < nI g2
  · rw [if_pos q]
  · rw [if_neg q]
    have h1 : ¬ g1 < g2 := fun z => q (nI_lt z h2)
    rw [show g2 = g1 by omega]
theorem ke_J8_newLength_cabcc : wl_S yJ8_newLength_cabcc cJ8_newLength_cabcc 4 (some .int) 3 := ⟨wd_c_J8_newLength_cabcc, wd_t_J8_newLength_cabcc, wd_n_J8, by decide, by decide +kernel⟩
set_option maxHeartbeats 4000000 in
set_option maxRecDepth 100000 in
theorem m_J8_newLength_cabcc (l : Launch) (x y z : Int32) (n : Nat) (hn : x + (if y < z then z else y) = nI n) (hn0 : 0 < n) (hn1 : n ≤ 49) : rc_C l yJ8_newLength_cabcc cJ8_newLength_cabcc 4 (some .int) 1 24 [.int x, .int y, .int z] (fun _ => True) (fun r => r = nI n) := by
  refine rc_of (by decide) (Nat.le_of_ble_eq_true rfl) ?_
  intro p e s m args below meth c hx hb hr hF hlk hB ls hl
  have hl : lv_has ls 4 [(0, .int x), (1, .int y), (2, .int z)] := hl
  have hf : (0 : Nat) ≤ 0 ∧ (0 : Nat) ≤ 0 := ⟨Nat.le_refl 0, Nat.le_refl 0⟩
  refine lv_iload_n hx hb dJ8_newLength_cabcc_0 rfl (lv_at hl 0 rfl) ?_
  refine lv_iload_n hx hb dJ8_newLength_cabcc_1 rfl (lv_at hl 1 rfl) ?_
  refine lv_iload_n hx hb dJ8_newLength_cabcc_2 rfl (lv_at hl 2 rfl) ?_
  refine va_mmax hF.1 hF.2.1 (hF.2.2.1.trans hl.1.symm) hF.2.2.2.1 (hF.2.2.2.2 _ wd_l_J8_194) (hF.2.2.2.2 _ wd_x27) (hF.2.2.2.2 _ wd_x19) (hF.2.2.2.2 _ wd_x28) (by decide) (Nat.le_of_ble_eq_true rfl) hf.1 hf.2 dJ8_newLength_cabcc_3 ?_
  refine lv_iadd hx hb dJ8_newLength_cabcc_6 ?_
  refine bo_to (v := (nI n)) (hn) ?_
  refine lv_istore_n (lv' := [(3, .int (nI n)), (0, .int x), (1, .int y), (2, .int z)]) hx hb dJ8_newLength_cabcc_7 rfl hl (by decide) rfl (fun ls hl => ?_)
  refine lv_iconst (v := 0) hx hb dJ8_newLength_cabcc_8 (by decide) ?_
  refine lv_iload_n hx hb dJ8_newLength_cabcc_9 rfl (lv_at hl 0 rfl) ?_
  refine lv_icmp_ge (tgt := 21) hx hb dJ8_newLength_cabcc_10 (by decide) (fun c1 => ?_) (fun c1 => ?_)
  · skip
    exact absurd c1 (Int32.not_le.mpr (nI_lt (a := 0) (b := n) hn0 (by omega)))
  · skip
    refine lv_iload_n hx hb dJ8_newLength_cabcc_13 rfl (lv_at hl 0 rfl) ?_
    refine lv_ldc hF.1 hF.2.1 hF.2.2.2.1 (hF.2.2.2.2 _ wd_x29) dJ8_newLength_cabcc_14 ?_
    refine lv_icmp_gt (tgt := 21) hx hb dJ8_newLength_cabcc_16 (by decide) (fun c2 => ?_) (fun c2 => ?_)
    · skip
      exact absurd c2 (Int32.not_lt.mpr (Int32.le_of_lt (nI_lt (a := n) (b := 2147483639) (by omega) (by decide))))
    · skip
      refine lv_iload_n hx hb dJ8_newLength_cabcc_19 rfl (lv_at hl 0 rfl) ?_
      exact rc_iret hx hb hr hlk (rfl) dJ8_newLength_cabcc_20
theorem ke_J7_copyOf_6403c : wl_S yJ7_copyOf_6403c cJ7_copyOf_6403c 4 (some (.array (.object "java/lang/Object"))) 3 := ⟨wd_c_J7_copyOf_6403c, wd_t_J7_copyOf_6403c, wd_n_J7, by decide, by decide +kernel⟩
set_option maxHeartbeats 4000000 in
set_option maxRecDepth 100000 in
theorem m_J7_copyOf_6403c (l : Launch) (hflag : l.stackTraces = false) (G : k_G) (Z : Nat → Prop) (ad : k_Ad) (ct : k_Ct) (g1 g2 n : Nat) (he : ct 0 6 = some (k_row G ad g1 n)) (hfree : ct 0 7 = none) (hn : n ≤ g1) (hc : g1 ≤ g2) (hc2 : g2 ≤ 49) (hel : ∀ j, j < n → ∃ fs, ct 1 j = some (.inr (4, fs))) : kx_q l yJ7_copyOf_6403c cJ7_copyOf_6403c 4 (some (.array (.object "java/lang/Object"))) 1 24 1 49 G Z ad ct [.ref (ad 0 6), .int (nI g2), .ref G.2.2.2.2.2.2.2] (fun o u => ∃ q, o = some q ∧ u = (k_ad ad 0 7 q, k_up ct 0 7 (k_row G ad g2 n))) (fun _ => False) := by
  refine kx_of (by decide) (Nat.le_of_ble_eq_true rfl) ?_
  intro p e s m args below meth c hx hb hr hF hlk hnt hB ls hl
  obtain ⟨⟨hM, hN⟩, hK, hP, hT⟩ := hB
  have hS : va_S Z s.heap s.heap [] := va_S.rf
  have hl : lv_has ls 4 [(0, .ref (ad 0 6)), (1, .int (nI g2)), (2, .ref G.2.2.2.2.2.2.2)] := hl
  refine lv_aload_n hx hb dJ7_copyOf_6403c_0 rfl (lv_at hl 2 rfl) ?_
  refine va_ldcM hF.1 hF.2.1 hF.2.2.2.1 (hF.2.2.2.2 _ wd_k_J7_110) hP.2.2.1 dJ7_copyOf_6403c_1 ?_
  refine lv_acmp_ne (rx := some G.2.2.2.2.2.2.2) (ry := some G.2.2.2.2.2.2.2) (tgt := 13) hx hb dJ7_copyOf_6403c_3 (by decide) (fun q => absurd rfl q) (fun _ => ?_)
  refine lv_iload_n hx hb dJ7_copyOf_6403c_6 rfl (lv_at hl 1 rfl) ?_
  refine k_newq (t0 := 2) (C := "java/lang/Object") hF hK hM hN hS hT.2.2.2.2 0 7 hfree rfl wd_k_J7_2 hP.2.2.2.2.1 g2 (nI_pos (by omega)) (nI_clamp (by omega)) (by omega) (by decide) (by show 0 + g2 ≤ 49; omega) dJ7_copyOf_6403c_7 (fun q H hM hN hS => ?_)
  have h6 : va_at G.1 vwCl (ad 0 6, k_row G ad g1 n) H := by have h9 := hM 0 6 _ ((k_up_o (fun z => absurd z.2 (by decide))).trans he); rw [k_ad_o (fun z => absurd z.2 (by decide))] at h9; exact h9
  refine lv_goto (tgt := 24) hx hb dJ7_copyOf_6403c_10 (by decide) ?_
  refine lv_astore_n (lv' := [(3, .ref q), (0, .ref (ad 0 6)), (1, .int (nI g2)), (2, .ref G.2.2.2.2.2.2.2)]) hx hb dJ7_copyOf_6403c_24 rfl hl (by decide) rfl (fun ls hl => ?_)
  refine lv_aload_n hx hb dJ7_copyOf_6403c_25 rfl (lv_at hl 1 rfl) ?_
  refine lv_iconst (v := 0) hx hb dJ7_copyOf_6403c_26 (by decide) ?_
  refine lv_aload_n hx hb dJ7_copyOf_6403c_27 rfl (lv_at hl 0 rfl) ?_
  refine lv_iconst (v := 0) hx hb dJ7_copyOf_6403c_28 (by decide) ?_
  refine lv_aload_n hx hb dJ7_copyOf_6403c_29 rfl (lv_at hl 1 rfl) ?_
  refine g_alen (t0 := 2) hF hK h6 rfl dJ7_copyOf_6403c_30 ?_
  refine lv_iload_n hx hb dJ7_copyOf_6403c_31 rfl (lv_at hl 2 rfl) ?_
  refine va_mmin hF.1 hF.2.1 (hF.2.2.1.trans hl.1.symm) hF.2.2.2.1 (hF.2.2.2.2 _ wd_l_J7_304) (hF.2.2.2.2 _ wd_x18) (hF.2.2.2.2 _ wd_x19) (hF.2.2.2.2 _ wd_x20) (by decide) (Nat.le_of_ble_eq_true rfl) (by decide) (by show 0 + g2 ≤ 49; omega) dJ7_copyOf_6403c_32 ?_
  refine bo_to (v := (nI g1)) (by first | exact mn_c hc (by omega) | exact mn_c2 hc (by omega)) ?_
  have hany : ∀ i : Nat, i < g1 → ∀ y : Nat, k_rw ad n i = some y → va_Any "java/lang/Object" s H y := by
    intro i hi y hy
    unfold k_rw at hy
    by_cases h1 : i < n
    · rw [if_pos h1] at hy
      cases hy
      obtain ⟨fs, hf1⟩ := hel i h1
      have h9 := hM 1 i _ ((k_up_o (fun z => absurd z.1 (by decide))).trans hf1)
      rw [k_ad_o (fun z => absurd z.1 (by decide))] at h9
      exact k_anyW hK hP h9
    · rw [if_neg h1] at hy; cases hy
  refine k_copyq (t0 := 2) (t1 := 2) hF hK hM hN hS hl.1 wd_l_J7_150 0 7 h6 k_up_s k_ad_s rfl rfl rfl (by omega : g1 < 2 ^ 31) (Nat.le_refl g1) hc hany (by decide) (by decide) dJ7_copyOf_6403c_35 (fun H locs hM hN hS => ?_)
  rw [k_up_t, k_rw_cpy hn] at hM hN
  refine lv_aload_n hx hb dJ7_copyOf_6403c_38 rfl (lv_at hl 0 rfl) ?_
  exact kx_qretA (o := (some q)) hx hb hr hlk hM hN hK hS (by decide) (by show 0 + g2 ≤ 49; omega) (⟨q, rfl, rfl⟩) dJ7_copyOf_6403c_39

theorem k_rowC {s : State} {G : k_G} {H : Heap} {a g1 : Nat} {f : Nat → Option Nat} (hK : va_K G.1 vwCl (k_ty G) s) (hM : va_at G.1 vwCl (a, .inl (G.2.2.2.1, g1, .inr (.inr (.inr (.inr f))))) H) : ∃ cell : Cell, H[a]? = some cell ∧ cell.vm.isStatics = false ∧ s.vm.findClass "[Ljava/lang/Object;" = some cell.cls := by
  refine ⟨_, hM, rfl, ?_⟩
  exact va_nmO (hK.2 2 _ rfl).2 (by decide +kernel)
theorem ke_J7_copyOf_1904c : wl_S yJ7_copyOf_1904c cJ7_copyOf_1904c 2 (some (.array (.object "java/lang/Object"))) 2 := ⟨wd_c_J7_copyOf_1904c, wd_t_J7_copyOf_1904c, wd_n_J7, by decide, by decide +kernel⟩
set_option maxHeartbeats 4000000 in
set_option maxRecDepth 100000 in
theorem m_J7_copyOf_1904c (l : Launch) (hflag : l.stackTraces = false) (G : k_G) (Z : Nat → Prop) (ad : k_Ad) (ct : k_Ct) (g1 g2 n : Nat) (he : ct 0 6 = some (k_row G ad g1 n)) (hfree : ct 0 7 = none) (hn : n ≤ g1) (hc : g1 ≤ g2) (hc2 : g2 ≤ 49) (hel : ∀ j, j < n → ∃ fs, ct 1 j = some (.inr (4, fs))) : kx_q l yJ7_copyOf_1904c cJ7_copyOf_1904c 2 (some (.array (.object "java/lang/Object"))) 2 47 1 49 G Z ad ct [.ref (ad 0 6), .int (nI g2)] (fun o u => ∃ q, o = some q ∧ u = (k_ad ad 0 7 q, k_up ct 0 7 (k_row G ad g2 n))) (fun _ => False) := by
  refine kx_of (by decide) (Nat.le_of_ble_eq_true rfl) ?_
  intro p e s m args below meth c hx hb hr hF hlk hnt hB ls hl
  obtain ⟨⟨hM, hN⟩, hK, hP, hT⟩ := hB
  have hS : va_S Z s.heap s.heap [] := va_S.rf
  have hl : lv_has ls 2 [(0, .ref (ad 0 6)), (1, .int (nI g2))] := hl
  refine lv_aload_n hx hb dJ7_copyOf_1904c_0 rfl (lv_at hl 0 rfl) ?_
  refine lv_iload_n hx hb dJ7_copyOf_1904c_1 rfl (lv_at hl 1 rfl) ?_
  refine lv_aload_n hx hb dJ7_copyOf_1904c_2 rfl (lv_at hl 0 rfl) ?_
  refine va_getC hF.1 hF.2.1 (hF.2.2.1.trans hl.1.symm) hF.2.2.2.1 (hF.2.2.2.2 _ wd_l_J7_86) hP.2.2.2.1.use (hF.2.2.2.2 _ wd_x30) (hF.2.2.2.2 _ wd_x31) (hF.2.2.2.2 _ wd_x32) hP.2.2.1 (k_rowC hK (hM 0 6 _ he)) (by decide) (Nat.le_of_ble_eq_true rfl) dJ7_copyOf_1904c_3 ?_
  refine kx_qS (pX1 := fun _ => False) (fr := 1) (lo := 24) (mc1 := 1) (ms1 := 49) (As := [.ref (ad 0 6), .int (nI g2), .ref G.2.2.2.2.2.2.2]) (rest := []) hF (m_J7_copyOf_6403c l hflag G Z ad ct g1 g2 n he hfree hn hc hc2 hel) ke_J7_copyOf_6403c wd_l_J7_300 (by decide) hM hN hK hP hT hS rfl hl.1 rfl (Nat.le_of_ble_eq_true rfl) dJ7_copyOf_1904c_6 (by decide) hnt hlk (fun E hE => False.elim hE) (by decide) (by decide) (fun r1 u1 H locs hr1 hM hN hS _ _ => ?_)
  obtain ⟨q, rfl, rfl⟩ := hr1
  replace hM : k_H G (k_ad ad 0 7 q) (k_up ct 0 7 (k_row G ad g2 n)) H := hM
  replace hN : k_N Z (k_ad ad 0 7 q) (k_up ct 0 7 (k_row G ad g2 n)) := hN
  refine bo_toV (v := .ref q) rfl ?_
  exact kx_qretA (o := (some q)) hx hb hr hlk hM hN hK hS (by decide) (by decide) (⟨q, rfl, rfl⟩) dJ7_copyOf_1904c_9
theorem ke_Jx4a65c_grow_92f84 : wl_V RJx4a65c yJx4a65c_grow_92f84 cJx4a65c_grow_92f84 4 (some (.array (.object "java/lang/Object"))) 1 := ⟨wd_c_Jx4a65c_grow_92f84, wd_i_Jx4a65c_grow_92f84, wd_s_Jx4a65c_grow_92f84, wd_n_Jx4a65c, by decide, by decide +kernel⟩
set_option maxHeartbeats 4000000 in
set_option maxRecDepth 100000 in
theorem m_Jx4a65c_grow_92f84 (l : Launch) (hflag : l.stackTraces = false) (G : k_G) (Z : Nat → Prop) (ad : k_Ad) (ct : k_Ct) (x : Int32) (he : ct 0 1 = some (.inr (0, [.int x, .ref G.2.2.2.2.1, .int 0]))) (hfree : ct 0 6 = none) : kx_q l yJx4a65c_grow_92f84 cJx4a65c_grow_92f84 4 (some (.array (.object "java/lang/Object"))) 3 68 1 49 G Z ad ct [.ref (ad 0 1), .int 1] (fun o u => ∃ q, o = some q ∧ u = (k_ad ad 0 6 q, k_up (k_up ct 0 6 (k_row G ad 10 0)) 0 1 (.inr (0, [.int x, .ref q, .int 0])))) (fun _ => False) := by
  refine kx_of (by decide) (Nat.le_of_ble_eq_true rfl) ?_
  intro p e s m args below meth c hx hb hr hF hlk hnt hB ls hl
  obtain ⟨⟨hM, hN⟩, hK, hP, hT⟩ := hB
  have hS : va_S Z s.heap s.heap [] := va_S.rf
  have hl : lv_has ls 4 [(0, .ref (ad 0 1)), (1, .int 1)] := hl
  refine lv_aload_n hx hb dJx4a65c_grow_92f84_0 rfl (lv_at hl 0 rfl) ?_
  refine g_get (C := RJx4a65c) (T := TJx4a65c) (N := 3) (v := .ref G.2.2.2.2.1) hF hK (hM 0 1 _ he) rfl inlJx4a65c 1 (by decide) rfl wd_f_Jx4a65c_9 rfl dJx4a65c_grow_92f84_1 ?_
  refine va_tlen hF.1 hF.2.1 hT.2.2.2.1.2 hS (v := nI 0) rfl dJx4a65c_grow_92f84_4 ?_
  refine lv_istore_n (lv' := [(2, .int (nI 0)), (0, .ref (ad 0 1)), (1, .int 1)]) hx hb dJx4a65c_grow_92f84_5 rfl hl (by decide) rfl (fun ls hl => ?_)
  refine lv_iload_n hx hb dJx4a65c_grow_92f84_6 rfl (lv_at hl 0 rfl) ?_
  refine lv_if_gt (tgt := 20) hx hb dJx4a65c_grow_92f84_7 (by decide) (fun c1 => ?_) (fun c1 => ?_)
  · skip
    exact absurd c1 (by decide)
  · skip
    refine lv_aload_n hx hb dJx4a65c_grow_92f84_10 rfl (lv_at hl 1 rfl) ?_
    refine g_get (C := RJx4a65c) (T := TJx4a65c) (N := 3) (v := .ref G.2.2.2.2.1) hF hK (hM 0 1 _ he) rfl inlJx4a65c 1 (by decide) rfl wd_f_Jx4a65c_9 rfl dJx4a65c_grow_92f84_11 ?_
    refine va_gets hF.1 hF.2.1 hT.2.2.2.1.1 hS hF.2.2.2.1 (hF.2.2.2.2 _ wd_f_Jx4a65c_39) (fun x h => h) dJx4a65c_grow_92f84_14 ?_
    refine lv_acmp_eq (rx := some G.2.2.2.2.1) (ry := some G.2.2.2.2.1) (tgt := 45) hx hb dJx4a65c_grow_92f84_17 (by decide) (fun _ => ?_) (fun q => absurd rfl q)
    refine lv_aload_n hx hb dJx4a65c_grow_92f84_45 rfl (lv_at hl 1 rfl) ?_
    refine lv_bipush (v := 10) hx hb dJx4a65c_grow_92f84_46 (by decide) ?_
    refine lv_iload_n hx hb dJx4a65c_grow_92f84_48 rfl (lv_at hl 2 rfl) ?_
    refine va_mmax hF.1 hF.2.1 (hF.2.2.1.trans hl.1.symm) hF.2.2.2.1 (hF.2.2.2.2 _ wd_l_Jx4a65c_79) (hF.2.2.2.2 _ wd_x27) (hF.2.2.2.2 _ wd_x19) (hF.2.2.2.2 _ wd_x28) (by decide) (Nat.le_of_ble_eq_true rfl) (by decide) (by decide) dJx4a65c_grow_92f84_49 ?_
    refine bo_to (v := 10) (by decide) ?_
    refine k_newq (t0 := 2) (C := "java/lang/Object") hF hK hM hN hS hT.2.2.2.2 0 6 hfree rfl wd_k_Jx4a65c_7 hP.2.2.2.2.1 10 (by decide) (by decide) (by decide) (by decide) (by decide) dJx4a65c_grow_92f84_52 (fun q H hM hN hS => ?_)
    replace hM : k_H G (k_ad ad 0 6 q) (k_up ct 0 6 (k_row G ad 10 0)) H := hM
    replace hN : k_N Z (k_ad ad 0 6 q) (k_up ct 0 6 (k_row G ad 10 0)) := hN
    refine lv_dup_x1 hx hb dJx4a65c_grow_92f84_55 rfl rfl ?_
    have e01 : k_ad ad 0 6 q 0 1 = ad 0 1 := k_ad_o (fun z => absurd z.2 (by decide))
    rw [← e01]
    refine k_put (v := .ref q) (fs := [.int x, .ref G.2.2.2.2.1, .int 0]) hF hK hM hN hS 0 1 ((k_up_o (fun z => absurd z.2 (by decide))).trans he) rfl inlJx4a65c tyJx4a65c tyJx4a65c_ok nmJx4a65c 1 (by decide) rfl wd_f_Jx4a65c_9 rfl rfl rfl (by show 1 < 3; decide) dJx4a65c_grow_92f84_56 (fun H locs hM hN hS => ?_)
    clear e01
    exact kx_qretA (o := (some q)) hx hb hr hlk hM hN hK hS (by decide) (by decide) (⟨q, rfl, rfl⟩) dJx4a65c_grow_92f84_59
set_option maxHeartbeats 4000000 in
set_option maxRecDepth 100000 in
theorem m_Jx4a65c_grow_92f84F (l : Launch) (hflag : l.stackTraces = false) (G : k_G) (Z : Nat → Prop) (ad : k_Ad) (ct : k_Ct) (x : Int32) (n : Nat) (he : ct 0 1 = some (.inr (0, [.int x, .ref (ad 0 6), .int (nI n)]))) (h6 : ct 0 6 = some (k_row G ad n n)) (hfree : ct 0 7 = none) (hn : n ≤ 40) (hn0 : ¬ n = 0) (hcp : k_cp n = n) (hel : ∀ j, j < n → ∃ fs, ct 1 j = some (.inr (4, fs))) : kx_q l yJx4a65c_grow_92f84 cJx4a65c_grow_92f84 4 (some (.array (.object "java/lang/Object"))) 3 68 1 49 G Z ad ct [.ref (ad 0 1), .int (nI (n + 1))] (fun o u => ∃ q, o = some q ∧ u = (k_ad ad 0 7 q, k_up (k_up ct 0 7 (k_row G ad (k_cp (n + 1)) n)) 0 1 (.inr (0, [.int x, .ref q, .int (nI n)])))) (fun _ => False) := by
  refine kx_of (by decide) (Nat.le_of_ble_eq_true rfl) ?_
  intro p e s m args below meth c hx hb hr hF hlk hnt hB ls hl
  obtain ⟨⟨hM, hN⟩, hK, hP, hT⟩ := hB
  have hS : va_S Z s.heap s.heap [] := va_S.rf
  have hl : lv_has ls 4 [(0, .ref (ad 0 1)), (1, .int (nI (n + 1)))] := hl
  have hcs := k_cp_step hn hn0 hcp
  refine lv_aload_n hx hb dJx4a65c_grow_92f84_0 rfl (lv_at hl 0 rfl) ?_
  refine g_get (C := RJx4a65c) (T := TJx4a65c) (N := 3) (v := .ref (ad 0 6)) hF hK (hM 0 1 _ he) rfl inlJx4a65c 1 (by decide) rfl wd_f_Jx4a65c_9 rfl dJx4a65c_grow_92f84_1 ?_
  refine g_alen (t0 := 2) hF hK (hM 0 6 _ h6) rfl dJx4a65c_grow_92f84_4 ?_
  refine lv_istore_n (lv' := [(2, .int (nI n)), (0, .ref (ad 0 1)), (1, .int (nI (n + 1)))]) hx hb dJx4a65c_grow_92f84_5 rfl hl (by decide) rfl (fun ls hl => ?_)
  refine lv_iload_n hx hb dJx4a65c_grow_92f84_6 rfl (lv_at hl 0 rfl) ?_
  refine lv_if_gt (tgt := 20) hx hb dJx4a65c_grow_92f84_7 (by decide) (fun c1 => ?_) (fun c1 => ?_)
  · skip
    refine lv_iload_n hx hb dJx4a65c_grow_92f84_20 rfl (lv_at hl 0 rfl) ?_
    refine lv_iload_n hx hb dJx4a65c_grow_92f84_21 rfl (lv_at hl 2 rfl) ?_
    refine lv_iload_n hx hb dJx4a65c_grow_92f84_22 rfl (lv_at hl 0 rfl) ?_
    refine lv_isub hx hb dJx4a65c_grow_92f84_23 ?_
    refine bo_to (v := 1) (nI_d1) ?_
    refine lv_iload_n hx hb dJx4a65c_grow_92f84_24 rfl (lv_at hl 0 rfl) ?_
    refine lv_iconst (v := 1) hx hb dJx4a65c_grow_92f84_25 (by decide) ?_
    refine lv_ishr hx hb dJx4a65c_grow_92f84_26 ?_
    refine rc_S (fr := 1) (lo := 24) (As := [.int (nI n), .int 1, .int ((nI n) >>> (1 &&& 31))]) (rest := []) hF (m_J8_newLength_cabcc l (nI n) 1 (nI n >>> (1 &&& 31)) (k_cp (n + 1)) hcs.1 hcs.2.2.2 hcs.2.1) ke_J8_newLength_cabcc wd_l_Jx4a65c_73 (by decide) bl_true (fun _ _ _ => trivial) rfl hl.1 rfl (Nat.le_of_ble_eq_true rfl) dJx4a65c_grow_92f84_27 (by decide) (fun r1 hr1 => ?_)
    replace hr1 : r1 = nI (k_cp (n + 1)) := hr1
    subst hr1
    refine lv_istore_n (lv' := [(3, .int (nI (k_cp (n + 1)))), (2, .int (nI n)), (0, .ref (ad 0 1)), (1, .int (nI (n + 1)))]) hx hb dJx4a65c_grow_92f84_30 rfl hl (by decide) rfl (fun ls hl => ?_)
    refine lv_aload_n hx hb dJx4a65c_grow_92f84_31 rfl (lv_at hl 2 rfl) ?_
    refine lv_aload_n hx hb dJx4a65c_grow_92f84_32 rfl (lv_at hl 2 rfl) ?_
    refine g_get (C := RJx4a65c) (T := TJx4a65c) (N := 3) (v := .ref (ad 0 6)) hF hK (hM 0 1 _ he) rfl inlJx4a65c 1 (by decide) rfl wd_f_Jx4a65c_9 rfl dJx4a65c_grow_92f84_33 ?_
    refine lv_iload_n hx hb dJx4a65c_grow_92f84_36 rfl (lv_at hl 0 rfl) ?_
    refine kx_qS (pX1 := fun _ => False) (fr := 2) (lo := 47) (mc1 := 1) (ms1 := 49) (As := [.ref (ad 0 6), .int (nI (k_cp (n + 1)))]) (rest := [.ref (ad 0 1)]) hF (m_J7_copyOf_1904c l hflag G Z ad ct n (k_cp (n + 1)) n h6 hfree (Nat.le_refl n) (by omega) hcs.2.1 hel) ke_J7_copyOf_1904c wd_l_Jx4a65c_66 (by decide) hM hN hK hP hT hS rfl hl.1 rfl (Nat.le_of_ble_eq_true rfl) dJx4a65c_grow_92f84_37 (by decide) hnt hlk (fun E hE => False.elim hE) (by decide) (by decide) (fun r1 u1 H locs hr1 hM hN hS _ _ => ?_)
    obtain ⟨q, rfl, rfl⟩ := hr1
    replace hM : k_H G (k_ad ad 0 7 q) (k_up ct 0 7 (k_row G ad (k_cp (n + 1)) n)) H := hM
    replace hN : k_N Z (k_ad ad 0 7 q) (k_up ct 0 7 (k_row G ad (k_cp (n + 1)) n)) := hN
    refine bo_toV (v := .ref q) rfl ?_
    refine lv_dup_x1 hx hb dJx4a65c_grow_92f84_40 rfl rfl ?_
    have e01 : k_ad ad 0 7 q 0 1 = ad 0 1 := k_ad_o (fun z => absurd z.2 (by decide))
    rw [← e01]
    refine k_put (v := .ref q) (fs := [.int x, .ref (ad 0 6), .int (nI n)]) hF hK hM hN hS 0 1 ((k_up_o (fun z => absurd z.2 (by decide))).trans he) rfl inlJx4a65c tyJx4a65c tyJx4a65c_ok nmJx4a65c 1 (by decide) rfl wd_f_Jx4a65c_9 rfl rfl rfl (by show 1 < 3; decide) dJx4a65c_grow_92f84_41 (fun H locs hM hN hS => ?_)
    clear e01
    exact kx_qretA (o := (some q)) hx hb hr hlk hM hN hK hS (by decide) (by decide) (⟨q, rfl, rfl⟩) dJx4a65c_grow_92f84_44
  · skip
    exact absurd (nI_lt (a := 0) (b := n) (by omega) (by omega)) c1

theorem ke_Jx4a65c_grow_d5877 : wl_V RJx4a65c yJx4a65c_grow_d5877 cJx4a65c_grow_d5877 1 (some (.array (.object "java/lang/Object"))) 0 := ⟨wd_c_Jx4a65c_grow_d5877, wd_i_Jx4a65c_grow_d5877, wd_s_Jx4a65c_grow_d5877, wd_n_Jx4a65c, by decide, by decide +kernel⟩
set_option maxHeartbeats 4000000 in
set_option maxRecDepth 100000 in
theorem m_Jx4a65c_grow_d5877 (l : Launch) (hflag : l.stackTraces = false) (G : k_G) (Z : Nat → Prop) (ad : k_Ad) (ct : k_Ct) (x : Int32) (he : ct 0 1 = some (.inr (0, [.int x, .ref G.2.2.2.2.1, .int 0]))) (hfree : ct 0 6 = none) : kx_q l yJx4a65c_grow_d5877 cJx4a65c_grow_d5877 1 (some (.array (.object "java/lang/Object"))) 4 91 1 49 G Z ad ct [.ref (ad 0 1)] (fun o u => ∃ q, o = some q ∧ u = (k_ad ad 0 6 q, k_up (k_up ct 0 6 (k_row G ad 10 0)) 0 1 (.inr (0, [.int x, .ref q, .int 0])))) (fun _ => False) := by
  refine kx_of (by decide) (Nat.le_of_ble_eq_true rfl) ?_
  intro p e s m args below meth c hx hb hr hF hlk hnt hB ls hl
  obtain ⟨⟨hM, hN⟩, hK, hP, hT⟩ := hB
  have hS : va_S Z s.heap s.heap [] := va_S.rf
  have hl : lv_has ls 1 [(0, .ref (ad 0 1))] := hl
  refine lv_aload_n hx hb dJx4a65c_grow_d5877_0 rfl (lv_at hl 0 rfl) ?_
  refine lv_aload_n hx hb dJx4a65c_grow_d5877_1 rfl (lv_at hl 0 rfl) ?_
  refine g_get (C := RJx4a65c) (T := TJx4a65c) (N := 3) (v := .int 0) hF hK (hM 0 1 _ he) rfl inlJx4a65c 2 (by decide) rfl wd_f_Jx4a65c_48 rfl dJx4a65c_grow_d5877_2 ?_
  refine lv_iconst (v := 1) hx hb dJx4a65c_grow_d5877_5 (by decide) ?_
  refine lv_iadd hx hb dJx4a65c_grow_d5877_6 ?_
  refine bo_to (v := 1) (by decide) ?_
  refine kx_qV (C := RJx4a65c) (pX1 := fun _ => False) (fr := 3) (lo := 68) (mc1 := 1) (ms1 := 49) (As := [.int 1]) (rest := []) hF (m_Jx4a65c_grow_92f84 l hflag G Z ad ct x he hfree) ke_Jx4a65c_grow_92f84 wd_l_Jx4a65c_69 (by decide) hM hN hK hP hT hS (g_recv hK (hM 0 1 _ he) rfl) rfl hl.1 rfl (Nat.le_of_ble_eq_true rfl) dJx4a65c_grow_d5877_7 (by decide) hnt hlk (fun E hE => False.elim hE) (by decide) (by decide) (fun r1 u1 H locs hr1 hM hN hS _ _ => ?_)
  obtain ⟨q, rfl, rfl⟩ := hr1
  replace hM : k_H G (k_ad ad 0 6 q) (k_up (k_up ct 0 6 (k_row G ad 10 0)) 0 1 (.inr (0, [.int x, .ref q, .int 0]))) H := hM
  replace hN : k_N Z (k_ad ad 0 6 q) (k_up (k_up ct 0 6 (k_row G ad 10 0)) 0 1 (.inr (0, [.int x, .ref q, .int 0]))) := hN
  refine bo_toV (v := .ref q) rfl ?_
  exact kx_qretA (o := (some q)) hx hb hr hlk hM hN hK hS (by decide) (by decide) (⟨q, rfl, rfl⟩) dJx4a65c_grow_d5877_10
set_option maxHeartbeats 4000000 in
set_option maxRecDepth 100000 in
theorem m_Jx4a65c_grow_d5877F (l : Launch) (hflag : l.stackTraces = false) (G : k_G) (Z : Nat → Prop) (ad : k_Ad) (ct : k_Ct) (x : Int32) (n : Nat) (he : ct 0 1 = some (.inr (0, [.int x, .ref (ad 0 6), .int (nI n)]))) (h6 : ct 0 6 = some (k_row G ad n n)) (hfree : ct 0 7 = none) (hn : n ≤ 40) (hn0 : ¬ n = 0) (hcp : k_cp n = n) (hel : ∀ j, j < n → ∃ fs, ct 1 j = some (.inr (4, fs))) : kx_q l yJx4a65c_grow_d5877 cJx4a65c_grow_d5877 1 (some (.array (.object "java/lang/Object"))) 4 91 1 49 G Z ad ct [.ref (ad 0 1)] (fun o u => ∃ q, o = some q ∧ u = (k_ad ad 0 7 q, k_up (k_up ct 0 7 (k_row G ad (k_cp (n + 1)) n)) 0 1 (.inr (0, [.int x, .ref q, .int (nI n)])))) (fun _ => False) := by
  refine kx_of (by decide) (Nat.le_of_ble_eq_true rfl) ?_
  intro p e s m args below meth c hx hb hr hF hlk hnt hB ls hl
  obtain ⟨⟨hM, hN⟩, hK, hP, hT⟩ := hB
  have hS : va_S Z s.heap s.heap [] := va_S.rf
  have hl : lv_has ls 1 [(0, .ref (ad 0 1))] := hl
  refine lv_aload_n hx hb dJx4a65c_grow_d5877_0 rfl (lv_at hl 0 rfl) ?_
  refine lv_aload_n hx hb dJx4a65c_grow_d5877_1 rfl (lv_at hl 0 rfl) ?_
  refine g_get (C := RJx4a65c) (T := TJx4a65c) (N := 3) (v := .int (nI n)) hF hK (hM 0 1 _ he) rfl inlJx4a65c 2 (by decide) rfl wd_f_Jx4a65c_48 rfl dJx4a65c_grow_d5877_2 ?_
  refine lv_iconst (v := 1) hx hb dJx4a65c_grow_d5877_5 (by decide) ?_
  refine lv_iadd hx hb dJx4a65c_grow_d5877_6 ?_
  refine bo_to (v := (nI (n + 1))) (nI_1 _) ?_
  refine kx_qV (C := RJx4a65c) (pX1 := fun _ => False) (fr := 3) (lo := 68) (mc1 := 1) (ms1 := 49) (As := [.int (nI (n + 1))]) (rest := []) hF (m_Jx4a65c_grow_92f84F l hflag G Z ad ct x n he h6 hfree hn hn0 hcp hel) ke_Jx4a65c_grow_92f84 wd_l_Jx4a65c_69 (by decide) hM hN hK hP hT hS (g_recv hK (hM 0 1 _ he) rfl) rfl hl.1 rfl (Nat.le_of_ble_eq_true rfl) dJx4a65c_grow_d5877_7 (by decide) hnt hlk (fun E hE => False.elim hE) (by decide) (by decide) (fun r1 u1 H locs hr1 hM hN hS _ _ => ?_)
  obtain ⟨q, rfl, rfl⟩ := hr1
  replace hM : k_H G (k_ad ad 0 7 q) (k_up (k_up ct 0 7 (k_row G ad (k_cp (n + 1)) n)) 0 1 (.inr (0, [.int x, .ref q, .int (nI n)]))) H := hM
  replace hN : k_N Z (k_ad ad 0 7 q) (k_up (k_up ct 0 7 (k_row G ad (k_cp (n + 1)) n)) 0 1 (.inr (0, [.int x, .ref q, .int (nI n)]))) := hN
  refine bo_toV (v := .ref q) rfl ?_
  exact kx_qretA (o := (some q)) hx hb hr hlk hM hN hK hS (by decide) (by decide) (⟨q, rfl, rfl⟩) dJx4a65c_grow_d5877_10
