theorem dJx4a65c_add_72be8_0 : decode cJx4a65c_add_72be8 0 = .ok (.iload_n 3, 1) := by decide +kernel
theorem dJx4a65c_add_72be8_1 : decode cJx4a65c_add_72be8 1 = .ok (.aload_n 2, 1) := by decide +kernel
theorem dJx4a65c_add_72be8_2 : decode cJx4a65c_add_72be8 2 = .ok (.arraylength, 1) := by decide +kernel
theorem dJx4a65c_add_72be8_3 : decode cJx4a65c_add_72be8 3 = .ok (.if_icmp .ne 8, 3) := by decide +kernel
theorem dJx4a65c_add_72be8_6 : decode cJx4a65c_add_72be8 6 = .ok (.aload_n 0, 1) := by decide +kernel
theorem dJx4a65c_add_72be8_7 : decode cJx4a65c_add_72be8 7 = .ok (.invokevirtual 129, 3) := by decide +kernel
theorem dJx4a65c_add_72be8_10 : decode cJx4a65c_add_72be8 10 = .ok (.astore_n 2, 1) := by decide +kernel
theorem dJx4a65c_add_72be8_11 : decode cJx4a65c_add_72be8 11 = .ok (.aload_n 2, 1) := by decide +kernel
theorem dJx4a65c_add_72be8_12 : decode cJx4a65c_add_72be8 12 = .ok (.iload_n 3, 1) := by decide +kernel
theorem dJx4a65c_add_72be8_13 : decode cJx4a65c_add_72be8 13 = .ok (.aload_n 1, 1) := by decide +kernel
theorem dJx4a65c_add_72be8_14 : decode cJx4a65c_add_72be8 14 = .ok (.aastore, 1) := by decide +kernel
theorem dJx4a65c_add_72be8_15 : decode cJx4a65c_add_72be8 15 = .ok (.aload_n 0, 1) := by decide +kernel
theorem dJx4a65c_add_72be8_16 : decode cJx4a65c_add_72be8 16 = .ok (.iload_n 3, 1) := by decide +kernel
theorem dJx4a65c_add_72be8_17 : decode cJx4a65c_add_72be8 17 = .ok (.iconst 1, 1) := by decide +kernel
theorem dJx4a65c_add_72be8_18 : decode cJx4a65c_add_72be8 18 = .ok (.iadd, 1) := by decide +kernel
theorem dJx4a65c_add_72be8_19 : decode cJx4a65c_add_72be8 19 = .ok (.putfield 48, 3) := by decide +kernel
theorem dJx4a65c_add_72be8_22 : decode cJx4a65c_add_72be8 22 = .ok (.return_, 1) := by decide +kernel
theorem dJx4a65c_add_9ea2d_0 : decode cJx4a65c_add_9ea2d 0 = .ok (.aload_n 0, 1) := by decide +kernel
theorem dJx4a65c_add_9ea2d_1 : decode cJx4a65c_add_9ea2d 1 = .ok (.dup, 1) := by decide +kernel
theorem dJx4a65c_add_9ea2d_2 : decode cJx4a65c_add_9ea2d 2 = .ok (.getfield 63, 3) := by decide +kernel
theorem dJx4a65c_add_9ea2d_5 : decode cJx4a65c_add_9ea2d 5 = .ok (.iconst 1, 1) := by decide +kernel
theorem dJx4a65c_add_9ea2d_6 : decode cJx4a65c_add_9ea2d 6 = .ok (.iadd, 1) := by decide +kernel
theorem dJx4a65c_add_9ea2d_7 : decode cJx4a65c_add_9ea2d 7 = .ok (.putfield 63, 3) := by decide +kernel
theorem dJx4a65c_add_9ea2d_10 : decode cJx4a65c_add_9ea2d 10 = .ok (.aload_n 0, 1) := by decide +kernel
theorem dJx4a65c_add_9ea2d_11 : decode cJx4a65c_add_9ea2d 11 = .ok (.aload_n 1, 1) := by decide +kernel
theorem dJx4a65c_add_9ea2d_12 : decode cJx4a65c_add_9ea2d 12 = .ok (.aload_n 0, 1) := by decide +kernel
theorem dJx4a65c_add_9ea2d_13 : decode cJx4a65c_add_9ea2d 13 = .ok (.getfield 9, 3) := by decide +kernel
theorem dJx4a65c_add_9ea2d_16 : decode cJx4a65c_add_9ea2d 16 = .ok (.aload_n 0, 1) := by decide +kernel
theorem dJx4a65c_add_9ea2d_17 : decode cJx4a65c_add_9ea2d 17 = .ok (.getfield 48, 3) := by decide +kernel
theorem dJx4a65c_add_9ea2d_20 : decode cJx4a65c_add_9ea2d 20 = .ok (.invokevirtual 131, 3) := by decide +kernel
theorem dJx4a65c_add_9ea2d_23 : decode cJx4a65c_add_9ea2d 23 = .ok (.iconst 1, 1) := by decide +kernel
theorem dJx4a65c_add_9ea2d_24 : decode cJx4a65c_add_9ea2d 24 = .ok (.ireturn, 1) := by decide +kernel
theorem k_fin_ct {ct : k_Ct} {R L : va_E} (h7 : ct 0 7 = none) : k_up (k_rm (k_up (k_up ct 0 7 R) 0 1 L) 0 7) 0 6 R = k_up (k_up ct 0 6 R) 0 1 L := by
  funext a b
  by_cases z7 : a = 0 ∧ b = 7
  · obtain ⟨rfl, rfl⟩ := z7
    rw [k_up_o (by simp), k_rm_s, k_up_o (by simp), k_up_o (by simp), h7]
  by_cases z6 : a = 0 ∧ b = 6
  · obtain ⟨rfl, rfl⟩ := z6
    rw [k_up_s, k_up_o (by simp), k_up_s]
  by_cases z1 : a = 0 ∧ b = 1
  · obtain ⟨rfl, rfl⟩ := z1
    rw [k_up_o (by simp), k_rm_o (by simp), k_up_s, k_up_s]
  · rw [k_up_o z6, k_rm_o z7, k_up_o z1, k_up_o z7, k_up_o z1, k_up_o z6]
theorem k_fin_ad {ad : k_Ad} {ct : k_Ct} {q : Nat} {R L : va_E} (h7 : ct 0 7 = none) : ∀ k i e, k_up (k_up ct 0 6 R) 0 1 L k i = some e → k_ad ad 0 6 q k i = k_ad (k_ad ad 0 7 q) 0 6 (k_ad ad 0 7 q 0 7) k i := by
  intro k i e he
  rw [k_ad_s]
  by_cases z6 : k = 0 ∧ i = 6
  · obtain ⟨rfl, rfl⟩ := z6
    rw [k_ad_s, k_ad_s]
  · rw [k_ad_o z6, k_ad_o z6]
    by_cases z7 : k = 0 ∧ i = 7
    · obtain ⟨rfl, rfl⟩ := z7
      rw [k_up_o (by simp), k_up_o (by simp), h7] at he
      cases he
    · rw [k_ad_o z7]
theorem k_finH {G : k_G} {ad : k_Ad} {ct : k_Ct} {H : Heap} {q : Nat} {R L : va_E} (h : k_H G (k_ad ad 0 7 q) (k_up (k_up ct 0 7 R) 0 1 L) H) (h7 : ct 0 7 = none) : k_H G (k_ad ad 0 6 q) (k_up (k_up ct 0 6 R) 0 1 L) H := by
  have h1 := k_mvH (k2 := 0) (i2 := 6) h (k := 0) (i := 7) (e0 := R) ((k_up_o (by simp)).trans k_up_s)
  rw [k_fin_ct h7] at h1
  exact k_adH h1 (k_fin_ad h7)
theorem k_finN {Z : Nat → Prop} {ad : k_Ad} {ct : k_Ct} {q : Nat} {R L : va_E} (h : k_N Z (k_ad ad 0 7 q) (k_up (k_up ct 0 7 R) 0 1 L)) (h7 : ct 0 7 = none) : k_N Z (k_ad ad 0 6 q) (k_up (k_up ct 0 6 R) 0 1 L) := by
  have h1 := k_mvN (k2 := 0) (i2 := 6) h (k := 0) (i := 7) (e0 := R) ((k_up_o (by simp)).trans k_up_s)
  rw [k_fin_ct h7] at h1
  exact k_adN h1 (k_fin_ad h7)
theorem k_ad_id {ad : k_Ad} {k i : Nat} : k_ad ad k i (ad k i) = ad := by
  funext a b
  unfold k_ad
  by_cases z : a = k ∧ b = i
  · rw [if_pos z, z.1, z.2]
  · rw [if_neg z]
section
variable {p : Program} {l : Launch} {e : Env} {R : Room} {s : State} {m : MethodId} {args : Array Value} {below : List Frame} {meth : Method} {c : Code} {H : Heap} {locs : List Loc} {cells slots : Nat} {Q : State → Prop}
variable {cc : ByteArray} {pc nL : Nat} {ls : Array Slot} {rest st0 : List Value} {H0 : Heap} {own : String} {G : k_G} {Z : Nat → Prop} {ad : k_Ad} {ct : k_Ct}
/-- a field that the link names by a class below its own -/
theorem k_putS (hF : CallFix p m c cc nL s args wsL_law own) (hK : va_K G.1 vwCl (k_ty G) s) (hM : k_H G ad ct H) (hN : k_N Z ad ct) (hS : va_S Z H0 H locs) {idx ci N : Nat} {C ref : String} {T : u_T} {fs : List Value} (K i : Nat) (he : ct K i = some (.inr (ci, fs))) (hc : vwCl[ci]? = some (C, T, N)) (hin : ∀ w ∈ u_ws C T N, w ∈ wsL_law) (ty0 : Nat → FieldType) (hty : ∀ k, k < N → parseFieldDescriptor (T k).2.2.1 = some (ty0 k)) (hnm : ∀ a, a < N → ∀ b, b < N → a ≠ b → (T a).2.1 ≠ (T b).2.1)
    (k : Nat) (hk : k < N) (hlink : Cond.fieldLink own idx ref (T k).2.1 (T k).2.2.1 ∈ wsL_law) (hsame : Cond.sameField ref (T k).1 (T k).2.1 (T k).2.2.1 ∈ wsL_law) (hfin : (T k).2.2.2 = false) {v : Value} (hn : narrow (ty0 k) v = v) (hfit : fits (ty0 k) v = true) (hl : k < fs.length) (hdg : decode cc pc = .ok (.putfield idx, 3))
    (kk : ∀ (H1 : Heap) (locs1 : List Loc), k_H G ad (k_up ct K i (.inr (ci, fs.set k v))) H1 → k_N Z ad (k_up ct K i (.inr (ci, fs.set k v))) → va_S Z H0 H1 locs1 → W p l e R s m args below meth c H1 locs1 cells slots Q (F0 m (pc + 3) ls rest)) : W p l e R s m args below meth c H locs cells slots Q (F0 m pc ls (v :: .ref (ad K i) :: rest)) := by
  obtain ⟨hx, hb, -, hown, hw⟩ := hF
  have hap := va_apart (own := own) hw hin ty0 hty hnm hK hc
  obtain ⟨r, h1, cell, q1, q2, q3, q4⟩ := hM K i _ he
  have hr : r = (C, T, N) := Option.some.inj (h1.symm.trans hc)
  subst hr
  obtain ⟨hSl, hfc, kC, hkC, hkind⟩ := hK.1 ci _ hc
  obtain ⟨cf, kf, fi, f, hi, hsl⟩ := hSl k hk
  have hlay := hw _ (hin _ (u_in_lay hk))
  unfold u_lay at hlay
  rw [if_neg (by rw [hfin]; decide)] at hlay
  have hst := (u_facts hfc hkC (u_lays hw hin hk) hi).1
  have h6 := u_store hfc hkC hkind hlay hi (hty k hk) hn hfit
  refine W.putK hx hb (f := f) ⟨hown, hw _ hlink, ⟨_, _, _, u_same (hw _ hsame) _ hi⟩, hst⟩ (by rw [q2]; exact h6) q1 q3 (by rw [hsl]; exact k2_hasslot (q4 k hk)) rfl rfl hdg fun H' e1 e2 e3 => ?_
  rw [hsl] at e1 ⊢
  exact kk H' _ (k_upd hM hN he ⟨_, hc, t_OB.to (V := updV (vp_V fs) k v) ⟨_, e1, q2, q3, t_set q4 hap hk v⟩ (fun j _ => vp_updV_set hl v j)⟩ e3) (k_updN hN he) (hS.put e2 e3 (hN.2 K i _ he))
end
theorem k_cp49 {n : Nat} : k_cp n ≤ 49 := by
  unfold k_cp
  repeat' split
  all_goals omega
theorem ke_Jx4a65c_add_72be8 : wl_V RJx4a65c yJx4a65c_add_72be8 cJx4a65c_add_72be8 4 none 3 := ⟨wd_c_Jx4a65c_add_72be8, wd_i_Jx4a65c_add_72be8, wd_s_Jx4a65c_add_72be8, wd_n_Jx4a65c, by decide, by decide +kernel⟩
set_option maxHeartbeats 4000000 in
set_option maxRecDepth 100000 in
theorem m_Jx4a65c_add_72be8 (l : Launch) (hflag : l.stackTraces = false) (G : k_G) (Z : Nat → Prop) (ad : k_Ad) (ct : k_Ct) (x : Int32) (n : Nat) (fs : List Value) (he : ct 0 1 = some (.inr (0, [.int x, .ref (ad 0 6), .int (nI n)]))) (h6 : ct 0 6 = some (k_row G ad (k_cp n) n)) (hn : n ≤ 40) (hn0 : ¬ n = 0) (hcp : ¬ k_cp n = n) (hw : ct 1 n = some (.inr (4, fs))) : kx_v l yJx4a65c_add_72be8 cJx4a65c_add_72be8 4 none 5 111 1 49 G Z ad ct [.ref (ad 0 1), .ref (ad 1 n), .ref (ad 0 6), .int (nI n)] (fun u => ∃ q, u = (k_ad ad 0 6 q, k_up (k_up ct 0 6 (k_row G ad (k_cp (n + 1)) (n + 1))) 0 1 (.inr (0, [.int x, .ref q, .int (nI (n + 1))])))) (fun _ => False) := by
  refine kx_of (by decide) (Nat.le_of_ble_eq_true rfl) ?_
  intro p e s m args below meth c hx hb hr hF hlk hnt hB ls hl
  obtain ⟨⟨hM, hN⟩, hK, hP, hT⟩ := hB
  have hS : va_S Z s.heap s.heap [] := va_S.rf
  have hl : lv_has ls 4 [(0, .ref (ad 0 1)), (1, .ref (ad 1 n)), (2, .ref (ad 0 6)), (3, .int (nI n))] := hl
  have hcs := k_cp_same hn hn0 hcp
  have hc9 := k_cp49 (n := n)
  refine lv_iload_n hx hb dJx4a65c_add_72be8_0 rfl (lv_at hl 3 rfl) ?_
  refine lv_aload_n hx hb dJx4a65c_add_72be8_1 rfl (lv_at hl 2 rfl) ?_
  refine g_alen (t0 := 2) hF hK (hM 0 6 _ h6) rfl dJx4a65c_add_72be8_2 ?_
  refine lv_icmp_ne (tgt := 11) hx hb dJx4a65c_add_72be8_3 (by decide) (fun c1 => ?_) (fun c1 => ?_)
  · skip
    refine lv_aload_n hx hb dJx4a65c_add_72be8_11 rfl (lv_at hl 2 rfl) ?_
    refine lv_iload_n hx hb dJx4a65c_add_72be8_12 rfl (lv_at hl 3 rfl) ?_
    refine lv_aload_n hx hb dJx4a65c_add_72be8_13 rfl (lv_at hl 1 rfl) ?_
    refine k_astqM (t0 := 2) (i := n) hF hK hM hN hS 0 6 h6 rfl rfl (k_anyW hK hP (hM 1 n _ hw)) rfl (hcs.2) (by have := k_cp49 (n := n + 1); have := k_cp49 (n := n); omega) dJx4a65c_add_72be8_14 (fun H locs hM hN hS => ?_)
    rw [k_rw_up] at hM hN
    refine lv_aload_n hx hb dJx4a65c_add_72be8_15 rfl (lv_at hl 0 rfl) ?_
    refine lv_iload_n hx hb dJx4a65c_add_72be8_16 rfl (lv_at hl 3 rfl) ?_
    refine lv_iconst (v := 1) hx hb dJx4a65c_add_72be8_17 (by decide) ?_
    refine lv_iadd hx hb dJx4a65c_add_72be8_18 ?_
    refine bo_to (v := (nI (n + 1))) (nI_1 _) ?_
    refine k_put (v := .int (nI (n + 1))) (fs := [.int x, .ref (ad 0 6), .int (nI n)]) hF hK hM hN hS 0 1 ((k_up_o (fun z => absurd z.2 (by decide))).trans he) rfl inlJx4a65c tyJx4a65c tyJx4a65c_ok nmJx4a65c 2 (by decide) rfl wd_f_Jx4a65c_48 rfl rfl rfl (by show 2 < 3; decide) dJx4a65c_add_72be8_19 (fun H locs hM hN hS => ?_)
    exact kx_vret hx hb hr hlk hM hN hK hS (by decide) (by decide) ⟨ad 0 6, by rw [k_ad_id, hcs.1]; rfl⟩ dJx4a65c_add_72be8_22
  · skip
    exact absurd ((nI_eq (a := n) (b := k_cp n) (by omega) (by omega)).mp (by first | exact c1 | exact Classical.not_not.mp c1)) (by omega)
set_option maxHeartbeats 4000000 in
set_option maxRecDepth 100000 in
theorem m_Jx4a65c_add_72be8E (l : Launch) (hflag : l.stackTraces = false) (G : k_G) (Z : Nat → Prop) (ad : k_Ad) (ct : k_Ct) (x : Int32) (fs : List Value) (he : ct 0 1 = some (.inr (0, [.int x, .ref G.2.2.2.2.1, .int 0]))) (hfree : ct 0 6 = none) (hw : ct 1 0 = some (.inr (4, fs))) : kx_v l yJx4a65c_add_72be8 cJx4a65c_add_72be8 4 none 5 111 1 49 G Z ad ct [.ref (ad 0 1), .ref (ad 1 0), .ref G.2.2.2.2.1, .int 0] (fun u => ∃ q, u = (k_ad ad 0 6 q, k_up (k_up ct 0 6 (k_row G ad 10 1)) 0 1 (.inr (0, [.int x, .ref q, .int 1])))) (fun _ => False) := by
  refine kx_of (by decide) (Nat.le_of_ble_eq_true rfl) ?_
  intro p e s m args below meth c hx hb hr hF hlk hnt hB ls hl
  obtain ⟨⟨hM, hN⟩, hK, hP, hT⟩ := hB
  have hS : va_S Z s.heap s.heap [] := va_S.rf
  have hl : lv_has ls 4 [(0, .ref (ad 0 1)), (1, .ref (ad 1 0)), (2, .ref G.2.2.2.2.1), (3, .int 0)] := hl
  refine lv_iload_n hx hb dJx4a65c_add_72be8_0 rfl (lv_at hl 3 rfl) ?_
  refine lv_aload_n hx hb dJx4a65c_add_72be8_1 rfl (lv_at hl 2 rfl) ?_
  refine va_tlen hF.1 hF.2.1 hT.2.2.2.1.2 hS (v := nI 0) rfl dJx4a65c_add_72be8_2 ?_
  refine lv_icmp_ne (tgt := 11) hx hb dJx4a65c_add_72be8_3 (by decide) (fun c1 => ?_) (fun c1 => ?_)
  · skip
    exact absurd c1 (by decide)
  · skip
    refine lv_aload_n hx hb dJx4a65c_add_72be8_6 rfl (lv_at hl 0 rfl) ?_
    refine kx_qV (C := RJx4a65c) (pX1 := fun _ => False) (fr := 4) (lo := 91) (mc1 := 1) (ms1 := 49) (As := []) (rest := []) hF (m_Jx4a65c_grow_d5877 l hflag G Z ad ct x he hfree) ke_Jx4a65c_grow_d5877 wd_l_Jx4a65c_129 (by decide) hM hN hK hP hT hS (g_recv hK (hM 0 1 _ he) rfl) rfl hl.1 rfl (Nat.le_of_ble_eq_true rfl) dJx4a65c_add_72be8_7 (by decide) hnt hlk (fun E hE => False.elim hE) (by decide) (by decide) (fun r1 u1 H locs hr1 hM hN hS _ _ => ?_)
    obtain ⟨q, rfl, rfl⟩ := hr1
    replace hM : k_H G (k_ad ad 0 6 q) (k_up (k_up ct 0 6 (k_row G ad 10 0)) 0 1 (.inr (0, [.int x, .ref q, .int 0]))) H := hM
    replace hN : k_N Z (k_ad ad 0 6 q) (k_up (k_up ct 0 6 (k_row G ad 10 0)) 0 1 (.inr (0, [.int x, .ref q, .int 0]))) := hN
    refine bo_toV (v := .ref q) rfl ?_
    refine lv_astore_n (lv' := [(2, .ref q), (0, .ref (ad 0 1)), (1, .ref (ad 1 0)), (3, .int 0)]) hx hb dJx4a65c_add_72be8_10 rfl hl (by decide) rfl (fun ls hl => ?_)
    refine lv_aload_n hx hb dJx4a65c_add_72be8_11 rfl (lv_at hl 0 rfl) ?_
    refine lv_iload_n hx hb dJx4a65c_add_72be8_12 rfl (lv_at hl 3 rfl) ?_
    refine lv_aload_n hx hb dJx4a65c_add_72be8_13 rfl (lv_at hl 2 rfl) ?_
    refine k_astqM (t0 := 2) (i := 0) hF hK hM hN hS 0 6 ((k_up_o (fun z => absurd z.2 (by decide))).trans k_up_s) k_ad_s rfl (k_anyW hK hP (by have h9 := hM 1 0 _ ((k_up_o (fun z => absurd z.1 (by decide))).trans ((k_up_o (fun z => absurd z.1 (by decide))).trans hw)); rw [k_ad_o (fun z => absurd z.1 (by decide))] at h9; exact h9)) rfl (by decide) (by decide) dJx4a65c_add_72be8_14 (fun H locs hM hN hS => ?_)
    rw [k_rw_up] at hM hN
    refine lv_aload_n hx hb dJx4a65c_add_72be8_15 rfl (lv_at hl 1 rfl) ?_
    refine lv_iload_n hx hb dJx4a65c_add_72be8_16 rfl (lv_at hl 3 rfl) ?_
    refine lv_iconst (v := 1) hx hb dJx4a65c_add_72be8_17 (by decide) ?_
    refine lv_iadd hx hb dJx4a65c_add_72be8_18 ?_
    refine bo_to (v := 1) (by decide) ?_
    have e01 : k_ad ad 0 6 q 0 1 = ad 0 1 := k_ad_o (fun z => absurd z.2 (by decide))
    rw [← e01]
    refine k_put (v := .int 1) (fs := [.int x, .ref q, .int 0]) hF hK hM hN hS 0 1 ((k_up_o (fun z => absurd z.2 (by decide))).trans k_up_s) rfl inlJx4a65c tyJx4a65c tyJx4a65c_ok nmJx4a65c 2 (by decide) rfl wd_f_Jx4a65c_48 rfl rfl rfl (by show 2 < 3; decide) dJx4a65c_add_72be8_19 (fun H locs hM hN hS => ?_)
    clear e01
    rw [k_up_c (k := 0) (i := 1) (k2 := 0) (i2 := 6) (by simp), k_up_t, k_up_t] at hM hN
    exact kx_vret hx hb hr hlk hM hN hK hS (by decide) (by decide) (⟨q, rfl⟩) dJx4a65c_add_72be8_22
set_option maxHeartbeats 4000000 in
set_option maxRecDepth 100000 in
theorem m_Jx4a65c_add_72be8F (l : Launch) (hflag : l.stackTraces = false) (G : k_G) (Z : Nat → Prop) (ad : k_Ad) (ct : k_Ct) (x : Int32) (n : Nat) (fs : List Value) (he : ct 0 1 = some (.inr (0, [.int x, .ref (ad 0 6), .int (nI n)]))) (h6 : ct 0 6 = some (k_row G ad n n)) (hfree : ct 0 7 = none) (hn : n ≤ 40) (hn0 : ¬ n = 0) (hcp : k_cp n = n) (hel : ∀ j, j < n → ∃ fs, ct 1 j = some (.inr (4, fs))) (hw : ct 1 n = some (.inr (4, fs))) : kx_v l yJx4a65c_add_72be8 cJx4a65c_add_72be8 4 none 5 111 1 49 G Z ad ct [.ref (ad 0 1), .ref (ad 1 n), .ref (ad 0 6), .int (nI n)] (fun u => ∃ q, u = (k_ad ad 0 6 q, k_up (k_up ct 0 6 (k_row G ad (k_cp (n + 1)) (n + 1))) 0 1 (.inr (0, [.int x, .ref q, .int (nI (n + 1))])))) (fun _ => False) := by
  refine kx_of (by decide) (Nat.le_of_ble_eq_true rfl) ?_
  intro p e s m args below meth c hx hb hr hF hlk hnt hB ls hl
  obtain ⟨⟨hM, hN⟩, hK, hP, hT⟩ := hB
  have hS : va_S Z s.heap s.heap [] := va_S.rf
  have hl : lv_has ls 4 [(0, .ref (ad 0 1)), (1, .ref (ad 1 n)), (2, .ref (ad 0 6)), (3, .int (nI n))] := hl
  have hcs := k_cp_step hn hn0 hcp
  refine lv_iload_n hx hb dJx4a65c_add_72be8_0 rfl (lv_at hl 3 rfl) ?_
  refine lv_aload_n hx hb dJx4a65c_add_72be8_1 rfl (lv_at hl 2 rfl) ?_
  refine g_alen (t0 := 2) hF hK (hM 0 6 _ h6) rfl dJx4a65c_add_72be8_2 ?_
  refine lv_icmp_ne (tgt := 11) hx hb dJx4a65c_add_72be8_3 (by decide) (fun c1 => ?_) (fun c1 => ?_)
  · skip
    exact absurd c1 (by simp)
  · skip
    refine lv_aload_n hx hb dJx4a65c_add_72be8_6 rfl (lv_at hl 0 rfl) ?_
    refine kx_qV (C := RJx4a65c) (pX1 := fun _ => False) (fr := 4) (lo := 91) (mc1 := 1) (ms1 := 49) (As := []) (rest := []) hF (m_Jx4a65c_grow_d5877F l hflag G Z ad ct x n he h6 hfree hn hn0 hcp hel) ke_Jx4a65c_grow_d5877 wd_l_Jx4a65c_129 (by decide) hM hN hK hP hT hS (g_recv hK (hM 0 1 _ he) rfl) rfl hl.1 rfl (Nat.le_of_ble_eq_true rfl) dJx4a65c_add_72be8_7 (by decide) hnt hlk (fun E hE => False.elim hE) (by decide) (by decide) (fun r1 u1 H locs hr1 hM hN hS _ _ => ?_)
    obtain ⟨q, rfl, rfl⟩ := hr1
    replace hM : k_H G (k_ad ad 0 7 q) (k_up (k_up ct 0 7 (k_row G ad (k_cp (n + 1)) n)) 0 1 (.inr (0, [.int x, .ref q, .int (nI n)]))) H := hM
    replace hN : k_N Z (k_ad ad 0 7 q) (k_up (k_up ct 0 7 (k_row G ad (k_cp (n + 1)) n)) 0 1 (.inr (0, [.int x, .ref q, .int (nI n)]))) := hN
    refine bo_toV (v := .ref q) rfl ?_
    refine lv_astore_n (lv' := [(2, .ref q), (0, .ref (ad 0 1)), (1, .ref (ad 1 n)), (3, .int (nI n))]) hx hb dJx4a65c_add_72be8_10 rfl hl (by decide) rfl (fun ls hl => ?_)
    refine lv_aload_n hx hb dJx4a65c_add_72be8_11 rfl (lv_at hl 0 rfl) ?_
    refine lv_iload_n hx hb dJx4a65c_add_72be8_12 rfl (lv_at hl 3 rfl) ?_
    refine lv_aload_n hx hb dJx4a65c_add_72be8_13 rfl (lv_at hl 2 rfl) ?_
    refine k_astqM (t0 := 2) (i := n) hF hK hM hN hS 0 7 ((k_up_o (fun z => absurd z.2 (by decide))).trans k_up_s) k_ad_s rfl (k_anyW hK hP (by have h9 := hM 1 n _ ((k_up_o (fun z => absurd z.1 (by decide))).trans ((k_up_o (fun z => absurd z.1 (by decide))).trans hw)); rw [k_ad_o (fun z => absurd z.1 (by decide))] at h9; exact h9)) rfl (by omega) (by have := k_cp49 (n := n + 1); have := k_cp49 (n := n); omega) dJx4a65c_add_72be8_14 (fun H locs hM hN hS => ?_)
    rw [k_rw_up] at hM hN
    refine lv_aload_n hx hb dJx4a65c_add_72be8_15 rfl (lv_at hl 1 rfl) ?_
    refine lv_iload_n hx hb dJx4a65c_add_72be8_16 rfl (lv_at hl 3 rfl) ?_
    refine lv_iconst (v := 1) hx hb dJx4a65c_add_72be8_17 (by decide) ?_
    refine lv_iadd hx hb dJx4a65c_add_72be8_18 ?_
    refine bo_to (v := (nI (n + 1))) (nI_1 _) ?_
    have e01 : k_ad ad 0 7 q 0 1 = ad 0 1 := k_ad_o (fun z => absurd z.2 (by decide))
    rw [← e01]
    refine k_put (v := .int (nI (n + 1))) (fs := [.int x, .ref q, .int (nI n)]) hF hK hM hN hS 0 1 ((k_up_o (fun z => absurd z.2 (by decide))).trans k_up_s) rfl inlJx4a65c tyJx4a65c tyJx4a65c_ok nmJx4a65c 2 (by decide) rfl wd_f_Jx4a65c_48 rfl rfl rfl (by show 2 < 3; decide) dJx4a65c_add_72be8_19 (fun H locs hM hN hS => ?_)
    clear e01
    rw [k_up_c (k := 0) (i := 1) (k2 := 0) (i2 := 7) (by simp), k_up_t, k_up_t] at hM hN
    exact kx_vret hx hb hr hlk (k_finH hM hfree) (k_finN hN hfree) hK hS (by decide) (by decide) (⟨q, rfl⟩) dJx4a65c_add_72be8_22
theorem ke_Jx4a65c_add_9ea2d : wl_V RJx4a65c yJx4a65c_add_9ea2d cJx4a65c_add_9ea2d 2 (some .boolean) 1 := ⟨wd_c_Jx4a65c_add_9ea2d, wd_i_Jx4a65c_add_9ea2d, wd_s_Jx4a65c_add_9ea2d, wd_n_Jx4a65c, by decide, by decide +kernel⟩
set_option maxHeartbeats 4000000 in
set_option maxRecDepth 100000 in
theorem m_Jx4a65c_add_9ea2d (l : Launch) (hflag : l.stackTraces = false) (G : k_G) (Z : Nat → Prop) (ad : k_Ad) (ct : k_Ct) (x : Int32) (n : Nat) (fs : List Value) (he : ct 0 1 = some (.inr (0, [.int x, .ref (ad 0 6), .int (nI n)]))) (h6 : ct 0 6 = some (k_row G ad (k_cp n) n)) (hn : n ≤ 40) (hn0 : ¬ n = 0) (hcp : ¬ k_cp n = n) (hw : ct 1 n = some (.inr (4, fs))) : kx_i l yJx4a65c_add_9ea2d cJx4a65c_add_9ea2d 2 (some .boolean) 6 134 1 49 G Z ad ct [.ref (ad 0 1), .ref (ad 1 n)] (fun r u => ∃ q, r = 1 ∧ u = (k_ad ad 0 6 q, k_up (k_up ct 0 6 (k_row G ad (k_cp (n + 1)) (n + 1))) 0 1 (.inr (0, [.int (x + 1), .ref q, .int (nI (n + 1))])))) (fun _ => False) := by
  refine kx_of (by decide) (Nat.le_of_ble_eq_true rfl) ?_
  intro p e s m args below meth c hx hb hr hF hlk hnt hB ls hl
  obtain ⟨⟨hM, hN⟩, hK, hP, hT⟩ := hB
  have hS : va_S Z s.heap s.heap [] := va_S.rf
  have hl : lv_has ls 2 [(0, .ref (ad 0 1)), (1, .ref (ad 1 n))] := hl
  refine lv_aload_n hx hb dJx4a65c_add_9ea2d_0 rfl (lv_at hl 0 rfl) ?_
  refine lv_dup hx hb dJx4a65c_add_9ea2d_1 rfl ?_
  refine va_get hF.1 hF.2.1 hF.2.2.2.2 inlJx4a65c hF.2.2.2.1 hK (mo_one (hM 0 1 _ he)) 0 rfl rfl 0 (by decide) (hF.2.2.2.2 _ wd_f_Jx4a65c_63) (u_same (hF.2.2.2.2 _ wd_x26)) (v := .int x) rfl dJx4a65c_add_9ea2d_2 ?_
  refine lv_iconst (v := 1) hx hb dJx4a65c_add_9ea2d_5 (by decide) ?_
  refine lv_iadd hx hb dJx4a65c_add_9ea2d_6 ?_
  refine k_putS (v := .int (x + 1)) (fs := [.int x, .ref (ad 0 6), .int (nI n)]) hF hK hM hN hS 0 1 he rfl inlJx4a65c tyJx4a65c tyJx4a65c_ok nmJx4a65c 0 (by decide) wd_f_Jx4a65c_63 wd_x26 rfl rfl rfl (by show 0 < 3; decide) dJx4a65c_add_9ea2d_7 (fun H locs hM hN hS => ?_)
  replace hM : k_H G ad (k_up ct 0 1 (.inr (0, [.int (x + 1), .ref (ad 0 6), .int (nI n)]))) H := hM
  replace hN : k_N Z ad (k_up ct 0 1 (.inr (0, [.int (x + 1), .ref (ad 0 6), .int (nI n)]))) := hN
  refine lv_aload_n hx hb dJx4a65c_add_9ea2d_10 rfl (lv_at hl 0 rfl) ?_
  refine lv_aload_n hx hb dJx4a65c_add_9ea2d_11 rfl (lv_at hl 1 rfl) ?_
  refine lv_aload_n hx hb dJx4a65c_add_9ea2d_12 rfl (lv_at hl 0 rfl) ?_
  refine g_get (C := RJx4a65c) (T := TJx4a65c) (N := 3) (v := .ref (ad 0 6)) hF hK (hM 0 1 _ k_up_s) rfl inlJx4a65c 1 (by decide) rfl wd_f_Jx4a65c_9 rfl dJx4a65c_add_9ea2d_13 ?_
  refine lv_aload_n hx hb dJx4a65c_add_9ea2d_16 rfl (lv_at hl 0 rfl) ?_
  refine g_get (C := RJx4a65c) (T := TJx4a65c) (N := 3) (v := .int (nI n)) hF hK (hM 0 1 _ k_up_s) rfl inlJx4a65c 2 (by decide) rfl wd_f_Jx4a65c_48 rfl dJx4a65c_add_9ea2d_17 ?_
  refine kx_vV (C := RJx4a65c) (pX1 := fun _ => False) (fr := 5) (lo := 111) (mc1 := 1) (ms1 := 49) (As := [.ref (ad 1 n), .ref (ad 0 6), .int (nI n)]) (rest := []) hF (m_Jx4a65c_add_72be8 l hflag G Z ad (k_up ct 0 1 (.inr (0, [.int (x + 1), .ref (ad 0 6), .int (nI n)]))) (x + 1) n fs k_up_s ((k_up_o (fun z => absurd z.2 (by decide))).trans h6) hn hn0 hcp ((k_up_o (fun z => absurd z.1 (by decide))).trans hw)) ke_Jx4a65c_add_72be8 wd_l_Jx4a65c_131 (by decide) hM hN hK hP hT hS (g_recv hK (hM 0 1 _ k_up_s) rfl) rfl hl.1 rfl (Nat.le_of_ble_eq_true rfl) dJx4a65c_add_9ea2d_20 (by decide) hnt hlk (fun E hE => False.elim hE) (by decide) (by decide) (fun u1 H locs hu1 hM hN hS _ _ => ?_)
  obtain ⟨q, rfl⟩ := hu1
  replace hM : k_H G (k_ad ad 0 6 q) (k_up (k_up (k_up ct 0 1 (.inr (0, [.int (x + 1), .ref (ad 0 6), .int (nI n)]))) 0 6 (k_row G ad (k_cp (n + 1)) (n + 1))) 0 1 (.inr (0, [.int (x + 1), .ref q, .int (nI (n + 1))]))) H := hM
  replace hN : k_N Z (k_ad ad 0 6 q) (k_up (k_up (k_up ct 0 1 (.inr (0, [.int (x + 1), .ref (ad 0 6), .int (nI n)]))) 0 6 (k_row G ad (k_cp (n + 1)) (n + 1))) 0 1 (.inr (0, [.int (x + 1), .ref q, .int (nI (n + 1))]))) := hN
  rw [k_up_c (k := 0) (i := 1) (k2 := 0) (i2 := 6) (by simp), k_up_t] at hM hN
  refine lv_iconst (v := 1) hx hb dJx4a65c_add_9ea2d_23 (by decide) ?_
  exact kx_zret hx hb hr hlk hM hN hK hS (by decide) (by decide) (Or.inr rfl) (⟨q, rfl, rfl⟩) dJx4a65c_add_9ea2d_24
set_option maxHeartbeats 4000000 in
set_option maxRecDepth 100000 in
theorem m_Jx4a65c_add_9ea2dE (l : Launch) (hflag : l.stackTraces = false) (G : k_G) (Z : Nat → Prop) (ad : k_Ad) (ct : k_Ct) (x : Int32) (fs : List Value) (he : ct 0 1 = some (.inr (0, [.int x, .ref G.2.2.2.2.1, .int 0]))) (hfree : ct 0 6 = none) (hw : ct 1 0 = some (.inr (4, fs))) : kx_i l yJx4a65c_add_9ea2d cJx4a65c_add_9ea2d 2 (some .boolean) 6 134 1 49 G Z ad ct [.ref (ad 0 1), .ref (ad 1 0)] (fun r u => ∃ q, r = 1 ∧ u = (k_ad ad 0 6 q, k_up (k_up ct 0 6 (k_row G ad 10 1)) 0 1 (.inr (0, [.int (x + 1), .ref q, .int 1])))) (fun _ => False) := by
  refine kx_of (by decide) (Nat.le_of_ble_eq_true rfl) ?_
  intro p e s m args below meth c hx hb hr hF hlk hnt hB ls hl
  obtain ⟨⟨hM, hN⟩, hK, hP, hT⟩ := hB
  have hS : va_S Z s.heap s.heap [] := va_S.rf
  have hl : lv_has ls 2 [(0, .ref (ad 0 1)), (1, .ref (ad 1 0))] := hl
  refine lv_aload_n hx hb dJx4a65c_add_9ea2d_0 rfl (lv_at hl 0 rfl) ?_
  refine lv_dup hx hb dJx4a65c_add_9ea2d_1 rfl ?_
  refine va_get hF.1 hF.2.1 hF.2.2.2.2 inlJx4a65c hF.2.2.2.1 hK (mo_one (hM 0 1 _ he)) 0 rfl rfl 0 (by decide) (hF.2.2.2.2 _ wd_f_Jx4a65c_63) (u_same (hF.2.2.2.2 _ wd_x26)) (v := .int x) rfl dJx4a65c_add_9ea2d_2 ?_
  refine lv_iconst (v := 1) hx hb dJx4a65c_add_9ea2d_5 (by decide) ?_
  refine lv_iadd hx hb dJx4a65c_add_9ea2d_6 ?_
  refine k_putS (v := .int (x + 1)) (fs := [.int x, .ref G.2.2.2.2.1, .int 0]) hF hK hM hN hS 0 1 he rfl inlJx4a65c tyJx4a65c tyJx4a65c_ok nmJx4a65c 0 (by decide) wd_f_Jx4a65c_63 wd_x26 rfl rfl rfl (by show 0 < 3; decide) dJx4a65c_add_9ea2d_7 (fun H locs hM hN hS => ?_)
  replace hM : k_H G ad (k_up ct 0 1 (.inr (0, [.int (x + 1), .ref G.2.2.2.2.1, .int 0]))) H := hM
  replace hN : k_N Z ad (k_up ct 0 1 (.inr (0, [.int (x + 1), .ref G.2.2.2.2.1, .int 0]))) := hN
  refine lv_aload_n hx hb dJx4a65c_add_9ea2d_10 rfl (lv_at hl 0 rfl) ?_
  refine lv_aload_n hx hb dJx4a65c_add_9ea2d_11 rfl (lv_at hl 1 rfl) ?_
  refine lv_aload_n hx hb dJx4a65c_add_9ea2d_12 rfl (lv_at hl 0 rfl) ?_
  refine g_get (C := RJx4a65c) (T := TJx4a65c) (N := 3) (v := .ref G.2.2.2.2.1) hF hK (hM 0 1 _ k_up_s) rfl inlJx4a65c 1 (by decide) rfl wd_f_Jx4a65c_9 rfl dJx4a65c_add_9ea2d_13 ?_
  refine lv_aload_n hx hb dJx4a65c_add_9ea2d_16 rfl (lv_at hl 0 rfl) ?_
  refine g_get (C := RJx4a65c) (T := TJx4a65c) (N := 3) (v := .int 0) hF hK (hM 0 1 _ k_up_s) rfl inlJx4a65c 2 (by decide) rfl wd_f_Jx4a65c_48 rfl dJx4a65c_add_9ea2d_17 ?_
  refine kx_vV (C := RJx4a65c) (pX1 := fun _ => False) (fr := 5) (lo := 111) (mc1 := 1) (ms1 := 49) (As := [.ref (ad 1 0), .ref G.2.2.2.2.1, .int 0]) (rest := []) hF (m_Jx4a65c_add_72be8E l hflag G Z ad (k_up ct 0 1 (.inr (0, [.int (x + 1), .ref G.2.2.2.2.1, .int 0]))) (x + 1) fs k_up_s ((k_up_o (fun z => absurd z.2 (by decide))).trans hfree) ((k_up_o (fun z => absurd z.1 (by decide))).trans hw)) ke_Jx4a65c_add_72be8 wd_l_Jx4a65c_131 (by decide) hM hN hK hP hT hS (g_recv hK (hM 0 1 _ k_up_s) rfl) rfl hl.1 rfl (Nat.le_of_ble_eq_true rfl) dJx4a65c_add_9ea2d_20 (by decide) hnt hlk (fun E hE => False.elim hE) (by decide) (by decide) (fun u1 H locs hu1 hM hN hS _ _ => ?_)
  obtain ⟨q, rfl⟩ := hu1
  replace hM : k_H G (k_ad ad 0 6 q) (k_up (k_up (k_up ct 0 1 (.inr (0, [.int (x + 1), .ref G.2.2.2.2.1, .int 0]))) 0 6 (k_row G ad 10 1)) 0 1 (.inr (0, [.int (x + 1), .ref q, .int 1]))) H := hM
  replace hN : k_N Z (k_ad ad 0 6 q) (k_up (k_up (k_up ct 0 1 (.inr (0, [.int (x + 1), .ref G.2.2.2.2.1, .int 0]))) 0 6 (k_row G ad 10 1)) 0 1 (.inr (0, [.int (x + 1), .ref q, .int 1]))) := hN
  rw [k_up_c (k := 0) (i := 1) (k2 := 0) (i2 := 6) (by simp), k_up_t] at hM hN
  refine lv_iconst (v := 1) hx hb dJx4a65c_add_9ea2d_23 (by decide) ?_
  exact kx_zret hx hb hr hlk hM hN hK hS (by decide) (by decide) (Or.inr rfl) (⟨q, rfl, rfl⟩) dJx4a65c_add_9ea2d_24
set_option maxHeartbeats 4000000 in
set_option maxRecDepth 100000 in
theorem m_Jx4a65c_add_9ea2dF (l : Launch) (hflag : l.stackTraces = false) (G : k_G) (Z : Nat → Prop) (ad : k_Ad) (ct : k_Ct) (x : Int32) (n : Nat) (fs : List Value) (he : ct 0 1 = some (.inr (0, [.int x, .ref (ad 0 6), .int (nI n)]))) (h6 : ct 0 6 = some (k_row G ad n n)) (hfree : ct 0 7 = none) (hn : n ≤ 40) (hn0 : ¬ n = 0) (hcp : k_cp n = n) (hel : ∀ j, j < n → ∃ fs, ct 1 j = some (.inr (4, fs))) (hw : ct 1 n = some (.inr (4, fs))) : kx_i l yJx4a65c_add_9ea2d cJx4a65c_add_9ea2d 2 (some .boolean) 6 134 1 49 G Z ad ct [.ref (ad 0 1), .ref (ad 1 n)] (fun r u => ∃ q, r = 1 ∧ u = (k_ad ad 0 6 q, k_up (k_up ct 0 6 (k_row G ad (k_cp (n + 1)) (n + 1))) 0 1 (.inr (0, [.int (x + 1), .ref q, .int (nI (n + 1))])))) (fun _ => False) := by
  refine kx_of (by decide) (Nat.le_of_ble_eq_true rfl) ?_
  intro p e s m args below meth c hx hb hr hF hlk hnt hB ls hl
  obtain ⟨⟨hM, hN⟩, hK, hP, hT⟩ := hB
  have hS : va_S Z s.heap s.heap [] := va_S.rf
  have hl : lv_has ls 2 [(0, .ref (ad 0 1)), (1, .ref (ad 1 n))] := hl
  refine lv_aload_n hx hb dJx4a65c_add_9ea2d_0 rfl (lv_at hl 0 rfl) ?_
  refine lv_dup hx hb dJx4a65c_add_9ea2d_1 rfl ?_
  refine va_get hF.1 hF.2.1 hF.2.2.2.2 inlJx4a65c hF.2.2.2.1 hK (mo_one (hM 0 1 _ he)) 0 rfl rfl 0 (by decide) (hF.2.2.2.2 _ wd_f_Jx4a65c_63) (u_same (hF.2.2.2.2 _ wd_x26)) (v := .int x) rfl dJx4a65c_add_9ea2d_2 ?_
  refine lv_iconst (v := 1) hx hb dJx4a65c_add_9ea2d_5 (by decide) ?_
  refine lv_iadd hx hb dJx4a65c_add_9ea2d_6 ?_
  refine k_putS (v := .int (x + 1)) (fs := [.int x, .ref (ad 0 6), .int (nI n)]) hF hK hM hN hS 0 1 he rfl inlJx4a65c tyJx4a65c tyJx4a65c_ok nmJx4a65c 0 (by decide) wd_f_Jx4a65c_63 wd_x26 rfl rfl rfl (by show 0 < 3; decide) dJx4a65c_add_9ea2d_7 (fun H locs hM hN hS => ?_)
  replace hM : k_H G ad (k_up ct 0 1 (.inr (0, [.int (x + 1), .ref (ad 0 6), .int (nI n)]))) H := hM
  replace hN : k_N Z ad (k_up ct 0 1 (.inr (0, [.int (x + 1), .ref (ad 0 6), .int (nI n)]))) := hN
  refine lv_aload_n hx hb dJx4a65c_add_9ea2d_10 rfl (lv_at hl 0 rfl) ?_
  refine lv_aload_n hx hb dJx4a65c_add_9ea2d_11 rfl (lv_at hl 1 rfl) ?_
  refine lv_aload_n hx hb dJx4a65c_add_9ea2d_12 rfl (lv_at hl 0 rfl) ?_
  refine g_get (C := RJx4a65c) (T := TJx4a65c) (N := 3) (v := .ref (ad 0 6)) hF hK (hM 0 1 _ k_up_s) rfl inlJx4a65c 1 (by decide) rfl wd_f_Jx4a65c_9 rfl dJx4a65c_add_9ea2d_13 ?_
  refine lv_aload_n hx hb dJx4a65c_add_9ea2d_16 rfl (lv_at hl 0 rfl) ?_
  refine g_get (C := RJx4a65c) (T := TJx4a65c) (N := 3) (v := .int (nI n)) hF hK (hM 0 1 _ k_up_s) rfl inlJx4a65c 2 (by decide) rfl wd_f_Jx4a65c_48 rfl dJx4a65c_add_9ea2d_17 ?_
  refine kx_vV (C := RJx4a65c) (pX1 := fun _ => False) (fr := 5) (lo := 111) (mc1 := 1) (ms1 := 49) (As := [.ref (ad 1 n), .ref (ad 0 6), .int (nI n)]) (rest := []) hF (m_Jx4a65c_add_72be8F l hflag G Z ad (k_up ct 0 1 (.inr (0, [.int (x + 1), .ref (ad 0 6), .int (nI n)]))) (x + 1) n fs k_up_s ((k_up_o (fun z => absurd z.2 (by decide))).trans h6) ((k_up_o (fun z => absurd z.2 (by decide))).trans hfree) hn hn0 hcp (fun j hj => by obtain ⟨fs, h9⟩ := hel j hj; exact ⟨fs, ((k_up_o (fun z => absurd z.1 (by decide))).trans h9)⟩) ((k_up_o (fun z => absurd z.1 (by decide))).trans hw)) ke_Jx4a65c_add_72be8 wd_l_Jx4a65c_131 (by decide) hM hN hK hP hT hS (g_recv hK (hM 0 1 _ k_up_s) rfl) rfl hl.1 rfl (Nat.le_of_ble_eq_true rfl) dJx4a65c_add_9ea2d_20 (by decide) hnt hlk (fun E hE => False.elim hE) (by decide) (by decide) (fun u1 H locs hu1 hM hN hS _ _ => ?_)
  obtain ⟨q, rfl⟩ := hu1
  replace hM : k_H G (k_ad ad 0 6 q) (k_up (k_up (k_up ct 0 1 (.inr (0, [.int (x + 1), .ref (ad 0 6), .int (nI n)]))) 0 6 (k_row G ad (k_cp (n + 1)) (n + 1))) 0 1 (.inr (0, [.int (x + 1), .ref q, .int (nI (n + 1))]))) H := hM
  replace hN : k_N Z (k_ad ad 0 6 q) (k_up (k_up (k_up ct 0 1 (.inr (0, [.int (x + 1), .ref (ad 0 6), .int (nI n)]))) 0 6 (k_row G ad (k_cp (n + 1)) (n + 1))) 0 1 (.inr (0, [.int (x + 1), .ref q, .int (nI (n + 1))]))) := hN
  rw [k_up_c (k := 0) (i := 1) (k2 := 0) (i2 := 6) (by simp), k_up_t] at hM hN
  refine lv_iconst (v := 1) hx hb dJx4a65c_add_9ea2d_23 (by decide) ?_
  exact kx_zret hx hb hr hlk hM hN hK hS (by decide) (by decide) (Or.inr rfl) (⟨q, rfl, rfl⟩) dJx4a65c_add_9ea2d_24
theorem m_list_add (l : Launch) (hflag : l.stackTraces = false) (G : k_G) (Z : Nat → Prop) (ad : k_Ad) (ct : k_Ct) (x : Int32) (n : Nat) (fs : List Value) (he : ct 0 1 = some (.inr (0, [.int x, .ref (if n = 0 then G.2.2.2.2.1 else ad 0 6), .int (nI n)]))) (h6 : ct 0 6 = if n = 0 then none else some (k_row G ad (k_cp n) n)) (hfree : ct 0 7 = none) (hn : n ≤ 40) (hel : ∀ j, j < n → ∃ fs, ct 1 j = some (.inr (4, fs))) (hw : ct 1 n = some (.inr (4, fs))) :
    kx_i l yJx4a65c_add_9ea2d cJx4a65c_add_9ea2d 2 (some .boolean) 6 134 1 49 G Z ad ct [.ref (ad 0 1), .ref (ad 1 n)] (fun r u => ∃ q, r = 1 ∧ u = (k_ad ad 0 6 q, k_up (k_up ct 0 6 (k_row G ad (k_cp (n + 1)) (n + 1))) 0 1 (.inr (0, [.int (x + 1), .ref q, .int (nI (n + 1))])))) (fun _ => False) := by
  by_cases h0 : n = 0
  · subst h0
    rw [if_pos rfl] at he h6
    exact m_Jx4a65c_add_9ea2dE l hflag G Z ad ct x fs he h6 hw
  · rw [if_neg h0] at he h6
    by_cases hcp : k_cp n = n
    · rw [hcp] at h6
      exact m_Jx4a65c_add_9ea2dF l hflag G Z ad ct x n fs he h6 hfree hn h0 hcp hel hw
    · exact m_Jx4a65c_add_9ea2d l hflag G Z ad ct x n fs he h6 hn h0 hcp hw
