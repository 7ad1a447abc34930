/-! ===== the law's start ===== -/
section
variable {G : k_G} {ad : k_Ad} {ct ct1 : k_Ct} {q1 q3 q4 q5 q6 q7 q8 q9 q10 q12 q13 q14 q15 q16 q17 q18 q19 : Nat}
theorem x5_kH2 {H : Heap} (h : k_H G (x5_A ad q1 q3 q4 q5 q6 q7 q8 q9 q10 q12 q13 q14 q15 q16 q17 q18 q19) (x5_C G ct q1 q3 q4 q5 q6 q7 q8 q9 q10 q12 q13 q14 q15 q16 q17 q18 q19) H) (h9 : ∀ k i e, ct1 k i = some e → k ≠ 9 ∧ ct k i = some e) : k_H G ad ct1 H := fun k i e he => by
  obtain ⟨hk, he2⟩ := h9 k i e he
  obtain ⟨e1, e2⟩ := x5_cl (G := G) (ad := ad) (ct := ct) (q1 := q1) (q3 := q3) (q4 := q4) (q5 := q5) (q6 := q6) (q7 := q7) (q8 := q8) (q9 := q9) (q10 := q10) (q12 := q12) (q13 := q13) (q14 := q14) (q15 := q15) (q16 := q16) (q17 := q17) (q18 := q18) (q19 := q19) k i hk
  have := h k i e (e1.trans he2)
  rw [e2] at this
  exact this
theorem x5_kN2 {Z : Nat → Prop} (h : k_N Z (x5_A ad q1 q3 q4 q5 q6 q7 q8 q9 q10 q12 q13 q14 q15 q16 q17 q18 q19) (x5_C G ct q1 q3 q4 q5 q6 q7 q8 q9 q10 q12 q13 q14 q15 q16 q17 q18 q19)) (h9 : ∀ k i e, ct1 k i = some e → k ≠ 9 ∧ ct k i = some e) : k_N (fun q => Z q ∧ ¬ mo_R (x5_A ad q1 q3 q4 q5 q6 q7 q8 q9 q10 q12 q13 q14 q15 q16 q17 q18 q19 9 0) (fun k => x5_A ad q1 q3 q4 q5 q6 q7 q8 q9 q10 q12 q13 q14 q15 q16 q17 q18 q19 9 (k + 1)) q) ad ct1 := by
  have key : ∀ k i e, ct1 k i = some e → k ≠ 9 ∧ x5_C G ct q1 q3 q4 q5 q6 q7 q8 q9 q10 q12 q13 q14 q15 q16 q17 q18 q19 k i = some e ∧ x5_A ad q1 q3 q4 q5 q6 q7 q8 q9 q10 q12 q13 q14 q15 q16 q17 q18 q19 k i = ad k i := fun k i e he => by
    obtain ⟨hk, he2⟩ := h9 k i e he
    obtain ⟨e1, e2⟩ := x5_cl (G := G) (ad := ad) (ct := ct) (q1 := q1) (q3 := q3) (q4 := q4) (q5 := q5) (q6 := q6) (q7 := q7) (q8 := q8) (q9 := q9) (q10 := q10) (q12 := q12) (q13 := q13) (q14 := q14) (q15 := q15) (q16 := q16) (q17 := q17) (q18 := q18) (q19 := q19) k i hk
    exact ⟨hk, e1.trans he2, e2⟩
  refine ⟨fun a b c d e e2 h1 h2 h3 => ?_, fun a b e h1 => ?_⟩
  · obtain ⟨-, u1, u2⟩ := key a b e h1
    obtain ⟨-, u3, u4⟩ := key c d e2 h2
    exact h.1 a b c d e e2 u1 u3 (by rw [u2, u4]; exact h3)
  · obtain ⟨hk, u1, u2⟩ := key a b e h1
    have hz := h.2 a b e u1
    rw [u2] at hz
    refine ⟨hz, fun hq => ?_⟩
    rcases hq with e9 | ⟨j, hj, e9⟩
    · exact hk (h.1 a b 9 0 _ _ u1 (x5_ob (ad := ad)) (by rw [u2]; exact e9)).1
    · exact hk (h.1 a b 9 (j + 1) _ _ u1 (x5_ar j hj) (by rw [u2]; exact e9)).1
end
section
variable {p : Program} {l : Launch} {e : Env} {R : Room} {s : State} {m : MethodId} {args : Array Value} {below : List Frame} {meth : Method} {c : Code} {H : Heap} {locs : List Loc} {cells slots : Nat} {Q : State → Prop}
variable {cc : ByteArray} {pc nL : Nat} {ls : Array Slot} {rest st0 : List Value} {own : String} {G : k_G} {ad : k_Ad} {ct : k_Ct} {Z : Nat → Prop}
theorem ll_N {index n fr lo mc ms maxL : Nat} {y : MethodName} {bytes : ByteArray} {b : Nat} {As : List Value} {post : k_Ad × k_Ct → Prop} (hF : CallFix p m c cc nL s args wsL_law own) (hM : kx_v l y bytes maxL none fr lo mc ms G Z ad ct (.ref b :: As) post (fun _ => False)) (hk : wl_I y bytes maxL n) (hl : Cond.methodLink own index y ∈ wsL_law) (hR : fr + 1 ≤ R.frames ∧ 8 + (maxL + 11) + lo ≤ R.locals)
    (hH : k_H G ad ct H) (hN : k_N Z ad ct) (hK : va_K G.1 vwCl (k_ty G) s) (hP : k_P G s) (hT : k_T G Z s s.heap) (hS : va_S Z s.heap H locs) (hn : As.length = n) (hsz : ls.size = nL) (hst : st0 = As.reverse ++ .ref b :: rest) (hro : (rest.map fun v => v.category).sum ≤ 8) (hdg : decode cc pc = .ok (.invokespecial index, 3)) (hf : cells + mc ≤ R.cells ∧ slots + ms ≤ R.slots)
    (kk : ∀ (u : k_Ad × k_Ct) (H1 : Heap) (locs1 : List Loc), post u → k_H G u.1 u.2 H1 → k_N Z u.1 u.2 → va_S Z s.heap H1 locs1 → W p l e R s m args below meth c H1 locs1 (cells + mc) (slots + ms) Q (F0 m (pc + 3) ls rest)) : W p l e R s m args below meth c H locs cells slots Q (F0 m pc ls st0) := by
  refine vx_callv (A0 := Z) (vx_runI hF hM (wl_callI hF.2.2.2.2 hk hl hR) ⟨bl_blindV k_M.bl, fun U hU hW => ⟨rfl, k_M.call hH hN hK hP hT hS hU hW⟩⟩ rfl hn hsz hst (lv_room hro) hdg hf) hS (fun q _ h => h) (fun q h => h) (fun q _ h => h) ?_ ?_
  · intro E ce q9 u t H1 locs1 ht hvm hu hB
    exact hB.1.elim
  · intro u t H1 locs1 ht hvm hp hB hz hk2 hS1
    exact kk u H1 locs1 hp (by rw [← ht]; exact hB.1) hB.2.1 hS1
end
theorem kC_9 {G : k_G} {ad : k_Ad} {mm : q_Mem} {i : Nat} : k_C G ad mm 9 i = none := by
  show (none : Option va_E) = none
  rfl
set_option maxHeartbeats 8000000 in
set_option maxRecDepth 100000 in
theorem ll_start {p : Program} {l : Launch} {e : Env} {s : State} {m : MethodId} {below : List Frame} {meth : Method} {c : Code} {b L : Nat} {xs : Nat → Int32} {G : k_G} (hF : CallFix p m c cL_law 7 s #[Value.ref b] wsL_law RL) (hflag : l.stackTraces = false) (hSc : va_X b L xs s s.heap) (hbl : b < s.heap.size) (hL : L ≤ 3072) (hr : meth.sig.returnType = ret) (hlocks : meth.locks = false) (hK : va_K G.1 vwCl (k_ty G) s) (hP : k_P G s) (hNc : lo_N s) (hT : k_T G (ll_0 s.heap.size) s s.heap) :
    ∀ ls : Array Slot, lv_has ls 7 [(0, .ref b)] → W p l e room_1 s m #[Value.ref b] below meth c s.heap [] 0 0 (lw_Z below #[Value.ref b] s) (F0 m 0 ls []) := by
  intro ls hl
  have hx := hF.1
  have hb := hF.2.1
  have hZ : ∀ q, s.heap.size ≤ q → ll_0 s.heap.size q := fun _ h => h
  have hM : k_H G (fun _ _ => 0) (fun _ _ => none) s.heap := fun k i e he => by cases he
  have hN : k_N (ll_0 s.heap.size) (fun _ _ => 0) (fun _ _ => none) := ⟨fun a b c d e e2 h1 => (by cases h1), fun a b e h1 => (by cases h1)⟩
  have hS : va_S (ll_0 s.heap.size) s.heap s.heap [] := va_S.rf
  refine k_new hF hK hM hN hS hZ 0 0 rfl (ci := 5) (fs := [.null, .null, .null, .null, .null, .int 0]) rfl inlX4 tyX4 tyX4_ok wd_k_L_8 wd_a_X4 wd_n_X4 (by decide) (by decide) (by decide) dL_law_0 (fun qx H hM hN hS => ?_)
  refine lv_dup hx hb dL_law_3 rfl ?_
  refine ll_N (fr := 4) (lo := 84) (mc := 5) (ms := 356) (n := 0) (b := qx) (As := []) (rest := [.ref qx]) hF (by have h9 := m_X4_init l hflag G (ll_0 s.heap.size) (k_ad (fun _ _ => 0) 0 0 qx) (k_up (fun _ _ => none) 0 0 (.inr (5, [.null, .null, .null, .null, .null, .int 0]))) k_up_s (fun i h1 h2 => (k_up_o (fun z => absurd z.2 (by omega))).trans rfl); rw [k_ad_s] at h9; exact h9) ke_X4_init wd_l_L_91 (by decide) hM hN hK hP hT hS rfl hl.1 rfl (Nat.le_of_ble_eq_true rfl) dL_law_4 (by decide) (fun u H locs hu hM hN hS => ?_)
  obtain ⟨q1, q2, q3, q4, q5, rfl⟩ := hu
  obtain ⟨AD, hAD⟩ : ∃ AD : k_Ad, AD = k_ad (k_ad (k_ad (k_ad (k_ad (k_ad (fun _ _ => 0) 0 0 qx) 0 1 q1) 0 2 q2) 0 3 q3) 0 4 q4) 0 5 q5 := ⟨_, rfl⟩
  have e0 : AD 0 0 = qx := by rw [hAD]; simp [k_ad]
  have e1 : AD 0 1 = q1 := by rw [hAD]; simp [k_ad]
  have e2 : AD 0 2 = q2 := by rw [hAD]; simp [k_ad]
  have e3 : AD 0 3 = q3 := by rw [hAD]; simp [k_ad]
  have e4 : AD 0 4 = q4 := by rw [hAD]; simp [k_ad]
  have e5 : AD 0 5 = q5 := by rw [hAD]; simp [k_ad]
  have hks := kstart (G := G) (ad := AD) (e0 := .inr (5, [.null, .null, .null, .null, .null, .int 0]))
  rw [e1, e2, e3, e4, e5] at hks
  have hM : k_H G AD (k_C G AD sp_0) H := by rw [← hks, hAD]; exact hM
  have hN : k_N (ll_0 s.heap.size) AD (k_C G AD sp_0) := by rw [← hks, hAD]; exact hN
  clear hks hAD e1 e2 e3 e4 e5
  refine lv_astore_n (lv' := [(1, .ref qx), (0, .ref b)]) hx hb dL_law_7 rfl hl (by decide) rfl (fun ls hl => ?_)
  refine k_new hF hK hM hN hS hZ 9 0 kC_9 (ci := 6) (fs := [.null, .int 0, .null, .null, .null, .null, .null, .null, .null, .null, .int 0, .null, .null, .null, .null, .null, .null, .null, .null, .int 0]) rfl inlX5 tyX5 tyX5_ok wd_k_L_92 wd_a_X5 wd_n_X5 (by decide) (by decide) (by decide) dL_law_8 (fun qo H hM hN hS => ?_)
  refine lv_dup hx hb dL_law_11 rfl ?_
  refine ll_N (fr := 1) (lo := 24) (mc := 17) (ms := 10800) (n := 0) (b := qo) (As := []) (rest := [.ref qo]) hF (by have h9 := m_X5_init l hflag G (ll_0 s.heap.size) (k_ad AD 9 0 qo) (k_up (k_C G AD sp_0) 9 0 (.inr (6, [.null, .int 0, .null, .null, .null, .null, .null, .null, .null, .null, .int 0, .null, .null, .null, .null, .null, .null, .null, .null, .int 0]))) k_up_s (fun i h1 h2 => (k_up_o (fun z => absurd z.2 (by omega))).trans kC_9); rw [k_ad_s] at h9; exact h9) ke_X5_init wd_l_L_94 (by decide) hM hN hK hP hT hS rfl hl.1 rfl (Nat.le_of_ble_eq_true rfl) dL_law_12 (by decide) (fun u H locs hu hM hN hS => ?_)
  obtain ⟨q1, q3, q4, q5, q6, q7, q8, q9, q10, q12, q13, q14, q15, q16, q17, q18, q19, rfl⟩ := hu
  replace hM : k_H G (x5_A (k_ad AD 9 0 qo) q1 q3 q4 q5 q6 q7 q8 q9 q10 q12 q13 q14 q15 q16 q17 q18 q19) (x5_C G (k_up (k_C G AD sp_0) 9 0 (.inr (6, [.null, .int 0, .null, .null, .null, .null, .null, .null, .null, .null, .int 0, .null, .null, .null, .null, .null, .null, .null, .null, .int 0]))) q1 q3 q4 q5 q6 q7 q8 q9 q10 q12 q13 q14 q15 q16 q17 q18 q19) H := hM
  replace hN : k_N (ll_0 s.heap.size) (x5_A (k_ad AD 9 0 qo) q1 q3 q4 q5 q6 q7 q8 q9 q10 q12 q13 q14 q15 q16 q17 q18 q19) (x5_C G (k_up (k_C G AD sp_0) 9 0 (.inr (6, [.null, .int 0, .null, .null, .null, .null, .null, .null, .null, .null, .int 0, .null, .null, .null, .null, .null, .null, .null, .null, .int 0]))) q1 q3 q4 q5 q6 q7 q8 q9 q10 q12 q13 q14 q15 q16 q17 q18 q19) := hN
  have h9 : ∀ k i e, k_C G AD sp_0 k i = some e → k ≠ 9 ∧ k_up (k_C G AD sp_0) 9 0 (.inr (6, [.null, .int 0, .null, .null, .null, .null, .null, .null, .null, .null, .int 0, .null, .null, .null, .null, .null, .null, .null, .null, .int 0])) k i = some e := fun k i e he => by
    have hk : k ≠ 9 := fun z => by rw [z, kC_9] at he; cases he
    exact ⟨hk, (k_up_o (fun z => hk z.1)).trans he⟩
  have hMo := x5_H hM
  have hD := x5_D hN
  have hZ5 := x5_Z hN
  have hM2 := x5_kH2 hM h9
  have hN2 := x5_kN2 hN h9
  have ho : x5_A (k_ad AD 9 0 qo) q1 q3 q4 q5 q6 q7 q8 q9 q10 q12 q13 q14 q15 q16 q17 q18 q19 9 0 = qo := (x5_a (ad := k_ad AD 9 0 qo) (q1 := q1) (q3 := q3) (q4 := q4) (q5 := q5) (q6 := q6) (q7 := q7) (q8 := q8) (q9 := q9) (q10 := q10) (q12 := q12) (q13 := q13) (q14 := q14) (q15 := q15) (q16 := q16) (q17 := q17) (q18 := q18) (q19 := q19)).2.2.2.2.2.2.2.2.2.2.2.2.2.2.2.2.2.trans k_ad_s
  rw [ho] at hMo hD hZ5 hN2
  clear hM hN ho
  have hM : k_H G AD (k_C G AD sp_0) H := k_adH hM2 (fun k i e he => (k_ad_o (fun z => (h9 k i e he).1 z.1)).symm)
  have hN := k_adN (ad2 := AD) hN2 (fun k i e he => (k_ad_o (fun z => (h9 k i e he).1 z.1)).symm)
  clear hM2 hN2 h9
  obtain ⟨a5, ha5⟩ : ∃ a5 : Nat → Nat, a5 = fun k => x5_A (k_ad AD 9 0 qo) q1 q3 q4 q5 q6 q7 q8 q9 q10 q12 q13 q14 q15 q16 q17 q18 q19 9 (k + 1) := ⟨_, rfl⟩
  rw [← ha5] at hMo hD hZ5 hN
  clear ha5
  refine lv_astore_n (lv' := [(2, .ref qo), (1, .ref qx), (0, .ref b)]) hx hb dL_law_15 rfl hl (by decide) rfl (fun ls hl => ?_)
  refine lv_iconst (v := 1) hx hb dL_law_16 (by decide) ?_
  refine va_newaK (atype := .long) hx hb (hF.2.2.2.2 _ wd_x0) rfl dL_law_17 rfl (N := 1) (by decide) (by decide) (by decide) (by decide) (by decide) rfl (fun H1 cJ g1 z1 o1 hAr hNm => ?_)
  have hw : va_at G.1 vwCl (H.size, .inl (cJ, 1, .inr (.inl (fun _ => 0)))) H1 := by
    show H1[H.size]? = some (vp_cell _ _)
    rw [vp_cell_l]
    exact g1
  have hlo : ∀ q, mo_R qo a5 q → q < H.size := fun q hq => by
    rcases hq with rfl | ⟨k, hk, rfl⟩
    · exact hMo.1.lt
    · exact (hMo.2 k hk).lt
  have hXF : ll_F l G qo a5 H.size cJ s := ⟨hflag, hK, hP, ⟨hK.1, fun k q h => by
    match k, h with
    | 0, h => cases h; exact ⟨hAr, hNm⟩
    | k + 1, h => cases h⟩, hNc, hT, hD, fun q hq => ⟨hZ5 q hq, fun z => absurd (hlo q hq) (by omega)⟩, hS.1⟩
  have hI : ll_I G qo a5 H.size cJ s.heap.size AD (k_C G AD sp_0) sp_0 (fun _ => 0) H1 := ⟨hM.kept o1, ⟨hN.1, fun k i e he => ⟨(hN.2 k i e he).1, (hN.2 k i e he).2, fun z => absurd (hM k i e he).lt (by show ¬ AD k i < H.size; omega)⟩⟩, hMo.kept (fun q hq => o1 q (hlo q hq)), hw⟩
  have hS : va_S (ll_0 s.heap.size) s.heap H1 locs := hS.new z1 o1
  refine lv_astore_n (lv' := [(3, .ref H.size), (2, .ref qo), (1, .ref qx), (0, .ref b)]) hx hb dL_law_19 rfl hl (by decide) rfl (fun ls hl => ?_)
  refine lv_iconst (v := 0) hx hb dL_law_20 (by decide) ?_
  refine lv_istore (lv' := [(4, .int 0), (3, .ref H.size), (2, .ref qo), (1, .ref qx), (0, .ref b)]) hx hb dL_law_21 hl (by decide) rfl (fun ls hl => ?_)
  refine W.widen (k := 30 + 10 * 0) (n := 20000 + 100 * 0) (by decide) (by decide) ?_
  exact ll_loop hF hXF hSc hbl hL hr hlocks (L / 6 + 1) 0 (by omega) (by omega) sp_0 AD (fun _ => 0) H1 locs ls Inv_0 (fun v _ => N_0 v) (by rw [K_0]; exact Nat.le_refl 0) e0 hI hS (lv_sub hl [4, 3, 2, 1, 0] rfl)
