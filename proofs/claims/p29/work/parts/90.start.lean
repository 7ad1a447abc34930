/-! ===== the law's start and end ===== -/
theorem kC_9 {G : k_G} {ad : k_Ad} {mm : q_Mem} {i : Nat} : k_C G ad mm 9 i = none := by
  show (none : Option va_E) = none
  rfl
theorem LI_0 : LI sp_0 := by
  refine ⟨Inv_0, rfl, fun w hw => ?_, fun f hf => ⟨50, by decide, ?_⟩, fun w hw => ?_⟩
  · rw [W_0] at hw; exact absurd hw (Nat.not_lt_zero w)
  · show (if f < 6 then (50 : Int32) else 0) = nI 50
    rw [if_pos hf]; rfl
  · rw [W_0] at hw; exact absurd hw (Nat.not_lt_zero w)
def st_Z (Z : Nat → Prop) (ad : k_Ad) (ct : k_Ct) : Nat → Prop := fun q => Z q ∧ ¬ ∃ k i e, ct k i = some e ∧ ad k i = q
section
variable {G : k_G} {ad : k_Ad} {Z : Nat → Prop} {H : Heap} {x : Nat} {u : k_Ad × k_Ct}
/-- a map as its constructor leaves it -/
theorem st_map (hu : ∃ q1 q2 q3 q4 q5, u = ((k_ad (k_ad (k_ad (k_ad (k_ad (k_ad (fun _ _ => 0) 0 0 x) 0 1 q1) 0 2 q2) 0 3 q3) 0 4 q4) 0 5 q5), (k_up (k_up (k_up (k_up (k_up (k_up (k_up (k_up (fun _ _ => none) 0 0 (.inr (5, [.null, .null, .null, .null, .null, .int 0]))) 0 1 (.inr (0, [.int 0, .ref G.2.2.2.2.1, .int 0]))) 0 2 (.inl (G.2.1, 6, .inl (fun _ => 0)))) 0 3 (.inl (G.2.1, 3, .inl (fun _ => 0)))) 0 4 (.inl (G.2.1, 3, .inl (fun _ => 0)))) 0 5 (.inl (G.2.2.1, 341, .inr (.inr (.inr (.inr (fun _ => none))))))) 0 0 (.inr (5, [.ref q1, .ref q2, .ref q3, .ref q4, .ref q5, .int 0]))) 0 2 (.inl (G.2.1, 6, .inl (fun j => if j < 6 then 50 else 0)))))) (hM : k_H G u.1 u.2 H) (hN : k_N Z u.1 u.2) : ∃ AD : k_Ad, AD 0 0 = x ∧ u = (AD, k_C G AD sp_0) ∧ k_H G AD (k_C G AD sp_0) H ∧ k_N Z AD (k_C G AD sp_0) := by
  obtain ⟨q1, q2, q3, q4, q5, rfl⟩ := hu
  obtain ⟨AD, hAD⟩ : ∃ AD : k_Ad, AD = k_ad (k_ad (k_ad (k_ad (k_ad (k_ad (fun _ _ => 0) 0 0 x) 0 1 q1) 0 2 q2) 0 3 q3) 0 4 q4) 0 5 q5 := ⟨_, rfl⟩
  have e0 : AD 0 0 = x := by rw [hAD]; simp [k_ad]
  have e1 : AD 0 1 = q1 := by rw [hAD]; simp [k_ad]
  have e2 : AD 0 2 = q2 := by rw [hAD]; simp [k_ad]
  have e3 : AD 0 3 = q3 := by rw [hAD]; simp [k_ad]
  have e4 : AD 0 4 = q4 := by rw [hAD]; simp [k_ad]
  have e5 : AD 0 5 = q5 := by rw [hAD]; simp [k_ad]
  have hks := kstart (G := G) (ad := AD) (e0 := (.inr (5, [.null, .null, .null, .null, .null, .int 0])))
  rw [e1, e2, e3, e4, e5] at hks
  refine ⟨AD, e0, ?_, ?_, ?_⟩
  · rw [← hks, hAD]
  · rw [← hks, hAD]; exact hM
  · rw [← hks, hAD]; exact hN
/-- a map and a fresh cell beside it -/
theorem st_two {e0 : va_E} (hM : k_H G (k_ad ad 9 0 x) (k_up (k_C G ad sp_0) 9 0 e0) H) (hN : k_N Z (k_ad ad 9 0 x) (k_up (k_C G ad sp_0) 9 0 e0)) : k_H G ad (k_C G ad sp_0) H ∧ k_N Z ad (k_C G ad sp_0) ∧ k_H G (k_ad (fun _ _ => 0) 0 0 x) (k_up (fun _ _ => none) 0 0 e0) H ∧ k_N (st_Z Z ad (k_C G ad sp_0)) (k_ad (fun _ _ => 0) 0 0 x) (k_up (fun _ _ => none) 0 0 e0) := by
  have key : ∀ k i e, k_C G ad sp_0 k i = some e → k_up (k_C G ad sp_0) 9 0 e0 k i = some e ∧ k_ad ad 9 0 x k i = ad k i ∧ ¬ (k = 9 ∧ i = 0) := fun k i e he => by
    have h9 : ¬ (k = 9 ∧ i = 0) := fun z => by rw [z.1, kC_9] at he; cases he
    exact ⟨(k_up_o h9).trans he, k_ad_o h9, h9⟩
  have h90 : k_up (k_C G ad sp_0) 9 0 e0 9 0 = some e0 := k_up_s
  have a90 : k_ad ad 9 0 x 9 0 = x := k_ad_s
  refine ⟨fun k i e he => ?_, ⟨fun a b c d e e2 h1 h2 h3 => ?_, fun k i e he => ?_⟩, fun k i e he => ?_, ⟨fun a b c d e e2 h1 h2 h3 => ?_, fun k i e he => ?_⟩⟩
  · obtain ⟨k1, k2, -⟩ := key k i e he
    have := hM k i e k1
    rw [k2] at this; exact this
  · obtain ⟨k1, k2, -⟩ := key a b e h1
    obtain ⟨k3, k4, -⟩ := key c d e2 h2
    exact hN.1 a b c d e e2 k1 k3 (by rw [k2, k4]; exact h3)
  · obtain ⟨k1, k2, -⟩ := key k i e he
    have := hN.2 k i e k1
    rw [k2] at this; exact this
  · by_cases z : k = 0 ∧ i = 0
    · obtain ⟨rfl, rfl⟩ := z
      rw [k_up_s] at he
      cases he
      rw [k_ad_s]
      have := hM 9 0 _ h90
      rw [a90] at this; exact this
    · rw [k_up_o z] at he; cases he
  · have z1 : a = 0 ∧ b = 0 := by
      by_cases z : a = 0 ∧ b = 0
      · exact z
      · rw [k_up_o z] at h1; cases h1
    have z2 : c = 0 ∧ d = 0 := by
      by_cases z : c = 0 ∧ d = 0
      · exact z
      · rw [k_up_o z] at h2; cases h2
    exact ⟨z1.1.trans z2.1.symm, z1.2.trans z2.2.symm⟩
  · by_cases z : k = 0 ∧ i = 0
    · obtain ⟨rfl, rfl⟩ := z
      rw [k_ad_s]
      have hz := hN.2 9 0 _ h90
      rw [a90] at hz
      refine ⟨hz, fun ⟨k, i, e, he, hq⟩ => ?_⟩
      obtain ⟨k1, k2, k3⟩ := key k i e he
      exact k3 (hN.1 k i 9 0 _ _ k1 h90 (by rw [k2, a90]; exact hq))
    · rw [k_up_o z] at he; cases he
end
section
variable {p : Program} {l : Launch} {e : Env} {R : Room} {s : State} {m : MethodId} {args : Array Value} {below : List Frame} {meth : Method} {c : Code} {H : Heap} {locs : List Loc} {cells slots : Nat} {Q : State → Prop}
variable {cc : ByteArray} {pc nL : Nat} {ls : Array Slot} {rest st0 : List Value} {own : String} {G : k_G} {ad : k_Ad} {ct : k_Ct} {Z Z1 : Nat → Prop}
theorem p_N {index n fr lo mc ms maxL : Nat} {y : MethodName} {bytes : ByteArray} {b : Nat} {As : List Value} {post : k_Ad × k_Ct → Prop} (hF : CallFix p m c cc nL s args wsL_law own) (hM : kx_v l y bytes maxL none fr lo mc ms G Z1 ad ct (.ref b :: As) post (fun _ => False)) (hk : wl_I y bytes maxL n) (hl : Cond.methodLink own index y ∈ wsL_law) (hR : fr + 1 ≤ R.frames ∧ 8 + (maxL + 11) + lo ≤ R.locals)
    (hH : k_H G ad ct H) (hN : k_N Z1 ad ct) (z1 : ∀ q, Z1 q → Z q) (z2 : ∀ q, H.size ≤ q → Z1 q) (hX : p_E0 G Z s) (hS : va_S Z s.heap H locs) (hn : As.length = n) (hsz : ls.size = nL) (hst : st0 = As.reverse ++ .ref b :: rest) (hro : (rest.map fun v => v.category).sum ≤ 8) (hdg : decode cc pc = .ok (.invokespecial index, 3)) (hf : cells + mc ≤ R.cells ∧ slots + ms ≤ R.slots)
    (kk : ∀ (u : k_Ad × k_Ct) (H1 : Heap) (locs1 : List Loc), post u → k_H G u.1 u.2 H1 → k_N Z1 u.1 u.2 → va_S Z s.heap H1 locs1 → H.size ≤ H1.size → (∀ q : Nat, q < H.size → ¬ Z1 q → H1[q]? = H[q]?) → W p l e R s m args below meth c H1 locs1 (cells + mc) (slots + ms) Q (F0 m (pc + 3) ls rest)) : W p l e R s m args below meth c H locs cells slots Q (F0 m pc ls st0) := by
  refine vx_callv (A0 := Z) (vx_runI hF hM (wl_callI hF.2.2.2.2 hk hl hR) ⟨bl_blindV k_M.bl, fun U hU hW => ⟨rfl, ⟨⟨by rw [hU]; exact hH, hN⟩, hX.1.moved hW.alike, hX.2.1.warm hW, by rw [hU]; exact ((hX.2.2.2.kept hS.1 hS.2.1).nar z1 z2).moved hW.alike⟩⟩⟩ rfl hn hsz hst (lv_room hro) hdg hf) hS (fun q _ h => z1 q h) z1 (fun q _ h => z1 q h) ?_ ?_
  · intro E ce q9 u t H1 locs1 ht hvm hu hB
    exact hB.1.elim
  · intro u t H1 locs1 ht hvm hp hB hz hk2 hS1
    exact kk u H1 locs1 hp (by rw [← ht]; exact hB.1) hB.2.1 hS1 hz hk2
end
theorem dL_law_0 : decode cL_law 0 = .ok (.new 25, 3) := by decide +kernel
theorem dL_law_3 : decode cL_law 3 = .ok (.dup, 1) := by decide +kernel
theorem dL_law_4 : decode cL_law 4 = .ok (.invokespecial 161, 3) := by decide +kernel
theorem dL_law_7 : decode cL_law 7 = .ok (.astore_n 1, 1) := by decide +kernel
theorem dL_law_8 : decode cL_law 8 = .ok (.new 25, 3) := by decide +kernel
theorem dL_law_11 : decode cL_law 11 = .ok (.dup, 1) := by decide +kernel
theorem dL_law_12 : decode cL_law 12 = .ok (.invokespecial 161, 3) := by decide +kernel
theorem dL_law_15 : decode cL_law 15 = .ok (.astore_n 2, 1) := by decide +kernel
theorem dL_law_16 : decode cL_law 16 = .ok (.aload_n 1, 1) := by decide +kernel
theorem dL_law_17 : decode cL_law 17 = .ok (.invokestatic 162, 3) := by decide +kernel
theorem dL_law_20 : decode cL_law 20 = .ok (.ifCond .eq 19, 3) := by decide +kernel
theorem dL_law_23 : decode cL_law 23 = .ok (.aload_n 1, 1) := by decide +kernel
theorem dL_law_24 : decode cL_law 24 = .ok (.invokestatic 151, 3) := by decide +kernel
theorem dL_law_27 : decode cL_law 27 = .ok (.aload_n 2, 1) := by decide +kernel
theorem dL_law_28 : decode cL_law 28 = .ok (.invokestatic 151, 3) := by decide +kernel
theorem dL_law_31 : decode cL_law 31 = .ok (.lcmp, 1) := by decide +kernel
theorem dL_law_32 : decode cL_law 32 = .ok (.ifCond .ne 7, 3) := by decide +kernel
theorem dL_law_35 : decode cL_law 35 = .ok (.iconst 1, 1) := by decide +kernel
theorem dL_law_36 : decode cL_law 36 = .ok (.goto 4, 3) := by decide +kernel
theorem dL_law_40 : decode cL_law 40 = .ok (.istore_n 3, 1) := by decide +kernel
theorem dL_law_41 : decode cL_law 41 = .ok (.iconst 0, 1) := by decide +kernel
theorem dL_law_42 : decode cL_law 42 = .ok (.istore 4, 2) := by decide +kernel
theorem dL_law_545 : decode cL_law 545 = .ok (.iload_n 3, 1) := by decide +kernel
theorem dL_law_546 : decode cL_law 546 = .ok (.ifCond .eq 19, 3) := by decide +kernel
theorem dL_law_549 : decode cL_law 549 = .ok (.aload_n 1, 1) := by decide +kernel
theorem dL_law_550 : decode cL_law 550 = .ok (.invokestatic 151, 3) := by decide +kernel
theorem dL_law_553 : decode cL_law 553 = .ok (.aload_n 2, 1) := by decide +kernel
theorem dL_law_554 : decode cL_law 554 = .ok (.invokestatic 151, 3) := by decide +kernel
theorem dL_law_557 : decode cL_law 557 = .ok (.lcmp, 1) := by decide +kernel
theorem dL_law_558 : decode cL_law 558 = .ok (.ifCond .ne 7, 3) := by decide +kernel
theorem dL_law_561 : decode cL_law 561 = .ok (.iconst 1, 1) := by decide +kernel
theorem dL_law_562 : decode cL_law 562 = .ok (.goto 4, 3) := by decide +kernel
theorem dL_law_566 : decode cL_law 566 = .ok (.ireturn, 1) := by decide +kernel
set_option maxHeartbeats 1000000 in
set_option maxRecDepth 100000 in
theorem lg_exit {p : Program} (l : Launch) (hflag : l.stackTraces = false) {e : Env} {s : State} {m : MethodId} {below : List Frame} {meth : Method} {c : Code} {b : Nat} {G : k_G} {xa xb : Nat} (hF : CallFix p m c cL_law 15 s #[Value.ref b] wsL_law RL) (hX : p_E0 G (ll_0 s.heap.size) s) (hr : meth.sig.returnType = ret) (hlocks : meth.locks = false) : lg_W p l e s m below meth c b G xa xb (ll_0 s.heap.size) (lw_Z below #[Value.ref b] s) (3000 + 6000 * 110) (20000 + 30000 * 110) (110) (fun _ => True) (fun _ => [(0, .ref b), (1, .ref xa), (2, .ref xb), (3, .int 1), (4, .int (nI 110))]) 44 := by
  intro mm H locs ls hL hK hP0 hI hS hl
  have hx := hF.1
  have hb := hF.2.1
  refine lv_iload hx hb dL_law_44 (lv_at hl 4 rfl) ?_
  refine lv_bipush (v := 110) hx hb dL_law_46 (by decide) ?_
  refine lv_icmp_ge (tgt := 545) hx hb dL_law_48 (by decide) (fun c48 => ?_) (fun c48 => ?_)
  · skip
    refine lv_iload_n hx hb dL_law_545 rfl (lv_at hl 3 rfl) ?_
    refine lv_if_eq (tgt := 565) hx hb dL_law_546 (by decide) (fun c546 => ?_) (fun c546 => ?_)
    · skip
      exact absurd c546 (by decide)
    · skip
      refine lv_aload_n hx hb dL_law_549 rfl (lv_at hl 1 rfl) ?_
      refine p_lSk (mc1 := 460) (ms1 := 2760) (fr := 12) (lo := 240) (n := 1) (As := [.ref xa]) (rest := []) hF (m_all l hflag G xa mm hL) p_Em.l ke_L_all wd_l_L_151 (by decide) hI hX hS rfl hl.1 rfl (Nat.le_of_ble_eq_true rfl) dL_law_550 (by show _ ≤ 694672 ∧ _ ≤ 7017683; omega) (fun H locs hI hS => ?_)
      replace hI : p_J G xa xb (ll_0 s.heap.size) (mm, mm) H := hI
      refine lv_aload_n hx hb dL_law_553 rfl (lv_at hl 2 rfl) ?_
      refine p_lSk (mc1 := 460) (ms1 := 2760) (fr := 12) (lo := 240) (n := 1) (As := [.ref xb]) (rest := [.long (al mm)]) hF (m_all l hflag G xb mm hL) p_Em.r ke_L_all wd_l_L_151 (by decide) hI hX hS rfl hl.1 rfl (Nat.le_of_ble_eq_true rfl) dL_law_554 (by show _ ≤ 694672 ∧ _ ≤ 7017683; omega) (fun H locs hI hS => ?_)
      replace hI : p_J G xa xb (ll_0 s.heap.size) (mm, mm) H := hI
      refine W.lcmp hx hb dL_law_557 ?_
      refine bo_to (v := 0) (by simp [lg_cmp]) ?_
      refine lv_if_ne (tgt := 565) hx hb dL_law_558 (by decide) (fun c558 => ?_) (fun c558 => ?_)
      · skip
        exact absurd c558 (by decide)
      · skip
        refine lv_iconst (v := 1) hx hb dL_law_561 (by decide) ?_
        refine lv_goto (tgt := 566) hx hb dL_law_562 (by decide) ?_
        refine va_forget (fun q hq => hS.2.2 q hq) ?_
        refine W.widen (k := 694672) (n := 7017683) (by first | decide | omega | (dsimp only; omega)) (by first | decide | omega | (dsimp only; omega)) ?_
        exact lw_ret hx hb hr hlocks dL_law_566
  · skip
    exact absurd (nI_le (a := 110) (b := 110) (Nat.le_refl _) (by decide)) c48
theorem lg_loop {p : Program} (l : Launch) (hflag : l.stackTraces = false) {e : Env} {s : State} {m : MethodId} {below : List Frame} {meth : Method} {c : Code} {b : Nat} {G : k_G} {xa xb : Nat} (hF : CallFix p m c cL_law 15 s #[Value.ref b] wsL_law RL) (hX : p_E0 G (ll_0 s.heap.size) s) (hr : meth.sig.returnType = ret) (hlocks : meth.locks = false) {L : Nat} {xs : Nat → Int32} (hSc : va_X b L xs s s.heap) (hbl : b < s.heap.size) (hLn : L ≤ 260) : ∀ n k : Nat, k + n = 110 → lg_W p l e s m below meth c b G xa xb (ll_0 s.heap.size) (lw_Z below #[Value.ref b] s) (3000 + 6000 * k) (20000 + 30000 * k) (k) (fun _ => True) (fun _ => [(0, .ref b), (1, .ref xa), (2, .ref xb), (3, .int 1), (4, .int (nI k))]) 44 := by
  intro n
  induction n with
  | zero => intro k hk; obtain rfl : k = 110 := hk; exact lg_exit l hflag hF hX hr hlocks
  | succ n ih => intro k hk; exact lg_round l hflag hF hX (by omega) hSc hbl (Nat.not_le.mpr hbl) hLn (ih (k + 1) (by omega))
set_option maxHeartbeats 4000000 in
set_option maxRecDepth 100000 in
theorem lg_start {p : Program} {l : Launch} {e : Env} {s : State} {m : MethodId} {below : List Frame} {meth : Method} {c : Code} {b L : Nat} {xs : Nat → Int32} {G : k_G} (hF : CallFix p m c cL_law 15 s #[Value.ref b] wsL_law RL) (hflag : l.stackTraces = false) (hSc : va_X b L xs s s.heap) (hbl : b < s.heap.size) (hLn : L ≤ 260) (hr : meth.sig.returnType = ret) (hlocks : meth.locks = false) (hK : va_K G.1 vwCl (k_ty G) s) (hP : k_P G s) (hNc : lo_N s) (hT : k_T G (ll_0 s.heap.size) s s.heap) :
    ∀ ls : Array Slot, lv_has ls 15 [(0, .ref b)] → W p l e room_1 s m #[Value.ref b] below meth c s.heap [] 0 0 (lw_Z below #[Value.ref b] s) (F0 m 0 ls []) := by
  intro ls hl
  have hx := hF.1
  have hb := hF.2.1
  have hX : p_E0 G (ll_0 s.heap.size) s := ⟨hK, hP, hNc, hT⟩
  have hZ : ∀ q, s.heap.size ≤ q → ll_0 s.heap.size q := fun _ h => h
  have hM : k_H G (fun _ _ => 0) (fun _ _ => none) s.heap := fun k i e he => by cases he
  have hN : k_N (ll_0 s.heap.size) (fun _ _ => 0) (fun _ _ => none) := ⟨fun a b c d e e2 h1 => (by cases h1), fun a b e h1 => (by cases h1)⟩
  have hS : va_S (ll_0 s.heap.size) s.heap s.heap [] := va_S.rf
  refine k_new hF hK hM hN hS hZ 0 0 rfl (ci := 5) (fs := [.null, .null, .null, .null, .null, .int 0]) rfl inlX4 tyX4 tyX4_ok wd_k_L_25 wd_a_X4 wd_n_X4 (by decide) (by decide) (by decide) dL_law_0 (fun xa H hM hN hS => ?_)
  refine lv_dup hx hb dL_law_3 rfl ?_
  refine p_N (Z1 := ll_0 s.heap.size) (fr := 4) (lo := 84) (mc := 5) (ms := 356) (n := 0) (b := xa) (As := []) (rest := [.ref xa]) hF (by have h9 := m_X4_init l hflag G (ll_0 s.heap.size) (k_ad (fun _ _ => 0) 0 0 xa) (k_up (fun _ _ => none) 0 0 (.inr (5, [.null, .null, .null, .null, .null, .int 0]))) k_up_s (fun i h1 h2 => (k_up_o (fun z => absurd z.2 (by omega))).trans rfl); rw [k_ad_s] at h9; exact h9) ke_X4_init wd_l_L_161 (by decide) hM hN (fun q h => h) (p_new hX hS) hX hS rfl hl.1 rfl (Nat.le_of_ble_eq_true rfl) dL_law_4 (by show _ ≤ 694672 ∧ _ ≤ 7017683; decide) (fun u H locs hu hM hN hS _ _ => ?_)
  obtain ⟨AD, e00, rfl, hM, hN⟩ := st_map hu hM hN
  clear hu
  refine lv_astore_n (lv' := [(1, .ref xa), (0, .ref b)]) hx hb dL_law_7 rfl hl (by decide) rfl (fun ls hl => ?_)
  refine k_new hF hK hM hN hS hZ 9 0 kC_9 (ci := 5) (fs := [.null, .null, .null, .null, .null, .int 0]) rfl inlX4 tyX4 tyX4_ok wd_k_L_25 wd_a_X4 wd_n_X4 (by decide) (by decide) (by decide) dL_law_8 (fun xb H hM hN hS => ?_)
  obtain ⟨hM1, hN1, hM2, hN2⟩ := st_two hM hN
  have hz2 : ∀ q, H.size ≤ q → st_Z (ll_0 s.heap.size) AD (k_C G AD sp_0) q := fun q hq => ⟨p_new hX hS q hq, fun ⟨k, i, e, he, hx9⟩ => by have h9 : AD k i < H.size := (hM1 k i e he).lt; omega⟩
  refine lv_dup hx hb dL_law_11 rfl ?_
  refine p_N (Z1 := st_Z (ll_0 s.heap.size) AD (k_C G AD sp_0)) (fr := 4) (lo := 84) (mc := 5) (ms := 356) (n := 0) (b := xb) (As := []) (rest := [.ref xb]) hF (by have h9 := m_X4_init l hflag G (st_Z (ll_0 s.heap.size) AD (k_C G AD sp_0)) (k_ad (fun _ _ => 0) 0 0 xb) (k_up (fun _ _ => none) 0 0 (.inr (5, [.null, .null, .null, .null, .null, .int 0]))) k_up_s (fun i h1 h2 => (k_up_o (fun z => absurd z.2 (by omega))).trans rfl); rw [k_ad_s] at h9; exact h9) ke_X4_init wd_l_L_161 (by decide) hM2 hN2 (fun q h => h.1) hz2 hX hS rfl hl.1 rfl (Nat.le_of_ble_eq_true rfl) dL_law_12 (by show _ ≤ 694672 ∧ _ ≤ 7017683; decide) (fun u H3 locs hu hM3 hN3 hS _ hk3 => ?_)
  obtain ⟨AD2, f00, rfl, hM3, hN3⟩ := st_map hu hM3 hN3
  clear hu
  have hI : p_J G xa xb (ll_0 s.heap.size) (sp_0, sp_0) H3 := ⟨AD, AD2, ⟨e00, fun k i e he => (hM1 k i e he).kept (hk3 _ (hM1 k i e he).lt (fun z => z.2 ⟨k, i, e, he, rfl⟩)), hN1⟩, ⟨f00, hM3, hN3.1, fun k i e he => (hN3.2 k i e he).1⟩, fun k i k2 i2 e e2 he he2 hq => (hN3.2 k2 i2 e2 he2).2 ⟨k, i, e, he, hq⟩⟩
  refine lv_astore_n (lv' := [(2, .ref xb), (1, .ref xa), (0, .ref b)]) hx hb dL_law_15 rfl hl (by decide) rfl (fun ls hl => ?_)
  replace hS : va_S (ll_0 s.heap.size) s.heap H3 locs := hS
  obtain ⟨H, rfl⟩ : ∃ H, H = H3 := ⟨_, rfl⟩
  refine lv_aload_n hx hb dL_law_16 rfl (lv_at hl 1 rfl) ?_
  refine p_iSk (mc1 := 1490) (ms1 := 9070) (fr := 13) (lo := 265) (n := 1) (As := [.ref xa]) (rest := []) hF (m_refused l hflag G xa sp_0 LI_0 (by rw [K_0]; decide)) p_Em.l ke_L_refused wd_l_L_162 (by decide) hI hX hS rfl hl.1 rfl (Nat.le_of_ble_eq_true rfl) dL_law_17 (by show _ ≤ 694672 ∧ _ ≤ 7017683; omega) (fun H locs hI hS => ?_)
  replace hI : p_J G xa xb (ll_0 s.heap.size) (sp_0, sp_0) H := hI
  refine lv_if_eq (tgt := 39) hx hb dL_law_20 (by decide) (fun c20 => ?_) (fun c20 => ?_)
  · skip
    exact absurd c20 (by decide)
  · skip
    refine lv_aload_n hx hb dL_law_23 rfl (lv_at hl 1 rfl) ?_
    refine p_lSk (mc1 := 460) (ms1 := 2760) (fr := 12) (lo := 240) (n := 1) (As := [.ref xa]) (rest := []) hF (m_all l hflag G xa sp_0 LI_0) p_Em.l ke_L_all wd_l_L_151 (by decide) hI hX hS rfl hl.1 rfl (Nat.le_of_ble_eq_true rfl) dL_law_24 (by show _ ≤ 694672 ∧ _ ≤ 7017683; omega) (fun H locs hI hS => ?_)
    replace hI : p_J G xa xb (ll_0 s.heap.size) (sp_0, sp_0) H := hI
    refine lv_aload_n hx hb dL_law_27 rfl (lv_at hl 0 rfl) ?_
    refine p_lSk (mc1 := 460) (ms1 := 2760) (fr := 12) (lo := 240) (n := 1) (As := [.ref xb]) (rest := [.long (al sp_0)]) hF (m_all l hflag G xb sp_0 LI_0) p_Em.r ke_L_all wd_l_L_151 (by decide) hI hX hS rfl hl.1 rfl (Nat.le_of_ble_eq_true rfl) dL_law_28 (by show _ ≤ 694672 ∧ _ ≤ 7017683; omega) (fun H locs hI hS => ?_)
    replace hI : p_J G xa xb (ll_0 s.heap.size) (sp_0, sp_0) H := hI
    refine W.lcmp hx hb dL_law_31 ?_
    refine bo_to (v := 0) (by simp [lg_cmp]) ?_
    refine lv_if_ne (tgt := 39) hx hb dL_law_32 (by decide) (fun c32 => ?_) (fun c32 => ?_)
    · skip
      exact absurd c32 (by decide)
    · skip
      refine lv_iconst (v := 1) hx hb dL_law_35 (by decide) ?_
      refine lv_goto (tgt := 40) hx hb dL_law_36 (by decide) ?_
      refine lv_istore_n (lv' := [(3, .int 1), (2, .ref xb), (1, .ref xa), (0, .ref b)]) hx hb dL_law_40 rfl hl (by decide) rfl (fun ls hl => ?_)
      refine lv_iconst (v := 0) hx hb dL_law_41 (by decide) ?_
      refine bo_to (v := (nI 0)) (rfl) ?_
      refine lv_istore (lv' := [(4, .int (nI 0)), (3, .int 1), (2, .ref xb), (1, .ref xa), (0, .ref b)]) hx hb dL_law_42 hl (by decide) rfl (fun ls hl => ?_)
      refine W.widen (k := 3000 + 6000 * 0) (n := 20000 + 30000 * 0) (by first | decide | omega | (dsimp only; omega)) (by first | decide | omega | (dsimp only; omega)) ?_
      exact lg_loop l hflag hF hX hr hlocks hSc hbl hLn 110 0 (by decide) sp_0 H locs ls LI_0 (by rw [K_0]; exact Nat.le_refl 0) trivial hI hS (lv_sub hl [4, 3, 2, 1, 0] rfl)
