theorem dL_law_0 : decode cL_law 0 = .ok (.new 8, 3) := by decide +kernel
theorem dL_law_3 : decode cL_law 3 = .ok (.dup, 1) := by decide +kernel
theorem dL_law_4 : decode cL_law 4 = .ok (.invokespecial 91, 3) := by decide +kernel
theorem dL_law_7 : decode cL_law 7 = .ok (.astore_n 1, 1) := by decide +kernel
theorem dL_law_8 : decode cL_law 8 = .ok (.new 92, 3) := by decide +kernel
theorem dL_law_11 : decode cL_law 11 = .ok (.dup, 1) := by decide +kernel
theorem dL_law_12 : decode cL_law 12 = .ok (.invokespecial 94, 3) := by decide +kernel
theorem dL_law_15 : decode cL_law 15 = .ok (.astore_n 2, 1) := by decide +kernel
theorem dL_law_16 : decode cL_law 16 = .ok (.iconst 1, 1) := by decide +kernel
theorem dL_law_17 : decode cL_law 17 = .ok (.newarray .long, 2) := by decide +kernel
theorem dL_law_19 : decode cL_law 19 = .ok (.astore_n 3, 1) := by decide +kernel
theorem dL_law_20 : decode cL_law 20 = .ok (.iconst 0, 1) := by decide +kernel
theorem dL_law_21 : decode cL_law 21 = .ok (.istore 4, 2) := by decide +kernel
theorem dL_law_23 : decode cL_law 23 = .ok (.iload 4, 2) := by decide +kernel
theorem dL_law_25 : decode cL_law 25 = .ok (.aload_n 0, 1) := by decide +kernel
theorem dL_law_26 : decode cL_law 26 = .ok (.arraylength, 1) := by decide +kernel
theorem dL_law_27 : decode cL_law 27 = .ok (.bipush 6, 2) := by decide +kernel
theorem dL_law_29 : decode cL_law 29 = .ok (.isub, 1) := by decide +kernel
theorem dL_law_30 : decode cL_law 30 = .ok (.if_icmp .gt 1836, 3) := by decide +kernel
theorem dL_law_33 : decode cL_law 33 = .ok (.aload_n 0, 1) := by decide +kernel
theorem dL_law_34 : decode cL_law 34 = .ok (.iload 4, 2) := by decide +kernel
theorem dL_law_36 : decode cL_law 36 = .ok (.iaload, 1) := by decide +kernel
theorem dL_law_37 : decode cL_law 37 = .ok (.bipush 31, 2) := by decide +kernel
theorem dL_law_39 : decode cL_law 39 = .ok (.iand, 1) := by decide +kernel
theorem dL_law_40 : decode cL_law 40 = .ok (.tableswitch 1820 0 25 #[120, 224, 323, 419, 487, 555, 611, 624, 680, 748, 816, 872, 885, 965, 1045, 1125, 1205, 1292, 1348, 1361, 1441, 1540, 1596, 1652, 1708, 1764], 120) := by decide +kernel
theorem dL_law_1860 : decode cL_law 1860 = .ok (.iinc 4 6, 3) := by decide +kernel
theorem dL_law_1863 : decode cL_law 1863 = .ok (.goto (-1840), 3) := by decide +kernel
theorem dL_law_1866 : decode cL_law 1866 = .ok (.iconst 1, 1) := by decide +kernel
theorem dL_law_1867 : decode cL_law 1867 = .ok (.ireturn, 1) := by decide +kernel
theorem lim_lt {L t : Nat} (hL : L ≤ 3072) (h6 : 6 * t ≤ L) (h : ¬ 6 * t + 6 ≤ L) : Int32.ofNat L - 6 < nI (6 * t) := by
  by_cases h5 : 6 ≤ L
  · rw [show Int32.ofNat L = nI (L - 6) + nI 6 from by rw [nI_add]; show nI L = _; congr 1; omega, show (6 : Int32) = nI 6 from rfl, Int32.add_sub_cancel]
    exact nI_lt (by omega) (by omega)
  · have h0 : t = 0 := by omega
    subst h0
    have h2 : L = 0 ∨ L = 1 ∨ L = 2 ∨ L = 3 ∨ L = 4 ∨ L = 5 := by omega
    rcases h2 with rfl | rfl | rfl | rfl | rfl | rfl <;> decide
theorem lim_ge {L t : Nat} (hL : L ≤ 3072) (h : 6 * t + 6 ≤ L) : ¬ Int32.ofNat L - 6 < nI (6 * t) := by
  rw [show Int32.ofNat L = nI (L - 6) + nI 6 from by rw [nI_add]; show nI L = _; congr 1; omega, show (6 : Int32) = nI 6 from rfl, Int32.add_sub_cancel]
  intro q
  have := (nI_ltI (by omega) (by omega)).mp q
  omega
set_option maxHeartbeats 4000000 in
theorem ll_exit {p : Program} {l : Launch} {e : Env} {s : State} {m : MethodId} {below : List Frame} {meth : Method} {c : Code} {b L : Nat} {xs : Nat → Int32} {G : k_G} {o : Nat} {a : Nat → Nat} {w : Nat} {cJ : ClassId} {xa : Nat} (hF : CallFix p m c cL_law 7 s #[Value.ref b] wsL_law RL) (hX : ll_F l G o a w cJ s) (hSc : va_X b L xs s s.heap) (hbl : b < s.heap.size) (hL : L ≤ 3072) (hr : meth.sig.returnType = ret) (hlocks : meth.locks = false) {t : Nat} (h6 : 6 * t ≤ L) (hno : ¬ 6 * t + 6 ≤ L) : ll_W p l e s m below meth c b G o a w cJ xa (lw_Z below #[Value.ref b] s) t t 23 := by
  intro mm ad f0 H locs ls hI hN hK h00 hA hS hl
  have hx := hF.1
  have hb := hF.2.1
  have hbA : ¬ ll_0 s.heap.size b := Nat.not_le.mpr hbl
  refine lv_iload hx hb dL_law_23 (lv_at hl 4 rfl) ?_
  refine lv_aload_n hx hb dL_law_25 rfl (lv_at hl 0 rfl) ?_
  refine va_slen hx hb hSc hbl hbA hS dL_law_26 ?_
  refine lv_bipush (v := 6) hx hb dL_law_27 (by decide) ?_
  refine lv_isub hx hb dL_law_29 ?_
  refine lv_icmp_gt (tgt := 1866) hx hb dL_law_30 (by decide) (fun c1 => ?_) (fun c1 => ?_)
  · refine lv_iconst (v := 1) hx hb dL_law_1866 (by decide) ?_
    refine va_forget (fun q hq => hS.2.2 q hq) ?_
    refine W.widen (k := 601024) (n := 7293034) (by omega) (by omega) ?_
    exact lw_ret hx hb hr hlocks dL_law_1867
  · exact absurd (lim_lt hL h6 hno) c1
set_option maxHeartbeats 4000000 in
set_option maxRecDepth 100000 in
theorem ll_loop {p : Program} {l : Launch} {e : Env} {s : State} {m : MethodId} {below : List Frame} {meth : Method} {c : Code} {b L : Nat} {xs : Nat → Int32} {G : k_G} {o : Nat} {a : Nat → Nat} {w : Nat} {cJ : ClassId} {xa : Nat} (hF : CallFix p m c cL_law 7 s #[Value.ref b] wsL_law RL) (hX : ll_F l G o a w cJ s) (hSc : va_X b L xs s s.heap) (hbl : b < s.heap.size) (hL : L ≤ 3072) (hr : meth.sig.returnType = ret) (hlocks : meth.locks = false) : ∀ (n t : Nat), 6 * t ≤ L → L < 6 * (t + n) → ll_W p l e s m below meth c b G o a w cJ xa (lw_Z below #[Value.ref b] s) t t 23 := by
  intro n
  induction n with
  | zero => intro t h6 h7; exact absurd h7 (by omega)
  | succ n ih =>
    intro t h6 h7
    by_cases h : 6 * t + 6 ≤ L
    · have hnext : ll_W p l e s m below meth c b G o a w cJ xa (lw_Z below #[Value.ref b] s) (t + 1) t 1860 := by
        intro mm ad f0 H locs ls hI hN hK h00 hA hS hl
        have hx := hF.1
        have hb := hF.2.1
        refine lv_iinc (v := nI (6 * (t + 1))) (lv' := [(4, .int (nI (6 * (t + 1)))), (0, .ref b), (1, .ref xa), (2, .ref o), (3, .ref w)]) hx hb dL_law_1860 hl (k := 4) rfl (nI_add (6 * t) 6) (by decide) rfl (fun ls hl => ?_)
        refine lv_goto (tgt := 23) hx hb dL_law_1863 (by decide) ?_
        exact ih (t + 1) (by omega) (by omega) mm ad f0 H locs ls hI hN hK h00 hA hS (lv_sub hl [1, 2, 3, 4, 0] rfl)
      intro mm ad f0 H locs ls hI hN hK h00 hA hS hl
      have hx := hF.1
      have hb := hF.2.1
      have hbA : ¬ ll_0 s.heap.size b := Nat.not_le.mpr hbl
      refine lv_iload hx hb dL_law_23 (lv_at hl 4 rfl) ?_
      refine lv_aload_n hx hb dL_law_25 rfl (lv_at hl 0 rfl) ?_
      refine va_slen hx hb hSc hbl hbA hS dL_law_26 ?_
      refine lv_bipush (v := 6) hx hb dL_law_27 (by decide) ?_
      refine lv_isub hx hb dL_law_29 ?_
      refine lv_icmp_gt (tgt := 1866) hx hb dL_law_30 (by decide) (fun c1 => ?_) (fun c1 => ?_)
      · exact absurd c1 (lim_ge hL h)
      refine lv_aload_n hx hb dL_law_33 rfl (lv_at hl 0 rfl) ?_
      refine lv_iload hx hb dL_law_34 (lv_at hl 4 rfl) ?_
      refine va_sld hx hb hSc hbl hbA hS (vp_in_nI (by omega) (by omega)) dL_law_36 ?_
      refine lv_bipush (v := 31) hx hb dL_law_37 (by decide) ?_
      refine lv_iand hx hb dL_law_39 ?_
      obtain ⟨j, hj, ej⟩ := pk_andE (xs (nI (6 * t)).toNatClampNeg) (m := 31) 5 (by decide)
      refine bo_to (v := nI j) ej ?_
      clear ej
      by_cases h26 : 26 ≤ j
      · refine lv_tableOut (tgt := 1860) hx hb dL_law_40 (Or.inr (by rw [nI_toInt (by omega)]; omega)) (by decide) ?_
        refine W.widen (k := 30 + 10 * (t + 1)) (n := 20000 + 100 * (t + 1)) (by omega) (by omega) ?_
        exact hnext mm ad f0 H locs ls hI hN (by omega) h00 hA hS hl
      have hc : j = 0 ∨ j = 1 ∨ j = 2 ∨ j = 3 ∨ j = 4 ∨ j = 5 ∨ j = 6 ∨ j = 7 ∨ j = 8 ∨ j = 9 ∨ j = 10 ∨ j = 11 ∨ j = 12 ∨ j = 13 ∨ j = 14 ∨ j = 15 ∨ j = 16 ∨ j = 17 ∨ j = 18 ∨ j = 19 ∨ j = 20 ∨ j = 21 ∨ j = 22 ∨ j = 23 ∨ j = 24 ∨ j = 25 := by omega
      clear hj h26
      rcases hc with rfl | rfl | rfl | rfl | rfl | rfl | rfl | rfl | rfl | rfl | rfl | rfl | rfl | rfl | rfl | rfl | rfl | rfl | rfl | rfl | rfl | rfl | rfl | rfl | rfl | rfl
      · refine lv_tableIn (off := 120) (tgt := 160) hx hb dL_law_40 (by decide) (by decide) (by decide) (by decide) ?_
        exact lc_addWay hF hX hSc hbl hL h hnext mm ad f0 H locs ls hI hN hK h00 hA hS hl
      · refine lv_tableIn (off := 224) (tgt := 264) hx hb dL_law_40 (by decide) (by decide) (by decide) (by decide) ?_
        exact lc_edit hF hX hSc hbl hL h hnext mm ad f0 H locs ls hI hN hK h00 hA hS hl
      · refine lv_tableIn (off := 323) (tgt := 363) hx hb dL_law_40 (by decide) (by decide) (by decide) (by decide) ?_
        exact lc_judge hF hX hSc hbl hL h hnext mm ad f0 H locs ls hI hN hK h00 hA hS hl
      · refine lv_tableIn (off := 419) (tgt := 459) hx hb dL_law_40 (by decide) (by decide) (by decide) (by decide) ?_
        exact lc_revert hF hX hSc hbl hL h hnext mm ad f0 H locs ls hI hN hK h00 hA hS hl
      · refine lv_tableIn (off := 487) (tgt := 527) hx hb dL_law_40 (by decide) (by decide) (by decide) (by decide) ?_
        exact lc_guard hF hX hSc hbl hL h hnext mm ad f0 H locs ls hI hN hK h00 hA hS hl
      · refine lv_tableIn (off := 555) (tgt := 595) hx hb dL_law_40 (by decide) (by decide) (by decide) (by decide) ?_
        exact lc_trust hF hX hSc hbl hL h hnext mm ad f0 H locs ls hI hN hK h00 hA hS hl
      · refine lv_tableIn (off := 611) (tgt := 651) hx hb dL_law_40 (by decide) (by decide) (by decide) (by decide) ?_
        exact lc_ways hF hX hSc hbl hL h hnext mm ad f0 H locs ls hI hN hK h00 hA hS hl
      · refine lv_tableIn (off := 624) (tgt := 664) hx hb dL_law_40 (by decide) (by decide) (by decide) (by decide) ?_
        exact lc_versions hF hX hSc hbl hL h hnext mm ad f0 H locs ls hI hN hK h00 hA hS hl
      · refine lv_tableIn (off := 680) (tgt := 720) hx hb dL_law_40 (by decide) (by decide) (by decide) (by decide) ?_
        exact lc_version hF hX hSc hbl hL h hnext mm ad f0 H locs ls hI hN hK h00 hA hS hl
      · refine lv_tableIn (off := 748) (tgt := 788) hx hb dL_law_40 (by decide) (by decide) (by decide) (by decide) ?_
        exact lc_stampOf hF hX hSc hbl hL h hnext mm ad f0 H locs ls hI hN hK h00 hA hS hl
      · refine lv_tableIn (off := 816) (tgt := 856) hx hb dL_law_40 (by decide) (by decide) (by decide) (by decide) ?_
        exact lc_waiting hF hX hSc hbl hL h hnext mm ad f0 H locs ls hI hN hK h00 hA hS hl
      · refine lv_tableIn (off := 872) (tgt := 912) hx hb dL_law_40 (by decide) (by decide) (by decide) (by decide) ?_
        exact lc_clock hF hX hSc hbl hL h hnext mm ad f0 H locs ls hI hN hK h00 hA hS hl
      · refine lv_tableIn (off := 885) (tgt := 925) hx hb dL_law_40 (by decide) (by decide) (by decide) (by decide) ?_
        exact lc_draw hF hX hSc hbl hL h hnext mm ad f0 H locs ls hI hN hK h00 hA hS hl
      · refine lv_tableIn (off := 965) (tgt := 1005) hx hb dL_law_40 (by decide) (by decide) (by decide) (by decide) ?_
        exact lc_picture hF hX hSc hbl hL h hnext mm ad f0 H locs ls hI hN hK h00 hA hS hl
      · refine lv_tableIn (off := 1045) (tgt := 1085) hx hb dL_law_40 (by decide) (by decide) (by decide) (by decide) ?_
        exact lc_pictureAnew hF hX hSc hbl hL h hnext mm ad f0 H locs ls hI hN hK h00 hA hS hl
      · refine lv_tableIn (off := 1125) (tgt := 1165) hx hb dL_law_40 (by decide) (by decide) (by decide) (by decide) ?_
        exact lc_tileStamp hF hX hSc hbl hL h hnext mm ad f0 H locs ls hI hN hK h00 hA hS hl
      · refine lv_tableIn (off := 1205) (tgt := 1245) hx hb dL_law_40 (by decide) (by decide) (by decide) (by decide) ?_
        exact lc_isStale hF hX hSc hbl hL h hnext mm ad f0 H locs ls hI hN hK h00 hA hS hl
      · refine lv_tableIn (off := 1292) (tgt := 1332) hx hb dL_law_40 (by decide) (by decide) (by decide) (by decide) ?_
        exact lc_staleTiles hF hX hSc hbl hL h hnext mm ad f0 H locs ls hI hN hK h00 hA hS hl
      · refine lv_tableIn (off := 1348) (tgt := 1388) hx hb dL_law_40 (by decide) (by decide) (by decide) (by decide) ?_
        exact lc_refresh hF hX hSc hbl hL h hnext mm ad f0 H locs ls hI hN hK h00 hA hS hl
      · refine lv_tableIn (off := 1361) (tgt := 1401) hx hb dL_law_40 (by decide) (by decide) (by decide) (by decide) ?_
        exact lc_drive hF hX hSc hbl hL h hnext mm ad f0 H locs ls hI hN hK h00 hA hS hl
      · refine lv_tableIn (off := 1441) (tgt := 1481) hx hb dL_law_40 (by decide) (by decide) (by decide) (by decide) ?_
        exact lc_see hF hX hSc hbl hL h hnext mm ad f0 H locs ls hI hN hK h00 hA hS hl
      · refine lv_tableIn (off := 1540) (tgt := 1580) hx hb dL_law_40 (by decide) (by decide) (by decide) (by decide) ?_
        exact lc_sightings hF hX hSc hbl hL h hnext mm ad f0 H locs ls hI hN hK h00 hA hS hl
      · refine lv_tableIn (off := 1596) (tgt := 1636) hx hb dL_law_40 (by decide) (by decide) (by decide) (by decide) ?_
        exact lc_dear hF hX hSc hbl hL h hnext mm ad f0 H locs ls hI hN hK h00 hA hS hl
      · refine lv_tableIn (off := 1652) (tgt := 1692) hx hb dL_law_40 (by decide) (by decide) (by decide) (by decide) ?_
        exact lc_target hF hX hSc hbl hL h hnext mm ad f0 H locs ls hI hN hK h00 hA hS hl
      · refine lv_tableIn (off := 1708) (tgt := 1748) hx hb dL_law_40 (by decide) (by decide) (by decide) (by decide) ?_
        exact lc_send hF hX hSc hbl hL h hnext mm ad f0 H locs ls hI hN hK h00 hA hS hl
      · refine lv_tableIn (off := 1764) (tgt := 1804) hx hb dL_law_40 (by decide) (by decide) (by decide) (by decide) ?_
        exact lc_carAt hF hX hSc hbl hL h hnext mm ad f0 H locs ls hI hN hK h00 hA hS hl
    · exact ll_exit hF hX hSc hbl hL hr hlocks h6 h
