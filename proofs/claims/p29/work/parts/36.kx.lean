/-! ===== methods that throw ===== -/
abbrev k_nms : List String := ["java/lang/RuntimeException", "java/lang/Exception"]
def k_E (X : String) (ic : Nat) : Prop := Bundle.fit X = true ∧ Cond.initialized X ∈ wsL_law ∧ (∀ w ∈ (vx_atS RX4 ic X k_nms).filter goodWord, w ∈ wsL_law) ∧ (∀ w ∈ (vx_atS RX4 ic X k_nms).filter (fun w => !goodWord w), w ∈ k_ngs) ∧ ∀ w ∈ Cond.initialized X :: vx_atS RX4 ic X k_nms, vx_ot w = true
set_option maxRecDepth 100000 in
theorem k_E_IAE : k_E "java/lang/IllegalArgumentException" 62 := ⟨by decide +kernel, wd_x24, fun w h => List.mem_append_left _ (List.mem_append_right _ h), by decide +kernel, by decide +kernel⟩
set_option maxRecDepth 100000 in
theorem k_E_ISE : k_E "java/lang/IllegalStateException" 77 := ⟨by decide +kernel, wd_x25, fun w h => List.mem_append_right _ h, by decide +kernel, by decide +kernel⟩
set_option maxRecDepth 100000 in
theorem k_E_IOB : k_E "java/lang/IndexOutOfBoundsException" 263 := ⟨by decide +kernel, wd_x17, fun w h => List.mem_append_left _ (List.mem_append_left _ (List.mem_append_right _ h)), by decide +kernel, by decide +kernel⟩

/-- such a method's ends -/
def k_XC (G : k_G) (Z : Nat → Prop) (ad : k_Ad) (ct : k_Ct) (pX : String → Prop) : String → State → State → Prop := vx_X (fun u : k_Ad × k_Ct => u = (ad, ct)) (fun E u U => pX E ∧ k_B G Z u U) Z
section
variable {p : Program} {l : Launch} {e : Env} {R : Room} {s : State} {m : MethodId} {args : Array Value} {below : List Frame} {meth : Method} {c : Code} {H : Heap} {locs : List Loc} {cells slots : Nat} {Q : State → Prop}
variable {cc : ByteArray} {pc nL : Nat} {ls : Array Slot} {rest st0 : List Value} {own : String} {G : k_G} {Z : Nat → Prop} {ad : k_Ad} {ct : k_Ct} {Qc : Array Value → State → Outcome → State → Prop}
theorem k_XC.of {pX : String → Prop} {E : String} (hM : k_H G ad ct H) (hN : k_N Z ad ct) (hK : va_K G.1 vwCl (k_ty G) s) (hS : va_S Z s.heap H locs) (hp : pX E) {t : State} (hv : s.vm.Alike t.vm) (hz : H.size ≤ t.heap.size) (hk : ∀ q : Nat, q < H.size → t.heap[q]? = H[q]?) : k_XC G Z ad ct pX E s t :=
  ⟨(ad, ct), rfl, ⟨hp, hM.kept hk, hN, hK.moved hv⟩, Nat.le_trans hS.1 hz, fun q h1 h2 => (hk q (Nat.lt_of_lt_of_le h1 hS.1)).trans (hS.2.1 q h1 h2)⟩
theorem kx_thr {ik is ic mc ms : Nat} {X text : String} {pX : String → Prop} (hF : CallFix p m c cc nL s args wsL_law RX4) (hl : l.stackTraces = false) (hP : k_P G s) (hT : k_T G Z s s.heap) (hE : k_E X ic) (hk : Cond.classLink RX4 ik X ∈ wsL_law) (hst : (is, text) ∈ k_strs) (hM : k_H G ad ct H) (hN : k_N Z ad ct) (hK : va_K G.1 vwCl (k_ty G) s) (hS : va_S Z s.heap H locs) (hsz : ls.size = nL)
    (d0 : decode cc pc = .ok (.new ik, 3)) (d3 : decode cc (pc + 3) = .ok (.dup, 1)) (d4 : decode cc (pc + 4) = .ok (.ldc is, 2)) (d6 : decode cc (pc + 6) = .ok (.invokespecial ic, 3)) (d9 : decode cc (pc + 9) = .ok (.athrow, 1))
    (hout : ∀ x ∈ c.exceptionTable.toList, False) (hRf : 5 < R.frames) (hRl : (rest.map fun v => v.category).sum + 82 ≤ R.locals) (hRc : cells + 1 ≤ R.cells) (hRs : slots + 6 ≤ R.slots) (hlk : meth.locks = false) (hc : cells + 1 ≤ mc) (hs : slots + 6 ≤ ms) (hp : pX X) :
    W p l e R s m args below meth c H locs cells slots (vx_MQ below Qc (k_XC G Z ad ct pX) args s mc ms Z) (F0 m pc ls rest) :=
  vx_throwS (names := k_nms) hF.1 hF.2.1 hl hF.2.2.2.1 hE.1 (by decide +kernel) (hF.2.2.2.2 _ hk) (hF.2.2.2.2 _ hE.2.1) (hP.2.1 _ hst)
    (fun w hw => by
      by_cases hg : goodWord w = true
      · exact hF.2.2.2.2 _ (hE.2.2.1 w (List.mem_filter.mpr ⟨hw, hg⟩))
      · have h1 := hE.2.2.2.1 w (List.mem_filter.mpr ⟨hw, by simp [hg]⟩)
        exact (hP.2.2.2.2.2.2 w h1).use (k_ng_t w h1))
    (fun w hw => by
      rcases List.mem_cons.mp hw with h | h
      · rw [h]; rfl
      · exact hE.2.2.2.2 w h)
    hT.1 hT.2.1 hS (hsz.trans hF.2.2.1.symm) d0 d3 d4 d6 d9 (fun x hx => (hout x hx).elim) hRf hRl hRc hRs hlk (fun t hv hz hk2 => k_XC.of hM hN hK hS hp hv hz hk2) hS.2.2 hc hs
theorem kx_thrW {ik is ic mc ms : Nat} {X text : String} {pX : String → Prop} (hF : CallFix p m c cc nL s args wsL_law RX4) (hl : l.stackTraces = false) (hP : k_P G s) (hT : k_T G Z s s.heap) (hE : k_E X ic) (hk : Cond.classLink RX4 ik X ∈ wsL_law) (hst : (is, text) ∈ k_strs) (hM : k_H G ad ct H) (hN : k_N Z ad ct) (hK : va_K G.1 vwCl (k_ty G) s) (hS : va_S Z s.heap H locs) (hsz : ls.size = nL)
    (d0 : decode cc pc = .ok (.new ik, 3)) (d3 : decode cc (pc + 3) = .ok (.dup, 1)) (d4 : decode cc (pc + 4) = .ok (.ldc_w is, 3)) (d6 : decode cc (pc + 7) = .ok (.invokespecial ic, 3)) (d9 : decode cc (pc + 10) = .ok (.athrow, 1))
    (hout : ∀ x ∈ c.exceptionTable.toList, False) (hRf : 5 < R.frames) (hRl : (rest.map fun v => v.category).sum + 82 ≤ R.locals) (hRc : cells + 1 ≤ R.cells) (hRs : slots + 6 ≤ R.slots) (hlk : meth.locks = false) (hc : cells + 1 ≤ mc) (hs : slots + 6 ≤ ms) (hp : pX X) :
    W p l e R s m args below meth c H locs cells slots (vx_MQ below Qc (k_XC G Z ad ct pX) args s mc ms Z) (F0 m pc ls rest) :=
  vx_throwSW (names := k_nms) hF.1 hF.2.1 hl hF.2.2.2.1 hE.1 (by decide +kernel) (hF.2.2.2.2 _ hk) (hF.2.2.2.2 _ hE.2.1) (hP.2.1 _ hst)
    (fun w hw => by
      by_cases hg : goodWord w = true
      · exact hF.2.2.2.2 _ (hE.2.2.1 w (List.mem_filter.mpr ⟨hw, hg⟩))
      · have h1 := hE.2.2.2.1 w (List.mem_filter.mpr ⟨hw, by simp [hg]⟩)
        exact (hP.2.2.2.2.2.2 w h1).use (k_ng_t w h1))
    (fun w hw => by
      rcases List.mem_cons.mp hw with h | h
      · rw [h]; rfl
      · exact hE.2.2.2.2 w h)
    hT.1 hT.2.1 hS (hsz.trans hF.2.2.1.symm) d0 d3 d4 d6 d9 (fun x hx => (hout x hx).elim) hRf hRl hRc hRs hlk (fun t hv hz hk2 => k_XC.of hM hN hK hS hp hv hz hk2) hS.2.2 hc hs
end
