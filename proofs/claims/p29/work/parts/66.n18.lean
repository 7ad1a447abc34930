theorem dX4_addWay_0 : decode cX4_addWay 0 = .ok (.iload_n 1, 1) := by decide +kernel
theorem dX4_addWay_1 : decode cX4_addWay 1 = .ok (.invokestatic 42, 3) := by decide +kernel
theorem dX4_addWay_4 : decode cX4_addWay 4 = .ok (.iload_n 2, 1) := by decide +kernel
theorem dX4_addWay_5 : decode cX4_addWay 5 = .ok (.iload_n 3, 1) := by decide +kernel
theorem dX4_addWay_6 : decode cX4_addWay 6 = .ok (.invokestatic 46, 3) := by decide +kernel
theorem dX4_addWay_9 : decode cX4_addWay 9 = .ok (.iload 4, 2) := by decide +kernel
theorem dX4_addWay_11 : decode cX4_addWay 11 = .ok (.ifCond .eq 19, 3) := by decide +kernel
theorem dX4_addWay_14 : decode cX4_addWay 14 = .ok (.iload 4, 2) := by decide +kernel
theorem dX4_addWay_16 : decode cX4_addWay 16 = .ok (.bipush (-16), 2) := by decide +kernel
theorem dX4_addWay_18 : decode cX4_addWay 18 = .ok (.bipush 16, 2) := by decide +kernel
theorem dX4_addWay_20 : decode cX4_addWay 20 = .ok (.invokestatic 50, 3) := by decide +kernel
theorem dX4_addWay_23 : decode cX4_addWay 23 = .ok (.ifCond .eq 7, 3) := by decide +kernel
theorem dX4_addWay_26 : decode cX4_addWay 26 = .ok (.iconst 1, 1) := by decide +kernel
theorem dX4_addWay_27 : decode cX4_addWay 27 = .ok (.goto 4, 3) := by decide +kernel
theorem dX4_addWay_30 : decode cX4_addWay 30 = .ok (.iconst 0, 1) := by decide +kernel
theorem dX4_addWay_31 : decode cX4_addWay 31 = .ok (.istore 6, 2) := by decide +kernel
theorem dX4_addWay_33 : decode cX4_addWay 33 = .ok (.iload 6, 2) := by decide +kernel
theorem dX4_addWay_35 : decode cX4_addWay 35 = .ok (.ifCond .eq 15, 3) := by decide +kernel
theorem dX4_addWay_38 : decode cX4_addWay 38 = .ok (.iload 4, 2) := by decide +kernel
theorem dX4_addWay_40 : decode cX4_addWay 40 = .ok (.ifCond .le 10, 3) := by decide +kernel
theorem dX4_addWay_43 : decode cX4_addWay 43 = .ok (.iload_n 2, 1) := by decide +kernel
theorem dX4_addWay_44 : decode cX4_addWay 44 = .ok (.iload 4, 2) := by decide +kernel
theorem dX4_addWay_46 : decode cX4_addWay 46 = .ok (.iadd, 1) := by decide +kernel
theorem dX4_addWay_47 : decode cX4_addWay 47 = .ok (.goto 4, 3) := by decide +kernel
theorem dX4_addWay_50 : decode cX4_addWay 50 = .ok (.iload_n 2, 1) := by decide +kernel
theorem dX4_addWay_51 : decode cX4_addWay 51 = .ok (.istore 7, 2) := by decide +kernel
theorem dX4_addWay_53 : decode cX4_addWay 53 = .ok (.iload 6, 2) := by decide +kernel
theorem dX4_addWay_55 : decode cX4_addWay 55 = .ok (.ifCond .eq 15, 3) := by decide +kernel
theorem dX4_addWay_58 : decode cX4_addWay 58 = .ok (.iload 4, 2) := by decide +kernel
theorem dX4_addWay_60 : decode cX4_addWay 60 = .ok (.ifCond .ge 10, 3) := by decide +kernel
theorem dX4_addWay_63 : decode cX4_addWay 63 = .ok (.iload_n 3, 1) := by decide +kernel
theorem dX4_addWay_64 : decode cX4_addWay 64 = .ok (.iload 4, 2) := by decide +kernel
theorem dX4_addWay_66 : decode cX4_addWay 66 = .ok (.isub, 1) := by decide +kernel
theorem dX4_addWay_67 : decode cX4_addWay 67 = .ok (.goto 4, 3) := by decide +kernel
theorem dX4_addWay_70 : decode cX4_addWay 70 = .ok (.iload_n 3, 1) := by decide +kernel
theorem dX4_addWay_71 : decode cX4_addWay 71 = .ok (.istore 8, 2) := by decide +kernel
theorem dX4_addWay_73 : decode cX4_addWay 73 = .ok (.iload 7, 2) := by decide +kernel
theorem dX4_addWay_75 : decode cX4_addWay 75 = .ok (.iload 8, 2) := by decide +kernel
theorem dX4_addWay_77 : decode cX4_addWay 77 = .ok (.invokestatic 46, 3) := by decide +kernel
theorem dX4_addWay_80 : decode cX4_addWay 80 = .ok (.iload 6, 2) := by decide +kernel
theorem dX4_addWay_82 : decode cX4_addWay 82 = .ok (.ifCond .eq 11, 3) := by decide +kernel
theorem dX4_addWay_85 : decode cX4_addWay 85 = .ok (.iload 5, 2) := by decide +kernel
theorem dX4_addWay_87 : decode cX4_addWay 87 = .ok (.invokestatic 54, 3) := by decide +kernel
theorem dX4_addWay_90 : decode cX4_addWay 90 = .ok (.ifCond .ne 13, 3) := by decide +kernel
theorem dX4_addWay_93 : decode cX4_addWay 93 = .ok (.new 58, 3) := by decide +kernel
theorem dX4_addWay_96 : decode cX4_addWay 96 = .ok (.dup, 1) := by decide +kernel
theorem dX4_addWay_97 : decode cX4_addWay 97 = .ok (.ldc 60, 2) := by decide +kernel
theorem dX4_addWay_99 : decode cX4_addWay 99 = .ok (.invokespecial 62, 3) := by decide +kernel
theorem dX4_addWay_102 : decode cX4_addWay 102 = .ok (.athrow, 1) := by decide +kernel
theorem dX4_addWay_103 : decode cX4_addWay 103 = .ok (.aload_n 0, 1) := by decide +kernel
theorem dX4_addWay_104 : decode cX4_addWay 104 = .ok (.getfield 10, 3) := by decide +kernel
theorem dX4_addWay_107 : decode cX4_addWay 107 = .ok (.invokevirtual 65, 3) := by decide +kernel
theorem dX4_addWay_110 : decode cX4_addWay 110 = .ok (.bipush 40, 2) := by decide +kernel
theorem dX4_addWay_112 : decode cX4_addWay 112 = .ok (.if_icmp .ge 10, 3) := by decide +kernel
theorem dX4_addWay_115 : decode cX4_addWay 115 = .ok (.aload_n 0, 1) := by decide +kernel
theorem dX4_addWay_116 : decode cX4_addWay 116 = .ok (.invokevirtual 69, 3) := by decide +kernel
theorem dX4_addWay_119 : decode cX4_addWay 119 = .ok (.ifCond .eq 13, 3) := by decide +kernel
theorem dX4_addWay_122 : decode cX4_addWay 122 = .ok (.new 73, 3) := by decide +kernel
theorem dX4_addWay_125 : decode cX4_addWay 125 = .ok (.dup, 1) := by decide +kernel
theorem dX4_addWay_126 : decode cX4_addWay 126 = .ok (.ldc 75, 2) := by decide +kernel
theorem dX4_addWay_128 : decode cX4_addWay 128 = .ok (.invokespecial 77, 3) := by decide +kernel
theorem dX4_addWay_131 : decode cX4_addWay 131 = .ok (.athrow, 1) := by decide +kernel
theorem dX4_addWay_132 : decode cX4_addWay 132 = .ok (.aload_n 0, 1) := by decide +kernel
theorem dX4_addWay_133 : decode cX4_addWay 133 = .ok (.getfield 10, 3) := by decide +kernel
theorem dX4_addWay_136 : decode cX4_addWay 136 = .ok (.new 78, 3) := by decide +kernel
theorem dX4_addWay_139 : decode cX4_addWay 139 = .ok (.dup, 1) := by decide +kernel
theorem dX4_addWay_140 : decode cX4_addWay 140 = .ok (.iload_n 2, 1) := by decide +kernel
theorem dX4_addWay_141 : decode cX4_addWay 141 = .ok (.iload_n 3, 1) := by decide +kernel
theorem dX4_addWay_142 : decode cX4_addWay 142 = .ok (.iload 7, 2) := by decide +kernel
theorem dX4_addWay_144 : decode cX4_addWay 144 = .ok (.iload 8, 2) := by decide +kernel
theorem dX4_addWay_146 : decode cX4_addWay 146 = .ok (.aload_n 0, 1) := by decide +kernel
theorem dX4_addWay_147 : decode cX4_addWay 147 = .ok (.new 80, 3) := by decide +kernel
theorem dX4_addWay_150 : decode cX4_addWay 150 = .ok (.dup, 1) := by decide +kernel
theorem dX4_addWay_151 : decode cX4_addWay 151 = .ok (.iload 5, 2) := by decide +kernel
theorem dX4_addWay_153 : decode cX4_addWay 153 = .ok (.iconst 0, 1) := by decide +kernel
theorem dX4_addWay_154 : decode cX4_addWay 154 = .ok (.iload_n 1, 1) := by decide +kernel
theorem dX4_addWay_155 : decode cX4_addWay 155 = .ok (.invokespecial 82, 3) := by decide +kernel
theorem dX4_addWay_158 : decode cX4_addWay 158 = .ok (.aconst_null, 1) := by decide +kernel
theorem dX4_addWay_159 : decode cX4_addWay 159 = .ok (.invokevirtual 85, 3) := by decide +kernel
theorem dX4_addWay_162 : decode cX4_addWay 162 = .ok (.invokespecial 89, 3) := by decide +kernel
theorem dX4_addWay_165 : decode cX4_addWay 165 = .ok (.invokevirtual 92, 3) := by decide +kernel
theorem dX4_addWay_168 : decode cX4_addWay 168 = .ok (.pop, 1) := by decide +kernel
theorem dX4_addWay_169 : decode cX4_addWay 169 = .ok (.aload_n 0, 1) := by decide +kernel
theorem dX4_addWay_170 : decode cX4_addWay 170 = .ok (.getfield 10, 3) := by decide +kernel
theorem dX4_addWay_173 : decode cX4_addWay 173 = .ok (.invokevirtual 65, 3) := by decide +kernel
theorem dX4_addWay_176 : decode cX4_addWay 176 = .ok (.iconst 1, 1) := by decide +kernel
theorem dX4_addWay_177 : decode cX4_addWay 177 = .ok (.isub, 1) := by decide +kernel
theorem dX4_addWay_178 : decode cX4_addWay 178 = .ok (.ireturn, 1) := by decide +kernel
section VXIB
variable {p : Program} {l : Launch} {e : Env} {R : Room} {s : State} {m : MethodId} {args : Array Value} {below : List Frame} {meth : Method} {c : Code} {H : Heap} {locs : List Loc} {cells slots : Nat}
variable {y : MethodName} {bytes cc : ByteArray} {maxL nL mc ms n index : Nat} {ret : Option FieldType} {ws : List Cond} {rm : Room} {Pc : Array Value → State → Prop} {Qc : Array Value → State → Outcome → State → Prop} {XC : String → State → State → Prop} {free : Addr → Prop} {Ts : List Cond} {own C : String} {b : Addr} {As rest : List Value} {g : JFrame}
theorem vx_runI9 (S : CallFix p m c cc nL s args Ts own) (hM : vx_Met l y ws rm Pc Qc XC mc ms free) (cw : CallB R s args own index y bytes maxL none ws rm mc ms n ∧ y.name = "<init>" ∧ (Cond.instanceMethod y).before args s = true) (hp : PreS s H Pc (.ref b :: As)) {N9 : Nat} (h9 : N9 + (maxL + 11) + rm.locals ≤ R.locals)
    (hg : g.method = m) (hn : As.length = n) (hsize : g.locals.size = nL) (hstack : g.stack = As.reverse ++ .ref b :: rest) (hW : 2 * g.monitorRoom + (rest.map fun v => v.category).sum ≤ N9) (hdg : decode cc g.pc = .ok (.invokespecial index, 3)) (hf : cells + mc ≤ R.cells ∧ slots + ms ≤ R.slots) :
    vx_Run p l e R s m args below meth c H locs cells slots mc ms g rest (Qc (Value.ref b :: As).toArray) XC free := by
  have hK : vx_Back l R p e below s args y 3 N9 (PreOf R mc ms Pc) (PostOf Qc mc ms free) (vx_Post XC mc ms free) := by
    obtain ⟨⟨hrc, hrs, hfr, hlo, hws, hcw, -, hini, -⟩, -⟩ := cw
    exact vx_back (bytes := bytes) (maxL := maxL) (ret := none) hM hp.1 hrc hrs hfr h9 hws hcw (fun a' U hW => word_at hW (Or.inl (by first | rfl | simp [Cond.onTables, Cond.keeps, Cond.steady])) hini)
  obtain ⟨⟨-, -, -, -, -, -, hcode, -, hy, hlen, hl⟩, hy1, hin⟩ := cw
  obtain ⟨hx, hb, hml, ho, -⟩ := S
  have hPc := hp.2
  intro T hT X
  rcases vx_callI X hx (bytes := bytes) (maxL := maxL) ho hy1 hl hin hcode hy hK hg (hsize.trans hml.symm) (a := b) (argsL := As) (rest := rest) (fun sig h => hn.trans (hlen sig h)) hstack hW (by rw [hb]; exact hdg)
    (fun vm₁ hW₁ => ⟨hf.1, hf.2, hPc (T.setVm vm₁) hT hW₁⟩) with ⟨v, vm₁, ⟨U', l2, c2, s2⟩, hW₁, X', ⟨g', mk, t, L, e1, e2, hq, h1, hL, h2, h3⟩, st⟩ | ⟨q, vm₁, ⟨U', l2, c2, s2⟩, hW₁, X', ⟨g', mk, t, L, E, ce, e1, e2, hq, hce, hcv, hcl, h1, hL, h2, h3⟩, st⟩
  · dsimp only [Pt.U, Pt.locs, Pt.cells, Pt.slots] at X' e1 e2 h1 h2 h3 st
    subst h1; subst h2; subst h3
    exact Or.inl ⟨v, (T.setVm vm₁).calling g' mk (Value.ref b :: As).toArray, t, U', L, hT, X', hL, e1, e2, hq, st⟩
  · dsimp only [Pt.U, Pt.locs, Pt.cells, Pt.slots] at X' e1 e2 h1 h2 h3 st hcl
    subst h1; subst h2; subst h3
    exact Or.inr ⟨q, (T.setVm vm₁).calling g' mk (Value.ref b :: As).toArray, t, U', L, E, ce, hT, X', hL, e1, e2, hq, hce, hcv, vx_cls hW₁ hcl, st⟩
end VXIB
section
variable {p : Program} {l : Launch} {e : Env} {R : Room} {s : State} {m : MethodId} {args : Array Value} {below : List Frame} {meth : Method} {c : Code} {H : Heap} {locs : List Loc} {cells slots : Nat} {Q : State → Prop}
variable {cc : ByteArray} {pc nL : Nat} {ls : Array Slot} {rest st0 : List Value} {own : String} {G : k_G} {Z : Nat → Prop} {ad ad1 : k_Ad} {ct ct1 : k_Ct} {Qc : Array Value → State → Outcome → State → Prop} {XC : String → State → State → Prop} {mc ms : Nat}
theorem kx_vI9 {index n fr lo mc1 ms1 maxL : Nat} {y : MethodName} {bytes : ByteArray} {b : Nat} {As : List Value} {post : k_Ad × k_Ct → Prop} {pX pX1 : String → Prop} (hF : CallFix p m c cc nL s args wsL_law own) (hM : kx_v l y bytes maxL none fr lo mc1 ms1 G Z ad1 ct1 (.ref b :: As) post pX1) (hk : wl_I y bytes maxL n) (hl : Cond.methodLink own index y ∈ wsL_law) (hR : fr + 1 ≤ R.frames ∧ 9 + (maxL + 11) + lo ≤ R.locals)
    (hH : k_H G ad1 ct1 H) (hN : k_N Z ad1 ct1) (hK : va_K G.1 vwCl (k_ty G) s) (hP : k_P G s) (hT : k_T G Z s s.heap) (hS : va_S Z s.heap H locs) (hn : As.length = n) (hsz : ls.size = nL) (hst : st0 = As.reverse ++ .ref b :: rest) (hro : (rest.map fun v => v.category).sum ≤ 9) (hdg : decode cc pc = .ok (.invokespecial index, 3)) (hf : cells + mc1 ≤ R.cells ∧ slots + ms1 ≤ R.slots)
    (hout : ∀ x ∈ c.exceptionTable.toList, False) (hlk : meth.locks = false) (hpx : ∀ E, pX1 E → pX E ∧ ad1 = ad ∧ ct1 = ct) (hc : cells + mc1 ≤ mc) (hs : slots + ms1 ≤ ms)
    (kk : ∀ (u : k_Ad × k_Ct) (H1 : Heap) (locs1 : List Loc), post u → k_H G u.1 u.2 H1 → k_N Z u.1 u.2 → va_S Z s.heap H1 locs1 → H.size ≤ H1.size → (∀ q : Nat, q < H.size → ¬ Z q → H1[q]? = H[q]?) → W p l e R s m args below meth c H1 locs1 (cells + mc1) (slots + ms1) (vx_MQ below Qc (k_XC G Z ad ct pX) args s mc ms Z) (F0 m (pc + 3) ls (rest))) : W p l e R s m args below meth c H locs cells slots (vx_MQ below Qc (k_XC G Z ad ct pX) args s mc ms Z) (F0 m pc ls st0) := by
  refine vx_callv (A0 := Z) (vx_runI9 hF hM (wl_callI hF.2.2.2.2 hk hl ⟨hR.1, by have := hR.2; omega⟩) ⟨bl_blindV k_M.bl, fun U hU hW => ⟨rfl, k_M.call hH hN hK hP hT hS hU hW⟩⟩ hR.2 rfl hn hsz hst (by show 2 * 0 + _ ≤ 9; omega) hdg hf) hS (fun q _ h => h) (fun q h => h) (fun q _ h => h) ?_ ?_
  · intro E ce q9 u t H1 locs1 ht hvm hu hB hz hk2 hS1 hcell hv hcl
    subst hu
    obtain ⟨hp1, hb1, hb2, hb3⟩ := hB
    obtain ⟨hp2, rfl, rfl⟩ := hpx E hp1
    exact vx_out (fun x hx => (hout x hx).elim) hlk hcell hv hcl (fun t2 ht2 hv2 => ⟨_, rfl, ⟨hp2, by rw [ht2, ← ht]; exact hb1, hb2, hK.moved hv2⟩, hS1.F ht2⟩) hS1.2.2 hc hs
  · intro u t H1 locs1 ht hvm hp hB hz hk2 hS1
    exact kk u H1 locs1 hp (by rw [← ht]; exact hB.1) hB.2.1 hS1 hz hk2
end
theorem neg_of {n : Int32} (h0 : ¬ n = 0) (h : ¬ 0 < n) : n < 0 := by
  rcases Int32.lt_or_eq_of_le (Int32.not_lt.mp h) with q | q
  · exact q
  · exact absurd q h0
theorem addW {mm : q_Mem} (hI : Inv mm) (h : ¬ (40 : Int32) ≤ mm 1 0) : sp_W mm < 40 ∧ ¬ mm 1 0 = 40 := by
  have h40 := hI.W40
  have hne : ¬ sp_W mm = 40 := fun q => h (by rw [hI.W, q]; decide)
  exact ⟨by omega, fun q => h (by rw [q]; decide)⟩
theorem addW2 {mm : q_Mem} (hI : Inv mm) (h : (40 : Int32) ≤ mm 1 0) : mm 1 0 = 40 := by
  have h40 := hI.W40
  rw [hI.W] at h ⊢
  by_cases q : sp_W mm = 40
  · rw [q]; rfl
  · exact absurd h (nI_ge (b := 40) (by omega) (by decide))
theorem ke_X4_addWay : wl_V RX4 yX4_addWay cX4_addWay 9 (some .int) 5 := ⟨wd_c_X4_addWay, wd_i_X4_addWay, wd_s_X4_addWay, wd_n_X4, by decide, by decide +kernel⟩
set_option maxHeartbeats 4000000 in
set_option maxRecDepth 100000 in
theorem m_X4_addWay (l : Launch) (hflag : l.stackTraces = false) (G : k_G) (Z : Nat → Prop) (ad : k_Ad) (mm : q_Mem) (f x y n k : Int32) (hI : Inv mm) (hK1 : sp_K mm < 512) : kx_i l yX4_addWay cX4_addWay 9 (some .int) 7 155 9 100 G Z ad (k_C G ad mm) [.ref (ad 0 0), .int f, .int x, .int y, .int n, .int k] (k_po G ad (sp_add mm f x y n k)) (k_px k_n3 (sp_add mm f x y n k) mm) := by
  refine kx_of (by decide) (Nat.le_of_ble_eq_true rfl) ?_
  intro p e s m args below meth c hx hb hr hF hlk hnt hB ls hl
  obtain ⟨⟨hM, hN⟩, hK, hP, hT⟩ := hB
  have hS : va_S Z s.heap s.heap [] := va_S.rf
  have hl : lv_has ls 9 [(0, .ref (ad 0 0)), (1, .int f), (2, .int x), (3, .int y), (4, .int n), (5, .int k)] := hl
  refine lv_iload_n hx hb dX4_addWay_0 rfl (lv_at hl 1 rfl) ?_
  refine kx_vS (fr := 6) (lo := 90) (mc1 := 1) (ms1 := 6) (As := [.int f]) (rest := []) hF (m_X4_requireEditor l hflag G Z ad (k_C G ad mm) f) ke_X4_requireEditor wd_l_X4_42 (by decide) hM hN hK hP hT hS rfl hl.1 rfl (Nat.le_of_ble_eq_true rfl) dX4_addWay_1 (by decide) hnt hlk (fun E hE => ⟨⟨1, by decide, by rw [sp_add, if_neg (fun q => hE.2 q.1)], hE.1⟩, rfl, rfl⟩) (by decide) (by decide) (fun ur1 H locs hr1 hM hN hS _ _ => ?_)
  obtain ⟨cE, rfl⟩ := hr1
  replace hM : k_H G ad (k_C G ad mm) H := hM
  replace hN : k_N Z ad (k_C G ad mm) := hN
  obtain ⟨fi, hf6, hfe⟩ := nt_ed cE
  subst hfe
  refine lv_iload_n hx hb dX4_addWay_4 rfl (lv_at hl 2 rfl) ?_
  refine lv_iload_n hx hb dX4_addWay_5 rfl (lv_at hl 3 rfl) ?_
  refine kx_vS (fr := 6) (lo := 90) (mc1 := 1) (ms1 := 6) (As := [.int x, .int y]) (rest := []) hF (m_X4_requireCrossing l hflag G Z ad (k_C G ad mm) x y) ke_X4_requireCrossing wd_l_X4_46 (by decide) hM hN hK hP hT hS rfl hl.1 rfl (Nat.le_of_ble_eq_true rfl) dX4_addWay_6 (by decide) hnt hlk (fun E hE => ⟨⟨1, by decide, by rw [sp_add, if_neg (fun q => hE.2 q.2.1)], hE.1⟩, rfl, rfl⟩) (by decide) (by decide) (fun ur2 H locs hr2 hM hN hS _ _ => ?_)
  obtain ⟨cC, rfl⟩ := hr2
  replace hM : k_H G ad (k_C G ad mm) H := hM
  replace hN : k_N Z ad (k_C G ad mm) := hN
  by_cases hL9 : sp_len n
  · skip
    by_cases hp : 0 < n
    · skip
      have hx1 : sp_tx x n = x + n := if_pos hp
      have hn1 : ¬ n < 0 := fun q => Int32.lt_irrefl (Int32.lt_trans hp q)
      have hy1 : sp_ty y n = y := if_neg hn1
      refine lv_iload hx hb dX4_addWay_9 (lv_at hl 4 rfl) ?_
      refine lv_if_eq (tgt := 30) hx hb dX4_addWay_11 (by decide) (fun c1 => ?_) (fun c1 => ?_)
      · skip
        exact absurd c1 hL9.1
      · skip
        refine lv_iload hx hb dX4_addWay_14 (lv_at hl 4 rfl) ?_
        refine lv_bipush (v := (-16)) hx hb dX4_addWay_16 (by decide) ?_
        refine lv_bipush (v := 16) hx hb dX4_addWay_18 (by decide) ?_
        refine rc_S (fr := 0) (lo := 0) (As := [.int n, .int (-16), .int 16]) (rest := []) hF (m_X4_isIn l n (-16) 16) ke_X4_isIn wd_l_X4_50 (by decide) bl_true (fun _ _ _ => trivial) rfl hl.1 rfl (Nat.le_of_ble_eq_true rfl) dX4_addWay_20 (by decide) (fun r3 hr3 => ?_)
        refine bo_eq (tgt := 30) hr3 hx hb dX4_addWay_23 (by decide) (fun c2 => ?_) (fun c2 => ?_)
        · skip
          exact absurd hL9.2 c2
        · skip
          refine lv_iconst (v := 1) hx hb dX4_addWay_26 (by decide) ?_
          refine lv_goto (tgt := 31) hx hb dX4_addWay_27 (by decide) ?_
          refine lv_istore (lv' := [(6, .int 1), (0, .ref (ad 0 0)), (1, .int (nI fi)), (2, .int x), (3, .int y), (4, .int n), (5, .int k)]) hx hb dX4_addWay_31 hl (by decide) rfl (fun ls hl => ?_)
          refine lv_iload hx hb dX4_addWay_33 (lv_at hl 0 rfl) ?_
          refine lv_if_eq (tgt := 50) hx hb dX4_addWay_35 (by decide) (fun c3 => ?_) (fun c3 => ?_)
          · skip
            exact absurd c3 (by decide)
          · skip
            refine lv_iload hx hb dX4_addWay_38 (lv_at hl 5 rfl) ?_
            refine lv_if_le (tgt := 50) hx hb dX4_addWay_40 (by decide) (fun c4 => ?_) (fun c4 => ?_)
            · skip
              exact absurd c4 (Int32.not_le.mpr hp)
            · skip
              refine lv_iload_n hx hb dX4_addWay_43 rfl (lv_at hl 3 rfl) ?_
              refine lv_iload hx hb dX4_addWay_44 (lv_at hl 5 rfl) ?_
              refine lv_iadd hx hb dX4_addWay_46 ?_
              refine bo_to (v := (sp_tx x n)) (hx1.symm) ?_
              refine lv_goto (tgt := 51) hx hb dX4_addWay_47 (by decide) ?_
              refine lv_istore (lv' := [(7, .int (sp_tx x n)), (6, .int 1), (0, .ref (ad 0 0)), (1, .int (nI fi)), (2, .int x), (3, .int y), (4, .int n), (5, .int k)]) hx hb dX4_addWay_51 hl (by decide) rfl (fun ls hl => ?_)
              refine lv_iload hx hb dX4_addWay_53 (lv_at hl 1 rfl) ?_
              refine lv_if_eq (tgt := 70) hx hb dX4_addWay_55 (by decide) (fun c5 => ?_) (fun c5 => ?_)
              · skip
                exact absurd c5 (by decide)
              · skip
                refine lv_iload hx hb dX4_addWay_58 (lv_at hl 6 rfl) ?_
                refine lv_if_ge (tgt := 70) hx hb dX4_addWay_60 (by decide) (fun c6 => ?_) (fun c6 => ?_)
                · skip
                  refine lv_iload_n hx hb dX4_addWay_70 rfl (lv_at hl 5 rfl) ?_
                  refine bo_to (v := (sp_ty y n)) (hy1.symm) ?_
                  refine lv_istore (lv' := [(8, .int (sp_ty y n)), (7, .int (sp_tx x n)), (6, .int 1), (0, .ref (ad 0 0)), (1, .int (nI fi)), (2, .int x), (3, .int y), (4, .int n), (5, .int k)]) hx hb dX4_addWay_71 hl (by decide) rfl (fun ls hl => ?_)
                  refine lv_iload hx hb dX4_addWay_73 (lv_at hl 1 rfl) ?_
                  refine lv_iload hx hb dX4_addWay_75 (lv_at hl 0 rfl) ?_
                  refine kx_vS (fr := 6) (lo := 90) (mc1 := 1) (ms1 := 6) (As := [.int (sp_tx x n), .int (sp_ty y n)]) (rest := []) hF (m_X4_requireCrossing l hflag G Z ad (k_C G ad mm) (sp_tx x n) (sp_ty y n)) ke_X4_requireCrossing wd_l_X4_46 (by decide) hM hN hK hP hT hS rfl hl.1 rfl (Nat.le_of_ble_eq_true rfl) dX4_addWay_77 (by decide) hnt hlk (fun E hE => ⟨⟨1, by decide, by rw [sp_add, if_neg (fun q => hE.2 (q.2.2 hL9))], hE.1⟩, rfl, rfl⟩) (by decide) (by decide) (fun ur4 H locs hr4 hM hN hS _ _ => ?_)
                  obtain ⟨cT, rfl⟩ := hr4
                  replace hM : k_H G ad (k_C G ad mm) H := hM
                  replace hN : k_N Z ad (k_C G ad mm) := hN
                  have cM : sp_may (nI fi) x y n := ⟨cE, cC, fun q => cT⟩
                  refine lv_iload hx hb dX4_addWay_80 (lv_at hl 2 rfl) ?_
                  refine lv_if_eq (tgt := 93) hx hb dX4_addWay_82 (by decide) (fun c7 => ?_) (fun c7 => ?_)
                  · skip
                    exact absurd c7 (by decide)
                  · skip
                    refine lv_iload hx hb dX4_addWay_85 (lv_at hl 8 rfl) ?_
                    refine rc_S (fr := 1) (lo := 22) (As := [.int k]) (rest := []) hF (m_X4_isKind l k) ke_X4_isKind wd_l_X4_54 (by decide) bl_true (fun _ _ _ => trivial) rfl hl.1 rfl (Nat.le_of_ble_eq_true rfl) dX4_addWay_87 (by decide) (fun r5 hr5 => ?_)
                    refine bo_ne (tgt := 103) hr5 hx hb dX4_addWay_90 (by decide) (fun c8 => ?_) (fun c8 => ?_)
                    · skip
                      obtain ⟨ki, hki0, hke⟩ := nt_le (n := 3) (by decide) c8
                      subst hke
                      refine lv_aload_n hx hb dX4_addWay_103 rfl (lv_at hl 3 rfl) ?_
                      refine g_get (C := RX4) (T := TX4) (N := 6) (v := .ref (ad 0 1)) hF hK (hM 0 0 _ rfl) rfl inlX4 0 (by decide) rfl wd_f_X4_10 rfl dX4_addWay_104 ?_
                      refine kr_V (fr := 0) (lo := 0) (As := []) (rest := []) hF (m_Jx4a65c_size_8abf5 l G Z ad mm) ke_Jx4a65c_size_8abf5 wd_l_X4_65 (by decide) hM hK hP hT hS (g_recv hK (hM 0 1 _ rfl) rfl) rfl hl.1 rfl (Nat.le_of_ble_eq_true rfl) dX4_addWay_107 (by decide) (fun r6 hr6 => ?_)
                      replace hr6 : r6 = mm 1 0 := hr6
                      subst hr6
                      refine lv_bipush (v := 40) hx hb dX4_addWay_110 (by decide) ?_
                      refine lv_icmp_ge (tgt := 122) hx hb dX4_addWay_112 (by decide) (fun c9 => ?_) (fun c9 => ?_)
                      · skip
                        exact kx_thr (text := "there is no room for a way") hF hflag hP hT k_E_ISE wd_k_X4_73 (by decide) hM hN hK hS hl.1 dX4_addWay_122 dX4_addWay_125 dX4_addWay_126 dX4_addWay_128 dX4_addWay_131 hnt (by decide) (Nat.le_of_ble_eq_true rfl) (by decide) (by decide) hlk (by decide) (by decide) (⟨3, by decide, by rw [sp_add, if_pos cM, if_pos (And.intro hL9 c8), if_pos (addW2 hI c9)], rfl⟩)
                      · skip
                        obtain ⟨hW40, hNW⟩ := addW hI c9
                        refine lv_aload_n hx hb dX4_addWay_115 rfl (lv_at hl 3 rfl) ?_
                        refine kr_V (fr := 0) (lo := 0) (As := []) (rest := []) hF (m_X4_isFull l G Z ad mm) ke_X4_isFull wd_l_X4_69 (by decide) hM hK hP hT hS (g_recv hK (hM 0 0 _ rfl) rfl) rfl hl.1 rfl (Nat.le_of_ble_eq_true rfl) dX4_addWay_116 (by decide) (fun r7 hr7 => ?_)
                        refine bo_eq (tgt := 132) hr7 hx hb dX4_addWay_119 (by decide) (fun c10 => ?_) (fun c10 => ?_)
                        · skip
                          refine lv_aload_n hx hb dX4_addWay_132 rfl (lv_at hl 3 rfl) ?_
                          refine g_get (C := RX4) (T := TX4) (N := 6) (v := .ref (ad 0 1)) hF hK (hM 0 0 _ rfl) rfl inlX4 0 (by decide) rfl wd_f_X4_10 rfl dX4_addWay_133 ?_
                          refine k_new hF hK hM hN hS hT.2.2.2.2 1 (sp_W mm) (if_neg (Nat.lt_irrefl _)) (ci := 4) (fs := [.int 0, .int 0, .int 0, .int 0, .int 0, .null, .null, .null]) rfl inlX3 tyX3 tyX3_ok wd_k_X4_78_b wd_a_X3 wd_n_X3 (by decide) (by decide) (by decide) dX4_addWay_136 (fun qw H hM hN hS => ?_)
                          replace hM : k_H G (k_ad ad 1 (sp_W mm) qw) (k_up (k_C G ad mm) 1 (sp_W mm) (.inr (4, [.int 0, .int 0, .int 0, .int 0, .int 0, .null, .null, .null]))) H := hM
                          replace hN : k_N Z (k_ad ad 1 (sp_W mm) qw) (k_up (k_C G ad mm) 1 (sp_W mm) (.inr (4, [.int 0, .int 0, .int 0, .int 0, .int 0, .null, .null, .null]))) := hN
                          refine lv_dup hx hb dX4_addWay_139 rfl ?_
                          refine lv_iload_n hx hb dX4_addWay_140 rfl (lv_at hl 5 rfl) ?_
                          refine lv_iload_n hx hb dX4_addWay_141 rfl (lv_at hl 6 rfl) ?_
                          refine lv_iload hx hb dX4_addWay_142 (lv_at hl 1 rfl) ?_
                          refine lv_iload hx hb dX4_addWay_144 (lv_at hl 0 rfl) ?_
                          refine lv_aload_n hx hb dX4_addWay_146 rfl (lv_at hl 3 rfl) ?_
                          refine k_new hF hK hM hN hS hT.2.2.2.2 4 (sp_K mm) ((k_up_o (by simp)).trans (if_neg (Nat.lt_irrefl _))) (ci := 1) (fs := [.int 0, .int 0, .int 0]) rfl inlX0 tyX0 tyX0_ok wd_k_X4_80 wd_a_X0 wd_n_X0 (by decide) (by decide) (by decide) dX4_addWay_147 (fun qc H hM hN hS => ?_)
                          replace hM : k_H G (k_ad (k_ad ad 1 (sp_W mm) qw) 4 (sp_K mm) qc) (k_up (k_up (k_C G ad mm) 1 (sp_W mm) (.inr (4, [.int 0, .int 0, .int 0, .int 0, .int 0, .null, .null, .null]))) 4 (sp_K mm) (.inr (1, [.int 0, .int 0, .int 0]))) H := hM
                          replace hN : k_N Z (k_ad (k_ad ad 1 (sp_W mm) qw) 4 (sp_K mm) qc) (k_up (k_up (k_C G ad mm) 1 (sp_W mm) (.inr (4, [.int 0, .int 0, .int 0, .int 0, .int 0, .null, .null, .null]))) 4 (sp_K mm) (.inr (1, [.int 0, .int 0, .int 0]))) := hN
                          refine lv_dup hx hb dX4_addWay_150 rfl ?_
                          refine lv_iload hx hb dX4_addWay_151 (lv_at hl 8 rfl) ?_
                          refine lv_iconst (v := 0) hx hb dX4_addWay_153 (by decide) ?_
                          refine lv_iload_n hx hb dX4_addWay_154 rfl (lv_at hl 4 rfl) ?_
                          refine kx_vI9 (pX1 := fun _ => False) (post := fun u => u = ((k_ad (k_ad ad 1 (sp_W mm) qw) 4 (sp_K mm) qc), k_up (k_up (k_up (k_C G ad mm) 1 (sp_W mm) (.inr (4, [.int 0, .int 0, .int 0, .int 0, .int 0, .null, .null, .null]))) 4 (sp_K mm) (.inr (1, [.int 0, .int 0, .int 0]))) 4 (sp_K mm) (.inr (1, [.int (nI ki), .int 0, .int (nI fi)])))) (fr := 1) (lo := 24) (mc1 := 0) (ms1 := 0) (b := qc) (As := [.int (nI ki), .int 0, .int (nI fi)]) (rest := [.ref qc, .ref (ad 0 0), .int (sp_ty y n), .int (sp_tx x n), .int y, .int x, .ref qw, .ref qw, .ref (ad 0 1)]) hF (by have h9 := m_X0_init l hflag G Z (k_ad (k_ad ad 1 (sp_W mm) qw) 4 (sp_K mm) qc) (k_up (k_up (k_C G ad mm) 1 (sp_W mm) (.inr (4, [.int 0, .int 0, .int 0, .int 0, .int 0, .null, .null, .null]))) 4 (sp_K mm) (.inr (1, [.int 0, .int 0, .int 0]))) 4 (sp_K mm) (nI ki) 0 (nI fi) k_up_s; rw [k_ad_s] at h9; exact h9) ke_X0_init wd_l_X4_82 (by decide) hM hN hK hP hT hS rfl hl.1 rfl (Nat.le_of_ble_eq_true rfl) dX4_addWay_155 (by decide) hnt hlk (fun E hE => False.elim hE) (by decide) (by decide) (fun u1 H locs hu1 hM hN hS _ _ => ?_)
                          subst hu1
                          replace hM : k_H G (k_ad (k_ad ad 1 (sp_W mm) qw) 4 (sp_K mm) qc) (k_up (k_up (k_up (k_C G ad mm) 1 (sp_W mm) (.inr (4, [.int 0, .int 0, .int 0, .int 0, .int 0, .null, .null, .null]))) 4 (sp_K mm) (.inr (1, [.int 0, .int 0, .int 0]))) 4 (sp_K mm) (.inr (1, [.int (nI ki), .int 0, .int (nI fi)]))) H := hM
                          replace hN : k_N Z (k_ad (k_ad ad 1 (sp_W mm) qw) 4 (sp_K mm) qc) (k_up (k_up (k_up (k_C G ad mm) 1 (sp_W mm) (.inr (4, [.int 0, .int 0, .int 0, .int 0, .int 0, .null, .null, .null]))) 4 (sp_K mm) (.inr (1, [.int 0, .int 0, .int 0]))) 4 (sp_K mm) (.inr (1, [.int (nI ki), .int 0, .int (nI fi)]))) := hN
                          rw [k_up_t] at hM hN
                          refine lv_null hx hb dX4_addWay_158 ?_
                          have e00 : (k_ad (k_ad ad 1 (sp_W mm) qw) 4 (sp_K mm) qc) 0 0 = ad 0 0 := (k_ad_o (by simp)).trans (k_ad_o (by simp))
                          refine kx_qV (C := RX4) (pX1 := fun _ => False) (fr := 2) (lo := 47) (mc1 := 1) (ms1 := 4) (b := ad 0 0) (As := [.ref qc, .null]) (rest := [.int (sp_ty y n), .int (sp_tx x n), .int y, .int x, .ref qw, .ref qw, .ref (ad 0 1)]) hF (by have h9 := m_X4_newVersion0 l hflag G Z (k_ad (k_ad ad 1 (sp_W mm) qw) 4 (sp_K mm) qc) (k_up (k_up (k_C G ad mm) 1 (sp_W mm) (.inr (4, [.int 0, .int 0, .int 0, .int 0, .int 0, .null, .null, .null]))) 4 (sp_K mm) (.inr (1, [.int (nI ki), .int 0, .int (nI fi)]))) (sp_K mm) qc (.ref (ad 0 1)) (.ref (ad 0 2)) (.ref (ad 0 3)) (.ref (ad 0 4)) (.ref (ad 0 5)) (mm 10 0) ((k_up_o (by simp)).trans ((k_up_o (by simp)).trans rfl)) ((k_up_o (by simp)).trans ((k_up_o (by simp)).trans (if_neg (Nat.lt_irrefl _)))); rw [e00] at h9; exact h9) ke_X4_newVersion wd_l_X4_85 (by decide) hM hN hK hP hT hS (by have h9 := hM 0 0 _ ((k_up_o (by simp)).trans ((k_up_o (by simp)).trans rfl)); rw [e00] at h9; exact g_recv hK h9 rfl) rfl hl.1 rfl (Nat.le_of_ble_eq_true rfl) dX4_addWay_159 (by decide) hnt hlk (fun E hE => False.elim hE) (by decide) (by decide) (fun r1 u1 H locs hr1 hM hN hS _ _ => ?_)
                          clear e00
                          obtain ⟨qv, rfl, rfl⟩ := hr1
                          replace hM : k_H G (k_ad (k_ad (k_ad ad 1 (sp_W mm) qw) 4 (sp_K mm) qc) 3 (sp_K mm) qv) (k_up (k_up (k_up (k_up (k_C G ad mm) 1 (sp_W mm) (.inr (4, [.int 0, .int 0, .int 0, .int 0, .int 0, .null, .null, .null]))) 4 (sp_K mm) (.inr (1, [.int (nI ki), .int 0, .int (nI fi)]))) 0 0 (.inr (5, [.ref (ad 0 1), .ref (ad 0 2), .ref (ad 0 3), .ref (ad 0 4), .ref (ad 0 5), .int (mm 10 0 + 1)]))) 3 (sp_K mm) (.inr (3, [.ref qc, .int (mm 10 0 + 1), .int 0, .null]))) H := hM
                          replace hN : k_N Z (k_ad (k_ad (k_ad ad 1 (sp_W mm) qw) 4 (sp_K mm) qc) 3 (sp_K mm) qv) (k_up (k_up (k_up (k_up (k_C G ad mm) 1 (sp_W mm) (.inr (4, [.int 0, .int 0, .int 0, .int 0, .int 0, .null, .null, .null]))) 4 (sp_K mm) (.inr (1, [.int (nI ki), .int 0, .int (nI fi)]))) 0 0 (.inr (5, [.ref (ad 0 1), .ref (ad 0 2), .ref (ad 0 3), .ref (ad 0 4), .ref (ad 0 5), .int (mm 10 0 + 1)]))) 3 (sp_K mm) (.inr (3, [.ref qc, .int (mm 10 0 + 1), .int 0, .null]))) := hN
                          refine bo_toV (v := .ref qv) rfl ?_
                          have e1W : (k_ad (k_ad (k_ad ad 1 (sp_W mm) qw) 4 (sp_K mm) qc) 3 (sp_K mm) qv) 1 (sp_W mm) = qw := (k_ad_o (by simp)).trans ((k_ad_o (by simp)).trans k_ad_s)
                          refine kx_vI (pX1 := fun _ => False) (post := fun u => ∃ qd, u = (k_ad (k_ad (k_ad (k_ad ad 1 (sp_W mm) qw) 4 (sp_K mm) qc) 3 (sp_K mm) qv) 2 (sp_W mm) qd, (k_n6 G ad mm (.inr (4, [.int 0, .int 0, .int 0, .int 0, .int 0, .null, .null, .null])) qc qv qd (nI ki) (nI fi) x y (sp_tx x n) (sp_ty y n)))) (fr := 1) (lo := 24) (mc1 := 1) (ms1 := 9) (b := qw) (As := [.int x, .int y, .int (sp_tx x n), .int (sp_ty y n), .ref qv]) (rest := [.ref qw, .ref (ad 0 1)]) hF (by have h9 := m_X3_init l hflag G Z (k_ad (k_ad (k_ad ad 1 (sp_W mm) qw) 4 (sp_K mm) qc) 3 (sp_K mm) qv) (k_up (k_up (k_up (k_up (k_C G ad mm) 1 (sp_W mm) (.inr (4, [.int 0, .int 0, .int 0, .int 0, .int 0, .null, .null, .null]))) 4 (sp_K mm) (.inr (1, [.int (nI ki), .int 0, .int (nI fi)]))) 0 0 (.inr (5, [.ref (ad 0 1), .ref (ad 0 2), .ref (ad 0 3), .ref (ad 0 4), .ref (ad 0 5), .int (mm 10 0 + 1)]))) 3 (sp_K mm) (.inr (3, [.ref qc, .int (mm 10 0 + 1), .int 0, .null]))) (sp_W mm) qv x y (sp_tx x n) (sp_ty y n) ((k_up_o (by simp)).trans ((k_up_o (by simp)).trans ((k_up_o (by simp)).trans k_up_s))) ((k_up_o (by simp)).trans ((k_up_o (by simp)).trans ((k_up_o (by simp)).trans ((k_up_o (by simp)).trans (if_neg (Nat.lt_irrefl _)))))); rw [e1W] at h9; exact h9) ke_X3_init wd_l_X4_89 (by decide) hM hN hK hP hT hS rfl hl.1 rfl (Nat.le_of_ble_eq_true rfl) dX4_addWay_162 (by decide) hnt hlk (fun E hE => False.elim hE) (by decide) (by decide) (fun u1 H locs hu1 hM hN hS _ _ => ?_)
                          clear e1W
                          obtain ⟨qd, rfl⟩ := hu1
                          replace hM : k_H G (k_ad (k_ad (k_ad (k_ad ad 1 (sp_W mm) qw) 4 (sp_K mm) qc) 3 (sp_K mm) qv) 2 (sp_W mm) qd) (k_n6 G ad mm (.inr (4, [.int 0, .int 0, .int 0, .int 0, .int 0, .null, .null, .null])) qc qv qd (nI ki) (nI fi) x y (sp_tx x n) (sp_ty y n)) H := hM
                          replace hN : k_N Z (k_ad (k_ad (k_ad (k_ad ad 1 (sp_W mm) qw) 4 (sp_K mm) qc) 3 (sp_K mm) qv) 2 (sp_W mm) qd) (k_n6 G ad mm (.inr (4, [.int 0, .int 0, .int 0, .int 0, .int 0, .null, .null, .null])) qc qv qd (nI ki) (nI fi) x y (sp_tx x n) (sp_ty y n)) := hN
                          generalize hAD : (k_ad (k_ad (k_ad (k_ad ad 1 (sp_W mm) qw) 4 (sp_K mm) qc) 3 (sp_K mm) qv) 2 (sp_W mm) qd) = AD at hM hN
                          have d1 : ∀ b, AD 1 b = if b = sp_W mm then qw else ad 1 b := fun b => by rw [← hAD]; simp [k_ad]
                          have d2 : ∀ b, AD 2 b = if b = sp_W mm then qd else ad 2 b := fun b => by rw [← hAD]; simp [k_ad]
                          have d3 : ∀ b, AD 3 b = if b = sp_K mm then qv else ad 3 b := fun b => by rw [← hAD]; simp [k_ad]
                          have d4 : ∀ b, AD 4 b = if b = sp_K mm then qc else ad 4 b := fun b => by rw [← hAD]; simp [k_ad]
                          have d0 : ∀ b, AD 0 b = ad 0 b := fun b => by rw [← hAD]; simp [k_ad]
                          have d5 : AD 5 = ad 5 := by funext b; rw [← hAD]; simp [k_ad]
                          have d6 : AD 6 = ad 6 := by funext b; rw [← hAD]; simp [k_ad]
                          have d1W : AD 1 (sp_W mm) = qw := by rw [d1, if_pos rfl]
                          have d1j : ∀ j, j < sp_W mm → AD 1 j = ad 1 j := fun j hj => by rw [d1, if_neg (by omega)]
                          refine kx_iV (C := RJx4a65c) (pX1 := fun _ => False) (fr := 6) (lo := 134) (mc1 := 1) (ms1 := 49) (b := ad 0 1) (As := [.ref qw]) (rest := []) hF (by have h9 := m_list_add l hflag G Z AD (k_n6 G ad mm (.inr (4, [.int 0, .int 0, .int 0, .int 0, .int 0, .null, .null, .null])) qc qv qd (nI ki) (nI fi) x y (sp_tx x n) (sp_ty y n)) (mm 1 0) (sp_W mm) _ (n6_li hI (d0 6)) (n6_row d1j) n6_free (by omega) n6_el k_up_s; rw [d0 1, d1W] at h9; exact h9) ke_Jx4a65c_add_9ea2d wd_l_X4_92 (by decide) hM hN hK hP hT hS (by have h9 := hM 0 1 _ (n6_li (AD := AD) hI (d0 6)); rw [d0 1] at h9; exact g_recv hK h9 rfl) rfl hl.1 rfl (Nat.le_of_ble_eq_true rfl) dX4_addWay_165 (by decide) hnt hlk (fun E hE => False.elim hE) (by decide) (by decide) (fun r1 u1 H locs hr1 hM hN hS _ _ => ?_)
                          obtain ⟨qr, rfl, rfl⟩ := hr1
                          replace hM : k_H G (k_ad AD 0 6 qr) (k_up (k_up (k_n6 G ad mm (.inr (4, [.int 0, .int 0, .int 0, .int 0, .int 0, .null, .null, .null])) qc qv qd (nI ki) (nI fi) x y (sp_tx x n) (sp_ty y n)) 0 6 (k_row G AD (k_cp (sp_W mm + 1)) (sp_W mm + 1))) 0 1 (.inr (0, [.int (mm 1 0 + 1), .ref qr, .int (nI (sp_W mm + 1))]))) H := hM
                          replace hN : k_N Z (k_ad AD 0 6 qr) (k_up (k_up (k_n6 G ad mm (.inr (4, [.int 0, .int 0, .int 0, .int 0, .int 0, .null, .null, .null])) qc qv qd (nI ki) (nI fi) x y (sp_tx x n) (sp_ty y n)) 0 6 (k_row G AD (k_cp (sp_W mm + 1)) (sp_W mm + 1))) 0 1 (.inr (0, [.int (mm 1 0 + 1), .ref qr, .int (nI (sp_W mm + 1))]))) := hN
                          have eR : k_row G AD (k_cp (sp_W mm + 1)) (sp_W mm + 1) = k_row G (k_ad AD 0 6 qr) (k_cp (sp_W mm + 1)) (sp_W mm + 1) := by unfold k_row k_rw; congr 6
                          rw [eR, kadd (AD := (k_ad AD 0 6 qr)) (qw := qw) (e := fi + 1) hI (by omega) hK1 (by omega) (by omega) (nI_pred fi).symm (fun b => by rw [k_ad_o (by simp)]; exact d1 b) (fun b => by rw [k_ad_o (by simp)]; exact d2 b) (fun b => by rw [k_ad_o (by simp)]; exact d3 b) (fun b => by rw [k_ad_o (by simp)]; exact d4 b) k_ad_s (fun b hb => by rw [k_ad_o (fun z => hb z.2)]; exact d0 b) (by funext b; rw [k_ad_o (by simp), d5]) (by funext b; rw [k_ad_o (by simp), d6])] at hM hN
                          have f00 : (k_ad AD 0 6 qr) 0 0 = ad 0 0 := (k_ad_o (by simp)).trans (d0 0)
                          have f01 : (k_ad AD 0 6 qr) 0 1 = ad 0 1 := (k_ad_o (by simp)).trans (d0 1)
                          clear eR hAD
                          refine lv_pop hx hb dX4_addWay_168 rfl ?_
                          refine lv_aload_n hx hb dX4_addWay_169 rfl (lv_at hl 3 rfl) ?_
                          rw [← f00]
                          refine g_get (C := RX4) (T := TX4) (N := 6) (v := .ref ((k_ad AD 0 6 qr) 0 1)) hF hK (hM 0 0 _ rfl) rfl inlX4 0 (by decide) rfl wd_f_X4_10 rfl dX4_addWay_170 ?_
                          refine kr_V (fr := 0) (lo := 0) (As := []) (rest := []) hF (m_Jx4a65c_size_8abf5 l G Z (k_ad AD 0 6 qr) (sp_add0 mm (nI fi) x y (sp_tx x n) (sp_ty y n) (nI ki))) ke_Jx4a65c_size_8abf5 wd_l_X4_65 (by decide) hM hK hP hT hS (g_recv hK (hM 0 1 _ rfl) rfl) rfl hl.1 rfl (Nat.le_of_ble_eq_true rfl) dX4_addWay_173 (by decide) (fun r2 hr2 => ?_)
                          refine lv_iconst (v := 1) hx hb dX4_addWay_176 (by decide) ?_
                          refine lv_isub hx hb dX4_addWay_177 ?_
                          refine bo_to (v := (mm 1 0)) (by rw [hr2, show (sp_add0 mm (nI fi) x y (sp_tx x n) (sp_ty y n) (nI ki)) 1 0 = mm 1 0 + 1 from up2_s, Int32.add_sub_cancel]) ?_
                          exact kx_iret hx hb hr hlk hM hN hK hS (by decide) (by decide) (k_po.of2 (m2 := sp_add0 (up2 mm 19 0 0) (nI fi) x y (sp_tx x n) (sp_ty y n) (nI ki)) (by rw [sp_add, if_pos cM, if_pos (And.intro hL9 c8), if_neg hNW]) (by rw [add_19, up2_s]) (by rw [add_19, kc_19]) (ha := f00)) dX4_addWay_178
                        · skip
                          exact absurd c10 (nfull hI hK1)
                    · skip
                      exact kx_thr (text := "length or kind is out of range") hF hflag hP hT k_E_IAE wd_k_X4_58 (by decide) hM hN hK hS hl.1 dX4_addWay_93 dX4_addWay_96 dX4_addWay_97 dX4_addWay_99 dX4_addWay_102 hnt (by decide) (Nat.le_of_ble_eq_true rfl) (by decide) (by decide) hlk (by decide) (by decide) (⟨2, by decide, by rw [sp_add, if_pos cM, if_neg (fun q => c8 q.2)], rfl⟩)
                · skip
                  exact absurd (Int32.not_lt.mp hn1) c6
    · skip
      have hx1 : sp_tx x n = x := if_neg hp
      have hn1 : n < 0 := neg_of hL9.1 hp
      have hy1 : sp_ty y n = y - n := if_pos hn1
      refine lv_iload hx hb dX4_addWay_9 (lv_at hl 4 rfl) ?_
      refine lv_if_eq (tgt := 30) hx hb dX4_addWay_11 (by decide) (fun c1 => ?_) (fun c1 => ?_)
      · skip
        exact absurd c1 hL9.1
      · skip
        refine lv_iload hx hb dX4_addWay_14 (lv_at hl 4 rfl) ?_
        refine lv_bipush (v := (-16)) hx hb dX4_addWay_16 (by decide) ?_
        refine lv_bipush (v := 16) hx hb dX4_addWay_18 (by decide) ?_
        refine rc_S (fr := 0) (lo := 0) (As := [.int n, .int (-16), .int 16]) (rest := []) hF (m_X4_isIn l n (-16) 16) ke_X4_isIn wd_l_X4_50 (by decide) bl_true (fun _ _ _ => trivial) rfl hl.1 rfl (Nat.le_of_ble_eq_true rfl) dX4_addWay_20 (by decide) (fun r8 hr8 => ?_)
        refine bo_eq (tgt := 30) hr8 hx hb dX4_addWay_23 (by decide) (fun c2 => ?_) (fun c2 => ?_)
        · skip
          exact absurd hL9.2 c2
        · skip
          refine lv_iconst (v := 1) hx hb dX4_addWay_26 (by decide) ?_
          refine lv_goto (tgt := 31) hx hb dX4_addWay_27 (by decide) ?_
          refine lv_istore (lv' := [(6, .int 1), (0, .ref (ad 0 0)), (1, .int (nI fi)), (2, .int x), (3, .int y), (4, .int n), (5, .int k)]) hx hb dX4_addWay_31 hl (by decide) rfl (fun ls hl => ?_)
          refine lv_iload hx hb dX4_addWay_33 (lv_at hl 0 rfl) ?_
          refine lv_if_eq (tgt := 50) hx hb dX4_addWay_35 (by decide) (fun c3 => ?_) (fun c3 => ?_)
          · skip
            exact absurd c3 (by decide)
          · skip
            refine lv_iload hx hb dX4_addWay_38 (lv_at hl 5 rfl) ?_
            refine lv_if_le (tgt := 50) hx hb dX4_addWay_40 (by decide) (fun c4 => ?_) (fun c4 => ?_)
            · skip
              refine lv_iload_n hx hb dX4_addWay_50 rfl (lv_at hl 3 rfl) ?_
              refine bo_to (v := (sp_tx x n)) (hx1.symm) ?_
              refine lv_istore (lv' := [(7, .int (sp_tx x n)), (6, .int 1), (0, .ref (ad 0 0)), (1, .int (nI fi)), (2, .int x), (3, .int y), (4, .int n), (5, .int k)]) hx hb dX4_addWay_51 hl (by decide) rfl (fun ls hl => ?_)
              refine lv_iload hx hb dX4_addWay_53 (lv_at hl 1 rfl) ?_
              refine lv_if_eq (tgt := 70) hx hb dX4_addWay_55 (by decide) (fun c5 => ?_) (fun c5 => ?_)
              · skip
                exact absurd c5 (by decide)
              · skip
                refine lv_iload hx hb dX4_addWay_58 (lv_at hl 6 rfl) ?_
                refine lv_if_ge (tgt := 70) hx hb dX4_addWay_60 (by decide) (fun c6 => ?_) (fun c6 => ?_)
                · skip
                  exact absurd c6 (Int32.not_le.mpr hn1)
                · skip
                  refine lv_iload_n hx hb dX4_addWay_63 rfl (lv_at hl 5 rfl) ?_
                  refine lv_iload hx hb dX4_addWay_64 (lv_at hl 6 rfl) ?_
                  refine lv_isub hx hb dX4_addWay_66 ?_
                  refine bo_to (v := (sp_ty y n)) (hy1.symm) ?_
                  refine lv_goto (tgt := 71) hx hb dX4_addWay_67 (by decide) ?_
                  refine lv_istore (lv' := [(8, .int (sp_ty y n)), (7, .int (sp_tx x n)), (6, .int 1), (0, .ref (ad 0 0)), (1, .int (nI fi)), (2, .int x), (3, .int y), (4, .int n), (5, .int k)]) hx hb dX4_addWay_71 hl (by decide) rfl (fun ls hl => ?_)
                  refine lv_iload hx hb dX4_addWay_73 (lv_at hl 1 rfl) ?_
                  refine lv_iload hx hb dX4_addWay_75 (lv_at hl 0 rfl) ?_
                  refine kx_vS (fr := 6) (lo := 90) (mc1 := 1) (ms1 := 6) (As := [.int (sp_tx x n), .int (sp_ty y n)]) (rest := []) hF (m_X4_requireCrossing l hflag G Z ad (k_C G ad mm) (sp_tx x n) (sp_ty y n)) ke_X4_requireCrossing wd_l_X4_46 (by decide) hM hN hK hP hT hS rfl hl.1 rfl (Nat.le_of_ble_eq_true rfl) dX4_addWay_77 (by decide) hnt hlk (fun E hE => ⟨⟨1, by decide, by rw [sp_add, if_neg (fun q => hE.2 (q.2.2 hL9))], hE.1⟩, rfl, rfl⟩) (by decide) (by decide) (fun ur9 H locs hr9 hM hN hS _ _ => ?_)
                  obtain ⟨cT, rfl⟩ := hr9
                  replace hM : k_H G ad (k_C G ad mm) H := hM
                  replace hN : k_N Z ad (k_C G ad mm) := hN
                  have cM : sp_may (nI fi) x y n := ⟨cE, cC, fun q => cT⟩
                  refine lv_iload hx hb dX4_addWay_80 (lv_at hl 2 rfl) ?_
                  refine lv_if_eq (tgt := 93) hx hb dX4_addWay_82 (by decide) (fun c7 => ?_) (fun c7 => ?_)
                  · skip
                    exact absurd c7 (by decide)
                  · skip
                    refine lv_iload hx hb dX4_addWay_85 (lv_at hl 8 rfl) ?_
                    refine rc_S (fr := 1) (lo := 22) (As := [.int k]) (rest := []) hF (m_X4_isKind l k) ke_X4_isKind wd_l_X4_54 (by decide) bl_true (fun _ _ _ => trivial) rfl hl.1 rfl (Nat.le_of_ble_eq_true rfl) dX4_addWay_87 (by decide) (fun r10 hr10 => ?_)
                    refine bo_ne (tgt := 103) hr10 hx hb dX4_addWay_90 (by decide) (fun c8 => ?_) (fun c8 => ?_)
                    · skip
                      obtain ⟨ki, hki0, hke⟩ := nt_le (n := 3) (by decide) c8
                      subst hke
                      refine lv_aload_n hx hb dX4_addWay_103 rfl (lv_at hl 3 rfl) ?_
                      refine g_get (C := RX4) (T := TX4) (N := 6) (v := .ref (ad 0 1)) hF hK (hM 0 0 _ rfl) rfl inlX4 0 (by decide) rfl wd_f_X4_10 rfl dX4_addWay_104 ?_
                      refine kr_V (fr := 0) (lo := 0) (As := []) (rest := []) hF (m_Jx4a65c_size_8abf5 l G Z ad mm) ke_Jx4a65c_size_8abf5 wd_l_X4_65 (by decide) hM hK hP hT hS (g_recv hK (hM 0 1 _ rfl) rfl) rfl hl.1 rfl (Nat.le_of_ble_eq_true rfl) dX4_addWay_107 (by decide) (fun r11 hr11 => ?_)
                      replace hr11 : r11 = mm 1 0 := hr11
                      subst hr11
                      refine lv_bipush (v := 40) hx hb dX4_addWay_110 (by decide) ?_
                      refine lv_icmp_ge (tgt := 122) hx hb dX4_addWay_112 (by decide) (fun c9 => ?_) (fun c9 => ?_)
                      · skip
                        exact kx_thr (text := "there is no room for a way") hF hflag hP hT k_E_ISE wd_k_X4_73 (by decide) hM hN hK hS hl.1 dX4_addWay_122 dX4_addWay_125 dX4_addWay_126 dX4_addWay_128 dX4_addWay_131 hnt (by decide) (Nat.le_of_ble_eq_true rfl) (by decide) (by decide) hlk (by decide) (by decide) (⟨3, by decide, by rw [sp_add, if_pos cM, if_pos (And.intro hL9 c8), if_pos (addW2 hI c9)], rfl⟩)
                      · skip
                        obtain ⟨hW40, hNW⟩ := addW hI c9
                        refine lv_aload_n hx hb dX4_addWay_115 rfl (lv_at hl 3 rfl) ?_
                        refine kr_V (fr := 0) (lo := 0) (As := []) (rest := []) hF (m_X4_isFull l G Z ad mm) ke_X4_isFull wd_l_X4_69 (by decide) hM hK hP hT hS (g_recv hK (hM 0 0 _ rfl) rfl) rfl hl.1 rfl (Nat.le_of_ble_eq_true rfl) dX4_addWay_116 (by decide) (fun r12 hr12 => ?_)
                        refine bo_eq (tgt := 132) hr12 hx hb dX4_addWay_119 (by decide) (fun c10 => ?_) (fun c10 => ?_)
                        · skip
                          refine lv_aload_n hx hb dX4_addWay_132 rfl (lv_at hl 3 rfl) ?_
                          refine g_get (C := RX4) (T := TX4) (N := 6) (v := .ref (ad 0 1)) hF hK (hM 0 0 _ rfl) rfl inlX4 0 (by decide) rfl wd_f_X4_10 rfl dX4_addWay_133 ?_
                          refine k_new hF hK hM hN hS hT.2.2.2.2 1 (sp_W mm) (if_neg (Nat.lt_irrefl _)) (ci := 4) (fs := [.int 0, .int 0, .int 0, .int 0, .int 0, .null, .null, .null]) rfl inlX3 tyX3 tyX3_ok wd_k_X4_78_b wd_a_X3 wd_n_X3 (by decide) (by decide) (by decide) dX4_addWay_136 (fun qw H hM hN hS => ?_)
                          replace hM : k_H G (k_ad ad 1 (sp_W mm) qw) (k_up (k_C G ad mm) 1 (sp_W mm) (.inr (4, [.int 0, .int 0, .int 0, .int 0, .int 0, .null, .null, .null]))) H := hM
                          replace hN : k_N Z (k_ad ad 1 (sp_W mm) qw) (k_up (k_C G ad mm) 1 (sp_W mm) (.inr (4, [.int 0, .int 0, .int 0, .int 0, .int 0, .null, .null, .null]))) := hN
                          refine lv_dup hx hb dX4_addWay_139 rfl ?_
                          refine lv_iload_n hx hb dX4_addWay_140 rfl (lv_at hl 5 rfl) ?_
                          refine lv_iload_n hx hb dX4_addWay_141 rfl (lv_at hl 6 rfl) ?_
                          refine lv_iload hx hb dX4_addWay_142 (lv_at hl 1 rfl) ?_
                          refine lv_iload hx hb dX4_addWay_144 (lv_at hl 0 rfl) ?_
                          refine lv_aload_n hx hb dX4_addWay_146 rfl (lv_at hl 3 rfl) ?_
                          refine k_new hF hK hM hN hS hT.2.2.2.2 4 (sp_K mm) ((k_up_o (by simp)).trans (if_neg (Nat.lt_irrefl _))) (ci := 1) (fs := [.int 0, .int 0, .int 0]) rfl inlX0 tyX0 tyX0_ok wd_k_X4_80 wd_a_X0 wd_n_X0 (by decide) (by decide) (by decide) dX4_addWay_147 (fun qc H hM hN hS => ?_)
                          replace hM : k_H G (k_ad (k_ad ad 1 (sp_W mm) qw) 4 (sp_K mm) qc) (k_up (k_up (k_C G ad mm) 1 (sp_W mm) (.inr (4, [.int 0, .int 0, .int 0, .int 0, .int 0, .null, .null, .null]))) 4 (sp_K mm) (.inr (1, [.int 0, .int 0, .int 0]))) H := hM
                          replace hN : k_N Z (k_ad (k_ad ad 1 (sp_W mm) qw) 4 (sp_K mm) qc) (k_up (k_up (k_C G ad mm) 1 (sp_W mm) (.inr (4, [.int 0, .int 0, .int 0, .int 0, .int 0, .null, .null, .null]))) 4 (sp_K mm) (.inr (1, [.int 0, .int 0, .int 0]))) := hN
                          refine lv_dup hx hb dX4_addWay_150 rfl ?_
                          refine lv_iload hx hb dX4_addWay_151 (lv_at hl 8 rfl) ?_
                          refine lv_iconst (v := 0) hx hb dX4_addWay_153 (by decide) ?_
                          refine lv_iload_n hx hb dX4_addWay_154 rfl (lv_at hl 4 rfl) ?_
                          refine kx_vI9 (pX1 := fun _ => False) (post := fun u => u = ((k_ad (k_ad ad 1 (sp_W mm) qw) 4 (sp_K mm) qc), k_up (k_up (k_up (k_C G ad mm) 1 (sp_W mm) (.inr (4, [.int 0, .int 0, .int 0, .int 0, .int 0, .null, .null, .null]))) 4 (sp_K mm) (.inr (1, [.int 0, .int 0, .int 0]))) 4 (sp_K mm) (.inr (1, [.int (nI ki), .int 0, .int (nI fi)])))) (fr := 1) (lo := 24) (mc1 := 0) (ms1 := 0) (b := qc) (As := [.int (nI ki), .int 0, .int (nI fi)]) (rest := [.ref qc, .ref (ad 0 0), .int (sp_ty y n), .int (sp_tx x n), .int y, .int x, .ref qw, .ref qw, .ref (ad 0 1)]) hF (by have h9 := m_X0_init l hflag G Z (k_ad (k_ad ad 1 (sp_W mm) qw) 4 (sp_K mm) qc) (k_up (k_up (k_C G ad mm) 1 (sp_W mm) (.inr (4, [.int 0, .int 0, .int 0, .int 0, .int 0, .null, .null, .null]))) 4 (sp_K mm) (.inr (1, [.int 0, .int 0, .int 0]))) 4 (sp_K mm) (nI ki) 0 (nI fi) k_up_s; rw [k_ad_s] at h9; exact h9) ke_X0_init wd_l_X4_82 (by decide) hM hN hK hP hT hS rfl hl.1 rfl (Nat.le_of_ble_eq_true rfl) dX4_addWay_155 (by decide) hnt hlk (fun E hE => False.elim hE) (by decide) (by decide) (fun u1 H locs hu1 hM hN hS _ _ => ?_)
                          subst hu1
                          replace hM : k_H G (k_ad (k_ad ad 1 (sp_W mm) qw) 4 (sp_K mm) qc) (k_up (k_up (k_up (k_C G ad mm) 1 (sp_W mm) (.inr (4, [.int 0, .int 0, .int 0, .int 0, .int 0, .null, .null, .null]))) 4 (sp_K mm) (.inr (1, [.int 0, .int 0, .int 0]))) 4 (sp_K mm) (.inr (1, [.int (nI ki), .int 0, .int (nI fi)]))) H := hM
                          replace hN : k_N Z (k_ad (k_ad ad 1 (sp_W mm) qw) 4 (sp_K mm) qc) (k_up (k_up (k_up (k_C G ad mm) 1 (sp_W mm) (.inr (4, [.int 0, .int 0, .int 0, .int 0, .int 0, .null, .null, .null]))) 4 (sp_K mm) (.inr (1, [.int 0, .int 0, .int 0]))) 4 (sp_K mm) (.inr (1, [.int (nI ki), .int 0, .int (nI fi)]))) := hN
                          rw [k_up_t] at hM hN
                          refine lv_null hx hb dX4_addWay_158 ?_
                          have e00 : (k_ad (k_ad ad 1 (sp_W mm) qw) 4 (sp_K mm) qc) 0 0 = ad 0 0 := (k_ad_o (by simp)).trans (k_ad_o (by simp))
                          refine kx_qV (C := RX4) (pX1 := fun _ => False) (fr := 2) (lo := 47) (mc1 := 1) (ms1 := 4) (b := ad 0 0) (As := [.ref qc, .null]) (rest := [.int (sp_ty y n), .int (sp_tx x n), .int y, .int x, .ref qw, .ref qw, .ref (ad 0 1)]) hF (by have h9 := m_X4_newVersion0 l hflag G Z (k_ad (k_ad ad 1 (sp_W mm) qw) 4 (sp_K mm) qc) (k_up (k_up (k_C G ad mm) 1 (sp_W mm) (.inr (4, [.int 0, .int 0, .int 0, .int 0, .int 0, .null, .null, .null]))) 4 (sp_K mm) (.inr (1, [.int (nI ki), .int 0, .int (nI fi)]))) (sp_K mm) qc (.ref (ad 0 1)) (.ref (ad 0 2)) (.ref (ad 0 3)) (.ref (ad 0 4)) (.ref (ad 0 5)) (mm 10 0) ((k_up_o (by simp)).trans ((k_up_o (by simp)).trans rfl)) ((k_up_o (by simp)).trans ((k_up_o (by simp)).trans (if_neg (Nat.lt_irrefl _)))); rw [e00] at h9; exact h9) ke_X4_newVersion wd_l_X4_85 (by decide) hM hN hK hP hT hS (by have h9 := hM 0 0 _ ((k_up_o (by simp)).trans ((k_up_o (by simp)).trans rfl)); rw [e00] at h9; exact g_recv hK h9 rfl) rfl hl.1 rfl (Nat.le_of_ble_eq_true rfl) dX4_addWay_159 (by decide) hnt hlk (fun E hE => False.elim hE) (by decide) (by decide) (fun r1 u1 H locs hr1 hM hN hS _ _ => ?_)
                          clear e00
                          obtain ⟨qv, rfl, rfl⟩ := hr1
                          replace hM : k_H G (k_ad (k_ad (k_ad ad 1 (sp_W mm) qw) 4 (sp_K mm) qc) 3 (sp_K mm) qv) (k_up (k_up (k_up (k_up (k_C G ad mm) 1 (sp_W mm) (.inr (4, [.int 0, .int 0, .int 0, .int 0, .int 0, .null, .null, .null]))) 4 (sp_K mm) (.inr (1, [.int (nI ki), .int 0, .int (nI fi)]))) 0 0 (.inr (5, [.ref (ad 0 1), .ref (ad 0 2), .ref (ad 0 3), .ref (ad 0 4), .ref (ad 0 5), .int (mm 10 0 + 1)]))) 3 (sp_K mm) (.inr (3, [.ref qc, .int (mm 10 0 + 1), .int 0, .null]))) H := hM
                          replace hN : k_N Z (k_ad (k_ad (k_ad ad 1 (sp_W mm) qw) 4 (sp_K mm) qc) 3 (sp_K mm) qv) (k_up (k_up (k_up (k_up (k_C G ad mm) 1 (sp_W mm) (.inr (4, [.int 0, .int 0, .int 0, .int 0, .int 0, .null, .null, .null]))) 4 (sp_K mm) (.inr (1, [.int (nI ki), .int 0, .int (nI fi)]))) 0 0 (.inr (5, [.ref (ad 0 1), .ref (ad 0 2), .ref (ad 0 3), .ref (ad 0 4), .ref (ad 0 5), .int (mm 10 0 + 1)]))) 3 (sp_K mm) (.inr (3, [.ref qc, .int (mm 10 0 + 1), .int 0, .null]))) := hN
                          refine bo_toV (v := .ref qv) rfl ?_
                          have e1W : (k_ad (k_ad (k_ad ad 1 (sp_W mm) qw) 4 (sp_K mm) qc) 3 (sp_K mm) qv) 1 (sp_W mm) = qw := (k_ad_o (by simp)).trans ((k_ad_o (by simp)).trans k_ad_s)
                          refine kx_vI (pX1 := fun _ => False) (post := fun u => ∃ qd, u = (k_ad (k_ad (k_ad (k_ad ad 1 (sp_W mm) qw) 4 (sp_K mm) qc) 3 (sp_K mm) qv) 2 (sp_W mm) qd, (k_n6 G ad mm (.inr (4, [.int 0, .int 0, .int 0, .int 0, .int 0, .null, .null, .null])) qc qv qd (nI ki) (nI fi) x y (sp_tx x n) (sp_ty y n)))) (fr := 1) (lo := 24) (mc1 := 1) (ms1 := 9) (b := qw) (As := [.int x, .int y, .int (sp_tx x n), .int (sp_ty y n), .ref qv]) (rest := [.ref qw, .ref (ad 0 1)]) hF (by have h9 := m_X3_init l hflag G Z (k_ad (k_ad (k_ad ad 1 (sp_W mm) qw) 4 (sp_K mm) qc) 3 (sp_K mm) qv) (k_up (k_up (k_up (k_up (k_C G ad mm) 1 (sp_W mm) (.inr (4, [.int 0, .int 0, .int 0, .int 0, .int 0, .null, .null, .null]))) 4 (sp_K mm) (.inr (1, [.int (nI ki), .int 0, .int (nI fi)]))) 0 0 (.inr (5, [.ref (ad 0 1), .ref (ad 0 2), .ref (ad 0 3), .ref (ad 0 4), .ref (ad 0 5), .int (mm 10 0 + 1)]))) 3 (sp_K mm) (.inr (3, [.ref qc, .int (mm 10 0 + 1), .int 0, .null]))) (sp_W mm) qv x y (sp_tx x n) (sp_ty y n) ((k_up_o (by simp)).trans ((k_up_o (by simp)).trans ((k_up_o (by simp)).trans k_up_s))) ((k_up_o (by simp)).trans ((k_up_o (by simp)).trans ((k_up_o (by simp)).trans ((k_up_o (by simp)).trans (if_neg (Nat.lt_irrefl _)))))); rw [e1W] at h9; exact h9) ke_X3_init wd_l_X4_89 (by decide) hM hN hK hP hT hS rfl hl.1 rfl (Nat.le_of_ble_eq_true rfl) dX4_addWay_162 (by decide) hnt hlk (fun E hE => False.elim hE) (by decide) (by decide) (fun u1 H locs hu1 hM hN hS _ _ => ?_)
                          clear e1W
                          obtain ⟨qd, rfl⟩ := hu1
                          replace hM : k_H G (k_ad (k_ad (k_ad (k_ad ad 1 (sp_W mm) qw) 4 (sp_K mm) qc) 3 (sp_K mm) qv) 2 (sp_W mm) qd) (k_n6 G ad mm (.inr (4, [.int 0, .int 0, .int 0, .int 0, .int 0, .null, .null, .null])) qc qv qd (nI ki) (nI fi) x y (sp_tx x n) (sp_ty y n)) H := hM
                          replace hN : k_N Z (k_ad (k_ad (k_ad (k_ad ad 1 (sp_W mm) qw) 4 (sp_K mm) qc) 3 (sp_K mm) qv) 2 (sp_W mm) qd) (k_n6 G ad mm (.inr (4, [.int 0, .int 0, .int 0, .int 0, .int 0, .null, .null, .null])) qc qv qd (nI ki) (nI fi) x y (sp_tx x n) (sp_ty y n)) := hN
                          generalize hAD : (k_ad (k_ad (k_ad (k_ad ad 1 (sp_W mm) qw) 4 (sp_K mm) qc) 3 (sp_K mm) qv) 2 (sp_W mm) qd) = AD at hM hN
                          have d1 : ∀ b, AD 1 b = if b = sp_W mm then qw else ad 1 b := fun b => by rw [← hAD]; simp [k_ad]
                          have d2 : ∀ b, AD 2 b = if b = sp_W mm then qd else ad 2 b := fun b => by rw [← hAD]; simp [k_ad]
                          have d3 : ∀ b, AD 3 b = if b = sp_K mm then qv else ad 3 b := fun b => by rw [← hAD]; simp [k_ad]
                          have d4 : ∀ b, AD 4 b = if b = sp_K mm then qc else ad 4 b := fun b => by rw [← hAD]; simp [k_ad]
                          have d0 : ∀ b, AD 0 b = ad 0 b := fun b => by rw [← hAD]; simp [k_ad]
                          have d5 : AD 5 = ad 5 := by funext b; rw [← hAD]; simp [k_ad]
                          have d6 : AD 6 = ad 6 := by funext b; rw [← hAD]; simp [k_ad]
                          have d1W : AD 1 (sp_W mm) = qw := by rw [d1, if_pos rfl]
                          have d1j : ∀ j, j < sp_W mm → AD 1 j = ad 1 j := fun j hj => by rw [d1, if_neg (by omega)]
                          refine kx_iV (C := RJx4a65c) (pX1 := fun _ => False) (fr := 6) (lo := 134) (mc1 := 1) (ms1 := 49) (b := ad 0 1) (As := [.ref qw]) (rest := []) hF (by have h9 := m_list_add l hflag G Z AD (k_n6 G ad mm (.inr (4, [.int 0, .int 0, .int 0, .int 0, .int 0, .null, .null, .null])) qc qv qd (nI ki) (nI fi) x y (sp_tx x n) (sp_ty y n)) (mm 1 0) (sp_W mm) _ (n6_li hI (d0 6)) (n6_row d1j) n6_free (by omega) n6_el k_up_s; rw [d0 1, d1W] at h9; exact h9) ke_Jx4a65c_add_9ea2d wd_l_X4_92 (by decide) hM hN hK hP hT hS (by have h9 := hM 0 1 _ (n6_li (AD := AD) hI (d0 6)); rw [d0 1] at h9; exact g_recv hK h9 rfl) rfl hl.1 rfl (Nat.le_of_ble_eq_true rfl) dX4_addWay_165 (by decide) hnt hlk (fun E hE => False.elim hE) (by decide) (by decide) (fun r1 u1 H locs hr1 hM hN hS _ _ => ?_)
                          obtain ⟨qr, rfl, rfl⟩ := hr1
                          replace hM : k_H G (k_ad AD 0 6 qr) (k_up (k_up (k_n6 G ad mm (.inr (4, [.int 0, .int 0, .int 0, .int 0, .int 0, .null, .null, .null])) qc qv qd (nI ki) (nI fi) x y (sp_tx x n) (sp_ty y n)) 0 6 (k_row G AD (k_cp (sp_W mm + 1)) (sp_W mm + 1))) 0 1 (.inr (0, [.int (mm 1 0 + 1), .ref qr, .int (nI (sp_W mm + 1))]))) H := hM
                          replace hN : k_N Z (k_ad AD 0 6 qr) (k_up (k_up (k_n6 G ad mm (.inr (4, [.int 0, .int 0, .int 0, .int 0, .int 0, .null, .null, .null])) qc qv qd (nI ki) (nI fi) x y (sp_tx x n) (sp_ty y n)) 0 6 (k_row G AD (k_cp (sp_W mm + 1)) (sp_W mm + 1))) 0 1 (.inr (0, [.int (mm 1 0 + 1), .ref qr, .int (nI (sp_W mm + 1))]))) := hN
                          have eR : k_row G AD (k_cp (sp_W mm + 1)) (sp_W mm + 1) = k_row G (k_ad AD 0 6 qr) (k_cp (sp_W mm + 1)) (sp_W mm + 1) := by unfold k_row k_rw; congr 6
                          rw [eR, kadd (AD := (k_ad AD 0 6 qr)) (qw := qw) (e := fi + 1) hI (by omega) hK1 (by omega) (by omega) (nI_pred fi).symm (fun b => by rw [k_ad_o (by simp)]; exact d1 b) (fun b => by rw [k_ad_o (by simp)]; exact d2 b) (fun b => by rw [k_ad_o (by simp)]; exact d3 b) (fun b => by rw [k_ad_o (by simp)]; exact d4 b) k_ad_s (fun b hb => by rw [k_ad_o (fun z => hb z.2)]; exact d0 b) (by funext b; rw [k_ad_o (by simp), d5]) (by funext b; rw [k_ad_o (by simp), d6])] at hM hN
                          have f00 : (k_ad AD 0 6 qr) 0 0 = ad 0 0 := (k_ad_o (by simp)).trans (d0 0)
                          have f01 : (k_ad AD 0 6 qr) 0 1 = ad 0 1 := (k_ad_o (by simp)).trans (d0 1)
                          clear eR hAD
                          refine lv_pop hx hb dX4_addWay_168 rfl ?_
                          refine lv_aload_n hx hb dX4_addWay_169 rfl (lv_at hl 3 rfl) ?_
                          rw [← f00]
                          refine g_get (C := RX4) (T := TX4) (N := 6) (v := .ref ((k_ad AD 0 6 qr) 0 1)) hF hK (hM 0 0 _ rfl) rfl inlX4 0 (by decide) rfl wd_f_X4_10 rfl dX4_addWay_170 ?_
                          refine kr_V (fr := 0) (lo := 0) (As := []) (rest := []) hF (m_Jx4a65c_size_8abf5 l G Z (k_ad AD 0 6 qr) (sp_add0 mm (nI fi) x y (sp_tx x n) (sp_ty y n) (nI ki))) ke_Jx4a65c_size_8abf5 wd_l_X4_65 (by decide) hM hK hP hT hS (g_recv hK (hM 0 1 _ rfl) rfl) rfl hl.1 rfl (Nat.le_of_ble_eq_true rfl) dX4_addWay_173 (by decide) (fun r2 hr2 => ?_)
                          refine lv_iconst (v := 1) hx hb dX4_addWay_176 (by decide) ?_
                          refine lv_isub hx hb dX4_addWay_177 ?_
                          refine bo_to (v := (mm 1 0)) (by rw [hr2, show (sp_add0 mm (nI fi) x y (sp_tx x n) (sp_ty y n) (nI ki)) 1 0 = mm 1 0 + 1 from up2_s, Int32.add_sub_cancel]) ?_
                          exact kx_iret hx hb hr hlk hM hN hK hS (by decide) (by decide) (k_po.of2 (m2 := sp_add0 (up2 mm 19 0 0) (nI fi) x y (sp_tx x n) (sp_ty y n) (nI ki)) (by rw [sp_add, if_pos cM, if_pos (And.intro hL9 c8), if_neg hNW]) (by rw [add_19, up2_s]) (by rw [add_19, kc_19]) (ha := f00)) dX4_addWay_178
                        · skip
                          exact absurd c10 (nfull hI hK1)
                    · skip
                      exact kx_thr (text := "length or kind is out of range") hF hflag hP hT k_E_IAE wd_k_X4_58 (by decide) hM hN hK hS hl.1 dX4_addWay_93 dX4_addWay_96 dX4_addWay_97 dX4_addWay_99 dX4_addWay_102 hnt (by decide) (Nat.le_of_ble_eq_true rfl) (by decide) (by decide) hlk (by decide) (by decide) (⟨2, by decide, by rw [sp_add, if_pos cM, if_neg (fun q => c8 q.2)], rfl⟩)
            · skip
              exact absurd (Int32.not_lt.mp hp) c4
  · skip
    refine lv_iload hx hb dX4_addWay_9 (lv_at hl 4 rfl) ?_
    refine lv_if_eq (tgt := 30) hx hb dX4_addWay_11 (by decide) (fun c1 => ?_) (fun c1 => ?_)
    · skip
      refine lv_iconst (v := 0) hx hb dX4_addWay_30 (by decide) ?_
      refine lv_istore (lv' := [(6, .int 0), (0, .ref (ad 0 0)), (1, .int (nI fi)), (2, .int x), (3, .int y), (4, .int n), (5, .int k)]) hx hb dX4_addWay_31 hl (by decide) rfl (fun ls hl => ?_)
      refine lv_iload hx hb dX4_addWay_33 (lv_at hl 0 rfl) ?_
      refine lv_if_eq (tgt := 50) hx hb dX4_addWay_35 (by decide) (fun c3 => ?_) (fun c3 => ?_)
      · skip
        refine lv_iload_n hx hb dX4_addWay_50 rfl (lv_at hl 3 rfl) ?_
        refine lv_istore (lv' := [(7, .int x), (6, .int 0), (0, .ref (ad 0 0)), (1, .int (nI fi)), (2, .int x), (3, .int y), (4, .int n), (5, .int k)]) hx hb dX4_addWay_51 hl (by decide) rfl (fun ls hl => ?_)
        refine lv_iload hx hb dX4_addWay_53 (lv_at hl 1 rfl) ?_
        refine lv_if_eq (tgt := 70) hx hb dX4_addWay_55 (by decide) (fun c5 => ?_) (fun c5 => ?_)
        · skip
          refine lv_iload_n hx hb dX4_addWay_70 rfl (lv_at hl 5 rfl) ?_
          refine lv_istore (lv' := [(8, .int y), (7, .int x), (6, .int 0), (0, .ref (ad 0 0)), (1, .int (nI fi)), (2, .int x), (3, .int y), (4, .int n), (5, .int k)]) hx hb dX4_addWay_71 hl (by decide) rfl (fun ls hl => ?_)
          refine lv_iload hx hb dX4_addWay_73 (lv_at hl 1 rfl) ?_
          refine lv_iload hx hb dX4_addWay_75 (lv_at hl 0 rfl) ?_
          refine kx_vS (fr := 6) (lo := 90) (mc1 := 1) (ms1 := 6) (As := [.int x, .int y]) (rest := []) hF (m_X4_requireCrossing l hflag G Z ad (k_C G ad mm) x y) ke_X4_requireCrossing wd_l_X4_46 (by decide) hM hN hK hP hT hS rfl hl.1 rfl (Nat.le_of_ble_eq_true rfl) dX4_addWay_77 (by decide) hnt hlk (fun E hE => absurd cC hE.2) (by decide) (by decide) (fun ur13 H locs hr13 hM hN hS _ _ => ?_)
          obtain ⟨cT, rfl⟩ := hr13
          replace hM : k_H G ad (k_C G ad mm) H := hM
          replace hN : k_N Z ad (k_C G ad mm) := hN
          have cM : sp_may (nI fi) x y n := ⟨cE, cC, fun q => absurd q hL9⟩
          refine lv_iload hx hb dX4_addWay_80 (lv_at hl 2 rfl) ?_
          refine lv_if_eq (tgt := 93) hx hb dX4_addWay_82 (by decide) (fun c7 => ?_) (fun c7 => ?_)
          · skip
            exact kx_thr (text := "length or kind is out of range") hF hflag hP hT k_E_IAE wd_k_X4_58 (by decide) hM hN hK hS hl.1 dX4_addWay_93 dX4_addWay_96 dX4_addWay_97 dX4_addWay_99 dX4_addWay_102 hnt (by decide) (Nat.le_of_ble_eq_true rfl) (by decide) (by decide) hlk (by decide) (by decide) (⟨2, by decide, by rw [sp_add, if_pos cM, if_neg (fun q => hL9 q.1)], rfl⟩)
          · skip
            exact absurd rfl c7
        · skip
          exact absurd rfl c5
      · skip
        exact absurd rfl c3
    · skip
      refine lv_iload hx hb dX4_addWay_14 (lv_at hl 4 rfl) ?_
      refine lv_bipush (v := (-16)) hx hb dX4_addWay_16 (by decide) ?_
      refine lv_bipush (v := 16) hx hb dX4_addWay_18 (by decide) ?_
      refine rc_S (fr := 0) (lo := 0) (As := [.int n, .int (-16), .int 16]) (rest := []) hF (m_X4_isIn l n (-16) 16) ke_X4_isIn wd_l_X4_50 (by decide) bl_true (fun _ _ _ => trivial) rfl hl.1 rfl (Nat.le_of_ble_eq_true rfl) dX4_addWay_20 (by decide) (fun r14 hr14 => ?_)
      refine bo_eq (tgt := 30) hr14 hx hb dX4_addWay_23 (by decide) (fun c2 => ?_) (fun c2 => ?_)
      · skip
        refine lv_iconst (v := 0) hx hb dX4_addWay_30 (by decide) ?_
        refine lv_istore (lv' := [(6, .int 0), (0, .ref (ad 0 0)), (1, .int (nI fi)), (2, .int x), (3, .int y), (4, .int n), (5, .int k)]) hx hb dX4_addWay_31 hl (by decide) rfl (fun ls hl => ?_)
        refine lv_iload hx hb dX4_addWay_33 (lv_at hl 0 rfl) ?_
        refine lv_if_eq (tgt := 50) hx hb dX4_addWay_35 (by decide) (fun c3 => ?_) (fun c3 => ?_)
        · skip
          refine lv_iload_n hx hb dX4_addWay_50 rfl (lv_at hl 3 rfl) ?_
          refine lv_istore (lv' := [(7, .int x), (6, .int 0), (0, .ref (ad 0 0)), (1, .int (nI fi)), (2, .int x), (3, .int y), (4, .int n), (5, .int k)]) hx hb dX4_addWay_51 hl (by decide) rfl (fun ls hl => ?_)
          refine lv_iload hx hb dX4_addWay_53 (lv_at hl 1 rfl) ?_
          refine lv_if_eq (tgt := 70) hx hb dX4_addWay_55 (by decide) (fun c5 => ?_) (fun c5 => ?_)
          · skip
            refine lv_iload_n hx hb dX4_addWay_70 rfl (lv_at hl 5 rfl) ?_
            refine lv_istore (lv' := [(8, .int y), (7, .int x), (6, .int 0), (0, .ref (ad 0 0)), (1, .int (nI fi)), (2, .int x), (3, .int y), (4, .int n), (5, .int k)]) hx hb dX4_addWay_71 hl (by decide) rfl (fun ls hl => ?_)
            refine lv_iload hx hb dX4_addWay_73 (lv_at hl 1 rfl) ?_
            refine lv_iload hx hb dX4_addWay_75 (lv_at hl 0 rfl) ?_
            refine kx_vS (fr := 6) (lo := 90) (mc1 := 1) (ms1 := 6) (As := [.int x, .int y]) (rest := []) hF (m_X4_requireCrossing l hflag G Z ad (k_C G ad mm) x y) ke_X4_requireCrossing wd_l_X4_46 (by decide) hM hN hK hP hT hS rfl hl.1 rfl (Nat.le_of_ble_eq_true rfl) dX4_addWay_77 (by decide) hnt hlk (fun E hE => absurd cC hE.2) (by decide) (by decide) (fun ur15 H locs hr15 hM hN hS _ _ => ?_)
            obtain ⟨cT, rfl⟩ := hr15
            replace hM : k_H G ad (k_C G ad mm) H := hM
            replace hN : k_N Z ad (k_C G ad mm) := hN
            have cM : sp_may (nI fi) x y n := ⟨cE, cC, fun q => absurd q hL9⟩
            refine lv_iload hx hb dX4_addWay_80 (lv_at hl 2 rfl) ?_
            refine lv_if_eq (tgt := 93) hx hb dX4_addWay_82 (by decide) (fun c7 => ?_) (fun c7 => ?_)
            · skip
              exact kx_thr (text := "length or kind is out of range") hF hflag hP hT k_E_IAE wd_k_X4_58 (by decide) hM hN hK hS hl.1 dX4_addWay_93 dX4_addWay_96 dX4_addWay_97 dX4_addWay_99 dX4_addWay_102 hnt (by decide) (Nat.le_of_ble_eq_true rfl) (by decide) (by decide) hlk (by decide) (by decide) (⟨2, by decide, by rw [sp_add, if_pos cM, if_neg (fun q => hL9 q.1)], rfl⟩)
            · skip
              exact absurd rfl c7
          · skip
            exact absurd rfl c5
        · skip
          exact absurd rfl c3
      · skip
        exact absurd (And.intro c1 c2) hL9
