/-! ===== the law of the property: its small helpers ===== -/
section
variable {p : Program} {l : Launch} {e : Env} {R : Room} {s : State} {m : MethodId} {args : Array Value} {below : List Frame} {meth : Method} {c : Code} {H : Heap} {locs : List Loc} {cells slots : Nat} {Q : State → Prop}
variable {cc : ByteArray} {pc nL : Nat} {ls : Array Slot} {rest st0 : List Value} {own : String} {G : k_G} {Z : Nat → Prop} {S S1 : Type} {I : p_Im S} {I1 : p_Im S1} {u : S} {u1 : S1} {em : S1 → S} {xa : Nat} {mc ms : Nat} {XC : String → State → State → Prop}
theorem p_iVk {r0 : Int32} {m0 : q_Mem} {index n fr lo mc1 ms1 maxL : Nat} {y : MethodName} {bytes : ByteArray} {ret : Option FieldType} {As : List Value} {mm : q_Mem} {em : q_Mem → S} (hF : CallFix p m c cc nL s args wsL_law own) (hM : p_Ci l y (Cond.code y bytes maxL ret) fr lo mc1 ms1 G (p_I G xa) mm (.ref xa :: As) (fun v u => v = r0 ∧ u = m0) (fun _ => False)) (hE : p_Em I (p_I G xa) u mm em) (hk : wl_V RX4 y bytes maxL ret n) (hl : Cond.methodLink own index y ∈ wsL_law) (hR : fr + 1 ≤ R.frames ∧ 8 + (maxL + 11) + lo ≤ R.locals)
    (hI : I Z u H) (hX : p_E0 G Z s) (hS : va_S Z s.heap H locs) (hn : As.length = n) (hsz : ls.size = nL) (hst : st0 = As.reverse ++ .ref xa :: rest) (hro : (rest.map fun v => v.category).sum ≤ 8) (hdg : decode cc pc = .ok (.invokevirtual index, 3)) (hf : cells + mc1 ≤ R.cells ∧ slots + ms1 ≤ R.slots)
    (kk : ∀ (H1 : Heap) (locs1 : List Loc), I Z (em m0) H1 → va_S Z s.heap H1 locs1 → W p l e R s m args below meth c H1 locs1 (cells + mc1) (slots + ms1) Q (F0 m (pc + 3) ls (.int r0 :: rest))) : W p l e R s m args below meth c H locs cells slots Q (F0 m pc ls st0) :=
  p_iV hF hM hE hk hl hR hI hX hS hn hsz hst hro hdg hf (fun r v H1 locs1 hq hI1 hS1 => by
    obtain ⟨h1, h2⟩ := hq
    rw [h2] at hI1
    rw [h1]
    exact kk H1 locs1 hI1 hS1)
theorem p_iSk {r0 : Int32} {m0 : S1} {index n fr lo mc1 ms1 maxL : Nat} {y : MethodName} {bytes : ByteArray} {ret : Option FieldType} {As : List Value} (hF : CallFix p m c cc nL s args wsL_law own) (hM : p_Ci l y (Cond.code y bytes maxL ret) fr lo mc1 ms1 G I1 u1 As (fun v u => v = r0 ∧ u = m0) (fun _ => False)) (hE : p_Em I I1 u u1 em) (hk : wl_S y bytes maxL ret n) (hl : Cond.methodLink own index y ∈ wsL_law) (hR : fr + 1 ≤ R.frames ∧ 8 + (maxL + 11) + lo ≤ R.locals)
    (hI : I Z u H) (hX : p_E0 G Z s) (hS : va_S Z s.heap H locs) (hn : As.length = n) (hsz : ls.size = nL) (hst : st0 = As.reverse ++ rest) (hro : (rest.map fun v => v.category).sum ≤ 8) (hdg : decode cc pc = .ok (.invokestatic index, 3)) (hf : cells + mc1 ≤ R.cells ∧ slots + ms1 ≤ R.slots)
    (kk : ∀ (H1 : Heap) (locs1 : List Loc), I Z (em m0) H1 → va_S Z s.heap H1 locs1 → W p l e R s m args below meth c H1 locs1 (cells + mc1) (slots + ms1) Q (F0 m (pc + 3) ls (.int r0 :: rest))) : W p l e R s m args below meth c H locs cells slots Q (F0 m pc ls st0) :=
  p_iS hF hM hE hk hl hR hI hX hS hn hsz hst hro hdg hf (fun r v H1 locs1 hq hI1 hS1 => by
    obtain ⟨h1, h2⟩ := hq
    rw [h2] at hI1
    rw [h1]
    exact kk H1 locs1 hI1 hS1)
theorem p_iSXk {r0 : Int32} {m0 : S1} {index n fr lo mc1 ms1 maxL : Nat} {y : MethodName} {bytes : ByteArray} {hh : List (Nat × Nat × Nat × Nat)} {As : List Value} (hF : CallFix p m c cc nL s args wsL_law own) (hM : p_Ci l y (Cond.codeWith y bytes maxL (some .int) hh) fr lo mc1 ms1 G I1 u1 As (fun v u => v = r0 ∧ u = m0) (fun _ => False)) (hE : p_Em I I1 u u1 em) (hk : wl_SW y bytes maxL hh n) (hl : Cond.methodLink own index y ∈ wsL_law) (hR : fr + 1 ≤ R.frames ∧ 8 + (maxL + 11) + lo ≤ R.locals)
    (hI : I Z u H) (hX : p_E0 G Z s) (hS : va_S Z s.heap H locs) (hn : As.length = n) (hsz : ls.size = nL) (hst : st0 = As.reverse ++ rest) (hro : (rest.map fun v => v.category).sum ≤ 8) (hdg : decode cc pc = .ok (.invokestatic index, 3)) (hf : cells + mc1 ≤ R.cells ∧ slots + ms1 ≤ R.slots)
    (kk : ∀ (H1 : Heap) (locs1 : List Loc), I Z (em m0) H1 → va_S Z s.heap H1 locs1 → W p l e R s m args below meth c H1 locs1 (cells + mc1) (slots + ms1) Q (F0 m (pc + 3) ls (.int r0 :: rest))) : W p l e R s m args below meth c H locs cells slots Q (F0 m pc ls st0) :=
  p_iSX hF hM hE hk hl hR hI hX hS hn hsz hst hro hdg hf (fun r v H1 locs1 hq hI1 hS1 => by
    obtain ⟨h1, h2⟩ := hq
    rw [h2] at hI1
    rw [h1]
    exact kk H1 locs1 hI1 hS1)
theorem p_lSk {r0 : Int64} {m0 : S1} {index n fr lo mc1 ms1 maxL : Nat} {y : MethodName} {bytes : ByteArray} {ret : Option FieldType} {As : List Value} (hF : CallFix p m c cc nL s args wsL_law own) (hM : p_Cl l y (Cond.code y bytes maxL ret) fr lo mc1 ms1 G I1 u1 As (fun v u => v = r0 ∧ u = m0) (fun _ => False)) (hE : p_Em I I1 u u1 em) (hk : wl_S y bytes maxL ret n) (hl : Cond.methodLink own index y ∈ wsL_law) (hR : fr + 1 ≤ R.frames ∧ 8 + (maxL + 11) + lo ≤ R.locals)
    (hI : I Z u H) (hX : p_E0 G Z s) (hS : va_S Z s.heap H locs) (hn : As.length = n) (hsz : ls.size = nL) (hst : st0 = As.reverse ++ rest) (hro : (rest.map fun v => v.category).sum ≤ 8) (hdg : decode cc pc = .ok (.invokestatic index, 3)) (hf : cells + mc1 ≤ R.cells ∧ slots + ms1 ≤ R.slots)
    (kk : ∀ (H1 : Heap) (locs1 : List Loc), I Z (em m0) H1 → va_S Z s.heap H1 locs1 → W p l e R s m args below meth c H1 locs1 (cells + mc1) (slots + ms1) Q (F0 m (pc + 3) ls (.long r0 :: rest))) : W p l e R s m args below meth c H locs cells slots Q (F0 m pc ls st0) :=
  p_lS hF hM hE hk hl hR hI hX hS hn hsz hst hro hdg hf (fun r v H1 locs1 hq hI1 hS1 => by
    obtain ⟨h1, h2⟩ := hq
    rw [h2] at hI1
    rw [h1]
    exact kk H1 locs1 hI1 hS1)
end
theorem dL_both_0 : decode cL_both 0 = .ok (.aload_n 0, 1) := by decide +kernel
theorem dL_both_1 : decode cL_both 1 = .ok (.iload_n 2, 1) := by decide +kernel
theorem dL_both_2 : decode cL_both 2 = .ok (.iload_n 3, 1) := by decide +kernel
theorem dL_both_3 : decode cL_both 3 = .ok (.iload 4, 2) := by decide +kernel
theorem dL_both_5 : decode cL_both 5 = .ok (.iload 5, 2) := by decide +kernel
theorem dL_both_7 : decode cL_both 7 = .ok (.invokestatic 131, 3) := by decide +kernel
theorem dL_both_10 : decode cL_both 10 = .ok (.istore 6, 2) := by decide +kernel
theorem dL_both_12 : decode cL_both 12 = .ok (.iload 6, 2) := by decide +kernel
theorem dL_both_14 : decode cL_both 14 = .ok (.aload_n 1, 1) := by decide +kernel
theorem dL_both_15 : decode cL_both 15 = .ok (.iload_n 2, 1) := by decide +kernel
theorem dL_both_16 : decode cL_both 16 = .ok (.iload_n 3, 1) := by decide +kernel
theorem dL_both_17 : decode cL_both 17 = .ok (.iload 4, 2) := by decide +kernel
theorem dL_both_19 : decode cL_both 19 = .ok (.iload 5, 2) := by decide +kernel
theorem dL_both_21 : decode cL_both 21 = .ok (.invokestatic 131, 3) := by decide +kernel
theorem dL_both_24 : decode cL_both 24 = .ok (.if_icmp .ne 8, 3) := by decide +kernel
theorem dL_both_27 : decode cL_both 27 = .ok (.iload 6, 2) := by decide +kernel
theorem dL_both_29 : decode cL_both 29 = .ok (.goto 5, 3) := by decide +kernel
theorem dL_both_34 : decode cL_both 34 = .ok (.ireturn, 1) := by decide +kernel
theorem dL_by_0 : decode cL_by 0 = .ok (.aload_n 0, 1) := by decide +kernel
theorem dL_by_1 : decode cL_by 1 = .ok (.iload_n 1, 1) := by decide +kernel
theorem dL_by_2 : decode cL_by 2 = .ok (.aload_n 0, 1) := by decide +kernel
theorem dL_by_3 : decode cL_by 3 = .ok (.iload_n 1, 1) := by decide +kernel
theorem dL_by_4 : decode cL_by 4 = .ok (.invokevirtual 49, 3) := by decide +kernel
theorem dL_by_7 : decode cL_by 7 = .ok (.iconst 1, 1) := by decide +kernel
theorem dL_by_8 : decode cL_by 8 = .ok (.isub, 1) := by decide +kernel
theorem dL_by_9 : decode cL_by 9 = .ok (.invokevirtual 52, 3) := by decide +kernel
theorem dL_by_12 : decode cL_by 12 = .ok (.bipush 10, 2) := by decide +kernel
theorem dL_by_14 : decode cL_by 14 = .ok (.irem, 1) := by decide +kernel
theorem dL_by_15 : decode cL_by 15 = .ok (.iconst 1, 1) := by decide +kernel
theorem dL_by_16 : decode cL_by 16 = .ok (.isub, 1) := by decide +kernel
theorem dL_by_17 : decode cL_by 17 = .ok (.ireturn, 1) := by decide +kernel
theorem dL_call_0 : decode cL_call 0 = .ok (.aload_n 0, 1) := by decide +kernel
theorem dL_call_1 : decode cL_call 1 = .ok (.iload_n 1, 1) := by decide +kernel
theorem dL_call_2 : decode cL_call 2 = .ok (.iload_n 2, 1) := by decide +kernel
theorem dL_call_3 : decode cL_call 3 = .ok (.iload_n 3, 1) := by decide +kernel
theorem dL_call_4 : decode cL_call 4 = .ok (.iload 4, 2) := by decide +kernel
theorem dL_call_6 : decode cL_call 6 = .ok (.invokestatic 9, 3) := by decide +kernel
theorem dL_call_9 : decode cL_call 9 = .ok (.ireturn, 1) := by decide +kernel
theorem dL_call_10 : decode cL_call 10 = .ok (.astore 5, 2) := by decide +kernel
theorem dL_call_12 : decode cL_call 12 = .ok (.ldc 17, 2) := by decide +kernel
theorem dL_call_14 : decode cL_call 14 = .ok (.ireturn, 1) := by decide +kernel
theorem dL_call_15 : decode cL_call 15 = .ok (.astore 5, 2) := by decide +kernel
theorem dL_call_17 : decode cL_call 17 = .ok (.ldc 20, 2) := by decide +kernel
theorem dL_call_19 : decode cL_call 19 = .ok (.ireturn, 1) := by decide +kernel
theorem dL_call_20 : decode cL_call 20 = .ok (.astore 5, 2) := by decide +kernel
theorem dL_call_22 : decode cL_call 22 = .ok (.ldc 23, 2) := by decide +kernel
theorem dL_call_24 : decode cL_call 24 = .ok (.ireturn, 1) := by decide +kernel
theorem dL_cell_0 : decode cL_cell 0 = .ok (.iload_n 1, 1) := by decide +kernel
theorem dL_cell_1 : decode cL_cell 1 = .ok (.aload_n 0, 1) := by decide +kernel
theorem dL_cell_2 : decode cL_cell 2 = .ok (.arraylength, 1) := by decide +kernel
theorem dL_cell_3 : decode cL_cell 3 = .ok (.if_icmp .ge 9, 3) := by decide +kernel
theorem dL_cell_6 : decode cL_cell 6 = .ok (.aload_n 0, 1) := by decide +kernel
theorem dL_cell_7 : decode cL_cell 7 = .ok (.iload_n 1, 1) := by decide +kernel
theorem dL_cell_8 : decode cL_cell 8 = .ok (.iaload, 1) := by decide +kernel
theorem dL_cell_9 : decode cL_cell 9 = .ok (.goto 10, 3) := by decide +kernel
theorem dL_cell_12 : decode cL_cell 12 = .ok (.ldc 7, 2) := by decide +kernel
theorem dL_cell_14 : decode cL_cell 14 = .ok (.iload_n 1, 1) := by decide +kernel
theorem dL_cell_15 : decode cL_cell 15 = .ok (.bipush 71, 2) := by decide +kernel
theorem dL_cell_17 : decode cL_cell 17 = .ok (.iadd, 1) := by decide +kernel
theorem dL_cell_18 : decode cL_cell 18 = .ok (.imul, 1) := by decide +kernel
theorem dL_cell_19 : decode cL_cell 19 = .ok (.istore_n 2, 1) := by decide +kernel
theorem dL_cell_20 : decode cL_cell 20 = .ok (.iload_n 2, 1) := by decide +kernel
theorem dL_cell_21 : decode cL_cell 21 = .ok (.iload_n 2, 1) := by decide +kernel
theorem dL_cell_22 : decode cL_cell 22 = .ok (.bipush 16, 2) := by decide +kernel
theorem dL_cell_24 : decode cL_cell 24 = .ok (.iushr, 1) := by decide +kernel
theorem dL_cell_25 : decode cL_cell 25 = .ok (.ixor, 1) := by decide +kernel
theorem dL_cell_26 : decode cL_cell 26 = .ok (.ldc 8, 2) := by decide +kernel
theorem dL_cell_28 : decode cL_cell 28 = .ok (.imul, 1) := by decide +kernel
theorem dL_cell_29 : decode cL_cell 29 = .ok (.sipush 215, 3) := by decide +kernel
theorem dL_cell_32 : decode cL_cell 32 = .ok (.iload_n 1, 1) := by decide +kernel
theorem dL_cell_33 : decode cL_cell 33 = .ok (.imul, 1) := by decide +kernel
theorem dL_cell_34 : decode cL_cell 34 = .ok (.iadd, 1) := by decide +kernel
theorem dL_cell_35 : decode cL_cell 35 = .ok (.ireturn, 1) := by decide +kernel
theorem dL_kind_0 : decode cL_kind 0 = .ok (.aload_n 0, 1) := by decide +kernel
theorem dL_kind_1 : decode cL_kind 1 = .ok (.iload_n 1, 1) := by decide +kernel
theorem dL_kind_2 : decode cL_kind 2 = .ok (.aload_n 0, 1) := by decide +kernel
theorem dL_kind_3 : decode cL_kind 3 = .ok (.iload_n 1, 1) := by decide +kernel
theorem dL_kind_4 : decode cL_kind 4 = .ok (.invokevirtual 49, 3) := by decide +kernel
theorem dL_kind_7 : decode cL_kind 7 = .ok (.iconst 1, 1) := by decide +kernel
theorem dL_kind_8 : decode cL_kind 8 = .ok (.isub, 1) := by decide +kernel
theorem dL_kind_9 : decode cL_kind 9 = .ok (.invokevirtual 52, 3) := by decide +kernel
theorem dL_kind_12 : decode cL_kind 12 = .ok (.bipush 100, 2) := by decide +kernel
theorem dL_kind_14 : decode cL_kind 14 = .ok (.idiv, 1) := by decide +kernel
theorem dL_kind_15 : decode cL_kind 15 = .ok (.ireturn, 1) := by decide +kernel
theorem dL_some_0 : decode cL_some 0 = .ok (.iload_n 0, 1) := by decide +kernel
theorem dL_some_1 : decode cL_some 1 = .ok (.iconst 1, 1) := by decide +kernel
theorem dL_some_2 : decode cL_some 2 = .ok (.iushr, 1) := by decide +kernel
theorem dL_some_3 : decode cL_some 3 = .ok (.iload_n 1, 1) := by decide +kernel
theorem dL_some_4 : decode cL_some 4 = .ok (.irem, 1) := by decide +kernel
theorem dL_some_5 : decode cL_some 5 = .ok (.ireturn, 1) := by decide +kernel
theorem dL_turn_0 : decode cL_turn 0 = .ok (.aload_n 0, 1) := by decide +kernel
theorem dL_turn_1 : decode cL_turn 1 = .ok (.iload_n 1, 1) := by decide +kernel
theorem dL_turn_2 : decode cL_turn 2 = .ok (.aload_n 0, 1) := by decide +kernel
theorem dL_turn_3 : decode cL_turn 3 = .ok (.iload_n 1, 1) := by decide +kernel
theorem dL_turn_4 : decode cL_turn 4 = .ok (.invokevirtual 49, 3) := by decide +kernel
theorem dL_turn_7 : decode cL_turn 7 = .ok (.iconst 1, 1) := by decide +kernel
theorem dL_turn_8 : decode cL_turn 8 = .ok (.isub, 1) := by decide +kernel
theorem dL_turn_9 : decode cL_turn 9 = .ok (.invokevirtual 52, 3) := by decide +kernel
theorem dL_turn_12 : decode cL_turn 12 = .ok (.bipush 10, 2) := by decide +kernel
theorem dL_turn_14 : decode cL_turn 14 = .ok (.idiv, 1) := by decide +kernel
theorem dL_turn_15 : decode cL_turn 15 = .ok (.bipush 10, 2) := by decide +kernel
theorem dL_turn_17 : decode cL_turn 17 = .ok (.irem, 1) := by decide +kernel
theorem dL_turn_18 : decode cL_turn 18 = .ok (.ireturn, 1) := by decide +kernel
theorem pv_versions (l : Launch) (hflag : l.stackTraces = false) (G : k_G) (xa : Nat) (mm : q_Mem) (x : Int32) (hI : Inv mm) {r0 : Int32} {m0 : q_Mem} (h : sp_ofway 7 mm x = (r0, m0)) (h0 : m0 19 0 = 0) : p_Ci l yX4_versions (Cond.code yX4_versions cX4_versions 2 (some .int)) 7 111 1 6 G (p_I G xa) mm (.ref xa :: [.int x]) (fun v u => v = r0 ∧ u = m0) (fun _ => False) := p_val (nm := k_n3) (fun Z ad h => by rw [← h]; exact m_X4_versions l hflag G Z ad mm x hI) h h0
theorem pv_version (l : Launch) (hflag : l.stackTraces = false) (G : k_G) (xa : Nat) (mm : q_Mem) (x y : Int32) (hI : Inv mm) {r0 : Int32} {m0 : q_Mem} (h : sp_ver mm x y = (r0, m0)) (h0 : m0 19 0 = 0) : p_Ci l yX4_version (Cond.code yX4_version cX4_version 3 (some .int)) 7 112 2 12 G (p_I G xa) mm (.ref xa :: [.int x, .int y]) (fun v u => v = r0 ∧ u = m0) (fun _ => False) := p_val (nm := k_n3) (fun Z ad h => by rw [← h]; exact m_X4_version l hflag G Z ad mm x y hI) h h0
theorem pv_stampOf (l : Launch) (hflag : l.stackTraces = false) (G : k_G) (xa : Nat) (mm : q_Mem) (x y : Int32) (hI : Inv mm) {r0 : Int32} {m0 : q_Mem} (h : sp_sta mm x y = (r0, m0)) (h0 : m0 19 0 = 0) : p_Ci l yX4_stampOf (Cond.code yX4_stampOf cX4_stampOf 3 (some .int)) 7 112 2 12 G (p_I G xa) mm (.ref xa :: [.int x, .int y]) (fun v u => v = r0 ∧ u = m0) (fun _ => False) := p_val (nm := k_n3) (fun Z ad h => by rw [← h]; exact m_X4_stampOf l hflag G Z ad mm x y hI) h h0
theorem pv_waiting (l : Launch) (hflag : l.stackTraces = false) (G : k_G) (xa : Nat) (mm : q_Mem) (x : Int32) (hI : Inv mm) {r0 : Int32} {m0 : q_Mem} (h : sp_ofway 9 mm x = (r0, m0)) (h0 : m0 19 0 = 0) : p_Ci l yX4_waiting (Cond.code yX4_waiting cX4_waiting 3 (some .int)) 7 111 1 6 G (p_I G xa) mm (.ref xa :: [.int x]) (fun v u => v = r0 ∧ u = m0) (fun _ => False) := p_val (nm := k_n3) (fun Z ad h => by rw [← h]; exact m_X4_waiting l hflag G Z ad mm x hI) h h0
theorem pv_trust (l : Launch) (hflag : l.stackTraces = false) (G : k_G) (xa : Nat) (mm : q_Mem) (x : Int32)  {r0 : Int32} {m0 : q_Mem} (h : sp_trust mm x = (r0, m0)) (h0 : m0 19 0 = 0) : p_Ci l yX4_trust (Cond.code yX4_trust cX4_trust 2 (some .int)) 7 110 1 6 G (p_I G xa) mm (.ref xa :: [.int x]) (fun v u => v = r0 ∧ u = m0) (fun _ => False) := p_val (nm := k_n3) (fun Z ad h => by rw [← h]; exact m_X4_trust l hflag G Z ad mm x) h h0
theorem pv_sightings (l : Launch) (hflag : l.stackTraces = false) (G : k_G) (xa : Nat) (mm : q_Mem) (x : Int32) (hI : Inv mm) {r0 : Int32} {m0 : q_Mem} (h : sp_sgt mm x = (r0, m0)) (h0 : m0 19 0 = 0) : p_Ci l yX4_sightings (Cond.code yX4_sightings cX4_sightings 2 (some .int)) 7 111 1 6 G (p_I G xa) mm (.ref xa :: [.int x]) (fun v u => v = r0 ∧ u = m0) (fun _ => False) := p_val (nm := k_n3) (fun Z ad h => by rw [← h]; exact m_X4_sightings l hflag G Z ad mm x hI) h h0
theorem pv_dear (l : Launch) (hflag : l.stackTraces = false) (G : k_G) (xa : Nat) (mm : q_Mem) (x : Int32) (hI : Inv mm) {r0 : Int32} {m0 : q_Mem} (h : sp_dear mm x = (r0, m0)) (h0 : m0 19 0 = 0) : p_Ci l yX4_dear (Cond.code yX4_dear cX4_dear 2 (some .int)) 7 111 1 6 G (p_I G xa) mm (.ref xa :: [.int x]) (fun v u => v = r0 ∧ u = m0) (fun _ => False) := p_val (nm := k_n3) (fun Z ad h => by rw [← h]; exact m_X4_dear l hflag G Z ad mm x hI) h h0
theorem pv_carAt (l : Launch) (hflag : l.stackTraces = false) (G : k_G) (xa : Nat) (mm : q_Mem) (x : Int32)  {r0 : Int32} {m0 : q_Mem} (h : sp_cat mm x = (r0, m0)) (h0 : m0 19 0 = 0) : p_Ci l yX4_carAt (Cond.code yX4_carAt cX4_carAt 2 (some .int)) 7 110 1 6 G (p_I G xa) mm (.ref xa :: [.int x]) (fun v u => v = r0 ∧ u = m0) (fun _ => False) := p_val (nm := k_n3) (fun Z ad h => by rw [← h]; exact m_X4_carAt l hflag G Z ad mm x) h h0
theorem pv_target (l : Launch) (hflag : l.stackTraces = false) (G : k_G) (xa : Nat) (mm : q_Mem) (x : Int32) (hI : Inv mm) {r0 : Int32} {m0 : q_Mem} (h : sp_tar mm x = (r0, m0)) (h0 : m0 19 0 = 0) : p_Ci l yX4_target (Cond.code yX4_target cX4_target 2 (some .int)) 7 118 1 6 G (p_I G xa) mm (.ref xa :: [.int x]) (fun v u => v = r0 ∧ u = m0) (fun _ => False) := p_val (nm := k_n3) (fun Z ad h => by rw [← h]; exact m_X4_target l hflag G Z ad mm x hI) h h0
theorem pv_staleTiles (l : Launch) (hflag : l.stackTraces = false) (G : k_G) (xa : Nat) (mm : q_Mem) (x : Int32) (hI : Inv mm) {r0 : Int32} {m0 : q_Mem} (h : sp_stl mm x = (r0, m0)) (h0 : m0 19 0 = 0) : p_Ci l yX4_staleTiles (Cond.code yX4_staleTiles cX4_staleTiles 6 (some .int)) 7 110 1 6 G (p_I G xa) mm (.ref xa :: [.int x]) (fun v u => v = r0 ∧ u = m0) (fun _ => False) := p_val (nm := k_n3) (fun Z ad h => by rw [← h]; exact m_X4_staleTiles l hflag G Z ad mm x hI) h h0
theorem pv_tileStamp (l : Launch) (hflag : l.stackTraces = false) (G : k_G) (xa : Nat) (mm : q_Mem) (z x y : Int32)  {r0 : Int32} {m0 : q_Mem} (h : sp_tst mm z x y = (r0, m0)) (h0 : m0 19 0 = 0) : p_Ci l yX4_tileStamp (Cond.code yX4_tileStamp cX4_tileStamp 5 (some .int)) 8 133 3 18 G (p_I G xa) mm (.ref xa :: [.int z, .int x, .int y]) (fun v u => v = r0 ∧ u = m0) (fun _ => False) := p_val (nm := k_n3) (fun Z ad h => by rw [← h]; exact m_X4_tileStamp l hflag G Z ad mm z x y) h h0
theorem pv_picture (l : Launch) (hflag : l.stackTraces = false) (G : k_G) (xa : Nat) (mm : q_Mem) (z x y : Int32)  {r0 : Int32} {m0 : q_Mem} (h : sp_ptr mm z x y = (r0, m0)) (h0 : m0 19 0 = 0) : p_Ci l yX4_picture (Cond.code yX4_picture cX4_picture 4 (some .int)) 9 157 3 18 G (p_I G xa) mm (.ref xa :: [.int z, .int x, .int y]) (fun v u => v = r0 ∧ u = m0) (fun _ => False) := p_val (nm := k_n2) (fun Z ad h => by rw [← h]; exact m_X4_picture l hflag G Z ad mm z x y) h h0
theorem pv_pictureAnew (l : Launch) (hflag : l.stackTraces = false) (G : k_G) (xa : Nat) (mm : q_Mem) (z x y : Int32) (hI : Inv mm) {r0 : Int32} {m0 : q_Mem} (h : sp_anew mm z x y = (r0, m0)) (h0 : m0 19 0 = 0) : p_Ci l yX4_pictureAnew (Cond.code yX4_pictureAnew cX4_pictureAnew 5 (some .int)) 9 157 3 18 G (p_I G xa) mm (.ref xa :: [.int z, .int x, .int y]) (fun v u => v = r0 ∧ u = m0) (fun _ => False) := p_val (nm := k_n2) (fun Z ad h => by rw [← h]; exact m_X4_pictureAnew l hflag G Z ad mm z x y hI) h h0
theorem pv_refresh (l : Launch) (hflag : l.stackTraces = false) (G : k_G) (xa : Nat) (mm : q_Mem) (hI : Inv mm) {r0 : Int32} {m0 : q_Mem} (h : sp_refr mm = (r0, m0)) (h0 : m0 19 0 = 0) : p_Ci l yX4_refresh (Cond.code yX4_refresh cX4_refresh 4 (some .int)) 5 110 0 0 G (p_I G xa) mm (.ref xa :: []) (fun v u => v = r0 ∧ u = m0) (fun _ => False) := p_valF (fun Z ad h => by rw [← h]; exact m_X4_refresh l hflag G Z ad mm hI) h
theorem pv_ways (l : Launch) (G : k_G) (xa : Nat) (mm : q_Mem) : p_Ci l yX4_ways (Cond.code yX4_ways cX4_ways 1 (some .int)) 1 20 0 0 G (p_I G xa) mm (.ref xa :: []) (fun v u => v = mm 1 0 ∧ u = mm) (fun _ => False) := p_rd (fun Z ad h => by rw [← h]; exact m_X4_ways l G Z ad mm)
theorem pv_clock (l : Launch) (G : k_G) (xa : Nat) (mm : q_Mem) : p_Ci l yX4_clock (Cond.code yX4_clock cX4_clock 1 (some .int)) 0 0 0 0 G (p_I G xa) mm (.ref xa :: []) (fun v u => v = mm 10 0 ∧ u = mm) (fun _ => False) := p_rd (fun Z ad h => by rw [← h]; exact m_X4_clock l G Z ad mm)
set_option maxRecDepth 100000 in
theorem m_some (l : Launch) (x : Int32) (n : Nat) (h0 : 0 < n) (h1 : n < 1000) : rc_C l yL_some cL_some 2 (some .int) 0 0 [.int x, .int (nI n)] (fun _ => True) (fun r => ∃ j, j < n ∧ r = nI j) := by
  refine rc_of (by decide) (Nat.le_of_ble_eq_true rfl) ?_
  intro p e s m args below meth c hx hb hr hF hlk hB ls hl
  have hl : lv_has ls 2 [(0, .int x), (1, .int (nI n))] := hl
  refine lv_iload_n hx hb dL_some_0 rfl (lv_at hl 0 rfl) ?_
  refine lv_iconst (v := 1) hx hb dL_some_1 (by decide) ?_
  obtain ⟨j, hj, ej⟩ := ushr1 x
  refine lv_iushr (v := nI j) hx hb dL_some_2 ej ?_
  refine lv_iload_n hx hb dL_some_3 rfl (lv_at hl 1 rfl) ?_
  refine lv_irem hx hb dL_some_4 (nI_ne0 h0 (by omega)) ?_
  refine bo_to (v := nI (j % n)) (pk_rem hj h0 (by omega)) ?_
  exact rc_iret hx hb hr hlk ⟨j % n, Nat.mod_lt _ h0, rfl⟩ dL_some_5
theorem ke_L_some : wl_S yL_some cL_some 2 (some .int) 2 := ⟨wd_c_L_some, wd_t_L_some, wd_n_L, by decide, by decide +kernel⟩
def m_cell_B (b L : Nat) (xs : Nat → Int32) : State → Prop := fun U => va_X b L xs U U.heap ∧ b < U.heap.size
theorem m_cell_bl {b L : Nat} {xs : Nat → Int32} : bl_B (m_cell_B b L xs) := fun U V hh hv h => ⟨by rw [← hh]; exact h.1.moved hv, by rw [← hh]; exact h.2⟩
set_option maxRecDepth 100000 in
theorem m_cell (l : Launch) (b L : Nat) (xs : Nat → Int32) (k : Nat) (hk : k < 2 ^ 31) (hL : L < 2 ^ 31) : rc_C l yL_cell cL_cell 3 (some .int) 0 0 [.ref b, .int (nI k)] (m_cell_B b L xs) (fun _ => True) := by
  refine rc_of (by decide) (Nat.le_of_ble_eq_true rfl) ?_
  intro p e s m args below meth c hx hb hr hF hlk hB ls hl
  have hl : lv_has ls 3 [(0, .ref b), (1, .int (nI k))] := hl
  have hS : va_S (fun _ => False) s.heap s.heap [] := va_S.rf
  refine lv_iload_n hx hb dL_cell_0 rfl (lv_at hl 1 rfl) ?_
  refine lv_aload_n hx hb dL_cell_1 rfl (lv_at hl 0 rfl) ?_
  refine va_slen hx hb hB.1 hB.2 (fun h : False => h) hS dL_cell_2 ?_
  refine lv_icmp_ge (tgt := 12) hx hb dL_cell_3 (by decide) (fun c1 => ?_) (fun c1 => ?_)
  · skip
    refine lv_ldc (v := 91003) hx hb hF.2.2.2.1 (hF.2.2.2.2 _ wd_x36) dL_cell_12 ?_
    refine lv_iload_n hx hb dL_cell_14 rfl (lv_at hl 1 rfl) ?_
    refine lv_bipush (v := 71) hx hb dL_cell_15 (by decide) ?_
    refine lv_iadd hx hb dL_cell_17 ?_
    refine lv_topi (fun y1 _ => ?_)
    refine lv_imul hx hb dL_cell_18 ?_
    refine lv_topi (fun y2 _ => ?_)
    refine lv_istore_n (lv' := [(2, .int y2), (0, .ref b), (1, .int (nI k))]) hx hb dL_cell_19 rfl hl (by decide) rfl (fun ls hl => ?_)
    refine lv_iload_n hx hb dL_cell_20 rfl (lv_at hl 0 rfl) ?_
    refine lv_iload_n hx hb dL_cell_21 rfl (lv_at hl 0 rfl) ?_
    refine lv_bipush (v := 16) hx hb dL_cell_22 (by decide) ?_
    refine lv_iushr hx hb dL_cell_24 rfl ?_
    refine lv_topi (fun y3 _ => ?_)
    refine lv_ixor hx hb dL_cell_25 ?_
    refine lv_topi (fun y4 _ => ?_)
    refine lv_ldc (v := 1336468125) hx hb hF.2.2.2.1 (hF.2.2.2.2 _ wd_x37) dL_cell_26 ?_
    refine lv_imul hx hb dL_cell_28 ?_
    refine lv_topi (fun y5 _ => ?_)
    refine lv_sipush (v := 215) hx hb dL_cell_29 (by decide) ?_
    refine lv_iload_n hx hb dL_cell_32 rfl (lv_at hl 2 rfl) ?_
    refine lv_imul hx hb dL_cell_33 ?_
    refine lv_topi (fun y6 _ => ?_)
    refine lv_iadd hx hb dL_cell_34 ?_
    refine lv_topi (fun y7 _ => ?_)
    exact rc_iret hx hb hr hlk trivial dL_cell_35
  · skip
    refine lv_aload_n hx hb dL_cell_6 rfl (lv_at hl 0 rfl) ?_
    refine lv_iload_n hx hb dL_cell_7 rfl (lv_at hl 1 rfl) ?_
    refine va_sld hx hb hB.1 hB.2 (fun h : False => h) hS (vp_in_nI (Nat.lt_of_not_le (fun q => c1 (nI_le q hk))) hL) dL_cell_8 ?_
    refine lv_topi (fun x ex => ?_)
    refine lv_goto (tgt := 19) hx hb dL_cell_9 (by decide) ?_
    refine lv_istore_n (lv' := [(2, .int x), (0, .ref b), (1, .int (nI k))]) hx hb dL_cell_19 rfl hl (by decide) rfl (fun ls hl => ?_)
    refine lv_iload_n hx hb dL_cell_20 rfl (lv_at hl 0 rfl) ?_
    refine lv_iload_n hx hb dL_cell_21 rfl (lv_at hl 0 rfl) ?_
    refine lv_bipush (v := 16) hx hb dL_cell_22 (by decide) ?_
    refine lv_iushr hx hb dL_cell_24 rfl ?_
    refine lv_topi (fun y8 _ => ?_)
    refine lv_ixor hx hb dL_cell_25 ?_
    refine lv_topi (fun y9 _ => ?_)
    refine lv_ldc (v := 1336468125) hx hb hF.2.2.2.1 (hF.2.2.2.2 _ wd_x37) dL_cell_26 ?_
    refine lv_imul hx hb dL_cell_28 ?_
    refine lv_topi (fun y10 _ => ?_)
    refine lv_sipush (v := 215) hx hb dL_cell_29 (by decide) ?_
    refine lv_iload_n hx hb dL_cell_32 rfl (lv_at hl 2 rfl) ?_
    refine lv_imul hx hb dL_cell_33 ?_
    refine lv_topi (fun y11 _ => ?_)
    refine lv_iadd hx hb dL_cell_34 ?_
    refine lv_topi (fun y12 _ => ?_)
    exact rc_iret hx hb hr hlk trivial dL_cell_35
theorem ke_L_cell : wl_S yL_cell cL_cell 3 (some .int) 2 := ⟨wd_c_L_cell, wd_t_L_cell, wd_n_L, by decide, by decide +kernel⟩
theorem ke_L_call : wl_SW yL_call cL_call 6 [(0, 9, 10, 15), (0, 9, 15, 18), (0, 9, 20, 21)] 5 := ⟨wd_c_L_call, wd_t_L_call, wd_n_L, by decide, by decide +kernel⟩
set_option maxHeartbeats 4000000 in
set_option maxRecDepth 100000 in
theorem m_call {l : Launch} {G : k_G} {xa : Nat} {mm : q_Mem} {k x1 x2 x3 : Int32} {mc ms : Nat} {sp : Int32 × q_Mem} {nm : Int32 → String} (hM : ∀ (Z : Nat → Prop) (ad : k_Ad), ad 0 0 = xa → kx_i l yL_does cL_does 5 (some .int) 10 190 mc ms G Z ad (k_C G ad mm) [.ref xa, .int k, .int x1, .int x2, .int x3] (k_po G ad sp) (k_px nm sp mm)) (hnm : nm = k_n3 ∨ nm = k_n2) : p_Ci l yL_call (Cond.codeWith yL_call cL_call 6 (some .int) [(0, 9, 10, 15), (0, 9, 15, 18), (0, 9, 20, 21)]) 11 214 mc ms G (p_I G xa) mm [.ref xa, .int k, .int x1, .int x2, .int x3] (fun v u => v = (cl nm sp mm).1 ∧ u = (cl nm sp mm).2) (fun _ => False) := by
  refine p_ofT (by decide) (Nat.le_of_ble_eq_true rfl) ?_
  intro Z p e s m args below meth c hx hb hr hF hlk htab hI hX ls hl
  have hl : lv_has ls 6 [(0, .ref xa), (1, .int k), (2, .int x1), (3, .int x2), (4, .int x3)] := hl
  have hS : va_S Z s.heap s.heap [] := va_S.rf
  refine lv_aload_n hx hb dL_call_0 rfl (lv_at hl 0 rfl) ?_
  refine lv_iload_n hx hb dL_call_1 rfl (lv_at hl 1 rfl) ?_
  refine lv_iload_n hx hb dL_call_2 rfl (lv_at hl 2 rfl) ?_
  refine lv_iload_n hx hb dL_call_3 rfl (lv_at hl 3 rfl) ?_
  refine lv_iload hx hb dL_call_4 (lv_at hl 4 rfl) ?_
  refine p_iSt (fr := 10) (lo := 190) (mc1 := mc) (ms1 := ms) (n := 5) (As := [.ref xa, .int k, .int x1, .int x2, .int x3]) (rest := []) hF (p_of_kx hM) ke_L_does wd_l_L_9 (by show 10 + 1 ≤ 11 ∧ 8 + (5 + 11) + 190 ≤ 214; decide) hI hX hS rfl hl.1 rfl (Nat.le_of_ble_eq_true rfl) dL_call_6 (by show 0 + mc ≤ mc ∧ 0 + ms ≤ ms; omega) ?_ ?_
  · intro E ce q9 H locs hE hI hS hce hcv hcl
    obtain ⟨v, hv, hres, hEv⟩ := hE
    have hv0 : ¬ v = 0 := by
      rcases hv with rfl | rfl | ⟨rfl, -⟩ <;> decide
    have hc := cl_th (nm := nm) hres hv0
    rw [← hEv] at hc
    have hE3 := k_nm_or hnm v
    rw [← hEv] at hE3
    rcases hE3 with rfl | rfl | rfl
    · skip
      refine lo_catch hF hX.2.1 [] ⟨0, 9, 10, 15⟩ [⟨0, 9, 15, 18⟩, ⟨0, 9, 20, 21⟩] htab (fun z hz => absurd hz List.not_mem_nil) (by decide) (by decide) wd_k_L_15 lo_c1 hce hcv hcl ?_
      refine lv_astore (lv' := [(5, .ref q9), (0, .ref xa), (1, .int k), (2, .int x1), (3, .int x2), (4, .int x3)]) hx hb dL_call_10 hl (by decide) rfl (fun ls hl => ?_)
      refine lv_ldc (v := -2100000001) hx hb hF.2.2.2.1 (hF.2.2.2.2 _ wd_x3) dL_call_12 ?_
      exact p_iret hx hb hr hlk hI hS (by omega) (by omega) (⟨(congrArg Prod.fst hc).symm, (congrArg Prod.snd hc).symm⟩) dL_call_14
    · skip
      refine lo_catch hF hX.2.1 [⟨0, 9, 10, 15⟩] ⟨0, 9, 15, 18⟩ [⟨0, 9, 20, 21⟩] htab (fun z hz => by rcases List.mem_singleton.mp hz with rfl; exact ⟨by decide, _, wd_k_L_15, hX.2.2.1.1⟩) (by decide) (by decide) wd_k_L_18 lo_c2 hce hcv hcl ?_
      refine lv_astore (lv' := [(5, .ref q9), (0, .ref xa), (1, .int k), (2, .int x1), (3, .int x2), (4, .int x3)]) hx hb dL_call_15 hl (by decide) rfl (fun ls hl => ?_)
      refine lv_ldc (v := -2100000002) hx hb hF.2.2.2.1 (hF.2.2.2.2 _ wd_x4) dL_call_17 ?_
      exact p_iret hx hb hr hlk hI hS (by omega) (by omega) (⟨(congrArg Prod.fst hc).symm, (congrArg Prod.snd hc).symm⟩) dL_call_19
    · skip
      refine lo_catch hF hX.2.1 [⟨0, 9, 10, 15⟩, ⟨0, 9, 15, 18⟩] ⟨0, 9, 20, 21⟩ [] htab (fun z hz => by
        rcases List.mem_cons.mp hz with rfl | hz2
        · exact ⟨by decide, _, wd_k_L_15, hX.2.2.1.2.1⟩
        · rcases List.mem_singleton.mp hz2 with rfl; exact ⟨by decide, _, wd_k_L_18, hX.2.2.1.2.2⟩) (by decide) (by decide) wd_k_L_21 lo_c3 hce hcv hcl ?_
      refine lv_astore (lv' := [(5, .ref q9), (0, .ref xa), (1, .int k), (2, .int x1), (3, .int x2), (4, .int x3)]) hx hb dL_call_20 hl (by decide) rfl (fun ls hl => ?_)
      refine lv_ldc (v := -2100000003) hx hb hF.2.2.2.1 (hF.2.2.2.2 _ wd_x23) dL_call_22 ?_
      exact p_iret hx hb hr hlk hI hS (by omega) (by omega) (⟨(congrArg Prod.fst hc).symm, (congrArg Prod.snd hc).symm⟩) dL_call_24
  · intro r v H locs hq hI hS
    obtain ⟨q1, q2, q3⟩ := hq
    have hc : cl nm sp mm = sp := if_pos q3
    exact p_iret hx hb hr hlk hI hS (by omega) (by omega) (⟨by rw [hc]; exact q1, by rw [hc]; exact q2⟩) dL_call_9
set_option maxHeartbeats 4000000 in
set_option maxRecDepth 100000 in
theorem m_both {l : Launch} {G : k_G} {xa xb : Nat} {mm m0 : q_Mem} {r0 : Int32} {k x1 x2 x3 : Int32} {mc ms : Nat} (h1 : p_Ci l yL_call (Cond.codeWith yL_call cL_call 6 (some .int) [(0, 9, 10, 15), (0, 9, 15, 18), (0, 9, 20, 21)]) 11 214 mc ms G (p_I G xa) mm [.ref xa, .int k, .int x1, .int x2, .int x3] (fun v u => v = r0 ∧ u = m0) (fun _ => False)) (h2 : p_Ci l yL_call (Cond.codeWith yL_call cL_call 6 (some .int) [(0, 9, 10, 15), (0, 9, 15, 18), (0, 9, 20, 21)]) 11 214 mc ms G (p_I G xb) mm [.ref xb, .int k, .int x1, .int x2, .int x3] (fun v u => v = r0 ∧ u = m0) (fun _ => False)) : p_Ci l yL_both (Cond.code yL_both cL_both 7 (some .int)) 12 239 (mc + mc) (ms + ms) G (p_J G xa xb) (mm, mm) [.ref xa, .ref xb, .int k, .int x1, .int x2, .int x3] (fun v u => v = r0 ∧ u = (m0, m0)) (fun _ => False) := by
  refine p_of (by decide) (Nat.le_of_ble_eq_true rfl) ?_
  intro Z p e s m args below meth c hx hb hr hF hlk hI hX ls hl
  have hl : lv_has ls 7 [(0, .ref xa), (1, .ref xb), (2, .int k), (3, .int x1), (4, .int x2), (5, .int x3)] := hl
  have hS : va_S Z s.heap s.heap [] := va_S.rf
  refine lv_aload_n hx hb dL_both_0 rfl (lv_at hl 0 rfl) ?_
  refine lv_iload_n hx hb dL_both_1 rfl (lv_at hl 2 rfl) ?_
  refine lv_iload_n hx hb dL_both_2 rfl (lv_at hl 3 rfl) ?_
  refine lv_iload hx hb dL_both_3 (lv_at hl 4 rfl) ?_
  refine lv_iload hx hb dL_both_5 (lv_at hl 5 rfl) ?_
  refine p_iSXk (fr := 11) (lo := 214) (mc1 := mc) (ms1 := ms) (n := 5) (As := [.ref xa, .int k, .int x1, .int x2, .int x3]) (rest := []) hF h1 p_Em.l ke_L_call wd_l_L_131 (by show 11 + 1 ≤ 12 ∧ 8 + (6 + 11) + 214 ≤ 239; decide) hI hX hS rfl hl.1 rfl (Nat.le_of_ble_eq_true rfl) dL_both_7 (by show _ ≤ mc + mc ∧ _ ≤ ms + ms; omega) (fun H locs hI hS => ?_)
  replace hI : p_J G xa xb Z (m0, mm) H := hI
  refine lv_istore (lv' := [(6, .int r0), (0, .ref xa), (1, .ref xb), (2, .int k), (3, .int x1), (4, .int x2), (5, .int x3)]) hx hb dL_both_10 hl (by decide) rfl (fun ls hl => ?_)
  refine lv_iload hx hb dL_both_12 (lv_at hl 0 rfl) ?_
  refine lv_aload_n hx hb dL_both_14 rfl (lv_at hl 2 rfl) ?_
  refine lv_iload_n hx hb dL_both_15 rfl (lv_at hl 3 rfl) ?_
  refine lv_iload_n hx hb dL_both_16 rfl (lv_at hl 4 rfl) ?_
  refine lv_iload hx hb dL_both_17 (lv_at hl 5 rfl) ?_
  refine lv_iload hx hb dL_both_19 (lv_at hl 6 rfl) ?_
  refine p_iSXk (fr := 11) (lo := 214) (mc1 := mc) (ms1 := ms) (n := 5) (As := [.ref xb, .int k, .int x1, .int x2, .int x3]) (rest := [.int r0]) hF h2 p_Em.r ke_L_call wd_l_L_131 (by show 11 + 1 ≤ 12 ∧ 8 + (6 + 11) + 214 ≤ 239; decide) hI hX hS rfl hl.1 rfl (Nat.le_of_ble_eq_true rfl) dL_both_21 (by show _ ≤ mc + mc ∧ _ ≤ ms + ms; omega) (fun H locs hI hS => ?_)
  replace hI : p_J G xa xb Z (m0, m0) H := hI
  refine lv_icmp_ne (tgt := 32) hx hb dL_both_24 (by decide) (fun c1 => ?_) (fun c1 => ?_)
  · skip
    exact absurd rfl c1
  · skip
    refine lv_iload hx hb dL_both_27 (lv_at hl 0 rfl) ?_
    refine lv_goto (tgt := 34) hx hb dL_both_29 (by decide) ?_
    exact p_iret hx hb hr hlk hI hS (by omega) (by omega) ⟨rfl, rfl⟩ dL_both_34
theorem ke_L_both : wl_S yL_both cL_both 7 (some .int) 6 := ⟨wd_c_L_both, wd_t_L_both, wd_n_L, by decide, by decide +kernel⟩
set_option maxHeartbeats 1000000 in
set_option maxRecDepth 100000 in
theorem m_kind (l : Launch) (hflag : l.stackTraces = false) (G : k_G) (xa : Nat) (mm : q_Mem) (w : Nat) (hL : LI mm) (hw : w < sp_W mm) : p_Ci l yL_kind (Cond.code yL_kind cL_kind 2 (some .int)) 8 140 3 18 G (p_I G xa) mm [.ref xa, .int (nI w)] (fun v u => v = kd mm w ∧ u = mm) (fun _ => False) := by
  refine p_of (by decide) (Nat.le_of_ble_eq_true rfl) ?_
  intro Z p e s m args below meth c hx hb hr hF hlk hI hX ls hl
  have hl : lv_has ls 2 [(0, .ref xa), (1, .int (nI w))] := hl
  have hS : va_S Z s.heap s.heap [] := va_S.rf
  refine lv_aload_n hx hb dL_kind_0 rfl (lv_at hl 0 rfl) ?_
  refine lv_iload_n hx hb dL_kind_1 rfl (lv_at hl 1 rfl) ?_
  refine lv_aload_n hx hb dL_kind_2 rfl (lv_at hl 0 rfl) ?_
  refine lv_iload_n hx hb dL_kind_3 rfl (lv_at hl 1 rfl) ?_
  refine p_iVk (fr := 7) (lo := 111) (mc1 := 1) (ms1 := 6) (n := 1) (As := [.int (nI w)]) (rest := [.int (nI w), .ref xa]) hF (pv_versions l hflag G xa mm (nI w) hL.1 (r0 := (mm 7 w)) (m0 := mm) (v_of hL hw) (hL.2.1)) p_Em.id ke_X4_versions wd_l_L_49 (by decide) hI hX hS rfl hl.1 rfl (Nat.le_of_ble_eq_true rfl) dL_kind_4 (by first | decide | omega | (dsimp only; omega)) (fun H locs hI hS => ?_)
  replace hI : p_I G xa Z mm H := hI
  refine lv_iconst (v := 1) hx hb dL_kind_7 (by decide) ?_
  refine lv_isub hx hb dL_kind_8 ?_
  refine p_iVk (fr := 7) (lo := 112) (mc1 := 2) (ms1 := 12) (n := 2) (As := [.int (nI w), .int ((mm 7 w) - 1)]) (rest := []) hF (pv_version l hflag G xa mm (nI w) ((mm 7 w) - 1) hL.1 (r0 := (vc mm w)) (m0 := mm) (v_ver hL hw) (hL.2.1)) p_Em.id ke_X4_version wd_l_L_52 (by decide) hI hX hS rfl hl.1 rfl (Nat.le_of_ble_eq_true rfl) dL_kind_9 (by first | decide | omega | (dsimp only; omega)) (fun H locs hI hS => ?_)
  replace hI : p_I G xa Z mm H := hI
  refine lv_bipush (v := 100) hx hb dL_kind_12 (by decide) ?_
  refine lv_idiv hx hb dL_kind_14 (by decide) ?_
  exact p_iret hx hb hr hlk hI hS (by first | decide | omega | (dsimp only; omega)) (by first | decide | omega | (dsimp only; omega)) (⟨v_kd hL hw, rfl⟩) dL_kind_15
theorem ke_L_kind : wl_S yL_kind cL_kind 2 (some .int) 2 := ⟨wd_c_L_kind, wd_t_L_kind, wd_n_L, by decide, by decide +kernel⟩
set_option maxHeartbeats 1000000 in
set_option maxRecDepth 100000 in
theorem m_turn (l : Launch) (hflag : l.stackTraces = false) (G : k_G) (xa : Nat) (mm : q_Mem) (w : Nat) (hL : LI mm) (hw : w < sp_W mm) : p_Ci l yL_turn (Cond.code yL_turn cL_turn 2 (some .int)) 8 140 3 18 G (p_I G xa) mm [.ref xa, .int (nI w)] (fun v u => v = td mm w ∧ u = mm) (fun _ => False) := by
  refine p_of (by decide) (Nat.le_of_ble_eq_true rfl) ?_
  intro Z p e s m args below meth c hx hb hr hF hlk hI hX ls hl
  have hl : lv_has ls 2 [(0, .ref xa), (1, .int (nI w))] := hl
  have hS : va_S Z s.heap s.heap [] := va_S.rf
  refine lv_aload_n hx hb dL_turn_0 rfl (lv_at hl 0 rfl) ?_
  refine lv_iload_n hx hb dL_turn_1 rfl (lv_at hl 1 rfl) ?_
  refine lv_aload_n hx hb dL_turn_2 rfl (lv_at hl 0 rfl) ?_
  refine lv_iload_n hx hb dL_turn_3 rfl (lv_at hl 1 rfl) ?_
  refine p_iVk (fr := 7) (lo := 111) (mc1 := 1) (ms1 := 6) (n := 1) (As := [.int (nI w)]) (rest := [.int (nI w), .ref xa]) hF (pv_versions l hflag G xa mm (nI w) hL.1 (r0 := (mm 7 w)) (m0 := mm) (v_of hL hw) (hL.2.1)) p_Em.id ke_X4_versions wd_l_L_49 (by decide) hI hX hS rfl hl.1 rfl (Nat.le_of_ble_eq_true rfl) dL_turn_4 (by first | decide | omega | (dsimp only; omega)) (fun H locs hI hS => ?_)
  replace hI : p_I G xa Z mm H := hI
  refine lv_iconst (v := 1) hx hb dL_turn_7 (by decide) ?_
  refine lv_isub hx hb dL_turn_8 ?_
  refine p_iVk (fr := 7) (lo := 112) (mc1 := 2) (ms1 := 12) (n := 2) (As := [.int (nI w), .int ((mm 7 w) - 1)]) (rest := []) hF (pv_version l hflag G xa mm (nI w) ((mm 7 w) - 1) hL.1 (r0 := (vc mm w)) (m0 := mm) (v_ver hL hw) (hL.2.1)) p_Em.id ke_X4_version wd_l_L_52 (by decide) hI hX hS rfl hl.1 rfl (Nat.le_of_ble_eq_true rfl) dL_turn_9 (by first | decide | omega | (dsimp only; omega)) (fun H locs hI hS => ?_)
  replace hI : p_I G xa Z mm H := hI
  refine lv_bipush (v := 10) hx hb dL_turn_12 (by decide) ?_
  refine lv_idiv hx hb dL_turn_14 (by decide) ?_
  refine lv_bipush (v := 10) hx hb dL_turn_15 (by decide) ?_
  refine lv_irem hx hb dL_turn_17 (by decide) ?_
  exact p_iret hx hb hr hlk hI hS (by first | decide | omega | (dsimp only; omega)) (by first | decide | omega | (dsimp only; omega)) (⟨v_td hL hw, rfl⟩) dL_turn_18
theorem ke_L_turn : wl_S yL_turn cL_turn 2 (some .int) 2 := ⟨wd_c_L_turn, wd_t_L_turn, wd_n_L, by decide, by decide +kernel⟩
set_option maxHeartbeats 1000000 in
set_option maxRecDepth 100000 in
theorem m_by (l : Launch) (hflag : l.stackTraces = false) (G : k_G) (xa : Nat) (mm : q_Mem) (w : Nat) (hL : LI mm) (hw : w < sp_W mm) : p_Ci l yL_by (Cond.code yL_by cL_by 2 (some .int)) 8 140 3 18 G (p_I G xa) mm [.ref xa, .int (nI w)] (fun v u => v = be mm w ∧ u = mm) (fun _ => False) := by
  refine p_of (by decide) (Nat.le_of_ble_eq_true rfl) ?_
  intro Z p e s m args below meth c hx hb hr hF hlk hI hX ls hl
  have hl : lv_has ls 2 [(0, .ref xa), (1, .int (nI w))] := hl
  have hS : va_S Z s.heap s.heap [] := va_S.rf
  refine lv_aload_n hx hb dL_by_0 rfl (lv_at hl 0 rfl) ?_
  refine lv_iload_n hx hb dL_by_1 rfl (lv_at hl 1 rfl) ?_
  refine lv_aload_n hx hb dL_by_2 rfl (lv_at hl 0 rfl) ?_
  refine lv_iload_n hx hb dL_by_3 rfl (lv_at hl 1 rfl) ?_
  refine p_iVk (fr := 7) (lo := 111) (mc1 := 1) (ms1 := 6) (n := 1) (As := [.int (nI w)]) (rest := [.int (nI w), .ref xa]) hF (pv_versions l hflag G xa mm (nI w) hL.1 (r0 := (mm 7 w)) (m0 := mm) (v_of hL hw) (hL.2.1)) p_Em.id ke_X4_versions wd_l_L_49 (by decide) hI hX hS rfl hl.1 rfl (Nat.le_of_ble_eq_true rfl) dL_by_4 (by first | decide | omega | (dsimp only; omega)) (fun H locs hI hS => ?_)
  replace hI : p_I G xa Z mm H := hI
  refine lv_iconst (v := 1) hx hb dL_by_7 (by decide) ?_
  refine lv_isub hx hb dL_by_8 ?_
  refine p_iVk (fr := 7) (lo := 112) (mc1 := 2) (ms1 := 12) (n := 2) (As := [.int (nI w), .int ((mm 7 w) - 1)]) (rest := []) hF (pv_version l hflag G xa mm (nI w) ((mm 7 w) - 1) hL.1 (r0 := (vc mm w)) (m0 := mm) (v_ver hL hw) (hL.2.1)) p_Em.id ke_X4_version wd_l_L_52 (by decide) hI hX hS rfl hl.1 rfl (Nat.le_of_ble_eq_true rfl) dL_by_9 (by first | decide | omega | (dsimp only; omega)) (fun H locs hI hS => ?_)
  replace hI : p_I G xa Z mm H := hI
  refine lv_bipush (v := 10) hx hb dL_by_12 (by decide) ?_
  refine lv_irem hx hb dL_by_14 (by decide) ?_
  refine lv_iconst (v := 1) hx hb dL_by_15 (by decide) ?_
  refine lv_isub hx hb dL_by_16 ?_
  exact p_iret hx hb hr hlk hI hS (by first | decide | omega | (dsimp only; omega)) (by first | decide | omega | (dsimp only; omega)) (⟨v_be hL hw, rfl⟩) dL_by_17
theorem ke_L_by : wl_S yL_by cL_by 2 (some .int) 2 := ⟨wd_c_L_by, wd_t_L_by, wd_n_L, by decide, by decide +kernel⟩
