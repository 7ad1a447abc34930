/-! ===== reverts ===== -/
theorem dL_reverts_0 : decode cL_reverts 0 = .ok (.iload_n 2, 1) := by decide +kernel
theorem dL_reverts_1 : decode cL_reverts 1 = .ok (.bipush 6, 2) := by decide +kernel
theorem dL_reverts_3 : decode cL_reverts 3 = .ok (.invokestatic 137, 3) := by decide +kernel
theorem dL_reverts_6 : decode cL_reverts 6 = .ok (.istore_n 3, 1) := by decide +kernel
theorem dL_reverts_7 : decode cL_reverts 7 = .ok (.iload_n 2, 1) := by decide +kernel
theorem dL_reverts_8 : decode cL_reverts 8 = .ok (.iconst 3, 1) := by decide +kernel
theorem dL_reverts_9 : decode cL_reverts 9 = .ok (.ishr, 1) := by decide +kernel
theorem dL_reverts_10 : decode cL_reverts 10 = .ok (.aload_n 0, 1) := by decide +kernel
theorem dL_reverts_11 : decode cL_reverts 11 = .ok (.invokevirtual 108, 3) := by decide +kernel
theorem dL_reverts_14 : decode cL_reverts 14 = .ok (.invokestatic 137, 3) := by decide +kernel
theorem dL_reverts_17 : decode cL_reverts 17 = .ok (.istore 4, 2) := by decide +kernel
theorem dL_reverts_19 : decode cL_reverts 19 = .ok (.aload_n 0, 1) := by decide +kernel
theorem dL_reverts_20 : decode cL_reverts 20 = .ok (.iload 4, 2) := by decide +kernel
theorem dL_reverts_22 : decode cL_reverts 22 = .ok (.invokevirtual 49, 3) := by decide +kernel
theorem dL_reverts_25 : decode cL_reverts 25 = .ok (.istore 5, 2) := by decide +kernel
theorem dL_reverts_27 : decode cL_reverts 27 = .ok (.aload_n 0, 1) := by decide +kernel
theorem dL_reverts_28 : decode cL_reverts 28 = .ok (.iload 4, 2) := by decide +kernel
theorem dL_reverts_30 : decode cL_reverts 30 = .ok (.invokestatic 155, 3) := by decide +kernel
theorem dL_reverts_33 : decode cL_reverts 33 = .ok (.istore 6, 2) := by decide +kernel
theorem dL_reverts_35 : decode cL_reverts 35 = .ok (.iload 6, 2) := by decide +kernel
theorem dL_reverts_37 : decode cL_reverts 37 = .ok (.ifCond .ge 7, 3) := by decide +kernel
theorem dL_reverts_40 : decode cL_reverts 40 = .ok (.iconst 0, 1) := by decide +kernel
theorem dL_reverts_41 : decode cL_reverts 41 = .ok (.goto 9, 3) := by decide +kernel
theorem dL_reverts_44 : decode cL_reverts 44 = .ok (.aload_n 0, 1) := by decide +kernel
theorem dL_reverts_45 : decode cL_reverts 45 = .ok (.iload 6, 2) := by decide +kernel
theorem dL_reverts_47 : decode cL_reverts 47 = .ok (.invokevirtual 45, 3) := by decide +kernel
theorem dL_reverts_50 : decode cL_reverts 50 = .ok (.istore 7, 2) := by decide +kernel
theorem dL_reverts_52 : decode cL_reverts 52 = .ok (.iload 5, 2) := by decide +kernel
theorem dL_reverts_54 : decode cL_reverts 54 = .ok (.iconst 1, 1) := by decide +kernel
theorem dL_reverts_55 : decode cL_reverts 55 = .ok (.if_icmp .le 28, 3) := by decide +kernel
theorem dL_reverts_58 : decode cL_reverts 58 = .ok (.iload 6, 2) := by decide +kernel
theorem dL_reverts_60 : decode cL_reverts 60 = .ok (.ifCond .lt 23, 3) := by decide +kernel
theorem dL_reverts_63 : decode cL_reverts 63 = .ok (.iload 6, 2) := by decide +kernel
theorem dL_reverts_65 : decode cL_reverts 65 = .ok (.iload_n 3, 1) := by decide +kernel
theorem dL_reverts_66 : decode cL_reverts 66 = .ok (.if_icmp .eq 17, 3) := by decide +kernel
theorem dL_reverts_69 : decode cL_reverts 69 = .ok (.aload_n 0, 1) := by decide +kernel
theorem dL_reverts_70 : decode cL_reverts 70 = .ok (.iload_n 3, 1) := by decide +kernel
theorem dL_reverts_71 : decode cL_reverts 71 = .ok (.invokevirtual 45, 3) := by decide +kernel
theorem dL_reverts_74 : decode cL_reverts 74 = .ok (.iload 7, 2) := by decide +kernel
theorem dL_reverts_76 : decode cL_reverts 76 = .ok (.if_icmp .le 7, 3) := by decide +kernel
theorem dL_reverts_79 : decode cL_reverts 79 = .ok (.iconst 1, 1) := by decide +kernel
theorem dL_reverts_80 : decode cL_reverts 80 = .ok (.goto 4, 3) := by decide +kernel
theorem dL_reverts_83 : decode cL_reverts 83 = .ok (.iconst 0, 1) := by decide +kernel
theorem dL_reverts_84 : decode cL_reverts 84 = .ok (.istore 8, 2) := by decide +kernel
theorem dL_reverts_86 : decode cL_reverts 86 = .ok (.iload 5, 2) := by decide +kernel
theorem dL_reverts_88 : decode cL_reverts 88 = .ok (.iconst 1, 1) := by decide +kernel
theorem dL_reverts_89 : decode cL_reverts 89 = .ok (.if_icmp .le 19, 3) := by decide +kernel
theorem dL_reverts_92 : decode cL_reverts 92 = .ok (.aload_n 0, 1) := by decide +kernel
theorem dL_reverts_93 : decode cL_reverts 93 = .ok (.iload 4, 2) := by decide +kernel
theorem dL_reverts_95 : decode cL_reverts 95 = .ok (.iload 5, 2) := by decide +kernel
theorem dL_reverts_97 : decode cL_reverts 97 = .ok (.iconst 2, 1) := by decide +kernel
theorem dL_reverts_98 : decode cL_reverts 98 = .ok (.isub, 1) := by decide +kernel
theorem dL_reverts_99 : decode cL_reverts 99 = .ok (.invokevirtual 52, 3) := by decide +kernel
theorem dL_reverts_102 : decode cL_reverts 102 = .ok (.bipush 10, 2) := by decide +kernel
theorem dL_reverts_104 : decode cL_reverts 104 = .ok (.idiv, 1) := by decide +kernel
theorem dL_reverts_105 : decode cL_reverts 105 = .ok (.goto 4, 3) := by decide +kernel
theorem dL_reverts_108 : decode cL_reverts 108 = .ok (.iconst 0, 1) := by decide +kernel
theorem dL_reverts_109 : decode cL_reverts 109 = .ok (.istore 9, 2) := by decide +kernel
theorem dL_reverts_111 : decode cL_reverts 111 = .ok (.aload_n 0, 1) := by decide +kernel
theorem dL_reverts_112 : decode cL_reverts 112 = .ok (.invokestatic 151, 3) := by decide +kernel
theorem dL_reverts_115 : decode cL_reverts 115 = .ok (.lstore 10, 2) := by decide +kernel
theorem dL_reverts_117 : decode cL_reverts 117 = .ok (.aload_n 0, 1) := by decide +kernel
theorem dL_reverts_118 : decode cL_reverts 118 = .ok (.aload_n 1, 1) := by decide +kernel
theorem dL_reverts_119 : decode cL_reverts 119 = .ok (.iconst 3, 1) := by decide +kernel
theorem dL_reverts_120 : decode cL_reverts 120 = .ok (.iload_n 3, 1) := by decide +kernel
theorem dL_reverts_121 : decode cL_reverts 121 = .ok (.iload 4, 2) := by decide +kernel
theorem dL_reverts_123 : decode cL_reverts 123 = .ok (.iconst 0, 1) := by decide +kernel
theorem dL_reverts_124 : decode cL_reverts 124 = .ok (.invokestatic 147, 3) := by decide +kernel
theorem dL_reverts_127 : decode cL_reverts 127 = .ok (.istore 12, 2) := by decide +kernel
theorem dL_reverts_129 : decode cL_reverts 129 = .ok (.iload 8, 2) := by decide +kernel
theorem dL_reverts_131 : decode cL_reverts 131 = .ok (.ifCond .ne 26, 3) := by decide +kernel
theorem dL_reverts_134 : decode cL_reverts 134 = .ok (.iload 12, 2) := by decide +kernel
theorem dL_reverts_136 : decode cL_reverts 136 = .ok (.ldc 23, 2) := by decide +kernel
theorem dL_reverts_138 : decode cL_reverts 138 = .ok (.if_icmp .ne 17, 3) := by decide +kernel
theorem dL_reverts_141 : decode cL_reverts 141 = .ok (.aload_n 0, 1) := by decide +kernel
theorem dL_reverts_142 : decode cL_reverts 142 = .ok (.invokestatic 151, 3) := by decide +kernel
theorem dL_reverts_145 : decode cL_reverts 145 = .ok (.lload 10, 2) := by decide +kernel
theorem dL_reverts_147 : decode cL_reverts 147 = .ok (.lcmp, 1) := by decide +kernel
theorem dL_reverts_148 : decode cL_reverts 148 = .ok (.ifCond .ne 7, 3) := by decide +kernel
theorem dL_reverts_151 : decode cL_reverts 151 = .ok (.iconst 1, 1) := by decide +kernel
theorem dL_reverts_152 : decode cL_reverts 152 = .ok (.goto 4, 3) := by decide +kernel
theorem dL_reverts_156 : decode cL_reverts 156 = .ok (.ireturn, 1) := by decide +kernel
theorem dL_reverts_157 : decode cL_reverts 157 = .ok (.iload 12, 2) := by decide +kernel
theorem dL_reverts_159 : decode cL_reverts 159 = .ok (.iload 7, 2) := by decide +kernel
theorem dL_reverts_161 : decode cL_reverts 161 = .ok (.bipush 10, 2) := by decide +kernel
theorem dL_reverts_163 : decode cL_reverts 163 = .ok (.if_icmp .ge 7, 3) := by decide +kernel
theorem dL_reverts_166 : decode cL_reverts 166 = .ok (.iconst 0, 1) := by decide +kernel
theorem dL_reverts_167 : decode cL_reverts 167 = .ok (.goto 8, 3) := by decide +kernel
theorem dL_reverts_170 : decode cL_reverts 170 = .ok (.iload 7, 2) := by decide +kernel
theorem dL_reverts_172 : decode cL_reverts 172 = .ok (.bipush 10, 2) := by decide +kernel
theorem dL_reverts_174 : decode cL_reverts 174 = .ok (.isub, 1) := by decide +kernel
theorem dL_reverts_175 : decode cL_reverts 175 = .ok (.if_icmp .ne 67, 3) := by decide +kernel
theorem dL_reverts_178 : decode cL_reverts 178 = .ok (.aload_n 0, 1) := by decide +kernel
theorem dL_reverts_179 : decode cL_reverts 179 = .ok (.iload 6, 2) := by decide +kernel
theorem dL_reverts_181 : decode cL_reverts 181 = .ok (.invokevirtual 45, 3) := by decide +kernel
theorem dL_reverts_184 : decode cL_reverts 184 = .ok (.iload 12, 2) := by decide +kernel
theorem dL_reverts_186 : decode cL_reverts 186 = .ok (.if_icmp .ne 56, 3) := by decide +kernel
theorem dL_reverts_189 : decode cL_reverts 189 = .ok (.aload_n 0, 1) := by decide +kernel
theorem dL_reverts_190 : decode cL_reverts 190 = .ok (.iload 4, 2) := by decide +kernel
theorem dL_reverts_192 : decode cL_reverts 192 = .ok (.invokevirtual 49, 3) := by decide +kernel
theorem dL_reverts_195 : decode cL_reverts 195 = .ok (.iload 5, 2) := by decide +kernel
theorem dL_reverts_197 : decode cL_reverts 197 = .ok (.iconst 1, 1) := by decide +kernel
theorem dL_reverts_198 : decode cL_reverts 198 = .ok (.iadd, 1) := by decide +kernel
theorem dL_reverts_199 : decode cL_reverts 199 = .ok (.if_icmp .ne 43, 3) := by decide +kernel
theorem dL_reverts_202 : decode cL_reverts 202 = .ok (.aload_n 0, 1) := by decide +kernel
theorem dL_reverts_203 : decode cL_reverts 203 = .ok (.iload 4, 2) := by decide +kernel
theorem dL_reverts_205 : decode cL_reverts 205 = .ok (.iload 5, 2) := by decide +kernel
theorem dL_reverts_207 : decode cL_reverts 207 = .ok (.invokevirtual 52, 3) := by decide +kernel
theorem dL_reverts_210 : decode cL_reverts 210 = .ok (.bipush 10, 2) := by decide +kernel
theorem dL_reverts_212 : decode cL_reverts 212 = .ok (.idiv, 1) := by decide +kernel
theorem dL_reverts_213 : decode cL_reverts 213 = .ok (.iload 9, 2) := by decide +kernel
theorem dL_reverts_215 : decode cL_reverts 215 = .ok (.if_icmp .ne 27, 3) := by decide +kernel
theorem dL_reverts_218 : decode cL_reverts 218 = .ok (.aload_n 0, 1) := by decide +kernel
theorem dL_reverts_219 : decode cL_reverts 219 = .ok (.iload 4, 2) := by decide +kernel
theorem dL_reverts_221 : decode cL_reverts 221 = .ok (.invokestatic 155, 3) := by decide +kernel
theorem dL_reverts_224 : decode cL_reverts 224 = .ok (.iload_n 3, 1) := by decide +kernel
theorem dL_reverts_225 : decode cL_reverts 225 = .ok (.if_icmp .ne 17, 3) := by decide +kernel
theorem dL_reverts_228 : decode cL_reverts 228 = .ok (.aload_n 0, 1) := by decide +kernel
theorem dL_reverts_229 : decode cL_reverts 229 = .ok (.iload 4, 2) := by decide +kernel
theorem dL_reverts_231 : decode cL_reverts 231 = .ok (.invokevirtual 58, 3) := by decide +kernel
theorem dL_reverts_234 : decode cL_reverts 234 = .ok (.iconst (-1), 1) := by decide +kernel
theorem dL_reverts_235 : decode cL_reverts 235 = .ok (.if_icmp .ne 7, 3) := by decide +kernel
theorem dL_reverts_238 : decode cL_reverts 238 = .ok (.iconst 1, 1) := by decide +kernel
theorem dL_reverts_239 : decode cL_reverts 239 = .ok (.goto 4, 3) := by decide +kernel
theorem dL_reverts_243 : decode cL_reverts 243 = .ok (.ireturn, 1) := by decide +kernel
set_option maxHeartbeats 1000000 in
set_option maxRecDepth 100000 in
theorem m_reverts_1n (l : Launch) (hflag : l.stackTraces = false) (G : k_G) (xa xb : Nat) (mm : q_Mem) (z : Int32) (f w : Nat) (hL : LI mm) (hK1 : sp_K mm < 512) (hf : f < 6) (hw : w < sp_W mm) (h7 : mm 7 w = 1) (hbe : be mm w = -1) (Z : Nat → Prop) {p : Program} {e : Env} {s : State} {m : MethodId} {args : Array Value} {below : List Frame} {meth : Method} {c : Code} (hx : p.tables.exec = Jvm.exec) (hb : c.code = cL_reverts) (hr : meth.sig.returnType = (some .boolean)) (hF : CallFix p m c cL_reverts 13 s args wsL_law RL) (hlk : meth.locks = false) (hX : p_E0 G Z s) : p_W l G xa xb mm mm Z p e { frames := 13, cells := 1000, slots := 6000, locals := 275 } s m args below meth c 13 20 120 (p_Q2 G xa xb mm (fun v u => v = 1 ∧ ∃ m2, u = (m2, m2) ∧ RD mm m2) Z below args s 1000 6000) [(6, .int (be mm w)), (5, .int (mm 7 w)), (4, .int (nI w)), (3, .int (nI f)), (0, .ref xa), (1, .ref xb), (2, .int z)] 35 [] := by
  intro H locs ls hI hS hl
  refine lv_iload hx hb dL_reverts_35 (lv_at hl 0 rfl) ?_
  refine lv_if_ge (tgt := 44) hx hb dL_reverts_37 (by decide) (fun c37 => ?_) (fun c37 => ?_)
  · skip
    exact absurd c37 (by rw [hbe]; decide)
  · skip
    refine lv_iconst (v := 0) hx hb dL_reverts_40 (by decide) ?_
    refine lv_goto (tgt := 50) hx hb dL_reverts_41 (by decide) ?_
    refine lv_istore (lv' := [(7, .int 0), (6, .int (be mm w)), (5, .int (mm 7 w)), (4, .int (nI w)), (3, .int (nI f)), (0, .ref xa), (1, .ref xb), (2, .int z)]) hx hb dL_reverts_50 hl (by decide) rfl (fun ls hl => ?_)
    refine lv_iload hx hb dL_reverts_52 (lv_at hl 2 rfl) ?_
    refine lv_iconst (v := 1) hx hb dL_reverts_54 (by decide) ?_
    refine lv_icmp_le (tgt := 83) hx hb dL_reverts_55 (by decide) (fun c55 => ?_) (fun c55 => ?_)
    · skip
      have hC : ¬ (¬ mm 7 w < 2 ∧ ¬ be mm w = -1 ∧ ¬ be mm w = nI f ∧ mm 0 (be mm w).toNatClampNeg < mm 0 f) := fun z => z.1 (by rw [h7]; decide)
      refine lv_iconst (v := 0) hx hb dL_reverts_83 (by decide) ?_
      refine lv_istore (lv' := [(8, .int 0), (7, .int 0), (6, .int (be mm w)), (5, .int (mm 7 w)), (4, .int (nI w)), (3, .int (nI f)), (0, .ref xa), (1, .ref xb), (2, .int z)]) hx hb dL_reverts_84 hl (by decide) rfl (fun ls hl => ?_)
      refine lv_iload hx hb dL_reverts_86 (lv_at hl 3 rfl) ?_
      refine lv_iconst (v := 1) hx hb dL_reverts_88 (by decide) ?_
      refine lv_icmp_le (tgt := 108) hx hb dL_reverts_89 (by decide) (fun c89 => ?_) (fun c89 => ?_)
      · skip
        refine lv_iconst (v := 0) hx hb dL_reverts_108 (by decide) ?_
        refine lv_istore (lv' := [(9, .int 0), (8, .int 0), (7, .int 0), (6, .int (be mm w)), (5, .int (mm 7 w)), (4, .int (nI w)), (3, .int (nI f)), (0, .ref xa), (1, .ref xb), (2, .int z)]) hx hb dL_reverts_109 hl (by decide) rfl (fun ls hl => ?_)
        refine lv_aload_n hx hb dL_reverts_111 rfl (lv_at hl 7 rfl) ?_
        refine p_lSk (mc1 := 460) (ms1 := 2760) (fr := 12) (lo := 240) (n := 1) (As := [.ref xa]) (rest := []) hF (m_all l hflag G xa mm hL) p_Em.l ke_L_all wd_l_L_151 (by decide) hI hX hS rfl hl.1 rfl (Nat.le_of_ble_eq_true rfl) dL_reverts_112 (by first | decide | omega | (dsimp only; omega)) (fun H locs hI hS => ?_)
        replace hI : p_J G xa xb Z (mm, mm) H := hI
        refine lv_lstore (lv' := [(10, .long (al mm)), (9, .int 0), (8, .int 0), (7, .int 0), (6, .int (be mm w)), (5, .int (mm 7 w)), (4, .int (nI w)), (3, .int (nI f)), (0, .ref xa), (1, .ref xb), (2, .int z)]) hx hb dL_reverts_115 hl (by decide) rfl (fun ls hl => ?_)
        refine lv_aload_n hx hb dL_reverts_117 rfl (lv_at hl 8 rfl) ?_
        refine lv_aload_n hx hb dL_reverts_118 rfl (lv_at hl 9 rfl) ?_
        refine lv_iconst (v := 3) hx hb dL_reverts_119 (by decide) ?_
        refine lv_iload_n hx hb dL_reverts_120 rfl (lv_at hl 7 rfl) ?_
        refine lv_iload hx hb dL_reverts_121 (lv_at hl 6 rfl) ?_
        refine lv_iconst (v := 0) hx hb dL_reverts_123 (by decide) ?_
        refine p_iSk (mc1 := 8) (ms1 := 38) (fr := 12) (lo := 239) (n := 6) (As := [.ref xa, .ref xb, .int 3, .int (nI f), .int (nI w), .int 0]) (rest := []) hF (m_both (mc := 4) (ms := 19) (p_cx (nm := k_n2) (sp := sp_rev mm (nI f) (nI w)) (rv_no hL hw hf hC) (by decide) cf2 (m_call (fun Z ad h => by rw [← h]; exact m_does_3 l hflag G Z ad mm (nI f) (nI w) 0 hL.1 hK1) (Or.inr rfl))) (p_cx (nm := k_n2) (sp := sp_rev mm (nI f) (nI w)) (rv_no hL hw hf hC) (by decide) cf2 (m_call (fun Z ad h => by rw [← h]; exact m_does_3 l hflag G Z ad mm (nI f) (nI w) 0 hL.1 hK1) (Or.inr rfl)))) p_Em.id ke_L_both wd_l_L_147 (by decide) hI hX hS rfl hl.1 rfl (Nat.le_of_ble_eq_true rfl) dL_reverts_124 (by first | decide | omega | (dsimp only; omega)) (fun H locs hI hS => ?_)
        replace hI : p_J G xa xb Z (mm, mm) H := hI
        refine lv_istore (lv' := [(12, .int (-2100000003)), (10, .long (al mm)), (9, .int 0), (8, .int 0), (7, .int 0), (6, .int (be mm w)), (5, .int (mm 7 w)), (4, .int (nI w)), (3, .int (nI f)), (0, .ref xa), (1, .ref xb), (2, .int z)]) hx hb dL_reverts_127 hl (by decide) rfl (fun ls hl => ?_)
        refine lv_iload hx hb dL_reverts_129 (lv_at hl 3 rfl) ?_
        refine lv_if_ne (tgt := 157) hx hb dL_reverts_131 (by decide) (fun c131 => ?_) (fun c131 => ?_)
        · skip
          exact absurd c131 (by decide)
        · skip
          refine lv_iload hx hb dL_reverts_134 (lv_at hl 0 rfl) ?_
          refine lv_ldc (v := -2100000003) hx hb hF.2.2.2.1 (hF.2.2.2.2 _ wd_x23) dL_reverts_136 ?_
          refine lv_icmp_ne (tgt := 155) hx hb dL_reverts_138 (by decide) (fun c138 => ?_) (fun c138 => ?_)
          · skip
            exact absurd rfl c138
          · skip
            refine lv_aload_n hx hb dL_reverts_141 rfl (lv_at hl 9 rfl) ?_
            refine p_lSk (mc1 := 460) (ms1 := 2760) (fr := 12) (lo := 240) (n := 1) (As := [.ref xa]) (rest := []) hF (m_all l hflag G xa mm hL) p_Em.l ke_L_all wd_l_L_151 (by decide) hI hX hS rfl hl.1 rfl (Nat.le_of_ble_eq_true rfl) dL_reverts_142 (by first | decide | omega | (dsimp only; omega)) (fun H locs hI hS => ?_)
            replace hI : p_J G xa xb Z (mm, mm) H := hI
            refine lv_lload hx hb dL_reverts_145 (lv_at hl 1 rfl) ?_
            refine W.lcmp hx hb dL_reverts_147 ?_
            refine bo_to (v := 0) (by simp [lg_cmp]) ?_
            refine lv_if_ne (tgt := 155) hx hb dL_reverts_148 (by decide) (fun c148 => ?_) (fun c148 => ?_)
            · skip
              exact absurd c148 (by decide)
            · skip
              refine lv_iconst (v := 1) hx hb dL_reverts_151 (by decide) ?_
              refine lv_goto (tgt := 156) hx hb dL_reverts_152 (by decide) ?_
              exact p_zret hx hb hr hlk hI hS (by first | decide | omega | (dsimp only; omega)) (by first | decide | omega | (dsimp only; omega)) (by decide) (⟨rfl, mm, rfl, RD.rf hL⟩) dL_reverts_156
      · skip
        exact absurd (by rw [h7]; decide) c89
    · skip
      exact absurd (by rw [h7]; decide) c55
set_option maxHeartbeats 1000000 in
set_option maxRecDepth 100000 in
theorem m_reverts_1g (l : Launch) (hflag : l.stackTraces = false) (G : k_G) (xa xb : Nat) (mm : q_Mem) (z : Int32) (f w : Nat) (hL : LI mm) (hK1 : sp_K mm < 512) (hf : f < 6) (hw : w < sp_W mm) (h7 : mm 7 w = 1) (g : Nat) (hg : g < 6) (hbe : be mm w = nI g) (Z : Nat → Prop) {p : Program} {e : Env} {s : State} {m : MethodId} {args : Array Value} {below : List Frame} {meth : Method} {c : Code} (hx : p.tables.exec = Jvm.exec) (hb : c.code = cL_reverts) (hr : meth.sig.returnType = (some .boolean)) (hF : CallFix p m c cL_reverts 13 s args wsL_law RL) (hlk : meth.locks = false) (hX : p_E0 G Z s) : p_W l G xa xb mm mm Z p e { frames := 13, cells := 1000, slots := 6000, locals := 275 } s m args below meth c 13 20 120 (p_Q2 G xa xb mm (fun v u => v = 1 ∧ ∃ m2, u = (m2, m2) ∧ RD mm m2) Z below args s 1000 6000) [(6, .int (be mm w)), (5, .int (mm 7 w)), (4, .int (nI w)), (3, .int (nI f)), (0, .ref xa), (1, .ref xb), (2, .int z)] 35 [] := by
  intro H locs ls hI hS hl
  refine lv_iload hx hb dL_reverts_35 (lv_at hl 0 rfl) ?_
  refine lv_if_ge (tgt := 44) hx hb dL_reverts_37 (by decide) (fun c37 => ?_) (fun c37 => ?_)
  · skip
    refine lv_aload_n hx hb dL_reverts_44 rfl (lv_at hl 4 rfl) ?_
    refine lv_iload hx hb dL_reverts_45 (lv_at hl 0 rfl) ?_
    refine bo_to (v := (nI g)) (hbe) ?_
    refine p_iVk (fr := 7) (lo := 110) (mc1 := 1) (ms1 := 6) (n := 1) (As := [.int (nI g)]) (rest := []) hF (pv_trust l hflag G xa mm (nI g)  (r0 := (mm 0 g)) (m0 := mm) (v_tru hL hg) (hL.2.1)) p_Em.l ke_X4_trust wd_l_L_45 (by decide) hI hX hS rfl hl.1 rfl (Nat.le_of_ble_eq_true rfl) dL_reverts_47 (by first | decide | omega | (dsimp only; omega)) (fun H locs hI hS => ?_)
    replace hI : p_J G xa xb Z (mm, mm) H := hI
    refine lv_istore (lv' := [(7, .int (mm 0 g)), (6, .int (be mm w)), (5, .int (mm 7 w)), (4, .int (nI w)), (3, .int (nI f)), (0, .ref xa), (1, .ref xb), (2, .int z)]) hx hb dL_reverts_50 hl (by decide) rfl (fun ls hl => ?_)
    refine lv_iload hx hb dL_reverts_52 (lv_at hl 2 rfl) ?_
    refine lv_iconst (v := 1) hx hb dL_reverts_54 (by decide) ?_
    refine lv_icmp_le (tgt := 83) hx hb dL_reverts_55 (by decide) (fun c55 => ?_) (fun c55 => ?_)
    · skip
      have hC : ¬ (¬ mm 7 w < 2 ∧ ¬ be mm w = -1 ∧ ¬ be mm w = nI f ∧ mm 0 (be mm w).toNatClampNeg < mm 0 f) := fun z => z.1 (by rw [h7]; decide)
      refine lv_iconst (v := 0) hx hb dL_reverts_83 (by decide) ?_
      refine lv_istore (lv' := [(8, .int 0), (7, .int (mm 0 g)), (6, .int (be mm w)), (5, .int (mm 7 w)), (4, .int (nI w)), (3, .int (nI f)), (0, .ref xa), (1, .ref xb), (2, .int z)]) hx hb dL_reverts_84 hl (by decide) rfl (fun ls hl => ?_)
      refine lv_iload hx hb dL_reverts_86 (lv_at hl 3 rfl) ?_
      refine lv_iconst (v := 1) hx hb dL_reverts_88 (by decide) ?_
      refine lv_icmp_le (tgt := 108) hx hb dL_reverts_89 (by decide) (fun c89 => ?_) (fun c89 => ?_)
      · skip
        refine lv_iconst (v := 0) hx hb dL_reverts_108 (by decide) ?_
        refine lv_istore (lv' := [(9, .int 0), (8, .int 0), (7, .int (mm 0 g)), (6, .int (be mm w)), (5, .int (mm 7 w)), (4, .int (nI w)), (3, .int (nI f)), (0, .ref xa), (1, .ref xb), (2, .int z)]) hx hb dL_reverts_109 hl (by decide) rfl (fun ls hl => ?_)
        refine lv_aload_n hx hb dL_reverts_111 rfl (lv_at hl 7 rfl) ?_
        refine p_lSk (mc1 := 460) (ms1 := 2760) (fr := 12) (lo := 240) (n := 1) (As := [.ref xa]) (rest := []) hF (m_all l hflag G xa mm hL) p_Em.l ke_L_all wd_l_L_151 (by decide) hI hX hS rfl hl.1 rfl (Nat.le_of_ble_eq_true rfl) dL_reverts_112 (by first | decide | omega | (dsimp only; omega)) (fun H locs hI hS => ?_)
        replace hI : p_J G xa xb Z (mm, mm) H := hI
        refine lv_lstore (lv' := [(10, .long (al mm)), (9, .int 0), (8, .int 0), (7, .int (mm 0 g)), (6, .int (be mm w)), (5, .int (mm 7 w)), (4, .int (nI w)), (3, .int (nI f)), (0, .ref xa), (1, .ref xb), (2, .int z)]) hx hb dL_reverts_115 hl (by decide) rfl (fun ls hl => ?_)
        refine lv_aload_n hx hb dL_reverts_117 rfl (lv_at hl 8 rfl) ?_
        refine lv_aload_n hx hb dL_reverts_118 rfl (lv_at hl 9 rfl) ?_
        refine lv_iconst (v := 3) hx hb dL_reverts_119 (by decide) ?_
        refine lv_iload_n hx hb dL_reverts_120 rfl (lv_at hl 7 rfl) ?_
        refine lv_iload hx hb dL_reverts_121 (lv_at hl 6 rfl) ?_
        refine lv_iconst (v := 0) hx hb dL_reverts_123 (by decide) ?_
        refine p_iSk (mc1 := 8) (ms1 := 38) (fr := 12) (lo := 239) (n := 6) (As := [.ref xa, .ref xb, .int 3, .int (nI f), .int (nI w), .int 0]) (rest := []) hF (m_both (mc := 4) (ms := 19) (p_cx (nm := k_n2) (sp := sp_rev mm (nI f) (nI w)) (rv_no hL hw hf hC) (by decide) cf2 (m_call (fun Z ad h => by rw [← h]; exact m_does_3 l hflag G Z ad mm (nI f) (nI w) 0 hL.1 hK1) (Or.inr rfl))) (p_cx (nm := k_n2) (sp := sp_rev mm (nI f) (nI w)) (rv_no hL hw hf hC) (by decide) cf2 (m_call (fun Z ad h => by rw [← h]; exact m_does_3 l hflag G Z ad mm (nI f) (nI w) 0 hL.1 hK1) (Or.inr rfl)))) p_Em.id ke_L_both wd_l_L_147 (by decide) hI hX hS rfl hl.1 rfl (Nat.le_of_ble_eq_true rfl) dL_reverts_124 (by first | decide | omega | (dsimp only; omega)) (fun H locs hI hS => ?_)
        replace hI : p_J G xa xb Z (mm, mm) H := hI
        refine lv_istore (lv' := [(12, .int (-2100000003)), (10, .long (al mm)), (9, .int 0), (8, .int 0), (7, .int (mm 0 g)), (6, .int (be mm w)), (5, .int (mm 7 w)), (4, .int (nI w)), (3, .int (nI f)), (0, .ref xa), (1, .ref xb), (2, .int z)]) hx hb dL_reverts_127 hl (by decide) rfl (fun ls hl => ?_)
        refine lv_iload hx hb dL_reverts_129 (lv_at hl 3 rfl) ?_
        refine lv_if_ne (tgt := 157) hx hb dL_reverts_131 (by decide) (fun c131 => ?_) (fun c131 => ?_)
        · skip
          exact absurd c131 (by decide)
        · skip
          refine lv_iload hx hb dL_reverts_134 (lv_at hl 0 rfl) ?_
          refine lv_ldc (v := -2100000003) hx hb hF.2.2.2.1 (hF.2.2.2.2 _ wd_x23) dL_reverts_136 ?_
          refine lv_icmp_ne (tgt := 155) hx hb dL_reverts_138 (by decide) (fun c138 => ?_) (fun c138 => ?_)
          · skip
            exact absurd rfl c138
          · skip
            refine lv_aload_n hx hb dL_reverts_141 rfl (lv_at hl 9 rfl) ?_
            refine p_lSk (mc1 := 460) (ms1 := 2760) (fr := 12) (lo := 240) (n := 1) (As := [.ref xa]) (rest := []) hF (m_all l hflag G xa mm hL) p_Em.l ke_L_all wd_l_L_151 (by decide) hI hX hS rfl hl.1 rfl (Nat.le_of_ble_eq_true rfl) dL_reverts_142 (by first | decide | omega | (dsimp only; omega)) (fun H locs hI hS => ?_)
            replace hI : p_J G xa xb Z (mm, mm) H := hI
            refine lv_lload hx hb dL_reverts_145 (lv_at hl 1 rfl) ?_
            refine W.lcmp hx hb dL_reverts_147 ?_
            refine bo_to (v := 0) (by simp [lg_cmp]) ?_
            refine lv_if_ne (tgt := 155) hx hb dL_reverts_148 (by decide) (fun c148 => ?_) (fun c148 => ?_)
            · skip
              exact absurd c148 (by decide)
            · skip
              refine lv_iconst (v := 1) hx hb dL_reverts_151 (by decide) ?_
              refine lv_goto (tgt := 156) hx hb dL_reverts_152 (by decide) ?_
              exact p_zret hx hb hr hlk hI hS (by first | decide | omega | (dsimp only; omega)) (by first | decide | omega | (dsimp only; omega)) (by decide) (⟨rfl, mm, rfl, RD.rf hL⟩) dL_reverts_156
      · skip
        exact absurd (by rw [h7]; decide) c89
    · skip
      exact absurd (by rw [h7]; decide) c55
  · skip
    exact absurd (by rw [hbe]; exact nI_pos' (by omega)) c37
set_option maxHeartbeats 1000000 in
set_option maxRecDepth 100000 in
theorem m_reverts_2n (l : Launch) (hflag : l.stackTraces = false) (G : k_G) (xa xb : Nat) (mm : q_Mem) (z : Int32) (f w : Nat) (hL : LI mm) (hK1 : sp_K mm < 512) (hf : f < 6) (hw : w < sp_W mm) (h7 : ¬ mm 7 w < 2) (h7b : ¬ mm 7 w ≤ 1) (hbe : be mm w = -1) (Z : Nat → Prop) {p : Program} {e : Env} {s : State} {m : MethodId} {args : Array Value} {below : List Frame} {meth : Method} {c : Code} (hx : p.tables.exec = Jvm.exec) (hb : c.code = cL_reverts) (hr : meth.sig.returnType = (some .boolean)) (hF : CallFix p m c cL_reverts 13 s args wsL_law RL) (hlk : meth.locks = false) (hX : p_E0 G Z s) : p_W l G xa xb mm mm Z p e { frames := 13, cells := 1000, slots := 6000, locals := 275 } s m args below meth c 13 20 120 (p_Q2 G xa xb mm (fun v u => v = 1 ∧ ∃ m2, u = (m2, m2) ∧ RD mm m2) Z below args s 1000 6000) [(6, .int (be mm w)), (5, .int (mm 7 w)), (4, .int (nI w)), (3, .int (nI f)), (0, .ref xa), (1, .ref xb), (2, .int z)] 35 [] := by
  intro H locs ls hI hS hl
  refine lv_iload hx hb dL_reverts_35 (lv_at hl 0 rfl) ?_
  refine lv_if_ge (tgt := 44) hx hb dL_reverts_37 (by decide) (fun c37 => ?_) (fun c37 => ?_)
  · skip
    exact absurd c37 (by rw [hbe]; decide)
  · skip
    refine lv_iconst (v := 0) hx hb dL_reverts_40 (by decide) ?_
    refine lv_goto (tgt := 50) hx hb dL_reverts_41 (by decide) ?_
    refine lv_istore (lv' := [(7, .int 0), (6, .int (be mm w)), (5, .int (mm 7 w)), (4, .int (nI w)), (3, .int (nI f)), (0, .ref xa), (1, .ref xb), (2, .int z)]) hx hb dL_reverts_50 hl (by decide) rfl (fun ls hl => ?_)
    refine lv_iload hx hb dL_reverts_52 (lv_at hl 2 rfl) ?_
    refine lv_iconst (v := 1) hx hb dL_reverts_54 (by decide) ?_
    refine lv_icmp_le (tgt := 83) hx hb dL_reverts_55 (by decide) (fun c55 => ?_) (fun c55 => ?_)
    · skip
      exact absurd c55 h7b
    · skip
      refine lv_iload hx hb dL_reverts_58 (lv_at hl 1 rfl) ?_
      refine lv_if_lt (tgt := 83) hx hb dL_reverts_60 (by decide) (fun c60 => ?_) (fun c60 => ?_)
      · skip
        have hC : ¬ (¬ mm 7 w < 2 ∧ ¬ be mm w = -1 ∧ ¬ be mm w = nI f ∧ mm 0 (be mm w).toNatClampNeg < mm 0 f) := fun z => z.2.1 hbe
        refine lv_iconst (v := 0) hx hb dL_reverts_83 (by decide) ?_
        refine lv_istore (lv' := [(8, .int 0), (7, .int 0), (6, .int (be mm w)), (5, .int (mm 7 w)), (4, .int (nI w)), (3, .int (nI f)), (0, .ref xa), (1, .ref xb), (2, .int z)]) hx hb dL_reverts_84 hl (by decide) rfl (fun ls hl => ?_)
        refine lv_iload hx hb dL_reverts_86 (lv_at hl 3 rfl) ?_
        refine lv_iconst (v := 1) hx hb dL_reverts_88 (by decide) ?_
        refine lv_icmp_le (tgt := 108) hx hb dL_reverts_89 (by decide) (fun c89 => ?_) (fun c89 => ?_)
        · skip
          exact absurd c89 h7b
        · skip
          obtain ⟨k, d, e0, hk, hd, he, vb, vk, vd, v10⟩ := v_back hL hw h7
          refine lv_aload_n hx hb dL_reverts_92 rfl (lv_at hl 6 rfl) ?_
          refine lv_iload hx hb dL_reverts_93 (lv_at hl 4 rfl) ?_
          refine lv_iload hx hb dL_reverts_95 (lv_at hl 3 rfl) ?_
          refine lv_iconst (v := 2) hx hb dL_reverts_97 (by decide) ?_
          refine lv_isub hx hb dL_reverts_98 ?_
          refine p_iVk (fr := 7) (lo := 112) (mc1 := 2) (ms1 := 12) (n := 2) (As := [.int (nI w), .int ((mm 7 w) - 2)]) (rest := []) hF (pv_version l hflag G xa mm (nI w) ((mm 7 w) - 2) hL.1 (r0 := (nI (100 * k + 10 * d + e0))) (m0 := mm) (vb) (hL.2.1)) p_Em.l ke_X4_version wd_l_L_52 (by decide) hI hX hS rfl hl.1 rfl (Nat.le_of_ble_eq_true rfl) dL_reverts_99 (by first | decide | omega | (dsimp only; omega)) (fun H locs hI hS => ?_)
          replace hI : p_J G xa xb Z (mm, mm) H := hI
          refine lv_bipush (v := 10) hx hb dL_reverts_102 (by decide) ?_
          refine lv_idiv hx hb dL_reverts_104 (by decide) ?_
          refine bo_to (v := (nI (10 * k + d))) (v10) ?_
          refine lv_goto (tgt := 109) hx hb dL_reverts_105 (by decide) ?_
          refine lv_istore (lv' := [(9, .int (nI (10 * k + d))), (8, .int 0), (7, .int 0), (6, .int (be mm w)), (5, .int (mm 7 w)), (4, .int (nI w)), (3, .int (nI f)), (0, .ref xa), (1, .ref xb), (2, .int z)]) hx hb dL_reverts_109 hl (by decide) rfl (fun ls hl => ?_)
          refine lv_aload_n hx hb dL_reverts_111 rfl (lv_at hl 7 rfl) ?_
          refine p_lSk (mc1 := 460) (ms1 := 2760) (fr := 12) (lo := 240) (n := 1) (As := [.ref xa]) (rest := []) hF (m_all l hflag G xa mm hL) p_Em.l ke_L_all wd_l_L_151 (by decide) hI hX hS rfl hl.1 rfl (Nat.le_of_ble_eq_true rfl) dL_reverts_112 (by first | decide | omega | (dsimp only; omega)) (fun H locs hI hS => ?_)
          replace hI : p_J G xa xb Z (mm, mm) H := hI
          refine lv_lstore (lv' := [(10, .long (al mm)), (9, .int (nI (10 * k + d))), (8, .int 0), (7, .int 0), (6, .int (be mm w)), (5, .int (mm 7 w)), (4, .int (nI w)), (3, .int (nI f)), (0, .ref xa), (1, .ref xb), (2, .int z)]) hx hb dL_reverts_115 hl (by decide) rfl (fun ls hl => ?_)
          refine lv_aload_n hx hb dL_reverts_117 rfl (lv_at hl 8 rfl) ?_
          refine lv_aload_n hx hb dL_reverts_118 rfl (lv_at hl 9 rfl) ?_
          refine lv_iconst (v := 3) hx hb dL_reverts_119 (by decide) ?_
          refine lv_iload_n hx hb dL_reverts_120 rfl (lv_at hl 7 rfl) ?_
          refine lv_iload hx hb dL_reverts_121 (lv_at hl 6 rfl) ?_
          refine lv_iconst (v := 0) hx hb dL_reverts_123 (by decide) ?_
          refine p_iSk (mc1 := 8) (ms1 := 38) (fr := 12) (lo := 239) (n := 6) (As := [.ref xa, .ref xb, .int 3, .int (nI f), .int (nI w), .int 0]) (rest := []) hF (m_both (mc := 4) (ms := 19) (p_cx (nm := k_n2) (sp := sp_rev mm (nI f) (nI w)) (rv_no hL hw hf hC) (by decide) cf2 (m_call (fun Z ad h => by rw [← h]; exact m_does_3 l hflag G Z ad mm (nI f) (nI w) 0 hL.1 hK1) (Or.inr rfl))) (p_cx (nm := k_n2) (sp := sp_rev mm (nI f) (nI w)) (rv_no hL hw hf hC) (by decide) cf2 (m_call (fun Z ad h => by rw [← h]; exact m_does_3 l hflag G Z ad mm (nI f) (nI w) 0 hL.1 hK1) (Or.inr rfl)))) p_Em.id ke_L_both wd_l_L_147 (by decide) hI hX hS rfl hl.1 rfl (Nat.le_of_ble_eq_true rfl) dL_reverts_124 (by first | decide | omega | (dsimp only; omega)) (fun H locs hI hS => ?_)
          replace hI : p_J G xa xb Z (mm, mm) H := hI
          refine lv_istore (lv' := [(12, .int (-2100000003)), (10, .long (al mm)), (9, .int (nI (10 * k + d))), (8, .int 0), (7, .int 0), (6, .int (be mm w)), (5, .int (mm 7 w)), (4, .int (nI w)), (3, .int (nI f)), (0, .ref xa), (1, .ref xb), (2, .int z)]) hx hb dL_reverts_127 hl (by decide) rfl (fun ls hl => ?_)
          refine lv_iload hx hb dL_reverts_129 (lv_at hl 3 rfl) ?_
          refine lv_if_ne (tgt := 157) hx hb dL_reverts_131 (by decide) (fun c131 => ?_) (fun c131 => ?_)
          · skip
            exact absurd c131 (by decide)
          · skip
            refine lv_iload hx hb dL_reverts_134 (lv_at hl 0 rfl) ?_
            refine lv_ldc (v := -2100000003) hx hb hF.2.2.2.1 (hF.2.2.2.2 _ wd_x23) dL_reverts_136 ?_
            refine lv_icmp_ne (tgt := 155) hx hb dL_reverts_138 (by decide) (fun c138 => ?_) (fun c138 => ?_)
            · skip
              exact absurd rfl c138
            · skip
              refine lv_aload_n hx hb dL_reverts_141 rfl (lv_at hl 9 rfl) ?_
              refine p_lSk (mc1 := 460) (ms1 := 2760) (fr := 12) (lo := 240) (n := 1) (As := [.ref xa]) (rest := []) hF (m_all l hflag G xa mm hL) p_Em.l ke_L_all wd_l_L_151 (by decide) hI hX hS rfl hl.1 rfl (Nat.le_of_ble_eq_true rfl) dL_reverts_142 (by first | decide | omega | (dsimp only; omega)) (fun H locs hI hS => ?_)
              replace hI : p_J G xa xb Z (mm, mm) H := hI
              refine lv_lload hx hb dL_reverts_145 (lv_at hl 1 rfl) ?_
              refine W.lcmp hx hb dL_reverts_147 ?_
              refine bo_to (v := 0) (by simp [lg_cmp]) ?_
              refine lv_if_ne (tgt := 155) hx hb dL_reverts_148 (by decide) (fun c148 => ?_) (fun c148 => ?_)
              · skip
                exact absurd c148 (by decide)
              · skip
                refine lv_iconst (v := 1) hx hb dL_reverts_151 (by decide) ?_
                refine lv_goto (tgt := 156) hx hb dL_reverts_152 (by decide) ?_
                exact p_zret hx hb hr hlk hI hS (by first | decide | omega | (dsimp only; omega)) (by first | decide | omega | (dsimp only; omega)) (by decide) (⟨rfl, mm, rfl, RD.rf hL⟩) dL_reverts_156
      · skip
        exact absurd (by rw [hbe]; decide) c60
set_option maxHeartbeats 1000000 in
set_option maxRecDepth 100000 in
theorem m_reverts_may (l : Launch) (hflag : l.stackTraces = false) (G : k_G) (xa xb : Nat) (mm : q_Mem) (z : Int32) (f w : Nat) (hL : LI mm) (hK1 : sp_K mm < 512) (hf : f < 6) (hw : w < sp_W mm) (g k d : Nat) (hg : g < 6) (hk : k < 4) (hd : d < 3) (h7 : ¬ mm 7 w < 2) (hbe : be mm w = nI g) (hgf : ¬ g = f) (ht : mm 0 g < mm 0 f) (vk : sp_vk (mm 11 (sp_A mm (sp_L mm w))) = nI k) (vd : sp_vd (mm 11 (sp_A mm (sp_L mm w))) = nI d) (Z : Nat → Prop) {p : Program} {e : Env} {s : State} {m : MethodId} {args : Array Value} {below : List Frame} {meth : Method} {c : Code} (hx : p.tables.exec = Jvm.exec) (hb : c.code = cL_reverts) (hr : meth.sig.returnType = (some .boolean)) (hF : CallFix p m c cL_reverts 13 s args wsL_law RL) (hlk : meth.locks = false) (hX : p_E0 G Z s) : p_W l G xa xb mm mm Z p e { frames := 13, cells := 1000, slots := 6000, locals := 275 } s m args below meth c 13 40 240 (p_Q2 G xa xb mm (fun v u => v = 1 ∧ ∃ m2, u = (m2, m2) ∧ RD mm m2) Z below args s 1000 6000) [(9, .int (nI (10 * k + d))), (8, .int 1), (7, .int (mm 0 g)), (6, .int (be mm w)), (5, .int (mm 7 w)), (4, .int (nI w)), (3, .int (nI f)), (0, .ref xa), (1, .ref xb), (2, .int z)] 111 [] := by
  intro H locs ls hI hS hl
  obtain ⟨tt, htt, et⟩ := hL.2.2.2.1 g hg
  obtain ⟨hM, hMK, hMW, hT, hV7, hV9, n9, hB⟩ := rv_facts hL hK1 hw hk hd hf et
  have hMw : w < sp_W (sp_tru (sp_make mm w (nI k) (nI d) (nI f)) g (-10)) := by rw [hMW]; exact hw
  refine lv_aload_n hx hb dL_reverts_111 rfl (lv_at hl 7 rfl) ?_
  refine p_lSk (mc1 := 460) (ms1 := 2760) (fr := 12) (lo := 240) (n := 1) (As := [.ref xa]) (rest := []) hF (m_all l hflag G xa mm hL) p_Em.l ke_L_all wd_l_L_151 (by decide) hI hX hS rfl hl.1 rfl (Nat.le_of_ble_eq_true rfl) dL_reverts_112 (by first | decide | omega | (dsimp only; omega)) (fun H locs hI hS => ?_)
  replace hI : p_J G xa xb Z (mm, mm) H := hI
  refine lv_lstore (lv' := [(10, .long (al mm)), (9, .int (nI (10 * k + d))), (8, .int 1), (7, .int (mm 0 g)), (6, .int (be mm w)), (5, .int (mm 7 w)), (4, .int (nI w)), (3, .int (nI f)), (0, .ref xa), (1, .ref xb), (2, .int z)]) hx hb dL_reverts_115 hl (by decide) rfl (fun ls hl => ?_)
  refine lv_aload_n hx hb dL_reverts_117 rfl (lv_at hl 8 rfl) ?_
  refine lv_aload_n hx hb dL_reverts_118 rfl (lv_at hl 9 rfl) ?_
  refine lv_iconst (v := 3) hx hb dL_reverts_119 (by decide) ?_
  refine lv_iload_n hx hb dL_reverts_120 rfl (lv_at hl 7 rfl) ?_
  refine lv_iload hx hb dL_reverts_121 (lv_at hl 6 rfl) ?_
  refine lv_iconst (v := 0) hx hb dL_reverts_123 (by decide) ?_
  refine p_iSk (mc1 := 8) (ms1 := 38) (fr := 12) (lo := 239) (n := 6) (As := [.ref xa, .ref xb, .int 3, .int (nI f), .int (nI w), .int 0]) (rest := []) hF (m_both (mc := 4) (ms := 19) (p_cv (nm := k_n2) (sp := sp_rev mm (nI f) (nI w)) (cl_ok ((by rw [rv_yes hL hw hf hg h7 hbe hgf ht, vk, vd])) (hM.2.1)) (m_call (fun Z ad h => by rw [← h]; exact m_does_3 l hflag G Z ad mm (nI f) (nI w) 0 hL.1 hK1) (Or.inr rfl))) (p_cv (nm := k_n2) (sp := sp_rev mm (nI f) (nI w)) (cl_ok ((by rw [rv_yes hL hw hf hg h7 hbe hgf ht, vk, vd])) (hM.2.1)) (m_call (fun Z ad h => by rw [← h]; exact m_does_3 l hflag G Z ad mm (nI f) (nI w) 0 hL.1 hK1) (Or.inr rfl)))) p_Em.id ke_L_both wd_l_L_147 (by decide) hI hX hS rfl hl.1 rfl (Nat.le_of_ble_eq_true rfl) dL_reverts_124 (by first | decide | omega | (dsimp only; omega)) (fun H locs hI hS => ?_)
  replace hI : p_J G xa xb Z ((sp_tru (sp_make mm w (nI k) (nI d) (nI f)) g (-10)), (sp_tru (sp_make mm w (nI k) (nI d) (nI f)) g (-10))) H := hI
  refine lv_istore (lv' := [(12, .int ((sp_tru (sp_make mm w (nI k) (nI d) (nI f)) g (-10)) 0 g)), (10, .long (al mm)), (9, .int (nI (10 * k + d))), (8, .int 1), (7, .int (mm 0 g)), (6, .int (be mm w)), (5, .int (mm 7 w)), (4, .int (nI w)), (3, .int (nI f)), (0, .ref xa), (1, .ref xb), (2, .int z)]) hx hb dL_reverts_127 hl (by decide) rfl (fun ls hl => ?_)
  refine lv_iload hx hb dL_reverts_129 (lv_at hl 3 rfl) ?_
  refine lv_if_ne (tgt := 157) hx hb dL_reverts_131 (by decide) (fun c131 => ?_) (fun c131 => ?_)
  · skip
    refine lv_iload hx hb dL_reverts_157 (lv_at hl 0 rfl) ?_
    refine lv_iload hx hb dL_reverts_159 (lv_at hl 4 rfl) ?_
    refine lv_bipush (v := 10) hx hb dL_reverts_161 (by decide) ?_
    refine lv_icmp_ge (tgt := 170) hx hb dL_reverts_163 (by decide) (fun cd => ?_) (fun cd => ?_)
    · skip
      refine lv_iload hx hb dL_reverts_170 (lv_at hl 4 rfl) ?_
      refine lv_bipush (v := 10) hx hb dL_reverts_172 (by decide) ?_
      refine lv_isub hx hb dL_reverts_174 ?_
      refine lv_icmp_ne (tgt := 242) hx hb dL_reverts_175 (by decide) (fun c175 => ?_) (fun c175 => ?_)
      · skip
        exact absurd (hT.trans ((lim_10 htt).trans ((if_neg (fun z => absurd cd (by rw [et]; exact bo_nle z))).trans (by rw [et])))) c175
      · skip
        refine lv_aload_n hx hb dL_reverts_178 rfl (lv_at hl 9 rfl) ?_
        refine lv_iload hx hb dL_reverts_179 (lv_at hl 5 rfl) ?_
        refine bo_to (v := (nI g)) (hbe) ?_
        refine p_iVk (fr := 7) (lo := 110) (mc1 := 1) (ms1 := 6) (n := 1) (As := [.int (nI g)]) (rest := []) hF (pv_trust l hflag G xa (sp_tru (sp_make mm w (nI k) (nI d) (nI f)) g (-10)) (nI g)  (r0 := ((sp_tru (sp_make mm w (nI k) (nI d) (nI f)) g (-10)) 0 g)) (m0 := (sp_tru (sp_make mm w (nI k) (nI d) (nI f)) g (-10))) (v_tru hM hg) (hM.2.1)) p_Em.l ke_X4_trust wd_l_L_45 (by decide) hI hX hS rfl hl.1 rfl (Nat.le_of_ble_eq_true rfl) dL_reverts_181 (by first | decide | omega | (dsimp only; omega)) (fun H locs hI hS => ?_)
        replace hI : p_J G xa xb Z ((sp_tru (sp_make mm w (nI k) (nI d) (nI f)) g (-10)), (sp_tru (sp_make mm w (nI k) (nI d) (nI f)) g (-10))) H := hI
        refine lv_iload hx hb dL_reverts_184 (lv_at hl 0 rfl) ?_
        refine lv_icmp_ne (tgt := 242) hx hb dL_reverts_186 (by decide) (fun c186 => ?_) (fun c186 => ?_)
        · skip
          exact absurd rfl c186
        · skip
          refine lv_aload_n hx hb dL_reverts_189 rfl (lv_at hl 9 rfl) ?_
          refine lv_iload hx hb dL_reverts_190 (lv_at hl 7 rfl) ?_
          refine p_iVk (fr := 7) (lo := 111) (mc1 := 1) (ms1 := 6) (n := 1) (As := [.int (nI w)]) (rest := []) hF (pv_versions l hflag G xa (sp_tru (sp_make mm w (nI k) (nI d) (nI f)) g (-10)) (nI w) hM.1 (r0 := ((sp_tru (sp_make mm w (nI k) (nI d) (nI f)) g (-10)) 7 w)) (m0 := (sp_tru (sp_make mm w (nI k) (nI d) (nI f)) g (-10))) (v_of hM hMw) (hM.2.1)) p_Em.l ke_X4_versions wd_l_L_49 (by decide) hI hX hS rfl hl.1 rfl (Nat.le_of_ble_eq_true rfl) dL_reverts_192 (by first | decide | omega | (dsimp only; omega)) (fun H locs hI hS => ?_)
          replace hI : p_J G xa xb Z ((sp_tru (sp_make mm w (nI k) (nI d) (nI f)) g (-10)), (sp_tru (sp_make mm w (nI k) (nI d) (nI f)) g (-10))) H := hI
          refine lv_iload hx hb dL_reverts_195 (lv_at hl 6 rfl) ?_
          refine lv_iconst (v := 1) hx hb dL_reverts_197 (by decide) ?_
          refine lv_iadd hx hb dL_reverts_198 ?_
          refine lv_icmp_ne (tgt := 242) hx hb dL_reverts_199 (by decide) (fun c199 => ?_) (fun c199 => ?_)
          · skip
            exact absurd hV7 c199
          · skip
            refine lv_aload_n hx hb dL_reverts_202 rfl (lv_at hl 9 rfl) ?_
            refine lv_iload hx hb dL_reverts_203 (lv_at hl 7 rfl) ?_
            refine lv_iload hx hb dL_reverts_205 (lv_at hl 6 rfl) ?_
            refine p_iVk (fr := 7) (lo := 112) (mc1 := 2) (ms1 := 12) (n := 2) (As := [.int (nI w), .int (mm 7 w)]) (rest := []) hF (pv_version l hflag G xa (sp_tru (sp_make mm w (nI k) (nI d) (nI f)) g (-10)) (nI w) (mm 7 w) hM.1 (r0 := (vc (sp_tru (sp_make mm w (nI k) (nI d) (nI f)) g (-10)) w)) (m0 := (sp_tru (sp_make mm w (nI k) (nI d) (nI f)) g (-10))) ((by rw [show mm 7 w = (sp_tru (sp_make mm w (nI k) (nI d) (nI f)) g (-10)) 7 w - 1 from by rw [hV7]; exact (i_pm _).symm]; exact v_ver hM hMw)) (hM.2.1)) p_Em.l ke_X4_version wd_l_L_52 (by decide) hI hX hS rfl hl.1 rfl (Nat.le_of_ble_eq_true rfl) dL_reverts_207 (by first | decide | omega | (dsimp only; omega)) (fun H locs hI hS => ?_)
            replace hI : p_J G xa xb Z ((sp_tru (sp_make mm w (nI k) (nI d) (nI f)) g (-10)), (sp_tru (sp_make mm w (nI k) (nI d) (nI f)) g (-10))) H := hI
            refine bo_to (v := (nI (100 * k + 10 * d + (f + 1)))) (n9) ?_
            refine lv_bipush (v := 10) hx hb dL_reverts_210 (by decide) ?_
            refine lv_idiv hx hb dL_reverts_212 (by decide) ?_
            refine bo_to (v := (nI (10 * k + d))) (by rw [show (10 : Int32) = nI 10 from rfl, pk_div (by omega) (by decide) (by decide)]; congr 1; omega) ?_
            refine lv_iload hx hb dL_reverts_213 (lv_at hl 2 rfl) ?_
            refine lv_icmp_ne (tgt := 242) hx hb dL_reverts_215 (by decide) (fun c215 => ?_) (fun c215 => ?_)
            · skip
              exact absurd rfl c215
            · skip
              refine lv_aload_n hx hb dL_reverts_218 rfl (lv_at hl 9 rfl) ?_
              refine lv_iload hx hb dL_reverts_219 (lv_at hl 7 rfl) ?_
              refine p_iSk (mc1 := 3) (ms1 := 18) (fr := 8) (lo := 140) (n := 2) (As := [.ref xa, .int (nI w)]) (rest := []) hF (m_by l hflag G xa (sp_tru (sp_make mm w (nI k) (nI d) (nI f)) g (-10)) w hM hMw) p_Em.l ke_L_by wd_l_L_155 (by decide) hI hX hS rfl hl.1 rfl (Nat.le_of_ble_eq_true rfl) dL_reverts_221 (by first | decide | omega | (dsimp only; omega)) (fun H locs hI hS => ?_)
              replace hI : p_J G xa xb Z ((sp_tru (sp_make mm w (nI k) (nI d) (nI f)) g (-10)), (sp_tru (sp_make mm w (nI k) (nI d) (nI f)) g (-10))) H := hI
              refine lv_iload_n hx hb dL_reverts_224 rfl (lv_at hl 8 rfl) ?_
              refine lv_icmp_ne (tgt := 242) hx hb dL_reverts_225 (by decide) (fun c225 => ?_) (fun c225 => ?_)
              · skip
                exact absurd hB c225
              · skip
                refine lv_aload_n hx hb dL_reverts_228 rfl (lv_at hl 9 rfl) ?_
                refine lv_iload hx hb dL_reverts_229 (lv_at hl 7 rfl) ?_
                refine p_iVk (fr := 7) (lo := 111) (mc1 := 1) (ms1 := 6) (n := 1) (As := [.int (nI w)]) (rest := []) hF (pv_waiting l hflag G xa (sp_tru (sp_make mm w (nI k) (nI d) (nI f)) g (-10)) (nI w) hM.1 (r0 := ((sp_tru (sp_make mm w (nI k) (nI d) (nI f)) g (-10)) 9 w)) (m0 := (sp_tru (sp_make mm w (nI k) (nI d) (nI f)) g (-10))) (v_of hM hMw) (hM.2.1)) p_Em.l ke_X4_waiting wd_l_L_58 (by decide) hI hX hS rfl hl.1 rfl (Nat.le_of_ble_eq_true rfl) dL_reverts_231 (by first | decide | omega | (dsimp only; omega)) (fun H locs hI hS => ?_)
                replace hI : p_J G xa xb Z ((sp_tru (sp_make mm w (nI k) (nI d) (nI f)) g (-10)), (sp_tru (sp_make mm w (nI k) (nI d) (nI f)) g (-10))) H := hI
                refine lv_iconst (v := (-1)) hx hb dL_reverts_234 (by decide) ?_
                refine lv_icmp_ne (tgt := 242) hx hb dL_reverts_235 (by decide) (fun c235 => ?_) (fun c235 => ?_)
                · skip
                  exact absurd hV9 c235
                · skip
                  refine lv_iconst (v := 1) hx hb dL_reverts_238 (by decide) ?_
                  refine lv_goto (tgt := 243) hx hb dL_reverts_239 (by decide) ?_
                  exact p_zret hx hb hr hlk hI hS (by first | decide | omega | (dsimp only; omega)) (by first | decide | omega | (dsimp only; omega)) (by decide) (⟨rfl, _, rfl, hM, hMK⟩) dL_reverts_243
    · skip
      refine lv_iconst (v := 0) hx hb dL_reverts_166 (by decide) ?_
      refine lv_goto (tgt := 175) hx hb dL_reverts_167 (by decide) ?_
      refine lv_icmp_ne (tgt := 242) hx hb dL_reverts_175 (by decide) (fun c175 => ?_) (fun c175 => ?_)
      · skip
        exact absurd (hT.trans ((lim_10 htt).trans (if_pos (by rw [← et]; exact bo_le cd)))) c175
      · skip
        refine lv_aload_n hx hb dL_reverts_178 rfl (lv_at hl 9 rfl) ?_
        refine lv_iload hx hb dL_reverts_179 (lv_at hl 5 rfl) ?_
        refine bo_to (v := (nI g)) (hbe) ?_
        refine p_iVk (fr := 7) (lo := 110) (mc1 := 1) (ms1 := 6) (n := 1) (As := [.int (nI g)]) (rest := []) hF (pv_trust l hflag G xa (sp_tru (sp_make mm w (nI k) (nI d) (nI f)) g (-10)) (nI g)  (r0 := ((sp_tru (sp_make mm w (nI k) (nI d) (nI f)) g (-10)) 0 g)) (m0 := (sp_tru (sp_make mm w (nI k) (nI d) (nI f)) g (-10))) (v_tru hM hg) (hM.2.1)) p_Em.l ke_X4_trust wd_l_L_45 (by decide) hI hX hS rfl hl.1 rfl (Nat.le_of_ble_eq_true rfl) dL_reverts_181 (by first | decide | omega | (dsimp only; omega)) (fun H locs hI hS => ?_)
        replace hI : p_J G xa xb Z ((sp_tru (sp_make mm w (nI k) (nI d) (nI f)) g (-10)), (sp_tru (sp_make mm w (nI k) (nI d) (nI f)) g (-10))) H := hI
        refine lv_iload hx hb dL_reverts_184 (lv_at hl 0 rfl) ?_
        refine lv_icmp_ne (tgt := 242) hx hb dL_reverts_186 (by decide) (fun c186 => ?_) (fun c186 => ?_)
        · skip
          exact absurd rfl c186
        · skip
          refine lv_aload_n hx hb dL_reverts_189 rfl (lv_at hl 9 rfl) ?_
          refine lv_iload hx hb dL_reverts_190 (lv_at hl 7 rfl) ?_
          refine p_iVk (fr := 7) (lo := 111) (mc1 := 1) (ms1 := 6) (n := 1) (As := [.int (nI w)]) (rest := []) hF (pv_versions l hflag G xa (sp_tru (sp_make mm w (nI k) (nI d) (nI f)) g (-10)) (nI w) hM.1 (r0 := ((sp_tru (sp_make mm w (nI k) (nI d) (nI f)) g (-10)) 7 w)) (m0 := (sp_tru (sp_make mm w (nI k) (nI d) (nI f)) g (-10))) (v_of hM hMw) (hM.2.1)) p_Em.l ke_X4_versions wd_l_L_49 (by decide) hI hX hS rfl hl.1 rfl (Nat.le_of_ble_eq_true rfl) dL_reverts_192 (by first | decide | omega | (dsimp only; omega)) (fun H locs hI hS => ?_)
          replace hI : p_J G xa xb Z ((sp_tru (sp_make mm w (nI k) (nI d) (nI f)) g (-10)), (sp_tru (sp_make mm w (nI k) (nI d) (nI f)) g (-10))) H := hI
          refine lv_iload hx hb dL_reverts_195 (lv_at hl 6 rfl) ?_
          refine lv_iconst (v := 1) hx hb dL_reverts_197 (by decide) ?_
          refine lv_iadd hx hb dL_reverts_198 ?_
          refine lv_icmp_ne (tgt := 242) hx hb dL_reverts_199 (by decide) (fun c199 => ?_) (fun c199 => ?_)
          · skip
            exact absurd hV7 c199
          · skip
            refine lv_aload_n hx hb dL_reverts_202 rfl (lv_at hl 9 rfl) ?_
            refine lv_iload hx hb dL_reverts_203 (lv_at hl 7 rfl) ?_
            refine lv_iload hx hb dL_reverts_205 (lv_at hl 6 rfl) ?_
            refine p_iVk (fr := 7) (lo := 112) (mc1 := 2) (ms1 := 12) (n := 2) (As := [.int (nI w), .int (mm 7 w)]) (rest := []) hF (pv_version l hflag G xa (sp_tru (sp_make mm w (nI k) (nI d) (nI f)) g (-10)) (nI w) (mm 7 w) hM.1 (r0 := (vc (sp_tru (sp_make mm w (nI k) (nI d) (nI f)) g (-10)) w)) (m0 := (sp_tru (sp_make mm w (nI k) (nI d) (nI f)) g (-10))) ((by rw [show mm 7 w = (sp_tru (sp_make mm w (nI k) (nI d) (nI f)) g (-10)) 7 w - 1 from by rw [hV7]; exact (i_pm _).symm]; exact v_ver hM hMw)) (hM.2.1)) p_Em.l ke_X4_version wd_l_L_52 (by decide) hI hX hS rfl hl.1 rfl (Nat.le_of_ble_eq_true rfl) dL_reverts_207 (by first | decide | omega | (dsimp only; omega)) (fun H locs hI hS => ?_)
            replace hI : p_J G xa xb Z ((sp_tru (sp_make mm w (nI k) (nI d) (nI f)) g (-10)), (sp_tru (sp_make mm w (nI k) (nI d) (nI f)) g (-10))) H := hI
            refine bo_to (v := (nI (100 * k + 10 * d + (f + 1)))) (n9) ?_
            refine lv_bipush (v := 10) hx hb dL_reverts_210 (by decide) ?_
            refine lv_idiv hx hb dL_reverts_212 (by decide) ?_
            refine bo_to (v := (nI (10 * k + d))) (by rw [show (10 : Int32) = nI 10 from rfl, pk_div (by omega) (by decide) (by decide)]; congr 1; omega) ?_
            refine lv_iload hx hb dL_reverts_213 (lv_at hl 2 rfl) ?_
            refine lv_icmp_ne (tgt := 242) hx hb dL_reverts_215 (by decide) (fun c215 => ?_) (fun c215 => ?_)
            · skip
              exact absurd rfl c215
            · skip
              refine lv_aload_n hx hb dL_reverts_218 rfl (lv_at hl 9 rfl) ?_
              refine lv_iload hx hb dL_reverts_219 (lv_at hl 7 rfl) ?_
              refine p_iSk (mc1 := 3) (ms1 := 18) (fr := 8) (lo := 140) (n := 2) (As := [.ref xa, .int (nI w)]) (rest := []) hF (m_by l hflag G xa (sp_tru (sp_make mm w (nI k) (nI d) (nI f)) g (-10)) w hM hMw) p_Em.l ke_L_by wd_l_L_155 (by decide) hI hX hS rfl hl.1 rfl (Nat.le_of_ble_eq_true rfl) dL_reverts_221 (by first | decide | omega | (dsimp only; omega)) (fun H locs hI hS => ?_)
              replace hI : p_J G xa xb Z ((sp_tru (sp_make mm w (nI k) (nI d) (nI f)) g (-10)), (sp_tru (sp_make mm w (nI k) (nI d) (nI f)) g (-10))) H := hI
              refine lv_iload_n hx hb dL_reverts_224 rfl (lv_at hl 8 rfl) ?_
              refine lv_icmp_ne (tgt := 242) hx hb dL_reverts_225 (by decide) (fun c225 => ?_) (fun c225 => ?_)
              · skip
                exact absurd hB c225
              · skip
                refine lv_aload_n hx hb dL_reverts_228 rfl (lv_at hl 9 rfl) ?_
                refine lv_iload hx hb dL_reverts_229 (lv_at hl 7 rfl) ?_
                refine p_iVk (fr := 7) (lo := 111) (mc1 := 1) (ms1 := 6) (n := 1) (As := [.int (nI w)]) (rest := []) hF (pv_waiting l hflag G xa (sp_tru (sp_make mm w (nI k) (nI d) (nI f)) g (-10)) (nI w) hM.1 (r0 := ((sp_tru (sp_make mm w (nI k) (nI d) (nI f)) g (-10)) 9 w)) (m0 := (sp_tru (sp_make mm w (nI k) (nI d) (nI f)) g (-10))) (v_of hM hMw) (hM.2.1)) p_Em.l ke_X4_waiting wd_l_L_58 (by decide) hI hX hS rfl hl.1 rfl (Nat.le_of_ble_eq_true rfl) dL_reverts_231 (by first | decide | omega | (dsimp only; omega)) (fun H locs hI hS => ?_)
                replace hI : p_J G xa xb Z ((sp_tru (sp_make mm w (nI k) (nI d) (nI f)) g (-10)), (sp_tru (sp_make mm w (nI k) (nI d) (nI f)) g (-10))) H := hI
                refine lv_iconst (v := (-1)) hx hb dL_reverts_234 (by decide) ?_
                refine lv_icmp_ne (tgt := 242) hx hb dL_reverts_235 (by decide) (fun c235 => ?_) (fun c235 => ?_)
                · skip
                  exact absurd hV9 c235
                · skip
                  refine lv_iconst (v := 1) hx hb dL_reverts_238 (by decide) ?_
                  refine lv_goto (tgt := 243) hx hb dL_reverts_239 (by decide) ?_
                  exact p_zret hx hb hr hlk hI hS (by first | decide | omega | (dsimp only; omega)) (by first | decide | omega | (dsimp only; omega)) (by decide) (⟨rfl, _, rfl, hM, hMK⟩) dL_reverts_243
  · skip
    exact absurd c131 (by decide)
set_option maxHeartbeats 1000000 in
set_option maxRecDepth 100000 in
theorem m_reverts_2g (l : Launch) (hflag : l.stackTraces = false) (G : k_G) (xa xb : Nat) (mm : q_Mem) (z : Int32) (f w : Nat) (hL : LI mm) (hK1 : sp_K mm < 512) (hf : f < 6) (hw : w < sp_W mm) (h7 : ¬ mm 7 w < 2) (h7b : ¬ mm 7 w ≤ 1) (g : Nat) (hg : g < 6) (hbe : be mm w = nI g) (Z : Nat → Prop) {p : Program} {e : Env} {s : State} {m : MethodId} {args : Array Value} {below : List Frame} {meth : Method} {c : Code} (hx : p.tables.exec = Jvm.exec) (hb : c.code = cL_reverts) (hr : meth.sig.returnType = (some .boolean)) (hF : CallFix p m c cL_reverts 13 s args wsL_law RL) (hlk : meth.locks = false) (hX : p_E0 G Z s) : p_W l G xa xb mm mm Z p e { frames := 13, cells := 1000, slots := 6000, locals := 275 } s m args below meth c 13 20 120 (p_Q2 G xa xb mm (fun v u => v = 1 ∧ ∃ m2, u = (m2, m2) ∧ RD mm m2) Z below args s 1000 6000) [(6, .int (be mm w)), (5, .int (mm 7 w)), (4, .int (nI w)), (3, .int (nI f)), (0, .ref xa), (1, .ref xb), (2, .int z)] 35 [] := by
  intro H locs ls hI hS hl
  refine lv_iload hx hb dL_reverts_35 (lv_at hl 0 rfl) ?_
  refine lv_if_ge (tgt := 44) hx hb dL_reverts_37 (by decide) (fun c37 => ?_) (fun c37 => ?_)
  · skip
    refine lv_aload_n hx hb dL_reverts_44 rfl (lv_at hl 4 rfl) ?_
    refine lv_iload hx hb dL_reverts_45 (lv_at hl 0 rfl) ?_
    refine bo_to (v := (nI g)) (hbe) ?_
    refine p_iVk (fr := 7) (lo := 110) (mc1 := 1) (ms1 := 6) (n := 1) (As := [.int (nI g)]) (rest := []) hF (pv_trust l hflag G xa mm (nI g)  (r0 := (mm 0 g)) (m0 := mm) (v_tru hL hg) (hL.2.1)) p_Em.l ke_X4_trust wd_l_L_45 (by decide) hI hX hS rfl hl.1 rfl (Nat.le_of_ble_eq_true rfl) dL_reverts_47 (by first | decide | omega | (dsimp only; omega)) (fun H locs hI hS => ?_)
    replace hI : p_J G xa xb Z (mm, mm) H := hI
    refine lv_istore (lv' := [(7, .int (mm 0 g)), (6, .int (be mm w)), (5, .int (mm 7 w)), (4, .int (nI w)), (3, .int (nI f)), (0, .ref xa), (1, .ref xb), (2, .int z)]) hx hb dL_reverts_50 hl (by decide) rfl (fun ls hl => ?_)
    refine lv_iload hx hb dL_reverts_52 (lv_at hl 2 rfl) ?_
    refine lv_iconst (v := 1) hx hb dL_reverts_54 (by decide) ?_
    refine lv_icmp_le (tgt := 83) hx hb dL_reverts_55 (by decide) (fun c55 => ?_) (fun c55 => ?_)
    · skip
      exact absurd c55 h7b
    · skip
      refine lv_iload hx hb dL_reverts_58 (lv_at hl 1 rfl) ?_
      refine lv_if_lt (tgt := 83) hx hb dL_reverts_60 (by decide) (fun c60 => ?_) (fun c60 => ?_)
      · skip
        exact absurd c60 (by rw [hbe]; exact nI_pos (by omega))
      · skip
        refine lv_iload hx hb dL_reverts_63 (lv_at hl 1 rfl) ?_
        refine lv_iload_n hx hb dL_reverts_65 rfl (lv_at hl 4 rfl) ?_
        refine lv_icmp_eq (tgt := 83) hx hb dL_reverts_66 (by decide) (fun c66 => ?_) (fun c66 => ?_)
        · skip
          have hC : ¬ (¬ mm 7 w < 2 ∧ ¬ be mm w = -1 ∧ ¬ be mm w = nI f ∧ mm 0 (be mm w).toNatClampNeg < mm 0 f) := fun z => z.2.2.1 c66
          refine lv_iconst (v := 0) hx hb dL_reverts_83 (by decide) ?_
          refine lv_istore (lv' := [(8, .int 0), (7, .int (mm 0 g)), (6, .int (be mm w)), (5, .int (mm 7 w)), (4, .int (nI w)), (3, .int (nI f)), (0, .ref xa), (1, .ref xb), (2, .int z)]) hx hb dL_reverts_84 hl (by decide) rfl (fun ls hl => ?_)
          refine lv_iload hx hb dL_reverts_86 (lv_at hl 3 rfl) ?_
          refine lv_iconst (v := 1) hx hb dL_reverts_88 (by decide) ?_
          refine lv_icmp_le (tgt := 108) hx hb dL_reverts_89 (by decide) (fun c89 => ?_) (fun c89 => ?_)
          · skip
            exact absurd c89 h7b
          · skip
            obtain ⟨k, d, e0, hk, hd, he, vb, vk, vd, v10⟩ := v_back hL hw h7
            refine lv_aload_n hx hb dL_reverts_92 rfl (lv_at hl 6 rfl) ?_
            refine lv_iload hx hb dL_reverts_93 (lv_at hl 4 rfl) ?_
            refine lv_iload hx hb dL_reverts_95 (lv_at hl 3 rfl) ?_
            refine lv_iconst (v := 2) hx hb dL_reverts_97 (by decide) ?_
            refine lv_isub hx hb dL_reverts_98 ?_
            refine p_iVk (fr := 7) (lo := 112) (mc1 := 2) (ms1 := 12) (n := 2) (As := [.int (nI w), .int ((mm 7 w) - 2)]) (rest := []) hF (pv_version l hflag G xa mm (nI w) ((mm 7 w) - 2) hL.1 (r0 := (nI (100 * k + 10 * d + e0))) (m0 := mm) (vb) (hL.2.1)) p_Em.l ke_X4_version wd_l_L_52 (by decide) hI hX hS rfl hl.1 rfl (Nat.le_of_ble_eq_true rfl) dL_reverts_99 (by first | decide | omega | (dsimp only; omega)) (fun H locs hI hS => ?_)
            replace hI : p_J G xa xb Z (mm, mm) H := hI
            refine lv_bipush (v := 10) hx hb dL_reverts_102 (by decide) ?_
            refine lv_idiv hx hb dL_reverts_104 (by decide) ?_
            refine bo_to (v := (nI (10 * k + d))) (v10) ?_
            refine lv_goto (tgt := 109) hx hb dL_reverts_105 (by decide) ?_
            refine lv_istore (lv' := [(9, .int (nI (10 * k + d))), (8, .int 0), (7, .int (mm 0 g)), (6, .int (be mm w)), (5, .int (mm 7 w)), (4, .int (nI w)), (3, .int (nI f)), (0, .ref xa), (1, .ref xb), (2, .int z)]) hx hb dL_reverts_109 hl (by decide) rfl (fun ls hl => ?_)
            refine lv_aload_n hx hb dL_reverts_111 rfl (lv_at hl 7 rfl) ?_
            refine p_lSk (mc1 := 460) (ms1 := 2760) (fr := 12) (lo := 240) (n := 1) (As := [.ref xa]) (rest := []) hF (m_all l hflag G xa mm hL) p_Em.l ke_L_all wd_l_L_151 (by decide) hI hX hS rfl hl.1 rfl (Nat.le_of_ble_eq_true rfl) dL_reverts_112 (by first | decide | omega | (dsimp only; omega)) (fun H locs hI hS => ?_)
            replace hI : p_J G xa xb Z (mm, mm) H := hI
            refine lv_lstore (lv' := [(10, .long (al mm)), (9, .int (nI (10 * k + d))), (8, .int 0), (7, .int (mm 0 g)), (6, .int (be mm w)), (5, .int (mm 7 w)), (4, .int (nI w)), (3, .int (nI f)), (0, .ref xa), (1, .ref xb), (2, .int z)]) hx hb dL_reverts_115 hl (by decide) rfl (fun ls hl => ?_)
            refine lv_aload_n hx hb dL_reverts_117 rfl (lv_at hl 8 rfl) ?_
            refine lv_aload_n hx hb dL_reverts_118 rfl (lv_at hl 9 rfl) ?_
            refine lv_iconst (v := 3) hx hb dL_reverts_119 (by decide) ?_
            refine lv_iload_n hx hb dL_reverts_120 rfl (lv_at hl 7 rfl) ?_
            refine lv_iload hx hb dL_reverts_121 (lv_at hl 6 rfl) ?_
            refine lv_iconst (v := 0) hx hb dL_reverts_123 (by decide) ?_
            refine p_iSk (mc1 := 8) (ms1 := 38) (fr := 12) (lo := 239) (n := 6) (As := [.ref xa, .ref xb, .int 3, .int (nI f), .int (nI w), .int 0]) (rest := []) hF (m_both (mc := 4) (ms := 19) (p_cx (nm := k_n2) (sp := sp_rev mm (nI f) (nI w)) (rv_no hL hw hf hC) (by decide) cf2 (m_call (fun Z ad h => by rw [← h]; exact m_does_3 l hflag G Z ad mm (nI f) (nI w) 0 hL.1 hK1) (Or.inr rfl))) (p_cx (nm := k_n2) (sp := sp_rev mm (nI f) (nI w)) (rv_no hL hw hf hC) (by decide) cf2 (m_call (fun Z ad h => by rw [← h]; exact m_does_3 l hflag G Z ad mm (nI f) (nI w) 0 hL.1 hK1) (Or.inr rfl)))) p_Em.id ke_L_both wd_l_L_147 (by decide) hI hX hS rfl hl.1 rfl (Nat.le_of_ble_eq_true rfl) dL_reverts_124 (by first | decide | omega | (dsimp only; omega)) (fun H locs hI hS => ?_)
            replace hI : p_J G xa xb Z (mm, mm) H := hI
            refine lv_istore (lv' := [(12, .int (-2100000003)), (10, .long (al mm)), (9, .int (nI (10 * k + d))), (8, .int 0), (7, .int (mm 0 g)), (6, .int (be mm w)), (5, .int (mm 7 w)), (4, .int (nI w)), (3, .int (nI f)), (0, .ref xa), (1, .ref xb), (2, .int z)]) hx hb dL_reverts_127 hl (by decide) rfl (fun ls hl => ?_)
            refine lv_iload hx hb dL_reverts_129 (lv_at hl 3 rfl) ?_
            refine lv_if_ne (tgt := 157) hx hb dL_reverts_131 (by decide) (fun c131 => ?_) (fun c131 => ?_)
            · skip
              exact absurd c131 (by decide)
            · skip
              refine lv_iload hx hb dL_reverts_134 (lv_at hl 0 rfl) ?_
              refine lv_ldc (v := -2100000003) hx hb hF.2.2.2.1 (hF.2.2.2.2 _ wd_x23) dL_reverts_136 ?_
              refine lv_icmp_ne (tgt := 155) hx hb dL_reverts_138 (by decide) (fun c138 => ?_) (fun c138 => ?_)
              · skip
                exact absurd rfl c138
              · skip
                refine lv_aload_n hx hb dL_reverts_141 rfl (lv_at hl 9 rfl) ?_
                refine p_lSk (mc1 := 460) (ms1 := 2760) (fr := 12) (lo := 240) (n := 1) (As := [.ref xa]) (rest := []) hF (m_all l hflag G xa mm hL) p_Em.l ke_L_all wd_l_L_151 (by decide) hI hX hS rfl hl.1 rfl (Nat.le_of_ble_eq_true rfl) dL_reverts_142 (by first | decide | omega | (dsimp only; omega)) (fun H locs hI hS => ?_)
                replace hI : p_J G xa xb Z (mm, mm) H := hI
                refine lv_lload hx hb dL_reverts_145 (lv_at hl 1 rfl) ?_
                refine W.lcmp hx hb dL_reverts_147 ?_
                refine bo_to (v := 0) (by simp [lg_cmp]) ?_
                refine lv_if_ne (tgt := 155) hx hb dL_reverts_148 (by decide) (fun c148 => ?_) (fun c148 => ?_)
                · skip
                  exact absurd c148 (by decide)
                · skip
                  refine lv_iconst (v := 1) hx hb dL_reverts_151 (by decide) ?_
                  refine lv_goto (tgt := 156) hx hb dL_reverts_152 (by decide) ?_
                  exact p_zret hx hb hr hlk hI hS (by first | decide | omega | (dsimp only; omega)) (by first | decide | omega | (dsimp only; omega)) (by decide) (⟨rfl, mm, rfl, RD.rf hL⟩) dL_reverts_156
        · skip
          refine lv_aload_n hx hb dL_reverts_69 rfl (lv_at hl 5 rfl) ?_
          refine lv_iload_n hx hb dL_reverts_70 rfl (lv_at hl 4 rfl) ?_
          refine p_iVk (fr := 7) (lo := 110) (mc1 := 1) (ms1 := 6) (n := 1) (As := [.int (nI f)]) (rest := []) hF (pv_trust l hflag G xa mm (nI f)  (r0 := (mm 0 f)) (m0 := mm) (v_tru hL hf) (hL.2.1)) p_Em.l ke_X4_trust wd_l_L_45 (by decide) hI hX hS rfl hl.1 rfl (Nat.le_of_ble_eq_true rfl) dL_reverts_71 (by first | decide | omega | (dsimp only; omega)) (fun H locs hI hS => ?_)
          replace hI : p_J G xa xb Z (mm, mm) H := hI
          refine lv_iload hx hb dL_reverts_74 (lv_at hl 0 rfl) ?_
          refine lv_icmp_le (tgt := 83) hx hb dL_reverts_76 (by decide) (fun c76 => ?_) (fun c76 => ?_)
          · skip
            have hC : ¬ (¬ mm 7 w < 2 ∧ ¬ be mm w = -1 ∧ ¬ be mm w = nI f ∧ mm 0 (be mm w).toNatClampNeg < mm 0 f) := fun z => absurd z.2.2.2 (by rw [hbe, nt_c (by omega)]; exact bo_nlt c76)
            refine lv_iconst (v := 0) hx hb dL_reverts_83 (by decide) ?_
            refine lv_istore (lv' := [(8, .int 0), (7, .int (mm 0 g)), (6, .int (be mm w)), (5, .int (mm 7 w)), (4, .int (nI w)), (3, .int (nI f)), (0, .ref xa), (1, .ref xb), (2, .int z)]) hx hb dL_reverts_84 hl (by decide) rfl (fun ls hl => ?_)
            refine lv_iload hx hb dL_reverts_86 (lv_at hl 3 rfl) ?_
            refine lv_iconst (v := 1) hx hb dL_reverts_88 (by decide) ?_
            refine lv_icmp_le (tgt := 108) hx hb dL_reverts_89 (by decide) (fun c89 => ?_) (fun c89 => ?_)
            · skip
              exact absurd c89 h7b
            · skip
              obtain ⟨k, d, e0, hk, hd, he, vb, vk, vd, v10⟩ := v_back hL hw h7
              refine lv_aload_n hx hb dL_reverts_92 rfl (lv_at hl 6 rfl) ?_
              refine lv_iload hx hb dL_reverts_93 (lv_at hl 4 rfl) ?_
              refine lv_iload hx hb dL_reverts_95 (lv_at hl 3 rfl) ?_
              refine lv_iconst (v := 2) hx hb dL_reverts_97 (by decide) ?_
              refine lv_isub hx hb dL_reverts_98 ?_
              refine p_iVk (fr := 7) (lo := 112) (mc1 := 2) (ms1 := 12) (n := 2) (As := [.int (nI w), .int ((mm 7 w) - 2)]) (rest := []) hF (pv_version l hflag G xa mm (nI w) ((mm 7 w) - 2) hL.1 (r0 := (nI (100 * k + 10 * d + e0))) (m0 := mm) (vb) (hL.2.1)) p_Em.l ke_X4_version wd_l_L_52 (by decide) hI hX hS rfl hl.1 rfl (Nat.le_of_ble_eq_true rfl) dL_reverts_99 (by first | decide | omega | (dsimp only; omega)) (fun H locs hI hS => ?_)
              replace hI : p_J G xa xb Z (mm, mm) H := hI
              refine lv_bipush (v := 10) hx hb dL_reverts_102 (by decide) ?_
              refine lv_idiv hx hb dL_reverts_104 (by decide) ?_
              refine bo_to (v := (nI (10 * k + d))) (v10) ?_
              refine lv_goto (tgt := 109) hx hb dL_reverts_105 (by decide) ?_
              refine lv_istore (lv' := [(9, .int (nI (10 * k + d))), (8, .int 0), (7, .int (mm 0 g)), (6, .int (be mm w)), (5, .int (mm 7 w)), (4, .int (nI w)), (3, .int (nI f)), (0, .ref xa), (1, .ref xb), (2, .int z)]) hx hb dL_reverts_109 hl (by decide) rfl (fun ls hl => ?_)
              refine lv_aload_n hx hb dL_reverts_111 rfl (lv_at hl 7 rfl) ?_
              refine p_lSk (mc1 := 460) (ms1 := 2760) (fr := 12) (lo := 240) (n := 1) (As := [.ref xa]) (rest := []) hF (m_all l hflag G xa mm hL) p_Em.l ke_L_all wd_l_L_151 (by decide) hI hX hS rfl hl.1 rfl (Nat.le_of_ble_eq_true rfl) dL_reverts_112 (by first | decide | omega | (dsimp only; omega)) (fun H locs hI hS => ?_)
              replace hI : p_J G xa xb Z (mm, mm) H := hI
              refine lv_lstore (lv' := [(10, .long (al mm)), (9, .int (nI (10 * k + d))), (8, .int 0), (7, .int (mm 0 g)), (6, .int (be mm w)), (5, .int (mm 7 w)), (4, .int (nI w)), (3, .int (nI f)), (0, .ref xa), (1, .ref xb), (2, .int z)]) hx hb dL_reverts_115 hl (by decide) rfl (fun ls hl => ?_)
              refine lv_aload_n hx hb dL_reverts_117 rfl (lv_at hl 8 rfl) ?_
              refine lv_aload_n hx hb dL_reverts_118 rfl (lv_at hl 9 rfl) ?_
              refine lv_iconst (v := 3) hx hb dL_reverts_119 (by decide) ?_
              refine lv_iload_n hx hb dL_reverts_120 rfl (lv_at hl 7 rfl) ?_
              refine lv_iload hx hb dL_reverts_121 (lv_at hl 6 rfl) ?_
              refine lv_iconst (v := 0) hx hb dL_reverts_123 (by decide) ?_
              refine p_iSk (mc1 := 8) (ms1 := 38) (fr := 12) (lo := 239) (n := 6) (As := [.ref xa, .ref xb, .int 3, .int (nI f), .int (nI w), .int 0]) (rest := []) hF (m_both (mc := 4) (ms := 19) (p_cx (nm := k_n2) (sp := sp_rev mm (nI f) (nI w)) (rv_no hL hw hf hC) (by decide) cf2 (m_call (fun Z ad h => by rw [← h]; exact m_does_3 l hflag G Z ad mm (nI f) (nI w) 0 hL.1 hK1) (Or.inr rfl))) (p_cx (nm := k_n2) (sp := sp_rev mm (nI f) (nI w)) (rv_no hL hw hf hC) (by decide) cf2 (m_call (fun Z ad h => by rw [← h]; exact m_does_3 l hflag G Z ad mm (nI f) (nI w) 0 hL.1 hK1) (Or.inr rfl)))) p_Em.id ke_L_both wd_l_L_147 (by decide) hI hX hS rfl hl.1 rfl (Nat.le_of_ble_eq_true rfl) dL_reverts_124 (by first | decide | omega | (dsimp only; omega)) (fun H locs hI hS => ?_)
              replace hI : p_J G xa xb Z (mm, mm) H := hI
              refine lv_istore (lv' := [(12, .int (-2100000003)), (10, .long (al mm)), (9, .int (nI (10 * k + d))), (8, .int 0), (7, .int (mm 0 g)), (6, .int (be mm w)), (5, .int (mm 7 w)), (4, .int (nI w)), (3, .int (nI f)), (0, .ref xa), (1, .ref xb), (2, .int z)]) hx hb dL_reverts_127 hl (by decide) rfl (fun ls hl => ?_)
              refine lv_iload hx hb dL_reverts_129 (lv_at hl 3 rfl) ?_
              refine lv_if_ne (tgt := 157) hx hb dL_reverts_131 (by decide) (fun c131 => ?_) (fun c131 => ?_)
              · skip
                exact absurd c131 (by decide)
              · skip
                refine lv_iload hx hb dL_reverts_134 (lv_at hl 0 rfl) ?_
                refine lv_ldc (v := -2100000003) hx hb hF.2.2.2.1 (hF.2.2.2.2 _ wd_x23) dL_reverts_136 ?_
                refine lv_icmp_ne (tgt := 155) hx hb dL_reverts_138 (by decide) (fun c138 => ?_) (fun c138 => ?_)
                · skip
                  exact absurd rfl c138
                · skip
                  refine lv_aload_n hx hb dL_reverts_141 rfl (lv_at hl 9 rfl) ?_
                  refine p_lSk (mc1 := 460) (ms1 := 2760) (fr := 12) (lo := 240) (n := 1) (As := [.ref xa]) (rest := []) hF (m_all l hflag G xa mm hL) p_Em.l ke_L_all wd_l_L_151 (by decide) hI hX hS rfl hl.1 rfl (Nat.le_of_ble_eq_true rfl) dL_reverts_142 (by first | decide | omega | (dsimp only; omega)) (fun H locs hI hS => ?_)
                  replace hI : p_J G xa xb Z (mm, mm) H := hI
                  refine lv_lload hx hb dL_reverts_145 (lv_at hl 1 rfl) ?_
                  refine W.lcmp hx hb dL_reverts_147 ?_
                  refine bo_to (v := 0) (by simp [lg_cmp]) ?_
                  refine lv_if_ne (tgt := 155) hx hb dL_reverts_148 (by decide) (fun c148 => ?_) (fun c148 => ?_)
                  · skip
                    exact absurd c148 (by decide)
                  · skip
                    refine lv_iconst (v := 1) hx hb dL_reverts_151 (by decide) ?_
                    refine lv_goto (tgt := 156) hx hb dL_reverts_152 (by decide) ?_
                    exact p_zret hx hb hr hlk hI hS (by first | decide | omega | (dsimp only; omega)) (by first | decide | omega | (dsimp only; omega)) (by decide) (⟨rfl, mm, rfl, RD.rf hL⟩) dL_reverts_156
          · skip
            have ht : mm 0 g < mm 0 f := bo_le c76
            have hgf : ¬ g = f := fun z => c66 (by rw [hbe, z])
            refine lv_iconst (v := 1) hx hb dL_reverts_79 (by decide) ?_
            refine lv_goto (tgt := 84) hx hb dL_reverts_80 (by decide) ?_
            refine lv_istore (lv' := [(8, .int 1), (7, .int (mm 0 g)), (6, .int (be mm w)), (5, .int (mm 7 w)), (4, .int (nI w)), (3, .int (nI f)), (0, .ref xa), (1, .ref xb), (2, .int z)]) hx hb dL_reverts_84 hl (by decide) rfl (fun ls hl => ?_)
            refine lv_iload hx hb dL_reverts_86 (lv_at hl 3 rfl) ?_
            refine lv_iconst (v := 1) hx hb dL_reverts_88 (by decide) ?_
            refine lv_icmp_le (tgt := 108) hx hb dL_reverts_89 (by decide) (fun c89 => ?_) (fun c89 => ?_)
            · skip
              exact absurd c89 h7b
            · skip
              obtain ⟨k, d, e0, hk, hd, he, vb, vk, vd, v10⟩ := v_back hL hw h7
              refine lv_aload_n hx hb dL_reverts_92 rfl (lv_at hl 6 rfl) ?_
              refine lv_iload hx hb dL_reverts_93 (lv_at hl 4 rfl) ?_
              refine lv_iload hx hb dL_reverts_95 (lv_at hl 3 rfl) ?_
              refine lv_iconst (v := 2) hx hb dL_reverts_97 (by decide) ?_
              refine lv_isub hx hb dL_reverts_98 ?_
              refine p_iVk (fr := 7) (lo := 112) (mc1 := 2) (ms1 := 12) (n := 2) (As := [.int (nI w), .int ((mm 7 w) - 2)]) (rest := []) hF (pv_version l hflag G xa mm (nI w) ((mm 7 w) - 2) hL.1 (r0 := (nI (100 * k + 10 * d + e0))) (m0 := mm) (vb) (hL.2.1)) p_Em.l ke_X4_version wd_l_L_52 (by decide) hI hX hS rfl hl.1 rfl (Nat.le_of_ble_eq_true rfl) dL_reverts_99 (by first | decide | omega | (dsimp only; omega)) (fun H locs hI hS => ?_)
              replace hI : p_J G xa xb Z (mm, mm) H := hI
              refine lv_bipush (v := 10) hx hb dL_reverts_102 (by decide) ?_
              refine lv_idiv hx hb dL_reverts_104 (by decide) ?_
              refine bo_to (v := (nI (10 * k + d))) (v10) ?_
              refine lv_goto (tgt := 109) hx hb dL_reverts_105 (by decide) ?_
              refine lv_istore (lv' := [(9, .int (nI (10 * k + d))), (8, .int 1), (7, .int (mm 0 g)), (6, .int (be mm w)), (5, .int (mm 7 w)), (4, .int (nI w)), (3, .int (nI f)), (0, .ref xa), (1, .ref xb), (2, .int z)]) hx hb dL_reverts_109 hl (by decide) rfl (fun ls hl => ?_)
              refine W.widen (k := 40) (n := 240) (by first | decide | omega | (dsimp only; omega)) (by first | decide | omega | (dsimp only; omega)) ?_
              exact m_reverts_may l hflag G xa xb mm z f w hL hK1 hf hw g k d hg hk hd h7 hbe hgf ht vk vd Z hx hb hr hF hlk hX _ _ _ hI hS (lv_sub hl [0, 1, 2, 3, 4, 5, 6, 7, 8, 9] rfl)
  · skip
    exact absurd (by rw [hbe]; exact nI_pos' (by omega)) c37
set_option maxHeartbeats 1000000 in
set_option maxRecDepth 100000 in
theorem m_reverts (l : Launch) (hflag : l.stackTraces = false) (G : k_G) (xa xb : Nat) (mm : q_Mem) (z : Int32) (hL : LI mm) (hK1 : sp_K mm < 512) (hW0 : 0 < sp_W mm) : p_Ci l yL_reverts (Cond.code yL_reverts cL_reverts 13 (some .boolean)) 13 275 1000 6000 G (p_J G xa xb) (mm, mm) [.ref xa, .ref xb, .int z] (fun v u => v = 1 ∧ ∃ m2, u = (m2, m2) ∧ RD mm m2) (fun _ => False) := by
  refine p_of (by decide) (Nat.le_of_ble_eq_true rfl) ?_
  intro Z p e s m args below meth c hx hb hr hF hlk hI hX ls hl
  have hl : lv_has ls 13 [(0, .ref xa), (1, .ref xb), (2, .int z)] := hl
  have hS : va_S Z s.heap s.heap [] := va_S.rf
  refine lv_iload_n hx hb dL_reverts_0 rfl (lv_at hl 2 rfl) ?_
  refine lv_bipush (v := 6) hx hb dL_reverts_1 (by decide) ?_
  refine bo_to (v := (nI 6)) (rfl) ?_
  refine rc_S (fr := 0) (lo := 0) (n := 2) (As := [.int z, .int (nI 6)]) (rest := []) hF (m_some l z 6 (by decide) (by decide)) ke_L_some wd_l_L_137 (by decide) bl_true (fun _ _ _ => trivial) rfl hl.1 rfl (Nat.le_of_ble_eq_true rfl) dL_reverts_3 (by first | decide | omega | (dsimp only; omega)) (fun r hq => ?_)
  obtain ⟨f, hf, rfl⟩ := hq
  refine lv_istore_n (lv' := [(3, .int (nI f)), (0, .ref xa), (1, .ref xb), (2, .int z)]) hx hb dL_reverts_6 rfl hl (by decide) rfl (fun ls hl => ?_)
  refine lv_iload_n hx hb dL_reverts_7 rfl (lv_at hl 3 rfl) ?_
  refine lv_iconst (v := 3) hx hb dL_reverts_8 (by decide) ?_
  refine lv_ishr hx hb dL_reverts_9 ?_
  refine lv_aload_n hx hb dL_reverts_10 rfl (lv_at hl 1 rfl) ?_
  refine p_iVk (fr := 1) (lo := 20) (mc1 := 0) (ms1 := 0) (n := 0) (As := []) (rest := [.int (z >>> (3 &&& 31))]) hF (pv_ways l G xa mm) p_Em.l ke_X4_ways wd_l_L_108 (by decide) hI hX hS rfl hl.1 rfl (Nat.le_of_ble_eq_true rfl) dL_reverts_11 (by first | decide | omega | (dsimp only; omega)) (fun H locs hI hS => ?_)
  replace hI : p_J G xa xb Z (mm, mm) H := hI
  refine bo_to (v := (nI (sp_W mm))) (hL.1.W) ?_
  refine rc_S (fr := 0) (lo := 0) (n := 2) (As := [.int (z >>> (3 &&& 31)), .int (nI (sp_W mm))]) (rest := []) hF (m_some l (z >>> (3 &&& 31)) (sp_W mm) hW0 (by have := hL.1.W40; omega)) ke_L_some wd_l_L_137 (by decide) bl_true (fun _ _ _ => trivial) rfl hl.1 rfl (Nat.le_of_ble_eq_true rfl) dL_reverts_14 (by first | decide | omega | (dsimp only; omega)) (fun r hq => ?_)
  obtain ⟨w, hw, rfl⟩ := hq
  refine lv_istore (lv' := [(4, .int (nI w)), (3, .int (nI f)), (0, .ref xa), (1, .ref xb), (2, .int z)]) hx hb dL_reverts_17 hl (by decide) rfl (fun ls hl => ?_)
  refine lv_aload_n hx hb dL_reverts_19 rfl (lv_at hl 2 rfl) ?_
  refine lv_iload hx hb dL_reverts_20 (lv_at hl 0 rfl) ?_
  refine p_iVk (fr := 7) (lo := 111) (mc1 := 1) (ms1 := 6) (n := 1) (As := [.int (nI w)]) (rest := []) hF (pv_versions l hflag G xa mm (nI w) hL.1 (r0 := (mm 7 w)) (m0 := mm) (v_of hL hw) (hL.2.1)) p_Em.l ke_X4_versions wd_l_L_49 (by decide) hI hX hS rfl hl.1 rfl (Nat.le_of_ble_eq_true rfl) dL_reverts_22 (by first | decide | omega | (dsimp only; omega)) (fun H locs hI hS => ?_)
  replace hI : p_J G xa xb Z (mm, mm) H := hI
  refine lv_istore (lv' := [(5, .int (mm 7 w)), (4, .int (nI w)), (3, .int (nI f)), (0, .ref xa), (1, .ref xb), (2, .int z)]) hx hb dL_reverts_25 hl (by decide) rfl (fun ls hl => ?_)
  refine lv_aload_n hx hb dL_reverts_27 rfl (lv_at hl 3 rfl) ?_
  refine lv_iload hx hb dL_reverts_28 (lv_at hl 1 rfl) ?_
  refine p_iSk (mc1 := 3) (ms1 := 18) (fr := 8) (lo := 140) (n := 2) (As := [.ref xa, .int (nI w)]) (rest := []) hF (m_by l hflag G xa mm w hL hw) p_Em.l ke_L_by wd_l_L_155 (by decide) hI hX hS rfl hl.1 rfl (Nat.le_of_ble_eq_true rfl) dL_reverts_30 (by first | decide | omega | (dsimp only; omega)) (fun H locs hI hS => ?_)
  replace hI : p_J G xa xb Z (mm, mm) H := hI
  refine lv_istore (lv' := [(6, .int (be mm w)), (5, .int (mm 7 w)), (4, .int (nI w)), (3, .int (nI f)), (0, .ref xa), (1, .ref xb), (2, .int z)]) hx hb dL_reverts_33 hl (by decide) rfl (fun ls hl => ?_)
  rcases v_n2 hL hw with h7 | ⟨h7, h7b⟩
  · skip
    rcases be_or hL hw with hbe | ⟨g, hg, hbe⟩
    · skip
      refine W.widen (k := 20) (n := 120) (by first | decide | omega | (dsimp only; omega)) (by first | decide | omega | (dsimp only; omega)) ?_
      exact m_reverts_1n l hflag G xa xb mm z f w hL hK1 hf hw h7 hbe Z hx hb hr hF hlk hX _ _ _ hI hS (lv_sub hl [0, 1, 2, 3, 4, 5, 6] rfl)
    · skip
      refine W.widen (k := 20) (n := 120) (by first | decide | omega | (dsimp only; omega)) (by first | decide | omega | (dsimp only; omega)) ?_
      exact m_reverts_1g l hflag G xa xb mm z f w hL hK1 hf hw h7 g hg hbe Z hx hb hr hF hlk hX _ _ _ hI hS (lv_sub hl [0, 1, 2, 3, 4, 5, 6] rfl)
  · skip
    rcases be_or hL hw with hbe | ⟨g, hg, hbe⟩
    · skip
      refine W.widen (k := 20) (n := 120) (by first | decide | omega | (dsimp only; omega)) (by first | decide | omega | (dsimp only; omega)) ?_
      exact m_reverts_2n l hflag G xa xb mm z f w hL hK1 hf hw h7 h7b hbe Z hx hb hr hF hlk hX _ _ _ hI hS (lv_sub hl [0, 1, 2, 3, 4, 5, 6] rfl)
    · skip
      refine W.widen (k := 20) (n := 120) (by first | decide | omega | (dsimp only; omega)) (by first | decide | omega | (dsimp only; omega)) ?_
      exact m_reverts_2g l hflag G xa xb mm z f w hL hK1 hf hw h7 h7b g hg hbe Z hx hb hr hF hlk hX _ _ _ hI hS (lv_sub hl [0, 1, 2, 3, 4, 5, 6] rfl)
theorem ke_L_reverts : wl_S yL_reverts cL_reverts 13 (some .boolean) 3 := ⟨wd_c_L_reverts, wd_t_L_reverts, wd_n_L, by decide, by decide +kernel⟩
