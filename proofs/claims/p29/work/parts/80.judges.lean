/-! ===== judgements ===== -/
/-- a method's body from a place on: two maps -/
def p_W (l : Launch) (G : k_G) (xa xb : Nat) (m1 m2 : q_Mem) (Z : Nat → Prop) (p : Program) (e : Env) (R : Room) (s : State) (m : MethodId) (args : Array Value) (below : List Frame) (meth : Method) (c : Code) (nL cells slots : Nat) (Q : State → Prop) (L : List (Nat × Value)) (pc : Nat) (st : List Value) : Prop :=
  ∀ (H : Heap) (locs : List Loc) (ls : Array Slot), p_J G xa xb Z (m1, m2) H → va_S Z s.heap H locs → lv_has ls nL L → W p l e R s m args below meth c H locs cells slots Q (F0 m pc ls st)
abbrev p_Q2 (G : k_G) (xa xb : Nat) (mm : q_Mem) (post : Int32 → q_Mem × q_Mem → Prop) (Z : Nat → Prop) (below : List Frame) (args : Array Value) (s : State) (mc ms : Nat) : State → Prop := vx_MQ below (p_Qi (p_J G xa xb) post Z) (vx_X (fun v : q_Mem × q_Mem => v = (mm, mm)) (fun _ v U => False ∧ p_J G xa xb Z v U.heap) Z) args s mc ms Z
theorem dL_judges_0 : decode cL_judges 0 = .ok (.iload_n 2, 1) := by decide +kernel
theorem dL_judges_1 : decode cL_judges 1 = .ok (.bipush 6, 2) := by decide +kernel
theorem dL_judges_3 : decode cL_judges 3 = .ok (.invokestatic 137, 3) := by decide +kernel
theorem dL_judges_6 : decode cL_judges 6 = .ok (.istore_n 3, 1) := by decide +kernel
theorem dL_judges_7 : decode cL_judges 7 = .ok (.iload_n 2, 1) := by decide +kernel
theorem dL_judges_8 : decode cL_judges 8 = .ok (.iconst 3, 1) := by decide +kernel
theorem dL_judges_9 : decode cL_judges 9 = .ok (.ishr, 1) := by decide +kernel
theorem dL_judges_10 : decode cL_judges 10 = .ok (.aload_n 0, 1) := by decide +kernel
theorem dL_judges_11 : decode cL_judges 11 = .ok (.invokevirtual 108, 3) := by decide +kernel
theorem dL_judges_14 : decode cL_judges 14 = .ok (.invokestatic 137, 3) := by decide +kernel
theorem dL_judges_17 : decode cL_judges 17 = .ok (.istore 4, 2) := by decide +kernel
theorem dL_judges_19 : decode cL_judges 19 = .ok (.iload_n 2, 1) := by decide +kernel
theorem dL_judges_20 : decode cL_judges 20 = .ok (.bipush 6, 2) := by decide +kernel
theorem dL_judges_22 : decode cL_judges 22 = .ok (.ishr, 1) := by decide +kernel
theorem dL_judges_23 : decode cL_judges 23 = .ok (.iconst 3, 1) := by decide +kernel
theorem dL_judges_24 : decode cL_judges 24 = .ok (.invokestatic 137, 3) := by decide +kernel
theorem dL_judges_27 : decode cL_judges 27 = .ok (.ifCond .ne 7, 3) := by decide +kernel
theorem dL_judges_30 : decode cL_judges 30 = .ok (.iconst 1, 1) := by decide +kernel
theorem dL_judges_31 : decode cL_judges 31 = .ok (.goto 4, 3) := by decide +kernel
theorem dL_judges_34 : decode cL_judges 34 = .ok (.iconst 0, 1) := by decide +kernel
theorem dL_judges_35 : decode cL_judges 35 = .ok (.istore 5, 2) := by decide +kernel
theorem dL_judges_37 : decode cL_judges 37 = .ok (.aload_n 0, 1) := by decide +kernel
theorem dL_judges_38 : decode cL_judges 38 = .ok (.iload 4, 2) := by decide +kernel
theorem dL_judges_40 : decode cL_judges 40 = .ok (.invokevirtual 58, 3) := by decide +kernel
theorem dL_judges_43 : decode cL_judges 43 = .ok (.istore 6, 2) := by decide +kernel
theorem dL_judges_45 : decode cL_judges 45 = .ok (.aload_n 0, 1) := by decide +kernel
theorem dL_judges_46 : decode cL_judges 46 = .ok (.aload_n 1, 1) := by decide +kernel
theorem dL_judges_47 : decode cL_judges 47 = .ok (.iconst 4, 1) := by decide +kernel
theorem dL_judges_48 : decode cL_judges 48 = .ok (.iload 4, 2) := by decide +kernel
theorem dL_judges_50 : decode cL_judges 50 = .ok (.iconst 0, 1) := by decide +kernel
theorem dL_judges_51 : decode cL_judges 51 = .ok (.iconst 0, 1) := by decide +kernel
theorem dL_judges_52 : decode cL_judges 52 = .ok (.invokestatic 147, 3) := by decide +kernel
theorem dL_judges_55 : decode cL_judges 55 = .ok (.istore 7, 2) := by decide +kernel
theorem dL_judges_57 : decode cL_judges 57 = .ok (.aload_n 0, 1) := by decide +kernel
theorem dL_judges_58 : decode cL_judges 58 = .ok (.aload_n 1, 1) := by decide +kernel
theorem dL_judges_59 : decode cL_judges 59 = .ok (.iconst 4, 1) := by decide +kernel
theorem dL_judges_60 : decode cL_judges 60 = .ok (.iload 4, 2) := by decide +kernel
theorem dL_judges_62 : decode cL_judges 62 = .ok (.iload 7, 2) := by decide +kernel
theorem dL_judges_64 : decode cL_judges 64 = .ok (.iconst 0, 1) := by decide +kernel
theorem dL_judges_65 : decode cL_judges 65 = .ok (.invokestatic 147, 3) := by decide +kernel
theorem dL_judges_68 : decode cL_judges 68 = .ok (.ifCond .ne 7, 3) := by decide +kernel
theorem dL_judges_71 : decode cL_judges 71 = .ok (.iconst 1, 1) := by decide +kernel
theorem dL_judges_72 : decode cL_judges 72 = .ok (.goto 4, 3) := by decide +kernel
theorem dL_judges_76 : decode cL_judges 76 = .ok (.istore 8, 2) := by decide +kernel
theorem dL_judges_78 : decode cL_judges 78 = .ok (.iload 6, 2) := by decide +kernel
theorem dL_judges_80 : decode cL_judges 80 = .ok (.bipush 10, 2) := by decide +kernel
theorem dL_judges_82 : decode cL_judges 82 = .ok (.irem, 1) := by decide +kernel
theorem dL_judges_83 : decode cL_judges 83 = .ok (.iconst 1, 1) := by decide +kernel
theorem dL_judges_84 : decode cL_judges 84 = .ok (.isub, 1) := by decide +kernel
theorem dL_judges_85 : decode cL_judges 85 = .ok (.istore 9, 2) := by decide +kernel
theorem dL_judges_87 : decode cL_judges 87 = .ok (.iload 6, 2) := by decide +kernel
theorem dL_judges_89 : decode cL_judges 89 = .ok (.ifCond .ge 7, 3) := by decide +kernel
theorem dL_judges_92 : decode cL_judges 92 = .ok (.iconst 0, 1) := by decide +kernel
theorem dL_judges_93 : decode cL_judges 93 = .ok (.goto 9, 3) := by decide +kernel
theorem dL_judges_96 : decode cL_judges 96 = .ok (.aload_n 0, 1) := by decide +kernel
theorem dL_judges_97 : decode cL_judges 97 = .ok (.iload 9, 2) := by decide +kernel
theorem dL_judges_99 : decode cL_judges 99 = .ok (.invokevirtual 45, 3) := by decide +kernel
theorem dL_judges_102 : decode cL_judges 102 = .ok (.istore 10, 2) := by decide +kernel
theorem dL_judges_104 : decode cL_judges 104 = .ok (.aload_n 0, 1) := by decide +kernel
theorem dL_judges_105 : decode cL_judges 105 = .ok (.iload 4, 2) := by decide +kernel
theorem dL_judges_107 : decode cL_judges 107 = .ok (.invokevirtual 49, 3) := by decide +kernel
theorem dL_judges_110 : decode cL_judges 110 = .ok (.istore 11, 2) := by decide +kernel
theorem dL_judges_112 : decode cL_judges 112 = .ok (.aload_n 0, 1) := by decide +kernel
theorem dL_judges_113 : decode cL_judges 113 = .ok (.invokestatic 151, 3) := by decide +kernel
theorem dL_judges_116 : decode cL_judges 116 = .ok (.lstore 12, 2) := by decide +kernel
theorem dL_judges_118 : decode cL_judges 118 = .ok (.aload_n 0, 1) := by decide +kernel
theorem dL_judges_119 : decode cL_judges 119 = .ok (.aload_n 1, 1) := by decide +kernel
theorem dL_judges_120 : decode cL_judges 120 = .ok (.iconst 2, 1) := by decide +kernel
theorem dL_judges_121 : decode cL_judges 121 = .ok (.iload_n 3, 1) := by decide +kernel
theorem dL_judges_122 : decode cL_judges 122 = .ok (.iload 4, 2) := by decide +kernel
theorem dL_judges_124 : decode cL_judges 124 = .ok (.iload 5, 2) := by decide +kernel
theorem dL_judges_126 : decode cL_judges 126 = .ok (.invokestatic 147, 3) := by decide +kernel
theorem dL_judges_129 : decode cL_judges 129 = .ok (.istore 14, 2) := by decide +kernel
theorem dL_judges_131 : decode cL_judges 131 = .ok (.iload 6, 2) := by decide +kernel
theorem dL_judges_133 : decode cL_judges 133 = .ok (.ifCond .lt 23, 3) := by decide +kernel
theorem dL_judges_136 : decode cL_judges 136 = .ok (.iload 9, 2) := by decide +kernel
theorem dL_judges_138 : decode cL_judges 138 = .ok (.iload_n 3, 1) := by decide +kernel
theorem dL_judges_139 : decode cL_judges 139 = .ok (.if_icmp .eq 17, 3) := by decide +kernel
theorem dL_judges_142 : decode cL_judges 142 = .ok (.aload_n 0, 1) := by decide +kernel
theorem dL_judges_143 : decode cL_judges 143 = .ok (.iload_n 3, 1) := by decide +kernel
theorem dL_judges_144 : decode cL_judges 144 = .ok (.invokevirtual 45, 3) := by decide +kernel
theorem dL_judges_147 : decode cL_judges 147 = .ok (.iload 7, 2) := by decide +kernel
theorem dL_judges_149 : decode cL_judges 149 = .ok (.if_icmp .lt 7, 3) := by decide +kernel
theorem dL_judges_152 : decode cL_judges 152 = .ok (.iconst 1, 1) := by decide +kernel
theorem dL_judges_153 : decode cL_judges 153 = .ok (.goto 4, 3) := by decide +kernel
theorem dL_judges_156 : decode cL_judges 156 = .ok (.iconst 0, 1) := by decide +kernel
theorem dL_judges_157 : decode cL_judges 157 = .ok (.istore 15, 2) := by decide +kernel
theorem dL_judges_159 : decode cL_judges 159 = .ok (.iload 15, 2) := by decide +kernel
theorem dL_judges_161 : decode cL_judges 161 = .ok (.ifCond .ne 31, 3) := by decide +kernel
theorem dL_judges_164 : decode cL_judges 164 = .ok (.iload 8, 2) := by decide +kernel
theorem dL_judges_166 : decode cL_judges 166 = .ok (.ifCond .eq 24, 3) := by decide +kernel
theorem dL_judges_169 : decode cL_judges 169 = .ok (.iload 14, 2) := by decide +kernel
theorem dL_judges_171 : decode cL_judges 171 = .ok (.ldc 23, 2) := by decide +kernel
theorem dL_judges_173 : decode cL_judges 173 = .ok (.if_icmp .ne 17, 3) := by decide +kernel
theorem dL_judges_176 : decode cL_judges 176 = .ok (.aload_n 0, 1) := by decide +kernel
theorem dL_judges_177 : decode cL_judges 177 = .ok (.invokestatic 151, 3) := by decide +kernel
theorem dL_judges_180 : decode cL_judges 180 = .ok (.lload 12, 2) := by decide +kernel
theorem dL_judges_182 : decode cL_judges 182 = .ok (.lcmp, 1) := by decide +kernel
theorem dL_judges_183 : decode cL_judges 183 = .ok (.ifCond .ne 7, 3) := by decide +kernel
theorem dL_judges_186 : decode cL_judges 186 = .ok (.iconst 1, 1) := by decide +kernel
theorem dL_judges_187 : decode cL_judges 187 = .ok (.goto 4, 3) := by decide +kernel
theorem dL_judges_191 : decode cL_judges 191 = .ok (.ireturn, 1) := by decide +kernel
theorem dL_judges_192 : decode cL_judges 192 = .ok (.iload 5, 2) := by decide +kernel
theorem dL_judges_194 : decode cL_judges 194 = .ok (.iconst 1, 1) := by decide +kernel
theorem dL_judges_195 : decode cL_judges 195 = .ok (.if_icmp .ne 20, 3) := by decide +kernel
theorem dL_judges_198 : decode cL_judges 198 = .ok (.iload 10, 2) := by decide +kernel
theorem dL_judges_200 : decode cL_judges 200 = .ok (.iconst 5, 1) := by decide +kernel
theorem dL_judges_201 : decode cL_judges 201 = .ok (.if_icmp .ge 7, 3) := by decide +kernel
theorem dL_judges_204 : decode cL_judges 204 = .ok (.iconst 0, 1) := by decide +kernel
theorem dL_judges_205 : decode cL_judges 205 = .ok (.goto 26, 3) := by decide +kernel
theorem dL_judges_208 : decode cL_judges 208 = .ok (.iload 10, 2) := by decide +kernel
theorem dL_judges_210 : decode cL_judges 210 = .ok (.iconst 5, 1) := by decide +kernel
theorem dL_judges_211 : decode cL_judges 211 = .ok (.isub, 1) := by decide +kernel
theorem dL_judges_212 : decode cL_judges 212 = .ok (.goto 19, 3) := by decide +kernel
theorem dL_judges_215 : decode cL_judges 215 = .ok (.iload 10, 2) := by decide +kernel
theorem dL_judges_217 : decode cL_judges 217 = .ok (.bipush 95, 2) := by decide +kernel
theorem dL_judges_219 : decode cL_judges 219 = .ok (.if_icmp .le 8, 3) := by decide +kernel
theorem dL_judges_222 : decode cL_judges 222 = .ok (.bipush 100, 2) := by decide +kernel
theorem dL_judges_224 : decode cL_judges 224 = .ok (.goto 7, 3) := by decide +kernel
theorem dL_judges_227 : decode cL_judges 227 = .ok (.iload 10, 2) := by decide +kernel
theorem dL_judges_229 : decode cL_judges 229 = .ok (.iconst 5, 1) := by decide +kernel
theorem dL_judges_230 : decode cL_judges 230 = .ok (.iadd, 1) := by decide +kernel
theorem dL_judges_231 : decode cL_judges 231 = .ok (.istore 16, 2) := by decide +kernel
theorem dL_judges_233 : decode cL_judges 233 = .ok (.iload 8, 2) := by decide +kernel
theorem dL_judges_235 : decode cL_judges 235 = .ok (.ifCond .eq 70, 3) := by decide +kernel
theorem dL_judges_238 : decode cL_judges 238 = .ok (.iload 14, 2) := by decide +kernel
theorem dL_judges_240 : decode cL_judges 240 = .ok (.iload 16, 2) := by decide +kernel
theorem dL_judges_242 : decode cL_judges 242 = .ok (.if_icmp .ne 63, 3) := by decide +kernel
theorem dL_judges_245 : decode cL_judges 245 = .ok (.aload_n 0, 1) := by decide +kernel
theorem dL_judges_246 : decode cL_judges 246 = .ok (.iload 9, 2) := by decide +kernel
theorem dL_judges_248 : decode cL_judges 248 = .ok (.invokevirtual 45, 3) := by decide +kernel
theorem dL_judges_251 : decode cL_judges 251 = .ok (.iload 16, 2) := by decide +kernel
theorem dL_judges_253 : decode cL_judges 253 = .ok (.if_icmp .ne 52, 3) := by decide +kernel
theorem dL_judges_256 : decode cL_judges 256 = .ok (.aload_n 0, 1) := by decide +kernel
theorem dL_judges_257 : decode cL_judges 257 = .ok (.iload 4, 2) := by decide +kernel
theorem dL_judges_259 : decode cL_judges 259 = .ok (.invokevirtual 58, 3) := by decide +kernel
theorem dL_judges_262 : decode cL_judges 262 = .ok (.iconst (-1), 1) := by decide +kernel
theorem dL_judges_263 : decode cL_judges 263 = .ok (.if_icmp .ne 42, 3) := by decide +kernel
theorem dL_judges_266 : decode cL_judges 266 = .ok (.aload_n 0, 1) := by decide +kernel
theorem dL_judges_267 : decode cL_judges 267 = .ok (.iload 4, 2) := by decide +kernel
theorem dL_judges_269 : decode cL_judges 269 = .ok (.invokevirtual 49, 3) := by decide +kernel
theorem dL_judges_272 : decode cL_judges 272 = .ok (.iload 11, 2) := by decide +kernel
theorem dL_judges_274 : decode cL_judges 274 = .ok (.iconst 1, 1) := by decide +kernel
theorem dL_judges_275 : decode cL_judges 275 = .ok (.iadd, 1) := by decide +kernel
theorem dL_judges_276 : decode cL_judges 276 = .ok (.iload 5, 2) := by decide +kernel
theorem dL_judges_278 : decode cL_judges 278 = .ok (.isub, 1) := by decide +kernel
theorem dL_judges_279 : decode cL_judges 279 = .ok (.if_icmp .ne 26, 3) := by decide +kernel
theorem dL_judges_282 : decode cL_judges 282 = .ok (.iload 5, 2) := by decide +kernel
theorem dL_judges_284 : decode cL_judges 284 = .ok (.iconst 1, 1) := by decide +kernel
theorem dL_judges_285 : decode cL_judges 285 = .ok (.if_icmp .eq 16, 3) := by decide +kernel
theorem dL_judges_288 : decode cL_judges 288 = .ok (.aload_n 0, 1) := by decide +kernel
theorem dL_judges_289 : decode cL_judges 289 = .ok (.iload 4, 2) := by decide +kernel
theorem dL_judges_291 : decode cL_judges 291 = .ok (.iload 11, 2) := by decide +kernel
theorem dL_judges_293 : decode cL_judges 293 = .ok (.invokevirtual 52, 3) := by decide +kernel
theorem dL_judges_296 : decode cL_judges 296 = .ok (.iload 6, 2) := by decide +kernel
theorem dL_judges_298 : decode cL_judges 298 = .ok (.if_icmp .ne 7, 3) := by decide +kernel
theorem dL_judges_301 : decode cL_judges 301 = .ok (.iconst 1, 1) := by decide +kernel
theorem dL_judges_302 : decode cL_judges 302 = .ok (.goto 4, 3) := by decide +kernel
theorem dL_judges_306 : decode cL_judges 306 = .ok (.ireturn, 1) := by decide +kernel
set_option maxHeartbeats 1000000 in
set_option maxRecDepth 100000 in
theorem m_judges_00 (l : Launch) (hflag : l.stackTraces = false) (G : k_G) (xa xb : Nat) (mm : q_Mem) (z : Int32) (f w : Nat) (hL : LI mm) (hK1 : sp_K mm < 512) (hf : f < 6) (hw : w < sp_W mm) (hq : mm 9 w = -1) (Z : Nat → Prop) {p : Program} {e : Env} {s : State} {m : MethodId} {args : Array Value} {below : List Frame} {meth : Method} {c : Code} (hx : p.tables.exec = Jvm.exec) (hb : c.code = cL_judges) (hr : meth.sig.returnType = (some .boolean)) (hF : CallFix p m c cL_judges 17 s args wsL_law RL) (hlk : meth.locks = false) (hX : p_E0 G Z s) : p_W l G xa xb mm mm Z p e { frames := 13, cells := 1000, slots := 6000, locals := 275 } s m args below meth c 17 500 3000 (p_Q2 G xa xb mm (fun v u => v = 1 ∧ ∃ m2, u = (m2, m2) ∧ RD mm m2) Z below args s 1000 6000) [(12, .long (al mm)), (11, .int (mm 7 w)), (10, .int 0), (9, .int (sp_ve (mm 9 w))), (8, .int 1), (7, .int (mm 6 w)), (6, .int (mm 9 w)), (5, .int 0), (4, .int (nI w)), (3, .int (nI f)), (0, .ref xa), (1, .ref xb), (2, .int z)] 118 [] := by
  intro H locs ls hI hS hl
  have hC : ¬ (¬ mm 9 w = -1 ∧ ¬ sp_ve (mm 9 w) = nI f ∧ mm 6 w ≤ mm 0 f) := fun z => z.1 hq
  refine lv_aload_n hx hb dL_judges_118 rfl (lv_at hl 10 rfl) ?_
  refine lv_aload_n hx hb dL_judges_119 rfl (lv_at hl 11 rfl) ?_
  refine lv_iconst (v := 2) hx hb dL_judges_120 (by decide) ?_
  refine lv_iload_n hx hb dL_judges_121 rfl (lv_at hl 9 rfl) ?_
  refine lv_iload hx hb dL_judges_122 (lv_at hl 8 rfl) ?_
  refine lv_iload hx hb dL_judges_124 (lv_at hl 7 rfl) ?_
  refine p_iSk (mc1 := 8) (ms1 := 38) (fr := 12) (lo := 239) (n := 6) (As := [.ref xa, .ref xb, .int 2, .int (nI f), .int (nI w), .int 0]) (rest := []) hF (m_both (mc := 4) (ms := 19) (p_cx (nm := k_n2) (sp := sp_judge mm (nI f) (nI w) (0 = 1)) (jd_no hL hw hf hC) (by decide) cf2 (m_call (fun Z ad h => by rw [← h]; exact m_does_2 l hflag G Z ad mm (nI f) (nI w) 0 hL.1 hK1) (Or.inr rfl))) (p_cx (nm := k_n2) (sp := sp_judge mm (nI f) (nI w) (0 = 1)) (jd_no hL hw hf hC) (by decide) cf2 (m_call (fun Z ad h => by rw [← h]; exact m_does_2 l hflag G Z ad mm (nI f) (nI w) 0 hL.1 hK1) (Or.inr rfl)))) p_Em.id ke_L_both wd_l_L_147 (by decide) hI hX hS rfl hl.1 rfl (Nat.le_of_ble_eq_true rfl) dL_judges_126 (by first | decide | omega | (dsimp only; omega)) (fun H locs hI hS => ?_)
  replace hI : p_J G xa xb Z (mm, mm) H := hI
  refine lv_istore (lv' := [(14, .int (-2100000003)), (12, .long (al mm)), (11, .int (mm 7 w)), (10, .int 0), (9, .int (sp_ve (mm 9 w))), (8, .int 1), (7, .int (mm 6 w)), (6, .int (mm 9 w)), (5, .int 0), (4, .int (nI w)), (3, .int (nI f)), (0, .ref xa), (1, .ref xb), (2, .int z)]) hx hb dL_judges_129 hl (by decide) rfl (fun ls hl => ?_)
  refine lv_iload hx hb dL_judges_131 (lv_at hl 7 rfl) ?_
  refine lv_if_lt (tgt := 156) hx hb dL_judges_133 (by decide) (fun c133 => ?_) (fun c133 => ?_)
  · skip
    refine lv_iconst (v := 0) hx hb dL_judges_156 (by decide) ?_
    refine lv_istore (lv' := [(15, .int 0), (14, .int (-2100000003)), (12, .long (al mm)), (11, .int (mm 7 w)), (10, .int 0), (9, .int (sp_ve (mm 9 w))), (8, .int 1), (7, .int (mm 6 w)), (6, .int (mm 9 w)), (5, .int 0), (4, .int (nI w)), (3, .int (nI f)), (0, .ref xa), (1, .ref xb), (2, .int z)]) hx hb dL_judges_157 hl (by decide) rfl (fun ls hl => ?_)
    refine lv_iload hx hb dL_judges_159 (lv_at hl 0 rfl) ?_
    refine lv_if_ne (tgt := 192) hx hb dL_judges_161 (by decide) (fun c161 => ?_) (fun c161 => ?_)
    · skip
      exact absurd c161 (by decide)
    · skip
      refine lv_iload hx hb dL_judges_164 (lv_at hl 6 rfl) ?_
      refine lv_if_eq (tgt := 190) hx hb dL_judges_166 (by decide) (fun c166 => ?_) (fun c166 => ?_)
      · skip
        exact absurd c166 (by decide)
      · skip
        refine lv_iload hx hb dL_judges_169 (lv_at hl 1 rfl) ?_
        refine lv_ldc (v := -2100000003) hx hb hF.2.2.2.1 (hF.2.2.2.2 _ wd_x23) dL_judges_171 ?_
        refine lv_icmp_ne (tgt := 190) hx hb dL_judges_173 (by decide) (fun c173 => ?_) (fun c173 => ?_)
        · skip
          exact absurd rfl c173
        · skip
          refine lv_aload_n hx hb dL_judges_176 rfl (lv_at hl 12 rfl) ?_
          refine p_lSk (mc1 := 460) (ms1 := 2760) (fr := 12) (lo := 240) (n := 1) (As := [.ref xa]) (rest := []) hF (m_all l hflag G xa mm hL) p_Em.l ke_L_all wd_l_L_151 (by decide) hI hX hS rfl hl.1 rfl (Nat.le_of_ble_eq_true rfl) dL_judges_177 (by first | decide | omega | (dsimp only; omega)) (fun H locs hI hS => ?_)
          replace hI : p_J G xa xb Z (mm, mm) H := hI
          refine lv_lload hx hb dL_judges_180 (lv_at hl 2 rfl) ?_
          refine W.lcmp hx hb dL_judges_182 ?_
          refine bo_to (v := 0) (by simp [lg_cmp]) ?_
          refine lv_if_ne (tgt := 190) hx hb dL_judges_183 (by decide) (fun c183 => ?_) (fun c183 => ?_)
          · skip
            exact absurd c183 (by decide)
          · skip
            refine lv_iconst (v := 1) hx hb dL_judges_186 (by decide) ?_
            refine lv_goto (tgt := 191) hx hb dL_judges_187 (by decide) ?_
            exact p_zret hx hb hr hlk hI hS (by first | decide | omega | (dsimp only; omega)) (by first | decide | omega | (dsimp only; omega)) (by decide) (⟨rfl, mm, rfl, RD.rf hL⟩) dL_judges_191
  · skip
    exact absurd (by rw [hq]; decide) c133
set_option maxHeartbeats 1000000 in
set_option maxRecDepth 100000 in
theorem m_judges_10 (l : Launch) (hflag : l.stackTraces = false) (G : k_G) (xa xb : Nat) (mm : q_Mem) (z : Int32) (f w g k d tt : Nat) (hL : LI mm) (hK1 : sp_K mm < 512) (hf : f < 6) (hw : w < sp_W mm) (hg : g < 6) (hk : k < 4) (hd : d < 3) (hq : ¬ mm 9 w = -1) (q1 : mm 9 w = nI (100 * k + 10 * d + (g + 1))) (q2 : mm 9 w / 100 = nI k) (q3 : sp_vd (mm 9 w) = nI d) (q4 : sp_ve (mm 9 w) = nI g) (htt : tt ≤ 100) (et : mm 0 g = nI tt) (Z : Nat → Prop) {p : Program} {e : Env} {s : State} {m : MethodId} {args : Array Value} {below : List Frame} {meth : Method} {c : Code} (hx : p.tables.exec = Jvm.exec) (hb : c.code = cL_judges) (hr : meth.sig.returnType = (some .boolean)) (hF : CallFix p m c cL_judges 17 s args wsL_law RL) (hlk : meth.locks = false) (hX : p_E0 G Z s) : p_W l G xa xb mm mm Z p e { frames := 13, cells := 1000, slots := 6000, locals := 275 } s m args below meth c 17 500 3000 (p_Q2 G xa xb mm (fun v u => v = 1 ∧ ∃ m2, u = (m2, m2) ∧ RD mm m2) Z below args s 1000 6000) [(12, .long (al mm)), (11, .int (mm 7 w)), (10, .int (mm 0 g)), (9, .int (nI g)), (8, .int 1), (7, .int (mm 6 w)), (6, .int (mm 9 w)), (5, .int 0), (4, .int (nI w)), (3, .int (nI f)), (0, .ref xa), (1, .ref xb), (2, .int z)] 118 [] := by
  intro H locs ls hI hS hl
  by_cases hgf : nI g = nI f
  · skip
    have hC : ¬ (¬ mm 9 w = -1 ∧ ¬ sp_ve (mm 9 w) = nI f ∧ mm 6 w ≤ mm 0 f) := fun z => z.2.1 (q4.trans hgf)
    refine lv_aload_n hx hb dL_judges_118 rfl (lv_at hl 10 rfl) ?_
    refine lv_aload_n hx hb dL_judges_119 rfl (lv_at hl 11 rfl) ?_
    refine lv_iconst (v := 2) hx hb dL_judges_120 (by decide) ?_
    refine lv_iload_n hx hb dL_judges_121 rfl (lv_at hl 9 rfl) ?_
    refine lv_iload hx hb dL_judges_122 (lv_at hl 8 rfl) ?_
    refine lv_iload hx hb dL_judges_124 (lv_at hl 7 rfl) ?_
    refine p_iSk (mc1 := 8) (ms1 := 38) (fr := 12) (lo := 239) (n := 6) (As := [.ref xa, .ref xb, .int 2, .int (nI f), .int (nI w), .int 0]) (rest := []) hF (m_both (mc := 4) (ms := 19) (p_cx (nm := k_n2) (sp := sp_judge mm (nI f) (nI w) (0 = 1)) (jd_no hL hw hf hC) (by decide) cf2 (m_call (fun Z ad h => by rw [← h]; exact m_does_2 l hflag G Z ad mm (nI f) (nI w) 0 hL.1 hK1) (Or.inr rfl))) (p_cx (nm := k_n2) (sp := sp_judge mm (nI f) (nI w) (0 = 1)) (jd_no hL hw hf hC) (by decide) cf2 (m_call (fun Z ad h => by rw [← h]; exact m_does_2 l hflag G Z ad mm (nI f) (nI w) 0 hL.1 hK1) (Or.inr rfl)))) p_Em.id ke_L_both wd_l_L_147 (by decide) hI hX hS rfl hl.1 rfl (Nat.le_of_ble_eq_true rfl) dL_judges_126 (by first | decide | omega | (dsimp only; omega)) (fun H locs hI hS => ?_)
    replace hI : p_J G xa xb Z (mm, mm) H := hI
    refine lv_istore (lv' := [(14, .int (-2100000003)), (12, .long (al mm)), (11, .int (mm 7 w)), (10, .int (mm 0 g)), (9, .int (nI g)), (8, .int 1), (7, .int (mm 6 w)), (6, .int (mm 9 w)), (5, .int 0), (4, .int (nI w)), (3, .int (nI f)), (0, .ref xa), (1, .ref xb), (2, .int z)]) hx hb dL_judges_129 hl (by decide) rfl (fun ls hl => ?_)
    refine lv_iload hx hb dL_judges_131 (lv_at hl 7 rfl) ?_
    refine lv_if_lt (tgt := 156) hx hb dL_judges_133 (by decide) (fun c133 => ?_) (fun c133 => ?_)
    · skip
      exact absurd c133 (by rw [q1]; exact nI_pos (by omega))
    · skip
      refine lv_iload hx hb dL_judges_136 (lv_at hl 4 rfl) ?_
      refine lv_iload_n hx hb dL_judges_138 rfl (lv_at hl 10 rfl) ?_
      refine lv_icmp_eq (tgt := 156) hx hb dL_judges_139 (by decide) (fun c139 => ?_) (fun c139 => ?_)
      · skip
        refine lv_iconst (v := 0) hx hb dL_judges_156 (by decide) ?_
        refine lv_istore (lv' := [(15, .int 0), (14, .int (-2100000003)), (12, .long (al mm)), (11, .int (mm 7 w)), (10, .int (mm 0 g)), (9, .int (nI g)), (8, .int 1), (7, .int (mm 6 w)), (6, .int (mm 9 w)), (5, .int 0), (4, .int (nI w)), (3, .int (nI f)), (0, .ref xa), (1, .ref xb), (2, .int z)]) hx hb dL_judges_157 hl (by decide) rfl (fun ls hl => ?_)
        refine lv_iload hx hb dL_judges_159 (lv_at hl 0 rfl) ?_
        refine lv_if_ne (tgt := 192) hx hb dL_judges_161 (by decide) (fun c161 => ?_) (fun c161 => ?_)
        · skip
          exact absurd c161 (by decide)
        · skip
          refine lv_iload hx hb dL_judges_164 (lv_at hl 6 rfl) ?_
          refine lv_if_eq (tgt := 190) hx hb dL_judges_166 (by decide) (fun c166 => ?_) (fun c166 => ?_)
          · skip
            exact absurd c166 (by decide)
          · skip
            refine lv_iload hx hb dL_judges_169 (lv_at hl 1 rfl) ?_
            refine lv_ldc (v := -2100000003) hx hb hF.2.2.2.1 (hF.2.2.2.2 _ wd_x23) dL_judges_171 ?_
            refine lv_icmp_ne (tgt := 190) hx hb dL_judges_173 (by decide) (fun c173 => ?_) (fun c173 => ?_)
            · skip
              exact absurd rfl c173
            · skip
              refine lv_aload_n hx hb dL_judges_176 rfl (lv_at hl 12 rfl) ?_
              refine p_lSk (mc1 := 460) (ms1 := 2760) (fr := 12) (lo := 240) (n := 1) (As := [.ref xa]) (rest := []) hF (m_all l hflag G xa mm hL) p_Em.l ke_L_all wd_l_L_151 (by decide) hI hX hS rfl hl.1 rfl (Nat.le_of_ble_eq_true rfl) dL_judges_177 (by first | decide | omega | (dsimp only; omega)) (fun H locs hI hS => ?_)
              replace hI : p_J G xa xb Z (mm, mm) H := hI
              refine lv_lload hx hb dL_judges_180 (lv_at hl 2 rfl) ?_
              refine W.lcmp hx hb dL_judges_182 ?_
              refine bo_to (v := 0) (by simp [lg_cmp]) ?_
              refine lv_if_ne (tgt := 190) hx hb dL_judges_183 (by decide) (fun c183 => ?_) (fun c183 => ?_)
              · skip
                exact absurd c183 (by decide)
              · skip
                refine lv_iconst (v := 1) hx hb dL_judges_186 (by decide) ?_
                refine lv_goto (tgt := 191) hx hb dL_judges_187 (by decide) ?_
                exact p_zret hx hb hr hlk hI hS (by first | decide | omega | (dsimp only; omega)) (by first | decide | omega | (dsimp only; omega)) (by decide) (⟨rfl, mm, rfl, RD.rf hL⟩) dL_judges_191
      · skip
        exact absurd hgf c139
  · skip
    by_cases hgu : mm 6 w ≤ mm 0 f
    · skip
      have hC : ¬ mm 9 w = -1 ∧ ¬ sp_ve (mm 9 w) = nI f ∧ mm 6 w ≤ mm 0 f := ⟨hq, fun z => hgf (q4.symm.trans z), hgu⟩
      have hgn : ¬ f = g := fun z => hgf (by rw [z])
      obtain ⟨hM, hMK, hMW, hM0, hT, hV7, hV9, n9⟩ := jr_con hL hK1 hw hk hd hg hgn et
      have hMw : w < sp_W (sp_tru (sp_make mm w (nI k) (nI d) (nI g)) g 5) := by rw [hMW]; exact hw
      have hVc : vc (sp_tru (sp_make mm w (nI k) (nI d) (nI g)) g 5) w = mm 9 w := by rw [q1]; exact n9
      refine lv_aload_n hx hb dL_judges_118 rfl (lv_at hl 10 rfl) ?_
      refine lv_aload_n hx hb dL_judges_119 rfl (lv_at hl 11 rfl) ?_
      refine lv_iconst (v := 2) hx hb dL_judges_120 (by decide) ?_
      refine lv_iload_n hx hb dL_judges_121 rfl (lv_at hl 9 rfl) ?_
      refine lv_iload hx hb dL_judges_122 (lv_at hl 8 rfl) ?_
      refine lv_iload hx hb dL_judges_124 (lv_at hl 7 rfl) ?_
      refine p_iSk (mc1 := 8) (ms1 := 38) (fr := 12) (lo := 239) (n := 6) (As := [.ref xa, .ref xb, .int 2, .int (nI f), .int (nI w), .int 0]) (rest := []) hF (m_both (mc := 4) (ms := 19) (p_cv (nm := k_n2) (sp := sp_judge mm (nI f) (nI w) (0 = 1)) (cl_ok (jd_con hL hw hf hg hC (by decide) q2 q3 q4) (hM.2.1)) (m_call (fun Z ad h => by rw [← h]; exact m_does_2 l hflag G Z ad mm (nI f) (nI w) 0 hL.1 hK1) (Or.inr rfl))) (p_cv (nm := k_n2) (sp := sp_judge mm (nI f) (nI w) (0 = 1)) (cl_ok (jd_con hL hw hf hg hC (by decide) q2 q3 q4) (hM.2.1)) (m_call (fun Z ad h => by rw [← h]; exact m_does_2 l hflag G Z ad mm (nI f) (nI w) 0 hL.1 hK1) (Or.inr rfl)))) p_Em.id ke_L_both wd_l_L_147 (by decide) hI hX hS rfl hl.1 rfl (Nat.le_of_ble_eq_true rfl) dL_judges_126 (by first | decide | omega | (dsimp only; omega)) (fun H locs hI hS => ?_)
      replace hI : p_J G xa xb Z ((sp_tru (sp_make mm w (nI k) (nI d) (nI g)) g 5), (sp_tru (sp_make mm w (nI k) (nI d) (nI g)) g 5)) H := hI
      refine lv_istore (lv' := [(14, .int ((sp_tru (sp_make mm w (nI k) (nI d) (nI g)) g 5) 0 g)), (12, .long (al mm)), (11, .int (mm 7 w)), (10, .int (mm 0 g)), (9, .int (nI g)), (8, .int 1), (7, .int (mm 6 w)), (6, .int (mm 9 w)), (5, .int 0), (4, .int (nI w)), (3, .int (nI f)), (0, .ref xa), (1, .ref xb), (2, .int z)]) hx hb dL_judges_129 hl (by decide) rfl (fun ls hl => ?_)
      refine lv_iload hx hb dL_judges_131 (lv_at hl 7 rfl) ?_
      refine lv_if_lt (tgt := 156) hx hb dL_judges_133 (by decide) (fun c133 => ?_) (fun c133 => ?_)
      · skip
        exact absurd c133 (by rw [q1]; exact nI_pos (by omega))
      · skip
        refine lv_iload hx hb dL_judges_136 (lv_at hl 4 rfl) ?_
        refine lv_iload_n hx hb dL_judges_138 rfl (lv_at hl 10 rfl) ?_
        refine lv_icmp_eq (tgt := 156) hx hb dL_judges_139 (by decide) (fun c139 => ?_) (fun c139 => ?_)
        · skip
          exact absurd c139 hgf
        · skip
          refine lv_aload_n hx hb dL_judges_142 rfl (lv_at hl 11 rfl) ?_
          refine lv_iload_n hx hb dL_judges_143 rfl (lv_at hl 10 rfl) ?_
          refine p_iVk (fr := 7) (lo := 110) (mc1 := 1) (ms1 := 6) (n := 1) (As := [.int (nI f)]) (rest := []) hF (pv_trust l hflag G xa (sp_tru (sp_make mm w (nI k) (nI d) (nI g)) g 5) (nI f)  (r0 := ((sp_tru (sp_make mm w (nI k) (nI d) (nI g)) g 5) 0 f)) (m0 := (sp_tru (sp_make mm w (nI k) (nI d) (nI g)) g 5)) (v_tru hM hf) (hM.2.1)) p_Em.l ke_X4_trust wd_l_L_45 (by decide) hI hX hS rfl hl.1 rfl (Nat.le_of_ble_eq_true rfl) dL_judges_144 (by first | decide | omega | (dsimp only; omega)) (fun H locs hI hS => ?_)
          replace hI : p_J G xa xb Z ((sp_tru (sp_make mm w (nI k) (nI d) (nI g)) g 5), (sp_tru (sp_make mm w (nI k) (nI d) (nI g)) g 5)) H := hI
          refine lv_iload hx hb dL_judges_147 (lv_at hl 6 rfl) ?_
          refine lv_icmp_lt (tgt := 156) hx hb dL_judges_149 (by decide) (fun c149 => ?_) (fun c149 => ?_)
          · skip
            exact absurd hgu (by rw [hM0] at c149; exact bo_nle c149)
          · skip
            refine lv_iconst (v := 1) hx hb dL_judges_152 (by decide) ?_
            refine lv_goto (tgt := 157) hx hb dL_judges_153 (by decide) ?_
            refine lv_istore (lv' := [(15, .int 1), (14, .int ((sp_tru (sp_make mm w (nI k) (nI d) (nI g)) g 5) 0 g)), (12, .long (al mm)), (11, .int (mm 7 w)), (10, .int (mm 0 g)), (9, .int (nI g)), (8, .int 1), (7, .int (mm 6 w)), (6, .int (mm 9 w)), (5, .int 0), (4, .int (nI w)), (3, .int (nI f)), (0, .ref xa), (1, .ref xb), (2, .int z)]) hx hb dL_judges_157 hl (by decide) rfl (fun ls hl => ?_)
            refine lv_iload hx hb dL_judges_159 (lv_at hl 0 rfl) ?_
            refine lv_if_ne (tgt := 192) hx hb dL_judges_161 (by decide) (fun c161 => ?_) (fun c161 => ?_)
            · skip
              refine lv_iload hx hb dL_judges_192 (lv_at hl 9 rfl) ?_
              refine lv_iconst (v := 1) hx hb dL_judges_194 (by decide) ?_
              refine lv_icmp_ne (tgt := 215) hx hb dL_judges_195 (by decide) (fun c195 => ?_) (fun c195 => ?_)
              · skip
                refine lv_iload hx hb dL_judges_215 (lv_at hl 4 rfl) ?_
                refine lv_bipush (v := 95) hx hb dL_judges_217 (by decide) ?_
                refine lv_icmp_le (tgt := 227) hx hb dL_judges_219 (by decide) (fun cd => ?_) (fun cd => ?_)
                · skip
                  refine lv_iload hx hb dL_judges_227 (lv_at hl 4 rfl) ?_
                  refine lv_iconst (v := 5) hx hb dL_judges_229 (by decide) ?_
                  refine lv_iadd hx hb dL_judges_230 ?_
                  refine lv_istore (lv' := [(16, .int ((mm 0 g) + 5)), (15, .int 1), (14, .int ((sp_tru (sp_make mm w (nI k) (nI d) (nI g)) g 5) 0 g)), (12, .long (al mm)), (11, .int (mm 7 w)), (10, .int (mm 0 g)), (9, .int (nI g)), (8, .int 1), (7, .int (mm 6 w)), (6, .int (mm 9 w)), (5, .int 0), (4, .int (nI w)), (3, .int (nI f)), (0, .ref xa), (1, .ref xb), (2, .int z)]) hx hb dL_judges_231 hl (by decide) rfl (fun ls hl => ?_)
                  refine lv_iload hx hb dL_judges_233 (lv_at hl 7 rfl) ?_
                  refine lv_if_eq (tgt := 305) hx hb dL_judges_235 (by decide) (fun c235 => ?_) (fun c235 => ?_)
                  · skip
                    exact absurd c235 (by decide)
                  · skip
                    refine lv_iload hx hb dL_judges_238 (lv_at hl 2 rfl) ?_
                    refine lv_iload hx hb dL_judges_240 (lv_at hl 0 rfl) ?_
                    refine lv_icmp_ne (tgt := 305) hx hb dL_judges_242 (by decide) (fun c242 => ?_) (fun c242 => ?_)
                    · skip
                      exact absurd (hT.trans ((lim_p htt).trans ((if_neg (fun z => absurd cd (by rw [et]; exact bo_nle z))).trans (by rw [et])))) c242
                    · skip
                      refine lv_aload_n hx hb dL_judges_245 rfl (lv_at hl 13 rfl) ?_
                      refine lv_iload hx hb dL_judges_246 (lv_at hl 6 rfl) ?_
                      refine p_iVk (fr := 7) (lo := 110) (mc1 := 1) (ms1 := 6) (n := 1) (As := [.int (nI g)]) (rest := []) hF (pv_trust l hflag G xa (sp_tru (sp_make mm w (nI k) (nI d) (nI g)) g 5) (nI g)  (r0 := ((sp_tru (sp_make mm w (nI k) (nI d) (nI g)) g 5) 0 g)) (m0 := (sp_tru (sp_make mm w (nI k) (nI d) (nI g)) g 5)) (v_tru hM hg) (hM.2.1)) p_Em.l ke_X4_trust wd_l_L_45 (by decide) hI hX hS rfl hl.1 rfl (Nat.le_of_ble_eq_true rfl) dL_judges_248 (by first | decide | omega | (dsimp only; omega)) (fun H locs hI hS => ?_)
                      replace hI : p_J G xa xb Z ((sp_tru (sp_make mm w (nI k) (nI d) (nI g)) g 5), (sp_tru (sp_make mm w (nI k) (nI d) (nI g)) g 5)) H := hI
                      refine lv_iload hx hb dL_judges_251 (lv_at hl 0 rfl) ?_
                      refine lv_icmp_ne (tgt := 305) hx hb dL_judges_253 (by decide) (fun c253 => ?_) (fun c253 => ?_)
                      · skip
                        exact absurd (hT.trans ((lim_p htt).trans ((if_neg (fun z => absurd cd (by rw [et]; exact bo_nle z))).trans (by rw [et])))) c253
                      · skip
                        refine lv_aload_n hx hb dL_judges_256 rfl (lv_at hl 13 rfl) ?_
                        refine lv_iload hx hb dL_judges_257 (lv_at hl 11 rfl) ?_
                        refine p_iVk (fr := 7) (lo := 111) (mc1 := 1) (ms1 := 6) (n := 1) (As := [.int (nI w)]) (rest := []) hF (pv_waiting l hflag G xa (sp_tru (sp_make mm w (nI k) (nI d) (nI g)) g 5) (nI w) hM.1 (r0 := ((sp_tru (sp_make mm w (nI k) (nI d) (nI g)) g 5) 9 w)) (m0 := (sp_tru (sp_make mm w (nI k) (nI d) (nI g)) g 5)) (v_of hM hMw) (hM.2.1)) p_Em.l ke_X4_waiting wd_l_L_58 (by decide) hI hX hS rfl hl.1 rfl (Nat.le_of_ble_eq_true rfl) dL_judges_259 (by first | decide | omega | (dsimp only; omega)) (fun H locs hI hS => ?_)
                        replace hI : p_J G xa xb Z ((sp_tru (sp_make mm w (nI k) (nI d) (nI g)) g 5), (sp_tru (sp_make mm w (nI k) (nI d) (nI g)) g 5)) H := hI
                        refine lv_iconst (v := (-1)) hx hb dL_judges_262 (by decide) ?_
                        refine lv_icmp_ne (tgt := 305) hx hb dL_judges_263 (by decide) (fun c263 => ?_) (fun c263 => ?_)
                        · skip
                          exact absurd hV9 c263
                        · skip
                          refine lv_aload_n hx hb dL_judges_266 rfl (lv_at hl 13 rfl) ?_
                          refine lv_iload hx hb dL_judges_267 (lv_at hl 11 rfl) ?_
                          refine p_iVk (fr := 7) (lo := 111) (mc1 := 1) (ms1 := 6) (n := 1) (As := [.int (nI w)]) (rest := []) hF (pv_versions l hflag G xa (sp_tru (sp_make mm w (nI k) (nI d) (nI g)) g 5) (nI w) hM.1 (r0 := ((sp_tru (sp_make mm w (nI k) (nI d) (nI g)) g 5) 7 w)) (m0 := (sp_tru (sp_make mm w (nI k) (nI d) (nI g)) g 5)) (v_of hM hMw) (hM.2.1)) p_Em.l ke_X4_versions wd_l_L_49 (by decide) hI hX hS rfl hl.1 rfl (Nat.le_of_ble_eq_true rfl) dL_judges_269 (by first | decide | omega | (dsimp only; omega)) (fun H locs hI hS => ?_)
                          replace hI : p_J G xa xb Z ((sp_tru (sp_make mm w (nI k) (nI d) (nI g)) g 5), (sp_tru (sp_make mm w (nI k) (nI d) (nI g)) g 5)) H := hI
                          refine lv_iload hx hb dL_judges_272 (lv_at hl 4 rfl) ?_
                          refine lv_iconst (v := 1) hx hb dL_judges_274 (by decide) ?_
                          refine lv_iadd hx hb dL_judges_275 ?_
                          refine lv_iload hx hb dL_judges_276 (lv_at hl 10 rfl) ?_
                          refine lv_isub hx hb dL_judges_278 ?_
                          refine lv_icmp_ne (tgt := 305) hx hb dL_judges_279 (by decide) (fun c279 => ?_) (fun c279 => ?_)
                          · skip
                            exact absurd hV7 c279
                          · skip
                            refine lv_iload hx hb dL_judges_282 (lv_at hl 10 rfl) ?_
                            refine lv_iconst (v := 1) hx hb dL_judges_284 (by decide) ?_
                            refine lv_icmp_eq (tgt := 301) hx hb dL_judges_285 (by decide) (fun c285 => ?_) (fun c285 => ?_)
                            · skip
                              exact absurd c285 (by decide)
                            · skip
                              refine lv_aload_n hx hb dL_judges_288 rfl (lv_at hl 13 rfl) ?_
                              refine lv_iload hx hb dL_judges_289 (lv_at hl 11 rfl) ?_
                              refine lv_iload hx hb dL_judges_291 (lv_at hl 4 rfl) ?_
                              refine p_iVk (fr := 7) (lo := 112) (mc1 := 2) (ms1 := 12) (n := 2) (As := [.int (nI w), .int (mm 7 w)]) (rest := []) hF (pv_version l hflag G xa (sp_tru (sp_make mm w (nI k) (nI d) (nI g)) g 5) (nI w) (mm 7 w) hM.1 (r0 := (vc (sp_tru (sp_make mm w (nI k) (nI d) (nI g)) g 5) w)) (m0 := (sp_tru (sp_make mm w (nI k) (nI d) (nI g)) g 5)) ((by rw [show mm 7 w = (sp_tru (sp_make mm w (nI k) (nI d) (nI g)) g 5) 7 w - 1 from by rw [hV7, Int32.sub_zero]; exact (i_pm _).symm]; exact v_ver hM hMw)) (hM.2.1)) p_Em.l ke_X4_version wd_l_L_52 (by decide) hI hX hS rfl hl.1 rfl (Nat.le_of_ble_eq_true rfl) dL_judges_293 (by first | decide | omega | (dsimp only; omega)) (fun H locs hI hS => ?_)
                              replace hI : p_J G xa xb Z ((sp_tru (sp_make mm w (nI k) (nI d) (nI g)) g 5), (sp_tru (sp_make mm w (nI k) (nI d) (nI g)) g 5)) H := hI
                              refine lv_iload hx hb dL_judges_296 (lv_at hl 9 rfl) ?_
                              refine lv_icmp_ne (tgt := 305) hx hb dL_judges_298 (by decide) (fun c298 => ?_) (fun c298 => ?_)
                              · skip
                                exact absurd hVc c298
                              · skip
                                refine lv_iconst (v := 1) hx hb dL_judges_301 (by decide) ?_
                                refine lv_goto (tgt := 306) hx hb dL_judges_302 (by decide) ?_
                                exact p_zret hx hb hr hlk hI hS (by first | decide | omega | (dsimp only; omega)) (by first | decide | omega | (dsimp only; omega)) (by decide) (⟨rfl, _, rfl, hM, hMK⟩) dL_judges_306
                · skip
                  refine lv_bipush (v := 100) hx hb dL_judges_222 (by decide) ?_
                  refine lv_goto (tgt := 231) hx hb dL_judges_224 (by decide) ?_
                  refine lv_istore (lv' := [(16, .int 100), (15, .int 1), (14, .int ((sp_tru (sp_make mm w (nI k) (nI d) (nI g)) g 5) 0 g)), (12, .long (al mm)), (11, .int (mm 7 w)), (10, .int (mm 0 g)), (9, .int (nI g)), (8, .int 1), (7, .int (mm 6 w)), (6, .int (mm 9 w)), (5, .int 0), (4, .int (nI w)), (3, .int (nI f)), (0, .ref xa), (1, .ref xb), (2, .int z)]) hx hb dL_judges_231 hl (by decide) rfl (fun ls hl => ?_)
                  refine lv_iload hx hb dL_judges_233 (lv_at hl 7 rfl) ?_
                  refine lv_if_eq (tgt := 305) hx hb dL_judges_235 (by decide) (fun c235 => ?_) (fun c235 => ?_)
                  · skip
                    exact absurd c235 (by decide)
                  · skip
                    refine lv_iload hx hb dL_judges_238 (lv_at hl 2 rfl) ?_
                    refine lv_iload hx hb dL_judges_240 (lv_at hl 0 rfl) ?_
                    refine lv_icmp_ne (tgt := 305) hx hb dL_judges_242 (by decide) (fun c242 => ?_) (fun c242 => ?_)
                    · skip
                      exact absurd (hT.trans ((lim_p htt).trans ((if_pos (by rw [← et]; exact bo_le cd)).trans rfl))) c242
                    · skip
                      refine lv_aload_n hx hb dL_judges_245 rfl (lv_at hl 13 rfl) ?_
                      refine lv_iload hx hb dL_judges_246 (lv_at hl 6 rfl) ?_
                      refine p_iVk (fr := 7) (lo := 110) (mc1 := 1) (ms1 := 6) (n := 1) (As := [.int (nI g)]) (rest := []) hF (pv_trust l hflag G xa (sp_tru (sp_make mm w (nI k) (nI d) (nI g)) g 5) (nI g)  (r0 := ((sp_tru (sp_make mm w (nI k) (nI d) (nI g)) g 5) 0 g)) (m0 := (sp_tru (sp_make mm w (nI k) (nI d) (nI g)) g 5)) (v_tru hM hg) (hM.2.1)) p_Em.l ke_X4_trust wd_l_L_45 (by decide) hI hX hS rfl hl.1 rfl (Nat.le_of_ble_eq_true rfl) dL_judges_248 (by first | decide | omega | (dsimp only; omega)) (fun H locs hI hS => ?_)
                      replace hI : p_J G xa xb Z ((sp_tru (sp_make mm w (nI k) (nI d) (nI g)) g 5), (sp_tru (sp_make mm w (nI k) (nI d) (nI g)) g 5)) H := hI
                      refine lv_iload hx hb dL_judges_251 (lv_at hl 0 rfl) ?_
                      refine lv_icmp_ne (tgt := 305) hx hb dL_judges_253 (by decide) (fun c253 => ?_) (fun c253 => ?_)
                      · skip
                        exact absurd (hT.trans ((lim_p htt).trans ((if_pos (by rw [← et]; exact bo_le cd)).trans rfl))) c253
                      · skip
                        refine lv_aload_n hx hb dL_judges_256 rfl (lv_at hl 13 rfl) ?_
                        refine lv_iload hx hb dL_judges_257 (lv_at hl 11 rfl) ?_
                        refine p_iVk (fr := 7) (lo := 111) (mc1 := 1) (ms1 := 6) (n := 1) (As := [.int (nI w)]) (rest := []) hF (pv_waiting l hflag G xa (sp_tru (sp_make mm w (nI k) (nI d) (nI g)) g 5) (nI w) hM.1 (r0 := ((sp_tru (sp_make mm w (nI k) (nI d) (nI g)) g 5) 9 w)) (m0 := (sp_tru (sp_make mm w (nI k) (nI d) (nI g)) g 5)) (v_of hM hMw) (hM.2.1)) p_Em.l ke_X4_waiting wd_l_L_58 (by decide) hI hX hS rfl hl.1 rfl (Nat.le_of_ble_eq_true rfl) dL_judges_259 (by first | decide | omega | (dsimp only; omega)) (fun H locs hI hS => ?_)
                        replace hI : p_J G xa xb Z ((sp_tru (sp_make mm w (nI k) (nI d) (nI g)) g 5), (sp_tru (sp_make mm w (nI k) (nI d) (nI g)) g 5)) H := hI
                        refine lv_iconst (v := (-1)) hx hb dL_judges_262 (by decide) ?_
                        refine lv_icmp_ne (tgt := 305) hx hb dL_judges_263 (by decide) (fun c263 => ?_) (fun c263 => ?_)
                        · skip
                          exact absurd hV9 c263
                        · skip
                          refine lv_aload_n hx hb dL_judges_266 rfl (lv_at hl 13 rfl) ?_
                          refine lv_iload hx hb dL_judges_267 (lv_at hl 11 rfl) ?_
                          refine p_iVk (fr := 7) (lo := 111) (mc1 := 1) (ms1 := 6) (n := 1) (As := [.int (nI w)]) (rest := []) hF (pv_versions l hflag G xa (sp_tru (sp_make mm w (nI k) (nI d) (nI g)) g 5) (nI w) hM.1 (r0 := ((sp_tru (sp_make mm w (nI k) (nI d) (nI g)) g 5) 7 w)) (m0 := (sp_tru (sp_make mm w (nI k) (nI d) (nI g)) g 5)) (v_of hM hMw) (hM.2.1)) p_Em.l ke_X4_versions wd_l_L_49 (by decide) hI hX hS rfl hl.1 rfl (Nat.le_of_ble_eq_true rfl) dL_judges_269 (by first | decide | omega | (dsimp only; omega)) (fun H locs hI hS => ?_)
                          replace hI : p_J G xa xb Z ((sp_tru (sp_make mm w (nI k) (nI d) (nI g)) g 5), (sp_tru (sp_make mm w (nI k) (nI d) (nI g)) g 5)) H := hI
                          refine lv_iload hx hb dL_judges_272 (lv_at hl 4 rfl) ?_
                          refine lv_iconst (v := 1) hx hb dL_judges_274 (by decide) ?_
                          refine lv_iadd hx hb dL_judges_275 ?_
                          refine lv_iload hx hb dL_judges_276 (lv_at hl 10 rfl) ?_
                          refine lv_isub hx hb dL_judges_278 ?_
                          refine lv_icmp_ne (tgt := 305) hx hb dL_judges_279 (by decide) (fun c279 => ?_) (fun c279 => ?_)
                          · skip
                            exact absurd hV7 c279
                          · skip
                            refine lv_iload hx hb dL_judges_282 (lv_at hl 10 rfl) ?_
                            refine lv_iconst (v := 1) hx hb dL_judges_284 (by decide) ?_
                            refine lv_icmp_eq (tgt := 301) hx hb dL_judges_285 (by decide) (fun c285 => ?_) (fun c285 => ?_)
                            · skip
                              exact absurd c285 (by decide)
                            · skip
                              refine lv_aload_n hx hb dL_judges_288 rfl (lv_at hl 13 rfl) ?_
                              refine lv_iload hx hb dL_judges_289 (lv_at hl 11 rfl) ?_
                              refine lv_iload hx hb dL_judges_291 (lv_at hl 4 rfl) ?_
                              refine p_iVk (fr := 7) (lo := 112) (mc1 := 2) (ms1 := 12) (n := 2) (As := [.int (nI w), .int (mm 7 w)]) (rest := []) hF (pv_version l hflag G xa (sp_tru (sp_make mm w (nI k) (nI d) (nI g)) g 5) (nI w) (mm 7 w) hM.1 (r0 := (vc (sp_tru (sp_make mm w (nI k) (nI d) (nI g)) g 5) w)) (m0 := (sp_tru (sp_make mm w (nI k) (nI d) (nI g)) g 5)) ((by rw [show mm 7 w = (sp_tru (sp_make mm w (nI k) (nI d) (nI g)) g 5) 7 w - 1 from by rw [hV7, Int32.sub_zero]; exact (i_pm _).symm]; exact v_ver hM hMw)) (hM.2.1)) p_Em.l ke_X4_version wd_l_L_52 (by decide) hI hX hS rfl hl.1 rfl (Nat.le_of_ble_eq_true rfl) dL_judges_293 (by first | decide | omega | (dsimp only; omega)) (fun H locs hI hS => ?_)
                              replace hI : p_J G xa xb Z ((sp_tru (sp_make mm w (nI k) (nI d) (nI g)) g 5), (sp_tru (sp_make mm w (nI k) (nI d) (nI g)) g 5)) H := hI
                              refine lv_iload hx hb dL_judges_296 (lv_at hl 9 rfl) ?_
                              refine lv_icmp_ne (tgt := 305) hx hb dL_judges_298 (by decide) (fun c298 => ?_) (fun c298 => ?_)
                              · skip
                                exact absurd hVc c298
                              · skip
                                refine lv_iconst (v := 1) hx hb dL_judges_301 (by decide) ?_
                                refine lv_goto (tgt := 306) hx hb dL_judges_302 (by decide) ?_
                                exact p_zret hx hb hr hlk hI hS (by first | decide | omega | (dsimp only; omega)) (by first | decide | omega | (dsimp only; omega)) (by decide) (⟨rfl, _, rfl, hM, hMK⟩) dL_judges_306
              · skip
                exact absurd c195 (by decide)
            · skip
              exact absurd c161 (by decide)
    · skip
      have hC : ¬ (¬ mm 9 w = -1 ∧ ¬ sp_ve (mm 9 w) = nI f ∧ mm 6 w ≤ mm 0 f) := fun z => hgu z.2.2
      refine lv_aload_n hx hb dL_judges_118 rfl (lv_at hl 10 rfl) ?_
      refine lv_aload_n hx hb dL_judges_119 rfl (lv_at hl 11 rfl) ?_
      refine lv_iconst (v := 2) hx hb dL_judges_120 (by decide) ?_
      refine lv_iload_n hx hb dL_judges_121 rfl (lv_at hl 9 rfl) ?_
      refine lv_iload hx hb dL_judges_122 (lv_at hl 8 rfl) ?_
      refine lv_iload hx hb dL_judges_124 (lv_at hl 7 rfl) ?_
      refine p_iSk (mc1 := 8) (ms1 := 38) (fr := 12) (lo := 239) (n := 6) (As := [.ref xa, .ref xb, .int 2, .int (nI f), .int (nI w), .int 0]) (rest := []) hF (m_both (mc := 4) (ms := 19) (p_cx (nm := k_n2) (sp := sp_judge mm (nI f) (nI w) (0 = 1)) (jd_no hL hw hf hC) (by decide) cf2 (m_call (fun Z ad h => by rw [← h]; exact m_does_2 l hflag G Z ad mm (nI f) (nI w) 0 hL.1 hK1) (Or.inr rfl))) (p_cx (nm := k_n2) (sp := sp_judge mm (nI f) (nI w) (0 = 1)) (jd_no hL hw hf hC) (by decide) cf2 (m_call (fun Z ad h => by rw [← h]; exact m_does_2 l hflag G Z ad mm (nI f) (nI w) 0 hL.1 hK1) (Or.inr rfl)))) p_Em.id ke_L_both wd_l_L_147 (by decide) hI hX hS rfl hl.1 rfl (Nat.le_of_ble_eq_true rfl) dL_judges_126 (by first | decide | omega | (dsimp only; omega)) (fun H locs hI hS => ?_)
      replace hI : p_J G xa xb Z (mm, mm) H := hI
      refine lv_istore (lv' := [(14, .int (-2100000003)), (12, .long (al mm)), (11, .int (mm 7 w)), (10, .int (mm 0 g)), (9, .int (nI g)), (8, .int 1), (7, .int (mm 6 w)), (6, .int (mm 9 w)), (5, .int 0), (4, .int (nI w)), (3, .int (nI f)), (0, .ref xa), (1, .ref xb), (2, .int z)]) hx hb dL_judges_129 hl (by decide) rfl (fun ls hl => ?_)
      refine lv_iload hx hb dL_judges_131 (lv_at hl 7 rfl) ?_
      refine lv_if_lt (tgt := 156) hx hb dL_judges_133 (by decide) (fun c133 => ?_) (fun c133 => ?_)
      · skip
        exact absurd c133 (by rw [q1]; exact nI_pos (by omega))
      · skip
        refine lv_iload hx hb dL_judges_136 (lv_at hl 4 rfl) ?_
        refine lv_iload_n hx hb dL_judges_138 rfl (lv_at hl 10 rfl) ?_
        refine lv_icmp_eq (tgt := 156) hx hb dL_judges_139 (by decide) (fun c139 => ?_) (fun c139 => ?_)
        · skip
          exact absurd c139 hgf
        · skip
          refine lv_aload_n hx hb dL_judges_142 rfl (lv_at hl 11 rfl) ?_
          refine lv_iload_n hx hb dL_judges_143 rfl (lv_at hl 10 rfl) ?_
          refine p_iVk (fr := 7) (lo := 110) (mc1 := 1) (ms1 := 6) (n := 1) (As := [.int (nI f)]) (rest := []) hF (pv_trust l hflag G xa mm (nI f)  (r0 := (mm 0 f)) (m0 := mm) (v_tru hL hf) (hL.2.1)) p_Em.l ke_X4_trust wd_l_L_45 (by decide) hI hX hS rfl hl.1 rfl (Nat.le_of_ble_eq_true rfl) dL_judges_144 (by first | decide | omega | (dsimp only; omega)) (fun H locs hI hS => ?_)
          replace hI : p_J G xa xb Z (mm, mm) H := hI
          refine lv_iload hx hb dL_judges_147 (lv_at hl 6 rfl) ?_
          refine lv_icmp_lt (tgt := 156) hx hb dL_judges_149 (by decide) (fun c149 => ?_) (fun c149 => ?_)
          · skip
            refine lv_iconst (v := 0) hx hb dL_judges_156 (by decide) ?_
            refine lv_istore (lv' := [(15, .int 0), (14, .int (-2100000003)), (12, .long (al mm)), (11, .int (mm 7 w)), (10, .int (mm 0 g)), (9, .int (nI g)), (8, .int 1), (7, .int (mm 6 w)), (6, .int (mm 9 w)), (5, .int 0), (4, .int (nI w)), (3, .int (nI f)), (0, .ref xa), (1, .ref xb), (2, .int z)]) hx hb dL_judges_157 hl (by decide) rfl (fun ls hl => ?_)
            refine lv_iload hx hb dL_judges_159 (lv_at hl 0 rfl) ?_
            refine lv_if_ne (tgt := 192) hx hb dL_judges_161 (by decide) (fun c161 => ?_) (fun c161 => ?_)
            · skip
              exact absurd c161 (by decide)
            · skip
              refine lv_iload hx hb dL_judges_164 (lv_at hl 6 rfl) ?_
              refine lv_if_eq (tgt := 190) hx hb dL_judges_166 (by decide) (fun c166 => ?_) (fun c166 => ?_)
              · skip
                exact absurd c166 (by decide)
              · skip
                refine lv_iload hx hb dL_judges_169 (lv_at hl 1 rfl) ?_
                refine lv_ldc (v := -2100000003) hx hb hF.2.2.2.1 (hF.2.2.2.2 _ wd_x23) dL_judges_171 ?_
                refine lv_icmp_ne (tgt := 190) hx hb dL_judges_173 (by decide) (fun c173 => ?_) (fun c173 => ?_)
                · skip
                  exact absurd rfl c173
                · skip
                  refine lv_aload_n hx hb dL_judges_176 rfl (lv_at hl 12 rfl) ?_
                  refine p_lSk (mc1 := 460) (ms1 := 2760) (fr := 12) (lo := 240) (n := 1) (As := [.ref xa]) (rest := []) hF (m_all l hflag G xa mm hL) p_Em.l ke_L_all wd_l_L_151 (by decide) hI hX hS rfl hl.1 rfl (Nat.le_of_ble_eq_true rfl) dL_judges_177 (by first | decide | omega | (dsimp only; omega)) (fun H locs hI hS => ?_)
                  replace hI : p_J G xa xb Z (mm, mm) H := hI
                  refine lv_lload hx hb dL_judges_180 (lv_at hl 2 rfl) ?_
                  refine W.lcmp hx hb dL_judges_182 ?_
                  refine bo_to (v := 0) (by simp [lg_cmp]) ?_
                  refine lv_if_ne (tgt := 190) hx hb dL_judges_183 (by decide) (fun c183 => ?_) (fun c183 => ?_)
                  · skip
                    exact absurd c183 (by decide)
                  · skip
                    refine lv_iconst (v := 1) hx hb dL_judges_186 (by decide) ?_
                    refine lv_goto (tgt := 191) hx hb dL_judges_187 (by decide) ?_
                    exact p_zret hx hb hr hlk hI hS (by first | decide | omega | (dsimp only; omega)) (by first | decide | omega | (dsimp only; omega)) (by decide) (⟨rfl, mm, rfl, RD.rf hL⟩) dL_judges_191
          · skip
            exact absurd (Decidable.not_not.mp fun z => hgu (bo_lt z)) c149
set_option maxHeartbeats 1000000 in
set_option maxRecDepth 100000 in
theorem m_judges_01 (l : Launch) (hflag : l.stackTraces = false) (G : k_G) (xa xb : Nat) (mm : q_Mem) (z : Int32) (f w : Nat) (hL : LI mm) (hK1 : sp_K mm < 512) (hf : f < 6) (hw : w < sp_W mm) (hq : mm 9 w = -1) (Z : Nat → Prop) {p : Program} {e : Env} {s : State} {m : MethodId} {args : Array Value} {below : List Frame} {meth : Method} {c : Code} (hx : p.tables.exec = Jvm.exec) (hb : c.code = cL_judges) (hr : meth.sig.returnType = (some .boolean)) (hF : CallFix p m c cL_judges 17 s args wsL_law RL) (hlk : meth.locks = false) (hX : p_E0 G Z s) : p_W l G xa xb mm mm Z p e { frames := 13, cells := 1000, slots := 6000, locals := 275 } s m args below meth c 17 500 3000 (p_Q2 G xa xb mm (fun v u => v = 1 ∧ ∃ m2, u = (m2, m2) ∧ RD mm m2) Z below args s 1000 6000) [(12, .long (al mm)), (11, .int (mm 7 w)), (10, .int 0), (9, .int (sp_ve (mm 9 w))), (8, .int 1), (7, .int (mm 6 w)), (6, .int (mm 9 w)), (5, .int 1), (4, .int (nI w)), (3, .int (nI f)), (0, .ref xa), (1, .ref xb), (2, .int z)] 118 [] := by
  intro H locs ls hI hS hl
  have hC : ¬ (¬ mm 9 w = -1 ∧ ¬ sp_ve (mm 9 w) = nI f ∧ mm 6 w ≤ mm 0 f) := fun z => z.1 hq
  refine lv_aload_n hx hb dL_judges_118 rfl (lv_at hl 10 rfl) ?_
  refine lv_aload_n hx hb dL_judges_119 rfl (lv_at hl 11 rfl) ?_
  refine lv_iconst (v := 2) hx hb dL_judges_120 (by decide) ?_
  refine lv_iload_n hx hb dL_judges_121 rfl (lv_at hl 9 rfl) ?_
  refine lv_iload hx hb dL_judges_122 (lv_at hl 8 rfl) ?_
  refine lv_iload hx hb dL_judges_124 (lv_at hl 7 rfl) ?_
  refine p_iSk (mc1 := 8) (ms1 := 38) (fr := 12) (lo := 239) (n := 6) (As := [.ref xa, .ref xb, .int 2, .int (nI f), .int (nI w), .int 1]) (rest := []) hF (m_both (mc := 4) (ms := 19) (p_cx (nm := k_n2) (sp := sp_judge mm (nI f) (nI w) (1 = 1)) (jd_no hL hw hf hC) (by decide) cf2 (m_call (fun Z ad h => by rw [← h]; exact m_does_2 l hflag G Z ad mm (nI f) (nI w) 1 hL.1 hK1) (Or.inr rfl))) (p_cx (nm := k_n2) (sp := sp_judge mm (nI f) (nI w) (1 = 1)) (jd_no hL hw hf hC) (by decide) cf2 (m_call (fun Z ad h => by rw [← h]; exact m_does_2 l hflag G Z ad mm (nI f) (nI w) 1 hL.1 hK1) (Or.inr rfl)))) p_Em.id ke_L_both wd_l_L_147 (by decide) hI hX hS rfl hl.1 rfl (Nat.le_of_ble_eq_true rfl) dL_judges_126 (by first | decide | omega | (dsimp only; omega)) (fun H locs hI hS => ?_)
  replace hI : p_J G xa xb Z (mm, mm) H := hI
  refine lv_istore (lv' := [(14, .int (-2100000003)), (12, .long (al mm)), (11, .int (mm 7 w)), (10, .int 0), (9, .int (sp_ve (mm 9 w))), (8, .int 1), (7, .int (mm 6 w)), (6, .int (mm 9 w)), (5, .int 1), (4, .int (nI w)), (3, .int (nI f)), (0, .ref xa), (1, .ref xb), (2, .int z)]) hx hb dL_judges_129 hl (by decide) rfl (fun ls hl => ?_)
  refine lv_iload hx hb dL_judges_131 (lv_at hl 7 rfl) ?_
  refine lv_if_lt (tgt := 156) hx hb dL_judges_133 (by decide) (fun c133 => ?_) (fun c133 => ?_)
  · skip
    refine lv_iconst (v := 0) hx hb dL_judges_156 (by decide) ?_
    refine lv_istore (lv' := [(15, .int 0), (14, .int (-2100000003)), (12, .long (al mm)), (11, .int (mm 7 w)), (10, .int 0), (9, .int (sp_ve (mm 9 w))), (8, .int 1), (7, .int (mm 6 w)), (6, .int (mm 9 w)), (5, .int 1), (4, .int (nI w)), (3, .int (nI f)), (0, .ref xa), (1, .ref xb), (2, .int z)]) hx hb dL_judges_157 hl (by decide) rfl (fun ls hl => ?_)
    refine lv_iload hx hb dL_judges_159 (lv_at hl 0 rfl) ?_
    refine lv_if_ne (tgt := 192) hx hb dL_judges_161 (by decide) (fun c161 => ?_) (fun c161 => ?_)
    · skip
      exact absurd c161 (by decide)
    · skip
      refine lv_iload hx hb dL_judges_164 (lv_at hl 6 rfl) ?_
      refine lv_if_eq (tgt := 190) hx hb dL_judges_166 (by decide) (fun c166 => ?_) (fun c166 => ?_)
      · skip
        exact absurd c166 (by decide)
      · skip
        refine lv_iload hx hb dL_judges_169 (lv_at hl 1 rfl) ?_
        refine lv_ldc (v := -2100000003) hx hb hF.2.2.2.1 (hF.2.2.2.2 _ wd_x23) dL_judges_171 ?_
        refine lv_icmp_ne (tgt := 190) hx hb dL_judges_173 (by decide) (fun c173 => ?_) (fun c173 => ?_)
        · skip
          exact absurd rfl c173
        · skip
          refine lv_aload_n hx hb dL_judges_176 rfl (lv_at hl 12 rfl) ?_
          refine p_lSk (mc1 := 460) (ms1 := 2760) (fr := 12) (lo := 240) (n := 1) (As := [.ref xa]) (rest := []) hF (m_all l hflag G xa mm hL) p_Em.l ke_L_all wd_l_L_151 (by decide) hI hX hS rfl hl.1 rfl (Nat.le_of_ble_eq_true rfl) dL_judges_177 (by first | decide | omega | (dsimp only; omega)) (fun H locs hI hS => ?_)
          replace hI : p_J G xa xb Z (mm, mm) H := hI
          refine lv_lload hx hb dL_judges_180 (lv_at hl 2 rfl) ?_
          refine W.lcmp hx hb dL_judges_182 ?_
          refine bo_to (v := 0) (by simp [lg_cmp]) ?_
          refine lv_if_ne (tgt := 190) hx hb dL_judges_183 (by decide) (fun c183 => ?_) (fun c183 => ?_)
          · skip
            exact absurd c183 (by decide)
          · skip
            refine lv_iconst (v := 1) hx hb dL_judges_186 (by decide) ?_
            refine lv_goto (tgt := 191) hx hb dL_judges_187 (by decide) ?_
            exact p_zret hx hb hr hlk hI hS (by first | decide | omega | (dsimp only; omega)) (by first | decide | omega | (dsimp only; omega)) (by decide) (⟨rfl, mm, rfl, RD.rf hL⟩) dL_judges_191
  · skip
    exact absurd (by rw [hq]; decide) c133
set_option maxHeartbeats 1000000 in
set_option maxRecDepth 100000 in
theorem m_judges_11 (l : Launch) (hflag : l.stackTraces = false) (G : k_G) (xa xb : Nat) (mm : q_Mem) (z : Int32) (f w g k d tt : Nat) (hL : LI mm) (hK1 : sp_K mm < 512) (hf : f < 6) (hw : w < sp_W mm) (hg : g < 6) (hk : k < 4) (hd : d < 3) (hq : ¬ mm 9 w = -1) (q1 : mm 9 w = nI (100 * k + 10 * d + (g + 1))) (q2 : mm 9 w / 100 = nI k) (q3 : sp_vd (mm 9 w) = nI d) (q4 : sp_ve (mm 9 w) = nI g) (htt : tt ≤ 100) (et : mm 0 g = nI tt) (Z : Nat → Prop) {p : Program} {e : Env} {s : State} {m : MethodId} {args : Array Value} {below : List Frame} {meth : Method} {c : Code} (hx : p.tables.exec = Jvm.exec) (hb : c.code = cL_judges) (hr : meth.sig.returnType = (some .boolean)) (hF : CallFix p m c cL_judges 17 s args wsL_law RL) (hlk : meth.locks = false) (hX : p_E0 G Z s) : p_W l G xa xb mm mm Z p e { frames := 13, cells := 1000, slots := 6000, locals := 275 } s m args below meth c 17 500 3000 (p_Q2 G xa xb mm (fun v u => v = 1 ∧ ∃ m2, u = (m2, m2) ∧ RD mm m2) Z below args s 1000 6000) [(12, .long (al mm)), (11, .int (mm 7 w)), (10, .int (mm 0 g)), (9, .int (nI g)), (8, .int 1), (7, .int (mm 6 w)), (6, .int (mm 9 w)), (5, .int 1), (4, .int (nI w)), (3, .int (nI f)), (0, .ref xa), (1, .ref xb), (2, .int z)] 118 [] := by
  intro H locs ls hI hS hl
  by_cases hgf : nI g = nI f
  · skip
    have hC : ¬ (¬ mm 9 w = -1 ∧ ¬ sp_ve (mm 9 w) = nI f ∧ mm 6 w ≤ mm 0 f) := fun z => z.2.1 (q4.trans hgf)
    refine lv_aload_n hx hb dL_judges_118 rfl (lv_at hl 10 rfl) ?_
    refine lv_aload_n hx hb dL_judges_119 rfl (lv_at hl 11 rfl) ?_
    refine lv_iconst (v := 2) hx hb dL_judges_120 (by decide) ?_
    refine lv_iload_n hx hb dL_judges_121 rfl (lv_at hl 9 rfl) ?_
    refine lv_iload hx hb dL_judges_122 (lv_at hl 8 rfl) ?_
    refine lv_iload hx hb dL_judges_124 (lv_at hl 7 rfl) ?_
    refine p_iSk (mc1 := 8) (ms1 := 38) (fr := 12) (lo := 239) (n := 6) (As := [.ref xa, .ref xb, .int 2, .int (nI f), .int (nI w), .int 1]) (rest := []) hF (m_both (mc := 4) (ms := 19) (p_cx (nm := k_n2) (sp := sp_judge mm (nI f) (nI w) (1 = 1)) (jd_no hL hw hf hC) (by decide) cf2 (m_call (fun Z ad h => by rw [← h]; exact m_does_2 l hflag G Z ad mm (nI f) (nI w) 1 hL.1 hK1) (Or.inr rfl))) (p_cx (nm := k_n2) (sp := sp_judge mm (nI f) (nI w) (1 = 1)) (jd_no hL hw hf hC) (by decide) cf2 (m_call (fun Z ad h => by rw [← h]; exact m_does_2 l hflag G Z ad mm (nI f) (nI w) 1 hL.1 hK1) (Or.inr rfl)))) p_Em.id ke_L_both wd_l_L_147 (by decide) hI hX hS rfl hl.1 rfl (Nat.le_of_ble_eq_true rfl) dL_judges_126 (by first | decide | omega | (dsimp only; omega)) (fun H locs hI hS => ?_)
    replace hI : p_J G xa xb Z (mm, mm) H := hI
    refine lv_istore (lv' := [(14, .int (-2100000003)), (12, .long (al mm)), (11, .int (mm 7 w)), (10, .int (mm 0 g)), (9, .int (nI g)), (8, .int 1), (7, .int (mm 6 w)), (6, .int (mm 9 w)), (5, .int 1), (4, .int (nI w)), (3, .int (nI f)), (0, .ref xa), (1, .ref xb), (2, .int z)]) hx hb dL_judges_129 hl (by decide) rfl (fun ls hl => ?_)
    refine lv_iload hx hb dL_judges_131 (lv_at hl 7 rfl) ?_
    refine lv_if_lt (tgt := 156) hx hb dL_judges_133 (by decide) (fun c133 => ?_) (fun c133 => ?_)
    · skip
      exact absurd c133 (by rw [q1]; exact nI_pos (by omega))
    · skip
      refine lv_iload hx hb dL_judges_136 (lv_at hl 4 rfl) ?_
      refine lv_iload_n hx hb dL_judges_138 rfl (lv_at hl 10 rfl) ?_
      refine lv_icmp_eq (tgt := 156) hx hb dL_judges_139 (by decide) (fun c139 => ?_) (fun c139 => ?_)
      · skip
        refine lv_iconst (v := 0) hx hb dL_judges_156 (by decide) ?_
        refine lv_istore (lv' := [(15, .int 0), (14, .int (-2100000003)), (12, .long (al mm)), (11, .int (mm 7 w)), (10, .int (mm 0 g)), (9, .int (nI g)), (8, .int 1), (7, .int (mm 6 w)), (6, .int (mm 9 w)), (5, .int 1), (4, .int (nI w)), (3, .int (nI f)), (0, .ref xa), (1, .ref xb), (2, .int z)]) hx hb dL_judges_157 hl (by decide) rfl (fun ls hl => ?_)
        refine lv_iload hx hb dL_judges_159 (lv_at hl 0 rfl) ?_
        refine lv_if_ne (tgt := 192) hx hb dL_judges_161 (by decide) (fun c161 => ?_) (fun c161 => ?_)
        · skip
          exact absurd c161 (by decide)
        · skip
          refine lv_iload hx hb dL_judges_164 (lv_at hl 6 rfl) ?_
          refine lv_if_eq (tgt := 190) hx hb dL_judges_166 (by decide) (fun c166 => ?_) (fun c166 => ?_)
          · skip
            exact absurd c166 (by decide)
          · skip
            refine lv_iload hx hb dL_judges_169 (lv_at hl 1 rfl) ?_
            refine lv_ldc (v := -2100000003) hx hb hF.2.2.2.1 (hF.2.2.2.2 _ wd_x23) dL_judges_171 ?_
            refine lv_icmp_ne (tgt := 190) hx hb dL_judges_173 (by decide) (fun c173 => ?_) (fun c173 => ?_)
            · skip
              exact absurd rfl c173
            · skip
              refine lv_aload_n hx hb dL_judges_176 rfl (lv_at hl 12 rfl) ?_
              refine p_lSk (mc1 := 460) (ms1 := 2760) (fr := 12) (lo := 240) (n := 1) (As := [.ref xa]) (rest := []) hF (m_all l hflag G xa mm hL) p_Em.l ke_L_all wd_l_L_151 (by decide) hI hX hS rfl hl.1 rfl (Nat.le_of_ble_eq_true rfl) dL_judges_177 (by first | decide | omega | (dsimp only; omega)) (fun H locs hI hS => ?_)
              replace hI : p_J G xa xb Z (mm, mm) H := hI
              refine lv_lload hx hb dL_judges_180 (lv_at hl 2 rfl) ?_
              refine W.lcmp hx hb dL_judges_182 ?_
              refine bo_to (v := 0) (by simp [lg_cmp]) ?_
              refine lv_if_ne (tgt := 190) hx hb dL_judges_183 (by decide) (fun c183 => ?_) (fun c183 => ?_)
              · skip
                exact absurd c183 (by decide)
              · skip
                refine lv_iconst (v := 1) hx hb dL_judges_186 (by decide) ?_
                refine lv_goto (tgt := 191) hx hb dL_judges_187 (by decide) ?_
                exact p_zret hx hb hr hlk hI hS (by first | decide | omega | (dsimp only; omega)) (by first | decide | omega | (dsimp only; omega)) (by decide) (⟨rfl, mm, rfl, RD.rf hL⟩) dL_judges_191
      · skip
        exact absurd hgf c139
  · skip
    by_cases hgu : mm 6 w ≤ mm 0 f
    · skip
      have hC : ¬ mm 9 w = -1 ∧ ¬ sp_ve (mm 9 w) = nI f ∧ mm 6 w ≤ mm 0 f := ⟨hq, fun z => hgf (q4.symm.trans z), hgu⟩
      have hgn : ¬ f = g := fun z => hgf (by rw [z])
      obtain ⟨hM, hMK, hMW, hM0, hT, hV7, hV9⟩ := jr_ref (w := w) hL hgn et
      have hMw : w < sp_W (sp_tru (up2 mm 9 w (-1)) g (-5)) := by rw [hMW]; exact hw
      refine lv_aload_n hx hb dL_judges_118 rfl (lv_at hl 10 rfl) ?_
      refine lv_aload_n hx hb dL_judges_119 rfl (lv_at hl 11 rfl) ?_
      refine lv_iconst (v := 2) hx hb dL_judges_120 (by decide) ?_
      refine lv_iload_n hx hb dL_judges_121 rfl (lv_at hl 9 rfl) ?_
      refine lv_iload hx hb dL_judges_122 (lv_at hl 8 rfl) ?_
      refine lv_iload hx hb dL_judges_124 (lv_at hl 7 rfl) ?_
      refine p_iSk (mc1 := 8) (ms1 := 38) (fr := 12) (lo := 239) (n := 6) (As := [.ref xa, .ref xb, .int 2, .int (nI f), .int (nI w), .int 1]) (rest := []) hF (m_both (mc := 4) (ms := 19) (p_cv (nm := k_n2) (sp := sp_judge mm (nI f) (nI w) (1 = 1)) (cl_ok (jd_ref hL hw hf hg hC rfl q4) (hM.2.1)) (m_call (fun Z ad h => by rw [← h]; exact m_does_2 l hflag G Z ad mm (nI f) (nI w) 1 hL.1 hK1) (Or.inr rfl))) (p_cv (nm := k_n2) (sp := sp_judge mm (nI f) (nI w) (1 = 1)) (cl_ok (jd_ref hL hw hf hg hC rfl q4) (hM.2.1)) (m_call (fun Z ad h => by rw [← h]; exact m_does_2 l hflag G Z ad mm (nI f) (nI w) 1 hL.1 hK1) (Or.inr rfl)))) p_Em.id ke_L_both wd_l_L_147 (by decide) hI hX hS rfl hl.1 rfl (Nat.le_of_ble_eq_true rfl) dL_judges_126 (by first | decide | omega | (dsimp only; omega)) (fun H locs hI hS => ?_)
      replace hI : p_J G xa xb Z ((sp_tru (up2 mm 9 w (-1)) g (-5)), (sp_tru (up2 mm 9 w (-1)) g (-5))) H := hI
      refine lv_istore (lv' := [(14, .int ((sp_tru (up2 mm 9 w (-1)) g (-5)) 0 g)), (12, .long (al mm)), (11, .int (mm 7 w)), (10, .int (mm 0 g)), (9, .int (nI g)), (8, .int 1), (7, .int (mm 6 w)), (6, .int (mm 9 w)), (5, .int 1), (4, .int (nI w)), (3, .int (nI f)), (0, .ref xa), (1, .ref xb), (2, .int z)]) hx hb dL_judges_129 hl (by decide) rfl (fun ls hl => ?_)
      refine lv_iload hx hb dL_judges_131 (lv_at hl 7 rfl) ?_
      refine lv_if_lt (tgt := 156) hx hb dL_judges_133 (by decide) (fun c133 => ?_) (fun c133 => ?_)
      · skip
        exact absurd c133 (by rw [q1]; exact nI_pos (by omega))
      · skip
        refine lv_iload hx hb dL_judges_136 (lv_at hl 4 rfl) ?_
        refine lv_iload_n hx hb dL_judges_138 rfl (lv_at hl 10 rfl) ?_
        refine lv_icmp_eq (tgt := 156) hx hb dL_judges_139 (by decide) (fun c139 => ?_) (fun c139 => ?_)
        · skip
          exact absurd c139 hgf
        · skip
          refine lv_aload_n hx hb dL_judges_142 rfl (lv_at hl 11 rfl) ?_
          refine lv_iload_n hx hb dL_judges_143 rfl (lv_at hl 10 rfl) ?_
          refine p_iVk (fr := 7) (lo := 110) (mc1 := 1) (ms1 := 6) (n := 1) (As := [.int (nI f)]) (rest := []) hF (pv_trust l hflag G xa (sp_tru (up2 mm 9 w (-1)) g (-5)) (nI f)  (r0 := ((sp_tru (up2 mm 9 w (-1)) g (-5)) 0 f)) (m0 := (sp_tru (up2 mm 9 w (-1)) g (-5))) (v_tru hM hf) (hM.2.1)) p_Em.l ke_X4_trust wd_l_L_45 (by decide) hI hX hS rfl hl.1 rfl (Nat.le_of_ble_eq_true rfl) dL_judges_144 (by first | decide | omega | (dsimp only; omega)) (fun H locs hI hS => ?_)
          replace hI : p_J G xa xb Z ((sp_tru (up2 mm 9 w (-1)) g (-5)), (sp_tru (up2 mm 9 w (-1)) g (-5))) H := hI
          refine lv_iload hx hb dL_judges_147 (lv_at hl 6 rfl) ?_
          refine lv_icmp_lt (tgt := 156) hx hb dL_judges_149 (by decide) (fun c149 => ?_) (fun c149 => ?_)
          · skip
            exact absurd hgu (by rw [hM0] at c149; exact bo_nle c149)
          · skip
            refine lv_iconst (v := 1) hx hb dL_judges_152 (by decide) ?_
            refine lv_goto (tgt := 157) hx hb dL_judges_153 (by decide) ?_
            refine lv_istore (lv' := [(15, .int 1), (14, .int ((sp_tru (up2 mm 9 w (-1)) g (-5)) 0 g)), (12, .long (al mm)), (11, .int (mm 7 w)), (10, .int (mm 0 g)), (9, .int (nI g)), (8, .int 1), (7, .int (mm 6 w)), (6, .int (mm 9 w)), (5, .int 1), (4, .int (nI w)), (3, .int (nI f)), (0, .ref xa), (1, .ref xb), (2, .int z)]) hx hb dL_judges_157 hl (by decide) rfl (fun ls hl => ?_)
            refine lv_iload hx hb dL_judges_159 (lv_at hl 0 rfl) ?_
            refine lv_if_ne (tgt := 192) hx hb dL_judges_161 (by decide) (fun c161 => ?_) (fun c161 => ?_)
            · skip
              refine lv_iload hx hb dL_judges_192 (lv_at hl 9 rfl) ?_
              refine lv_iconst (v := 1) hx hb dL_judges_194 (by decide) ?_
              refine lv_icmp_ne (tgt := 215) hx hb dL_judges_195 (by decide) (fun c195 => ?_) (fun c195 => ?_)
              · skip
                exact absurd rfl c195
              · skip
                refine lv_iload hx hb dL_judges_198 (lv_at hl 4 rfl) ?_
                refine lv_iconst (v := 5) hx hb dL_judges_200 (by decide) ?_
                refine lv_icmp_ge (tgt := 208) hx hb dL_judges_201 (by decide) (fun cd => ?_) (fun cd => ?_)
                · skip
                  refine lv_iload hx hb dL_judges_208 (lv_at hl 4 rfl) ?_
                  refine lv_iconst (v := 5) hx hb dL_judges_210 (by decide) ?_
                  refine lv_isub hx hb dL_judges_211 ?_
                  refine lv_goto (tgt := 231) hx hb dL_judges_212 (by decide) ?_
                  refine lv_istore (lv' := [(16, .int ((mm 0 g) - 5)), (15, .int 1), (14, .int ((sp_tru (up2 mm 9 w (-1)) g (-5)) 0 g)), (12, .long (al mm)), (11, .int (mm 7 w)), (10, .int (mm 0 g)), (9, .int (nI g)), (8, .int 1), (7, .int (mm 6 w)), (6, .int (mm 9 w)), (5, .int 1), (4, .int (nI w)), (3, .int (nI f)), (0, .ref xa), (1, .ref xb), (2, .int z)]) hx hb dL_judges_231 hl (by decide) rfl (fun ls hl => ?_)
                  refine lv_iload hx hb dL_judges_233 (lv_at hl 7 rfl) ?_
                  refine lv_if_eq (tgt := 305) hx hb dL_judges_235 (by decide) (fun c235 => ?_) (fun c235 => ?_)
                  · skip
                    exact absurd c235 (by decide)
                  · skip
                    refine lv_iload hx hb dL_judges_238 (lv_at hl 2 rfl) ?_
                    refine lv_iload hx hb dL_judges_240 (lv_at hl 0 rfl) ?_
                    refine lv_icmp_ne (tgt := 305) hx hb dL_judges_242 (by decide) (fun c242 => ?_) (fun c242 => ?_)
                    · skip
                      exact absurd (hT.trans ((lim_5 htt).trans ((if_neg (fun z => absurd cd (by rw [et]; exact bo_nle z))).trans (by rw [et])))) c242
                    · skip
                      refine lv_aload_n hx hb dL_judges_245 rfl (lv_at hl 13 rfl) ?_
                      refine lv_iload hx hb dL_judges_246 (lv_at hl 6 rfl) ?_
                      refine p_iVk (fr := 7) (lo := 110) (mc1 := 1) (ms1 := 6) (n := 1) (As := [.int (nI g)]) (rest := []) hF (pv_trust l hflag G xa (sp_tru (up2 mm 9 w (-1)) g (-5)) (nI g)  (r0 := ((sp_tru (up2 mm 9 w (-1)) g (-5)) 0 g)) (m0 := (sp_tru (up2 mm 9 w (-1)) g (-5))) (v_tru hM hg) (hM.2.1)) p_Em.l ke_X4_trust wd_l_L_45 (by decide) hI hX hS rfl hl.1 rfl (Nat.le_of_ble_eq_true rfl) dL_judges_248 (by first | decide | omega | (dsimp only; omega)) (fun H locs hI hS => ?_)
                      replace hI : p_J G xa xb Z ((sp_tru (up2 mm 9 w (-1)) g (-5)), (sp_tru (up2 mm 9 w (-1)) g (-5))) H := hI
                      refine lv_iload hx hb dL_judges_251 (lv_at hl 0 rfl) ?_
                      refine lv_icmp_ne (tgt := 305) hx hb dL_judges_253 (by decide) (fun c253 => ?_) (fun c253 => ?_)
                      · skip
                        exact absurd (hT.trans ((lim_5 htt).trans ((if_neg (fun z => absurd cd (by rw [et]; exact bo_nle z))).trans (by rw [et])))) c253
                      · skip
                        refine lv_aload_n hx hb dL_judges_256 rfl (lv_at hl 13 rfl) ?_
                        refine lv_iload hx hb dL_judges_257 (lv_at hl 11 rfl) ?_
                        refine p_iVk (fr := 7) (lo := 111) (mc1 := 1) (ms1 := 6) (n := 1) (As := [.int (nI w)]) (rest := []) hF (pv_waiting l hflag G xa (sp_tru (up2 mm 9 w (-1)) g (-5)) (nI w) hM.1 (r0 := ((sp_tru (up2 mm 9 w (-1)) g (-5)) 9 w)) (m0 := (sp_tru (up2 mm 9 w (-1)) g (-5))) (v_of hM hMw) (hM.2.1)) p_Em.l ke_X4_waiting wd_l_L_58 (by decide) hI hX hS rfl hl.1 rfl (Nat.le_of_ble_eq_true rfl) dL_judges_259 (by first | decide | omega | (dsimp only; omega)) (fun H locs hI hS => ?_)
                        replace hI : p_J G xa xb Z ((sp_tru (up2 mm 9 w (-1)) g (-5)), (sp_tru (up2 mm 9 w (-1)) g (-5))) H := hI
                        refine lv_iconst (v := (-1)) hx hb dL_judges_262 (by decide) ?_
                        refine lv_icmp_ne (tgt := 305) hx hb dL_judges_263 (by decide) (fun c263 => ?_) (fun c263 => ?_)
                        · skip
                          exact absurd hV9 c263
                        · skip
                          refine lv_aload_n hx hb dL_judges_266 rfl (lv_at hl 13 rfl) ?_
                          refine lv_iload hx hb dL_judges_267 (lv_at hl 11 rfl) ?_
                          refine p_iVk (fr := 7) (lo := 111) (mc1 := 1) (ms1 := 6) (n := 1) (As := [.int (nI w)]) (rest := []) hF (pv_versions l hflag G xa (sp_tru (up2 mm 9 w (-1)) g (-5)) (nI w) hM.1 (r0 := ((sp_tru (up2 mm 9 w (-1)) g (-5)) 7 w)) (m0 := (sp_tru (up2 mm 9 w (-1)) g (-5))) (v_of hM hMw) (hM.2.1)) p_Em.l ke_X4_versions wd_l_L_49 (by decide) hI hX hS rfl hl.1 rfl (Nat.le_of_ble_eq_true rfl) dL_judges_269 (by first | decide | omega | (dsimp only; omega)) (fun H locs hI hS => ?_)
                          replace hI : p_J G xa xb Z ((sp_tru (up2 mm 9 w (-1)) g (-5)), (sp_tru (up2 mm 9 w (-1)) g (-5))) H := hI
                          refine lv_iload hx hb dL_judges_272 (lv_at hl 4 rfl) ?_
                          refine lv_iconst (v := 1) hx hb dL_judges_274 (by decide) ?_
                          refine lv_iadd hx hb dL_judges_275 ?_
                          refine lv_iload hx hb dL_judges_276 (lv_at hl 10 rfl) ?_
                          refine lv_isub hx hb dL_judges_278 ?_
                          refine lv_icmp_ne (tgt := 305) hx hb dL_judges_279 (by decide) (fun c279 => ?_) (fun c279 => ?_)
                          · skip
                            exact absurd hV7 c279
                          · skip
                            refine lv_iload hx hb dL_judges_282 (lv_at hl 10 rfl) ?_
                            refine lv_iconst (v := 1) hx hb dL_judges_284 (by decide) ?_
                            refine lv_icmp_eq (tgt := 301) hx hb dL_judges_285 (by decide) (fun c285 => ?_) (fun c285 => ?_)
                            · skip
                              refine lv_iconst (v := 1) hx hb dL_judges_301 (by decide) ?_
                              refine lv_goto (tgt := 306) hx hb dL_judges_302 (by decide) ?_
                              exact p_zret hx hb hr hlk hI hS (by first | decide | omega | (dsimp only; omega)) (by first | decide | omega | (dsimp only; omega)) (by decide) (⟨rfl, _, rfl, hM, hMK⟩) dL_judges_306
                            · skip
                              exact absurd rfl c285
                · skip
                  refine lv_iconst (v := 0) hx hb dL_judges_204 (by decide) ?_
                  refine lv_goto (tgt := 231) hx hb dL_judges_205 (by decide) ?_
                  refine lv_istore (lv' := [(16, .int 0), (15, .int 1), (14, .int ((sp_tru (up2 mm 9 w (-1)) g (-5)) 0 g)), (12, .long (al mm)), (11, .int (mm 7 w)), (10, .int (mm 0 g)), (9, .int (nI g)), (8, .int 1), (7, .int (mm 6 w)), (6, .int (mm 9 w)), (5, .int 1), (4, .int (nI w)), (3, .int (nI f)), (0, .ref xa), (1, .ref xb), (2, .int z)]) hx hb dL_judges_231 hl (by decide) rfl (fun ls hl => ?_)
                  refine lv_iload hx hb dL_judges_233 (lv_at hl 7 rfl) ?_
                  refine lv_if_eq (tgt := 305) hx hb dL_judges_235 (by decide) (fun c235 => ?_) (fun c235 => ?_)
                  · skip
                    exact absurd c235 (by decide)
                  · skip
                    refine lv_iload hx hb dL_judges_238 (lv_at hl 2 rfl) ?_
                    refine lv_iload hx hb dL_judges_240 (lv_at hl 0 rfl) ?_
                    refine lv_icmp_ne (tgt := 305) hx hb dL_judges_242 (by decide) (fun c242 => ?_) (fun c242 => ?_)
                    · skip
                      exact absurd (hT.trans ((lim_5 htt).trans (if_pos (by rw [← et]; exact bo_le cd)))) c242
                    · skip
                      refine lv_aload_n hx hb dL_judges_245 rfl (lv_at hl 13 rfl) ?_
                      refine lv_iload hx hb dL_judges_246 (lv_at hl 6 rfl) ?_
                      refine p_iVk (fr := 7) (lo := 110) (mc1 := 1) (ms1 := 6) (n := 1) (As := [.int (nI g)]) (rest := []) hF (pv_trust l hflag G xa (sp_tru (up2 mm 9 w (-1)) g (-5)) (nI g)  (r0 := ((sp_tru (up2 mm 9 w (-1)) g (-5)) 0 g)) (m0 := (sp_tru (up2 mm 9 w (-1)) g (-5))) (v_tru hM hg) (hM.2.1)) p_Em.l ke_X4_trust wd_l_L_45 (by decide) hI hX hS rfl hl.1 rfl (Nat.le_of_ble_eq_true rfl) dL_judges_248 (by first | decide | omega | (dsimp only; omega)) (fun H locs hI hS => ?_)
                      replace hI : p_J G xa xb Z ((sp_tru (up2 mm 9 w (-1)) g (-5)), (sp_tru (up2 mm 9 w (-1)) g (-5))) H := hI
                      refine lv_iload hx hb dL_judges_251 (lv_at hl 0 rfl) ?_
                      refine lv_icmp_ne (tgt := 305) hx hb dL_judges_253 (by decide) (fun c253 => ?_) (fun c253 => ?_)
                      · skip
                        exact absurd (hT.trans ((lim_5 htt).trans (if_pos (by rw [← et]; exact bo_le cd)))) c253
                      · skip
                        refine lv_aload_n hx hb dL_judges_256 rfl (lv_at hl 13 rfl) ?_
                        refine lv_iload hx hb dL_judges_257 (lv_at hl 11 rfl) ?_
                        refine p_iVk (fr := 7) (lo := 111) (mc1 := 1) (ms1 := 6) (n := 1) (As := [.int (nI w)]) (rest := []) hF (pv_waiting l hflag G xa (sp_tru (up2 mm 9 w (-1)) g (-5)) (nI w) hM.1 (r0 := ((sp_tru (up2 mm 9 w (-1)) g (-5)) 9 w)) (m0 := (sp_tru (up2 mm 9 w (-1)) g (-5))) (v_of hM hMw) (hM.2.1)) p_Em.l ke_X4_waiting wd_l_L_58 (by decide) hI hX hS rfl hl.1 rfl (Nat.le_of_ble_eq_true rfl) dL_judges_259 (by first | decide | omega | (dsimp only; omega)) (fun H locs hI hS => ?_)
                        replace hI : p_J G xa xb Z ((sp_tru (up2 mm 9 w (-1)) g (-5)), (sp_tru (up2 mm 9 w (-1)) g (-5))) H := hI
                        refine lv_iconst (v := (-1)) hx hb dL_judges_262 (by decide) ?_
                        refine lv_icmp_ne (tgt := 305) hx hb dL_judges_263 (by decide) (fun c263 => ?_) (fun c263 => ?_)
                        · skip
                          exact absurd hV9 c263
                        · skip
                          refine lv_aload_n hx hb dL_judges_266 rfl (lv_at hl 13 rfl) ?_
                          refine lv_iload hx hb dL_judges_267 (lv_at hl 11 rfl) ?_
                          refine p_iVk (fr := 7) (lo := 111) (mc1 := 1) (ms1 := 6) (n := 1) (As := [.int (nI w)]) (rest := []) hF (pv_versions l hflag G xa (sp_tru (up2 mm 9 w (-1)) g (-5)) (nI w) hM.1 (r0 := ((sp_tru (up2 mm 9 w (-1)) g (-5)) 7 w)) (m0 := (sp_tru (up2 mm 9 w (-1)) g (-5))) (v_of hM hMw) (hM.2.1)) p_Em.l ke_X4_versions wd_l_L_49 (by decide) hI hX hS rfl hl.1 rfl (Nat.le_of_ble_eq_true rfl) dL_judges_269 (by first | decide | omega | (dsimp only; omega)) (fun H locs hI hS => ?_)
                          replace hI : p_J G xa xb Z ((sp_tru (up2 mm 9 w (-1)) g (-5)), (sp_tru (up2 mm 9 w (-1)) g (-5))) H := hI
                          refine lv_iload hx hb dL_judges_272 (lv_at hl 4 rfl) ?_
                          refine lv_iconst (v := 1) hx hb dL_judges_274 (by decide) ?_
                          refine lv_iadd hx hb dL_judges_275 ?_
                          refine lv_iload hx hb dL_judges_276 (lv_at hl 10 rfl) ?_
                          refine lv_isub hx hb dL_judges_278 ?_
                          refine lv_icmp_ne (tgt := 305) hx hb dL_judges_279 (by decide) (fun c279 => ?_) (fun c279 => ?_)
                          · skip
                            exact absurd hV7 c279
                          · skip
                            refine lv_iload hx hb dL_judges_282 (lv_at hl 10 rfl) ?_
                            refine lv_iconst (v := 1) hx hb dL_judges_284 (by decide) ?_
                            refine lv_icmp_eq (tgt := 301) hx hb dL_judges_285 (by decide) (fun c285 => ?_) (fun c285 => ?_)
                            · skip
                              refine lv_iconst (v := 1) hx hb dL_judges_301 (by decide) ?_
                              refine lv_goto (tgt := 306) hx hb dL_judges_302 (by decide) ?_
                              exact p_zret hx hb hr hlk hI hS (by first | decide | omega | (dsimp only; omega)) (by first | decide | omega | (dsimp only; omega)) (by decide) (⟨rfl, _, rfl, hM, hMK⟩) dL_judges_306
                            · skip
                              exact absurd rfl c285
            · skip
              exact absurd c161 (by decide)
    · skip
      have hC : ¬ (¬ mm 9 w = -1 ∧ ¬ sp_ve (mm 9 w) = nI f ∧ mm 6 w ≤ mm 0 f) := fun z => hgu z.2.2
      refine lv_aload_n hx hb dL_judges_118 rfl (lv_at hl 10 rfl) ?_
      refine lv_aload_n hx hb dL_judges_119 rfl (lv_at hl 11 rfl) ?_
      refine lv_iconst (v := 2) hx hb dL_judges_120 (by decide) ?_
      refine lv_iload_n hx hb dL_judges_121 rfl (lv_at hl 9 rfl) ?_
      refine lv_iload hx hb dL_judges_122 (lv_at hl 8 rfl) ?_
      refine lv_iload hx hb dL_judges_124 (lv_at hl 7 rfl) ?_
      refine p_iSk (mc1 := 8) (ms1 := 38) (fr := 12) (lo := 239) (n := 6) (As := [.ref xa, .ref xb, .int 2, .int (nI f), .int (nI w), .int 1]) (rest := []) hF (m_both (mc := 4) (ms := 19) (p_cx (nm := k_n2) (sp := sp_judge mm (nI f) (nI w) (1 = 1)) (jd_no hL hw hf hC) (by decide) cf2 (m_call (fun Z ad h => by rw [← h]; exact m_does_2 l hflag G Z ad mm (nI f) (nI w) 1 hL.1 hK1) (Or.inr rfl))) (p_cx (nm := k_n2) (sp := sp_judge mm (nI f) (nI w) (1 = 1)) (jd_no hL hw hf hC) (by decide) cf2 (m_call (fun Z ad h => by rw [← h]; exact m_does_2 l hflag G Z ad mm (nI f) (nI w) 1 hL.1 hK1) (Or.inr rfl)))) p_Em.id ke_L_both wd_l_L_147 (by decide) hI hX hS rfl hl.1 rfl (Nat.le_of_ble_eq_true rfl) dL_judges_126 (by first | decide | omega | (dsimp only; omega)) (fun H locs hI hS => ?_)
      replace hI : p_J G xa xb Z (mm, mm) H := hI
      refine lv_istore (lv' := [(14, .int (-2100000003)), (12, .long (al mm)), (11, .int (mm 7 w)), (10, .int (mm 0 g)), (9, .int (nI g)), (8, .int 1), (7, .int (mm 6 w)), (6, .int (mm 9 w)), (5, .int 1), (4, .int (nI w)), (3, .int (nI f)), (0, .ref xa), (1, .ref xb), (2, .int z)]) hx hb dL_judges_129 hl (by decide) rfl (fun ls hl => ?_)
      refine lv_iload hx hb dL_judges_131 (lv_at hl 7 rfl) ?_
      refine lv_if_lt (tgt := 156) hx hb dL_judges_133 (by decide) (fun c133 => ?_) (fun c133 => ?_)
      · skip
        exact absurd c133 (by rw [q1]; exact nI_pos (by omega))
      · skip
        refine lv_iload hx hb dL_judges_136 (lv_at hl 4 rfl) ?_
        refine lv_iload_n hx hb dL_judges_138 rfl (lv_at hl 10 rfl) ?_
        refine lv_icmp_eq (tgt := 156) hx hb dL_judges_139 (by decide) (fun c139 => ?_) (fun c139 => ?_)
        · skip
          exact absurd c139 hgf
        · skip
          refine lv_aload_n hx hb dL_judges_142 rfl (lv_at hl 11 rfl) ?_
          refine lv_iload_n hx hb dL_judges_143 rfl (lv_at hl 10 rfl) ?_
          refine p_iVk (fr := 7) (lo := 110) (mc1 := 1) (ms1 := 6) (n := 1) (As := [.int (nI f)]) (rest := []) hF (pv_trust l hflag G xa mm (nI f)  (r0 := (mm 0 f)) (m0 := mm) (v_tru hL hf) (hL.2.1)) p_Em.l ke_X4_trust wd_l_L_45 (by decide) hI hX hS rfl hl.1 rfl (Nat.le_of_ble_eq_true rfl) dL_judges_144 (by first | decide | omega | (dsimp only; omega)) (fun H locs hI hS => ?_)
          replace hI : p_J G xa xb Z (mm, mm) H := hI
          refine lv_iload hx hb dL_judges_147 (lv_at hl 6 rfl) ?_
          refine lv_icmp_lt (tgt := 156) hx hb dL_judges_149 (by decide) (fun c149 => ?_) (fun c149 => ?_)
          · skip
            refine lv_iconst (v := 0) hx hb dL_judges_156 (by decide) ?_
            refine lv_istore (lv' := [(15, .int 0), (14, .int (-2100000003)), (12, .long (al mm)), (11, .int (mm 7 w)), (10, .int (mm 0 g)), (9, .int (nI g)), (8, .int 1), (7, .int (mm 6 w)), (6, .int (mm 9 w)), (5, .int 1), (4, .int (nI w)), (3, .int (nI f)), (0, .ref xa), (1, .ref xb), (2, .int z)]) hx hb dL_judges_157 hl (by decide) rfl (fun ls hl => ?_)
            refine lv_iload hx hb dL_judges_159 (lv_at hl 0 rfl) ?_
            refine lv_if_ne (tgt := 192) hx hb dL_judges_161 (by decide) (fun c161 => ?_) (fun c161 => ?_)
            · skip
              exact absurd c161 (by decide)
            · skip
              refine lv_iload hx hb dL_judges_164 (lv_at hl 6 rfl) ?_
              refine lv_if_eq (tgt := 190) hx hb dL_judges_166 (by decide) (fun c166 => ?_) (fun c166 => ?_)
              · skip
                exact absurd c166 (by decide)
              · skip
                refine lv_iload hx hb dL_judges_169 (lv_at hl 1 rfl) ?_
                refine lv_ldc (v := -2100000003) hx hb hF.2.2.2.1 (hF.2.2.2.2 _ wd_x23) dL_judges_171 ?_
                refine lv_icmp_ne (tgt := 190) hx hb dL_judges_173 (by decide) (fun c173 => ?_) (fun c173 => ?_)
                · skip
                  exact absurd rfl c173
                · skip
                  refine lv_aload_n hx hb dL_judges_176 rfl (lv_at hl 12 rfl) ?_
                  refine p_lSk (mc1 := 460) (ms1 := 2760) (fr := 12) (lo := 240) (n := 1) (As := [.ref xa]) (rest := []) hF (m_all l hflag G xa mm hL) p_Em.l ke_L_all wd_l_L_151 (by decide) hI hX hS rfl hl.1 rfl (Nat.le_of_ble_eq_true rfl) dL_judges_177 (by first | decide | omega | (dsimp only; omega)) (fun H locs hI hS => ?_)
                  replace hI : p_J G xa xb Z (mm, mm) H := hI
                  refine lv_lload hx hb dL_judges_180 (lv_at hl 2 rfl) ?_
                  refine W.lcmp hx hb dL_judges_182 ?_
                  refine bo_to (v := 0) (by simp [lg_cmp]) ?_
                  refine lv_if_ne (tgt := 190) hx hb dL_judges_183 (by decide) (fun c183 => ?_) (fun c183 => ?_)
                  · skip
                    exact absurd c183 (by decide)
                  · skip
                    refine lv_iconst (v := 1) hx hb dL_judges_186 (by decide) ?_
                    refine lv_goto (tgt := 191) hx hb dL_judges_187 (by decide) ?_
                    exact p_zret hx hb hr hlk hI hS (by first | decide | omega | (dsimp only; omega)) (by first | decide | omega | (dsimp only; omega)) (by decide) (⟨rfl, mm, rfl, RD.rf hL⟩) dL_judges_191
          · skip
            exact absurd (Decidable.not_not.mp fun z => hgu (bo_lt z)) c149
set_option maxHeartbeats 1000000 in
set_option maxRecDepth 100000 in
theorem m_judges (l : Launch) (hflag : l.stackTraces = false) (G : k_G) (xa xb : Nat) (mm : q_Mem) (z : Int32) (hL : LI mm) (hK1 : sp_K mm < 512) (hW0 : 0 < sp_W mm) : p_Ci l yL_judges (Cond.code yL_judges cL_judges 17 (some .boolean)) 13 275 1000 6000 G (p_J G xa xb) (mm, mm) [.ref xa, .ref xb, .int z] (fun v u => v = 1 ∧ ∃ m2, u = (m2, m2) ∧ RD mm m2) (fun _ => False) := by
  refine p_of (by decide) (Nat.le_of_ble_eq_true rfl) ?_
  intro Z p e s m args below meth c hx hb hr hF hlk hI hX ls hl
  have hl : lv_has ls 17 [(0, .ref xa), (1, .ref xb), (2, .int z)] := hl
  have hS : va_S Z s.heap s.heap [] := va_S.rf
  refine lv_iload_n hx hb dL_judges_0 rfl (lv_at hl 2 rfl) ?_
  refine lv_bipush (v := 6) hx hb dL_judges_1 (by decide) ?_
  refine bo_to (v := (nI 6)) (rfl) ?_
  refine rc_S (fr := 0) (lo := 0) (n := 2) (As := [.int z, .int (nI 6)]) (rest := []) hF (m_some l z 6 (by decide) (by decide)) ke_L_some wd_l_L_137 (by decide) bl_true (fun _ _ _ => trivial) rfl hl.1 rfl (Nat.le_of_ble_eq_true rfl) dL_judges_3 (by first | decide | omega | (dsimp only; omega)) (fun r hq => ?_)
  obtain ⟨f, hf, rfl⟩ := hq
  refine lv_istore_n (lv' := [(3, .int (nI f)), (0, .ref xa), (1, .ref xb), (2, .int z)]) hx hb dL_judges_6 rfl hl (by decide) rfl (fun ls hl => ?_)
  refine lv_iload_n hx hb dL_judges_7 rfl (lv_at hl 3 rfl) ?_
  refine lv_iconst (v := 3) hx hb dL_judges_8 (by decide) ?_
  refine lv_ishr hx hb dL_judges_9 ?_
  refine lv_aload_n hx hb dL_judges_10 rfl (lv_at hl 1 rfl) ?_
  refine p_iVk (fr := 1) (lo := 20) (mc1 := 0) (ms1 := 0) (n := 0) (As := []) (rest := [.int (z >>> (3 &&& 31))]) hF (pv_ways l G xa mm) p_Em.l ke_X4_ways wd_l_L_108 (by decide) hI hX hS rfl hl.1 rfl (Nat.le_of_ble_eq_true rfl) dL_judges_11 (by first | decide | omega | (dsimp only; omega)) (fun H locs hI hS => ?_)
  replace hI : p_J G xa xb Z (mm, mm) H := hI
  refine bo_to (v := (nI (sp_W mm))) (hL.1.W) ?_
  refine rc_S (fr := 0) (lo := 0) (n := 2) (As := [.int (z >>> (3 &&& 31)), .int (nI (sp_W mm))]) (rest := []) hF (m_some l (z >>> (3 &&& 31)) (sp_W mm) hW0 (by have := hL.1.W40; omega)) ke_L_some wd_l_L_137 (by decide) bl_true (fun _ _ _ => trivial) rfl hl.1 rfl (Nat.le_of_ble_eq_true rfl) dL_judges_14 (by first | decide | omega | (dsimp only; omega)) (fun r hq => ?_)
  obtain ⟨w, hw, rfl⟩ := hq
  refine lv_istore (lv' := [(4, .int (nI w)), (3, .int (nI f)), (0, .ref xa), (1, .ref xb), (2, .int z)]) hx hb dL_judges_17 hl (by decide) rfl (fun ls hl => ?_)
  refine lv_iload_n hx hb dL_judges_19 rfl (lv_at hl 4 rfl) ?_
  refine lv_bipush (v := 6) hx hb dL_judges_20 (by decide) ?_
  refine lv_ishr hx hb dL_judges_22 ?_
  refine lv_iconst (v := 3) hx hb dL_judges_23 (by decide) ?_
  refine bo_to (v := (nI 3)) (rfl) ?_
  refine rc_S (fr := 0) (lo := 0) (n := 2) (As := [.int (z >>> (6 &&& 31)), .int (nI 3)]) (rest := []) hF (m_some l (z >>> (6 &&& 31)) 3 (by decide) (by decide)) ke_L_some wd_l_L_137 (by decide) bl_true (fun _ _ _ => trivial) rfl hl.1 rfl (Nat.le_of_ble_eq_true rfl) dL_judges_24 (by first | decide | omega | (dsimp only; omega)) (fun r hq => ?_)
  obtain ⟨j, hj, rfl⟩ := hq
  refine lv_if_ne (tgt := 34) hx hb dL_judges_27 (by decide) (fun cj => ?_) (fun cj => ?_)
  · skip
    refine lv_iconst (v := 0) hx hb dL_judges_34 (by decide) ?_
    refine lv_istore (lv' := [(5, .int 0), (4, .int (nI w)), (3, .int (nI f)), (0, .ref xa), (1, .ref xb), (2, .int z)]) hx hb dL_judges_35 hl (by decide) rfl (fun ls hl => ?_)
    obtain ⟨gg, hgg, eg⟩ := hL.2.2.1 w hw
    refine lv_aload_n hx hb dL_judges_37 rfl (lv_at hl 3 rfl) ?_
    refine lv_iload hx hb dL_judges_38 (lv_at hl 1 rfl) ?_
    refine p_iVk (fr := 7) (lo := 111) (mc1 := 1) (ms1 := 6) (n := 1) (As := [.int (nI w)]) (rest := []) hF (pv_waiting l hflag G xa mm (nI w) hL.1 (r0 := (mm 9 w)) (m0 := mm) (v_of hL hw) (hL.2.1)) p_Em.l ke_X4_waiting wd_l_L_58 (by decide) hI hX hS rfl hl.1 rfl (Nat.le_of_ble_eq_true rfl) dL_judges_40 (by first | decide | omega | (dsimp only; omega)) (fun H locs hI hS => ?_)
    replace hI : p_J G xa xb Z (mm, mm) H := hI
    refine lv_istore (lv' := [(6, .int (mm 9 w)), (5, .int 0), (4, .int (nI w)), (3, .int (nI f)), (0, .ref xa), (1, .ref xb), (2, .int z)]) hx hb dL_judges_43 hl (by decide) rfl (fun ls hl => ?_)
    refine lv_aload_n hx hb dL_judges_45 rfl (lv_at hl 4 rfl) ?_
    refine lv_aload_n hx hb dL_judges_46 rfl (lv_at hl 5 rfl) ?_
    refine lv_iconst (v := 4) hx hb dL_judges_47 (by decide) ?_
    refine lv_iload hx hb dL_judges_48 (lv_at hl 2 rfl) ?_
    refine lv_iconst (v := 0) hx hb dL_judges_50 (by decide) ?_
    refine bo_to (v := (nI 0)) (rfl) ?_
    refine lv_iconst (v := 0) hx hb dL_judges_51 (by decide) ?_
    refine p_iSk (mc1 := 4) (ms1 := 24) (fr := 12) (lo := 239) (n := 6) (As := [.ref xa, .ref xb, .int 4, .int (nI w), .int (nI 0), .int 0]) (rest := []) hF (m_both (mc := 2) (ms := 12) (p_cv (nm := k_n3) (sp := sp_guard mm (nI w) (nI 0)) (cl_ok (gd_m hL hw (Nat.zero_le _)) ((gd_LI hL hw (Nat.zero_le _)).2.1)) (m_call (fun Z ad h => by rw [← h]; exact m_does_4 l hflag G Z ad mm (nI w) (nI 0) 0 hL.1) (Or.inl rfl))) (p_cv (nm := k_n3) (sp := sp_guard mm (nI w) (nI 0)) (cl_ok (gd_m hL hw (Nat.zero_le _)) ((gd_LI hL hw (Nat.zero_le _)).2.1)) (m_call (fun Z ad h => by rw [← h]; exact m_does_4 l hflag G Z ad mm (nI w) (nI 0) 0 hL.1) (Or.inl rfl)))) p_Em.id ke_L_both wd_l_L_147 (by decide) hI hX hS rfl hl.1 rfl (Nat.le_of_ble_eq_true rfl) dL_judges_52 (by first | decide | omega | (dsimp only; omega)) (fun H locs hI hS => ?_)
    replace hI : p_J G xa xb Z ((up2 mm 6 w (nI 0)), (up2 mm 6 w (nI 0))) H := hI
    refine lv_istore (lv' := [(7, .int (mm 6 w)), (6, .int (mm 9 w)), (5, .int 0), (4, .int (nI w)), (3, .int (nI f)), (0, .ref xa), (1, .ref xb), (2, .int z)]) hx hb dL_judges_55 hl (by decide) rfl (fun ls hl => ?_)
    refine lv_aload_n hx hb dL_judges_57 rfl (lv_at hl 5 rfl) ?_
    refine lv_aload_n hx hb dL_judges_58 rfl (lv_at hl 6 rfl) ?_
    refine lv_iconst (v := 4) hx hb dL_judges_59 (by decide) ?_
    refine lv_iload hx hb dL_judges_60 (lv_at hl 3 rfl) ?_
    refine lv_iload hx hb dL_judges_62 (lv_at hl 0 rfl) ?_
    refine lv_iconst (v := 0) hx hb dL_judges_64 (by decide) ?_
    refine p_iSk (mc1 := 4) (ms1 := 24) (fr := 12) (lo := 239) (n := 6) (As := [.ref xa, .ref xb, .int 4, .int (nI w), .int (mm 6 w), .int 0]) (rest := []) hF (m_both (mc := 2) (ms := 12) (p_cv (nm := k_n3) (sp := sp_guard (up2 mm 6 w (nI 0)) (nI w) (mm 6 w)) (cl_ok (gd_b hL hw) (hL.2.1)) (m_call (fun Z ad h => by rw [← h]; exact m_does_4 l hflag G Z ad (up2 mm 6 w (nI 0)) (nI w) (mm 6 w) 0 (gd_LI hL hw (Nat.zero_le _)).1) (Or.inl rfl))) (p_cv (nm := k_n3) (sp := sp_guard (up2 mm 6 w (nI 0)) (nI w) (mm 6 w)) (cl_ok (gd_b hL hw) (hL.2.1)) (m_call (fun Z ad h => by rw [← h]; exact m_does_4 l hflag G Z ad (up2 mm 6 w (nI 0)) (nI w) (mm 6 w) 0 (gd_LI hL hw (Nat.zero_le _)).1) (Or.inl rfl)))) p_Em.id ke_L_both wd_l_L_147 (by decide) hI hX hS rfl hl.1 rfl (Nat.le_of_ble_eq_true rfl) dL_judges_65 (by first | decide | omega | (dsimp only; omega)) (fun H locs hI hS => ?_)
    replace hI : p_J G xa xb Z (mm, mm) H := hI
    refine lv_if_ne (tgt := 75) hx hb dL_judges_68 (by decide) (fun c68 => ?_) (fun c68 => ?_)
    · skip
      exact absurd nI_0 c68
    · skip
      refine lv_iconst (v := 1) hx hb dL_judges_71 (by decide) ?_
      refine lv_goto (tgt := 76) hx hb dL_judges_72 (by decide) ?_
      refine lv_istore (lv' := [(8, .int 1), (7, .int (mm 6 w)), (6, .int (mm 9 w)), (5, .int 0), (4, .int (nI w)), (3, .int (nI f)), (0, .ref xa), (1, .ref xb), (2, .int z)]) hx hb dL_judges_76 hl (by decide) rfl (fun ls hl => ?_)
      by_cases hq : mm 9 w = -1
      · skip
        refine lv_iload hx hb dL_judges_78 (lv_at hl 2 rfl) ?_
        refine lv_bipush (v := 10) hx hb dL_judges_80 (by decide) ?_
        refine lv_irem hx hb dL_judges_82 (by decide) ?_
        refine lv_iconst (v := 1) hx hb dL_judges_83 (by decide) ?_
        refine lv_isub hx hb dL_judges_84 ?_
        refine bo_to (v := (sp_ve (mm 9 w))) (rfl) ?_
        refine lv_istore (lv' := [(9, .int (sp_ve (mm 9 w))), (8, .int 1), (7, .int (mm 6 w)), (6, .int (mm 9 w)), (5, .int 0), (4, .int (nI w)), (3, .int (nI f)), (0, .ref xa), (1, .ref xb), (2, .int z)]) hx hb dL_judges_85 hl (by decide) rfl (fun ls hl => ?_)
        refine lv_iload hx hb dL_judges_87 (lv_at hl 3 rfl) ?_
        refine lv_if_ge (tgt := 96) hx hb dL_judges_89 (by decide) (fun c89 => ?_) (fun c89 => ?_)
        · skip
          exact absurd c89 (by rw [hq]; decide)
        · skip
          refine lv_iconst (v := 0) hx hb dL_judges_92 (by decide) ?_
          refine lv_goto (tgt := 102) hx hb dL_judges_93 (by decide) ?_
          refine lv_istore (lv' := [(10, .int 0), (9, .int (sp_ve (mm 9 w))), (8, .int 1), (7, .int (mm 6 w)), (6, .int (mm 9 w)), (5, .int 0), (4, .int (nI w)), (3, .int (nI f)), (0, .ref xa), (1, .ref xb), (2, .int z)]) hx hb dL_judges_102 hl (by decide) rfl (fun ls hl => ?_)
          refine lv_aload_n hx hb dL_judges_104 rfl (lv_at hl 8 rfl) ?_
          refine lv_iload hx hb dL_judges_105 (lv_at hl 6 rfl) ?_
          refine p_iVk (fr := 7) (lo := 111) (mc1 := 1) (ms1 := 6) (n := 1) (As := [.int (nI w)]) (rest := []) hF (pv_versions l hflag G xa mm (nI w) hL.1 (r0 := (mm 7 w)) (m0 := mm) (v_of hL hw) (hL.2.1)) p_Em.l ke_X4_versions wd_l_L_49 (by decide) hI hX hS rfl hl.1 rfl (Nat.le_of_ble_eq_true rfl) dL_judges_107 (by first | decide | omega | (dsimp only; omega)) (fun H locs hI hS => ?_)
          replace hI : p_J G xa xb Z (mm, mm) H := hI
          refine lv_istore (lv' := [(11, .int (mm 7 w)), (10, .int 0), (9, .int (sp_ve (mm 9 w))), (8, .int 1), (7, .int (mm 6 w)), (6, .int (mm 9 w)), (5, .int 0), (4, .int (nI w)), (3, .int (nI f)), (0, .ref xa), (1, .ref xb), (2, .int z)]) hx hb dL_judges_110 hl (by decide) rfl (fun ls hl => ?_)
          refine lv_aload_n hx hb dL_judges_112 rfl (lv_at hl 9 rfl) ?_
          refine p_lSk (mc1 := 460) (ms1 := 2760) (fr := 12) (lo := 240) (n := 1) (As := [.ref xa]) (rest := []) hF (m_all l hflag G xa mm hL) p_Em.l ke_L_all wd_l_L_151 (by decide) hI hX hS rfl hl.1 rfl (Nat.le_of_ble_eq_true rfl) dL_judges_113 (by first | decide | omega | (dsimp only; omega)) (fun H locs hI hS => ?_)
          replace hI : p_J G xa xb Z (mm, mm) H := hI
          refine lv_lstore (lv' := [(12, .long (al mm)), (11, .int (mm 7 w)), (10, .int 0), (9, .int (sp_ve (mm 9 w))), (8, .int 1), (7, .int (mm 6 w)), (6, .int (mm 9 w)), (5, .int 0), (4, .int (nI w)), (3, .int (nI f)), (0, .ref xa), (1, .ref xb), (2, .int z)]) hx hb dL_judges_116 hl (by decide) rfl (fun ls hl => ?_)
          refine W.widen (k := 500) (n := 3000) (by first | decide | omega | (dsimp only; omega)) (by first | decide | omega | (dsimp only; omega)) ?_
          exact m_judges_00 l hflag G xa xb mm z f w hL hK1 hf hw hq Z hx hb hr hF hlk hX _ _ _ hI hS (lv_sub hl [0, 1, 2, 3, 4, 5, 6, 7, 8, 9, 10, 11, 12] rfl)
      · skip
        obtain ⟨k, d, g, hk, hd, hg, q1, q2, q3, q4⟩ := jq_parts hL hw hq
        obtain ⟨tt, htt, et⟩ := hL.2.2.2.1 g hg
        refine lv_iload hx hb dL_judges_78 (lv_at hl 2 rfl) ?_
        refine lv_bipush (v := 10) hx hb dL_judges_80 (by decide) ?_
        refine lv_irem hx hb dL_judges_82 (by decide) ?_
        refine lv_iconst (v := 1) hx hb dL_judges_83 (by decide) ?_
        refine lv_isub hx hb dL_judges_84 ?_
        refine bo_to (v := (nI g)) (q4) ?_
        refine lv_istore (lv' := [(9, .int (nI g)), (8, .int 1), (7, .int (mm 6 w)), (6, .int (mm 9 w)), (5, .int 0), (4, .int (nI w)), (3, .int (nI f)), (0, .ref xa), (1, .ref xb), (2, .int z)]) hx hb dL_judges_85 hl (by decide) rfl (fun ls hl => ?_)
        refine lv_iload hx hb dL_judges_87 (lv_at hl 3 rfl) ?_
        refine lv_if_ge (tgt := 96) hx hb dL_judges_89 (by decide) (fun c89 => ?_) (fun c89 => ?_)
        · skip
          refine lv_aload_n hx hb dL_judges_96 rfl (lv_at hl 7 rfl) ?_
          refine lv_iload hx hb dL_judges_97 (lv_at hl 0 rfl) ?_
          refine p_iVk (fr := 7) (lo := 110) (mc1 := 1) (ms1 := 6) (n := 1) (As := [.int (nI g)]) (rest := []) hF (pv_trust l hflag G xa mm (nI g)  (r0 := (mm 0 g)) (m0 := mm) (v_tru hL hg) (hL.2.1)) p_Em.l ke_X4_trust wd_l_L_45 (by decide) hI hX hS rfl hl.1 rfl (Nat.le_of_ble_eq_true rfl) dL_judges_99 (by first | decide | omega | (dsimp only; omega)) (fun H locs hI hS => ?_)
          replace hI : p_J G xa xb Z (mm, mm) H := hI
          refine lv_istore (lv' := [(10, .int (mm 0 g)), (9, .int (nI g)), (8, .int 1), (7, .int (mm 6 w)), (6, .int (mm 9 w)), (5, .int 0), (4, .int (nI w)), (3, .int (nI f)), (0, .ref xa), (1, .ref xb), (2, .int z)]) hx hb dL_judges_102 hl (by decide) rfl (fun ls hl => ?_)
          refine lv_aload_n hx hb dL_judges_104 rfl (lv_at hl 8 rfl) ?_
          refine lv_iload hx hb dL_judges_105 (lv_at hl 6 rfl) ?_
          refine p_iVk (fr := 7) (lo := 111) (mc1 := 1) (ms1 := 6) (n := 1) (As := [.int (nI w)]) (rest := []) hF (pv_versions l hflag G xa mm (nI w) hL.1 (r0 := (mm 7 w)) (m0 := mm) (v_of hL hw) (hL.2.1)) p_Em.l ke_X4_versions wd_l_L_49 (by decide) hI hX hS rfl hl.1 rfl (Nat.le_of_ble_eq_true rfl) dL_judges_107 (by first | decide | omega | (dsimp only; omega)) (fun H locs hI hS => ?_)
          replace hI : p_J G xa xb Z (mm, mm) H := hI
          refine lv_istore (lv' := [(11, .int (mm 7 w)), (10, .int (mm 0 g)), (9, .int (nI g)), (8, .int 1), (7, .int (mm 6 w)), (6, .int (mm 9 w)), (5, .int 0), (4, .int (nI w)), (3, .int (nI f)), (0, .ref xa), (1, .ref xb), (2, .int z)]) hx hb dL_judges_110 hl (by decide) rfl (fun ls hl => ?_)
          refine lv_aload_n hx hb dL_judges_112 rfl (lv_at hl 9 rfl) ?_
          refine p_lSk (mc1 := 460) (ms1 := 2760) (fr := 12) (lo := 240) (n := 1) (As := [.ref xa]) (rest := []) hF (m_all l hflag G xa mm hL) p_Em.l ke_L_all wd_l_L_151 (by decide) hI hX hS rfl hl.1 rfl (Nat.le_of_ble_eq_true rfl) dL_judges_113 (by first | decide | omega | (dsimp only; omega)) (fun H locs hI hS => ?_)
          replace hI : p_J G xa xb Z (mm, mm) H := hI
          refine lv_lstore (lv' := [(12, .long (al mm)), (11, .int (mm 7 w)), (10, .int (mm 0 g)), (9, .int (nI g)), (8, .int 1), (7, .int (mm 6 w)), (6, .int (mm 9 w)), (5, .int 0), (4, .int (nI w)), (3, .int (nI f)), (0, .ref xa), (1, .ref xb), (2, .int z)]) hx hb dL_judges_116 hl (by decide) rfl (fun ls hl => ?_)
          refine W.widen (k := 500) (n := 3000) (by first | decide | omega | (dsimp only; omega)) (by first | decide | omega | (dsimp only; omega)) ?_
          exact m_judges_10 l hflag G xa xb mm z f w g k d tt hL hK1 hf hw hg hk hd hq q1 q2 q3 q4 htt et Z hx hb hr hF hlk hX _ _ _ hI hS (lv_sub hl [0, 1, 2, 3, 4, 5, 6, 7, 8, 9, 10, 11, 12] rfl)
        · skip
          exact absurd (by rw [q1]; exact nI_pos' (by omega)) c89
  · skip
    refine lv_iconst (v := 1) hx hb dL_judges_30 (by decide) ?_
    refine lv_goto (tgt := 35) hx hb dL_judges_31 (by decide) ?_
    refine lv_istore (lv' := [(5, .int 1), (4, .int (nI w)), (3, .int (nI f)), (0, .ref xa), (1, .ref xb), (2, .int z)]) hx hb dL_judges_35 hl (by decide) rfl (fun ls hl => ?_)
    obtain ⟨gg, hgg, eg⟩ := hL.2.2.1 w hw
    refine lv_aload_n hx hb dL_judges_37 rfl (lv_at hl 3 rfl) ?_
    refine lv_iload hx hb dL_judges_38 (lv_at hl 1 rfl) ?_
    refine p_iVk (fr := 7) (lo := 111) (mc1 := 1) (ms1 := 6) (n := 1) (As := [.int (nI w)]) (rest := []) hF (pv_waiting l hflag G xa mm (nI w) hL.1 (r0 := (mm 9 w)) (m0 := mm) (v_of hL hw) (hL.2.1)) p_Em.l ke_X4_waiting wd_l_L_58 (by decide) hI hX hS rfl hl.1 rfl (Nat.le_of_ble_eq_true rfl) dL_judges_40 (by first | decide | omega | (dsimp only; omega)) (fun H locs hI hS => ?_)
    replace hI : p_J G xa xb Z (mm, mm) H := hI
    refine lv_istore (lv' := [(6, .int (mm 9 w)), (5, .int 1), (4, .int (nI w)), (3, .int (nI f)), (0, .ref xa), (1, .ref xb), (2, .int z)]) hx hb dL_judges_43 hl (by decide) rfl (fun ls hl => ?_)
    refine lv_aload_n hx hb dL_judges_45 rfl (lv_at hl 4 rfl) ?_
    refine lv_aload_n hx hb dL_judges_46 rfl (lv_at hl 5 rfl) ?_
    refine lv_iconst (v := 4) hx hb dL_judges_47 (by decide) ?_
    refine lv_iload hx hb dL_judges_48 (lv_at hl 2 rfl) ?_
    refine lv_iconst (v := 0) hx hb dL_judges_50 (by decide) ?_
    refine bo_to (v := (nI 0)) (rfl) ?_
    refine lv_iconst (v := 0) hx hb dL_judges_51 (by decide) ?_
    refine p_iSk (mc1 := 4) (ms1 := 24) (fr := 12) (lo := 239) (n := 6) (As := [.ref xa, .ref xb, .int 4, .int (nI w), .int (nI 0), .int 0]) (rest := []) hF (m_both (mc := 2) (ms := 12) (p_cv (nm := k_n3) (sp := sp_guard mm (nI w) (nI 0)) (cl_ok (gd_m hL hw (Nat.zero_le _)) ((gd_LI hL hw (Nat.zero_le _)).2.1)) (m_call (fun Z ad h => by rw [← h]; exact m_does_4 l hflag G Z ad mm (nI w) (nI 0) 0 hL.1) (Or.inl rfl))) (p_cv (nm := k_n3) (sp := sp_guard mm (nI w) (nI 0)) (cl_ok (gd_m hL hw (Nat.zero_le _)) ((gd_LI hL hw (Nat.zero_le _)).2.1)) (m_call (fun Z ad h => by rw [← h]; exact m_does_4 l hflag G Z ad mm (nI w) (nI 0) 0 hL.1) (Or.inl rfl)))) p_Em.id ke_L_both wd_l_L_147 (by decide) hI hX hS rfl hl.1 rfl (Nat.le_of_ble_eq_true rfl) dL_judges_52 (by first | decide | omega | (dsimp only; omega)) (fun H locs hI hS => ?_)
    replace hI : p_J G xa xb Z ((up2 mm 6 w (nI 0)), (up2 mm 6 w (nI 0))) H := hI
    refine lv_istore (lv' := [(7, .int (mm 6 w)), (6, .int (mm 9 w)), (5, .int 1), (4, .int (nI w)), (3, .int (nI f)), (0, .ref xa), (1, .ref xb), (2, .int z)]) hx hb dL_judges_55 hl (by decide) rfl (fun ls hl => ?_)
    refine lv_aload_n hx hb dL_judges_57 rfl (lv_at hl 5 rfl) ?_
    refine lv_aload_n hx hb dL_judges_58 rfl (lv_at hl 6 rfl) ?_
    refine lv_iconst (v := 4) hx hb dL_judges_59 (by decide) ?_
    refine lv_iload hx hb dL_judges_60 (lv_at hl 3 rfl) ?_
    refine lv_iload hx hb dL_judges_62 (lv_at hl 0 rfl) ?_
    refine lv_iconst (v := 0) hx hb dL_judges_64 (by decide) ?_
    refine p_iSk (mc1 := 4) (ms1 := 24) (fr := 12) (lo := 239) (n := 6) (As := [.ref xa, .ref xb, .int 4, .int (nI w), .int (mm 6 w), .int 0]) (rest := []) hF (m_both (mc := 2) (ms := 12) (p_cv (nm := k_n3) (sp := sp_guard (up2 mm 6 w (nI 0)) (nI w) (mm 6 w)) (cl_ok (gd_b hL hw) (hL.2.1)) (m_call (fun Z ad h => by rw [← h]; exact m_does_4 l hflag G Z ad (up2 mm 6 w (nI 0)) (nI w) (mm 6 w) 0 (gd_LI hL hw (Nat.zero_le _)).1) (Or.inl rfl))) (p_cv (nm := k_n3) (sp := sp_guard (up2 mm 6 w (nI 0)) (nI w) (mm 6 w)) (cl_ok (gd_b hL hw) (hL.2.1)) (m_call (fun Z ad h => by rw [← h]; exact m_does_4 l hflag G Z ad (up2 mm 6 w (nI 0)) (nI w) (mm 6 w) 0 (gd_LI hL hw (Nat.zero_le _)).1) (Or.inl rfl)))) p_Em.id ke_L_both wd_l_L_147 (by decide) hI hX hS rfl hl.1 rfl (Nat.le_of_ble_eq_true rfl) dL_judges_65 (by first | decide | omega | (dsimp only; omega)) (fun H locs hI hS => ?_)
    replace hI : p_J G xa xb Z (mm, mm) H := hI
    refine lv_if_ne (tgt := 75) hx hb dL_judges_68 (by decide) (fun c68 => ?_) (fun c68 => ?_)
    · skip
      exact absurd nI_0 c68
    · skip
      refine lv_iconst (v := 1) hx hb dL_judges_71 (by decide) ?_
      refine lv_goto (tgt := 76) hx hb dL_judges_72 (by decide) ?_
      refine lv_istore (lv' := [(8, .int 1), (7, .int (mm 6 w)), (6, .int (mm 9 w)), (5, .int 1), (4, .int (nI w)), (3, .int (nI f)), (0, .ref xa), (1, .ref xb), (2, .int z)]) hx hb dL_judges_76 hl (by decide) rfl (fun ls hl => ?_)
      by_cases hq : mm 9 w = -1
      · skip
        refine lv_iload hx hb dL_judges_78 (lv_at hl 2 rfl) ?_
        refine lv_bipush (v := 10) hx hb dL_judges_80 (by decide) ?_
        refine lv_irem hx hb dL_judges_82 (by decide) ?_
        refine lv_iconst (v := 1) hx hb dL_judges_83 (by decide) ?_
        refine lv_isub hx hb dL_judges_84 ?_
        refine bo_to (v := (sp_ve (mm 9 w))) (rfl) ?_
        refine lv_istore (lv' := [(9, .int (sp_ve (mm 9 w))), (8, .int 1), (7, .int (mm 6 w)), (6, .int (mm 9 w)), (5, .int 1), (4, .int (nI w)), (3, .int (nI f)), (0, .ref xa), (1, .ref xb), (2, .int z)]) hx hb dL_judges_85 hl (by decide) rfl (fun ls hl => ?_)
        refine lv_iload hx hb dL_judges_87 (lv_at hl 3 rfl) ?_
        refine lv_if_ge (tgt := 96) hx hb dL_judges_89 (by decide) (fun c89 => ?_) (fun c89 => ?_)
        · skip
          exact absurd c89 (by rw [hq]; decide)
        · skip
          refine lv_iconst (v := 0) hx hb dL_judges_92 (by decide) ?_
          refine lv_goto (tgt := 102) hx hb dL_judges_93 (by decide) ?_
          refine lv_istore (lv' := [(10, .int 0), (9, .int (sp_ve (mm 9 w))), (8, .int 1), (7, .int (mm 6 w)), (6, .int (mm 9 w)), (5, .int 1), (4, .int (nI w)), (3, .int (nI f)), (0, .ref xa), (1, .ref xb), (2, .int z)]) hx hb dL_judges_102 hl (by decide) rfl (fun ls hl => ?_)
          refine lv_aload_n hx hb dL_judges_104 rfl (lv_at hl 8 rfl) ?_
          refine lv_iload hx hb dL_judges_105 (lv_at hl 6 rfl) ?_
          refine p_iVk (fr := 7) (lo := 111) (mc1 := 1) (ms1 := 6) (n := 1) (As := [.int (nI w)]) (rest := []) hF (pv_versions l hflag G xa mm (nI w) hL.1 (r0 := (mm 7 w)) (m0 := mm) (v_of hL hw) (hL.2.1)) p_Em.l ke_X4_versions wd_l_L_49 (by decide) hI hX hS rfl hl.1 rfl (Nat.le_of_ble_eq_true rfl) dL_judges_107 (by first | decide | omega | (dsimp only; omega)) (fun H locs hI hS => ?_)
          replace hI : p_J G xa xb Z (mm, mm) H := hI
          refine lv_istore (lv' := [(11, .int (mm 7 w)), (10, .int 0), (9, .int (sp_ve (mm 9 w))), (8, .int 1), (7, .int (mm 6 w)), (6, .int (mm 9 w)), (5, .int 1), (4, .int (nI w)), (3, .int (nI f)), (0, .ref xa), (1, .ref xb), (2, .int z)]) hx hb dL_judges_110 hl (by decide) rfl (fun ls hl => ?_)
          refine lv_aload_n hx hb dL_judges_112 rfl (lv_at hl 9 rfl) ?_
          refine p_lSk (mc1 := 460) (ms1 := 2760) (fr := 12) (lo := 240) (n := 1) (As := [.ref xa]) (rest := []) hF (m_all l hflag G xa mm hL) p_Em.l ke_L_all wd_l_L_151 (by decide) hI hX hS rfl hl.1 rfl (Nat.le_of_ble_eq_true rfl) dL_judges_113 (by first | decide | omega | (dsimp only; omega)) (fun H locs hI hS => ?_)
          replace hI : p_J G xa xb Z (mm, mm) H := hI
          refine lv_lstore (lv' := [(12, .long (al mm)), (11, .int (mm 7 w)), (10, .int 0), (9, .int (sp_ve (mm 9 w))), (8, .int 1), (7, .int (mm 6 w)), (6, .int (mm 9 w)), (5, .int 1), (4, .int (nI w)), (3, .int (nI f)), (0, .ref xa), (1, .ref xb), (2, .int z)]) hx hb dL_judges_116 hl (by decide) rfl (fun ls hl => ?_)
          refine W.widen (k := 500) (n := 3000) (by first | decide | omega | (dsimp only; omega)) (by first | decide | omega | (dsimp only; omega)) ?_
          exact m_judges_01 l hflag G xa xb mm z f w hL hK1 hf hw hq Z hx hb hr hF hlk hX _ _ _ hI hS (lv_sub hl [0, 1, 2, 3, 4, 5, 6, 7, 8, 9, 10, 11, 12] rfl)
      · skip
        obtain ⟨k, d, g, hk, hd, hg, q1, q2, q3, q4⟩ := jq_parts hL hw hq
        obtain ⟨tt, htt, et⟩ := hL.2.2.2.1 g hg
        refine lv_iload hx hb dL_judges_78 (lv_at hl 2 rfl) ?_
        refine lv_bipush (v := 10) hx hb dL_judges_80 (by decide) ?_
        refine lv_irem hx hb dL_judges_82 (by decide) ?_
        refine lv_iconst (v := 1) hx hb dL_judges_83 (by decide) ?_
        refine lv_isub hx hb dL_judges_84 ?_
        refine bo_to (v := (nI g)) (q4) ?_
        refine lv_istore (lv' := [(9, .int (nI g)), (8, .int 1), (7, .int (mm 6 w)), (6, .int (mm 9 w)), (5, .int 1), (4, .int (nI w)), (3, .int (nI f)), (0, .ref xa), (1, .ref xb), (2, .int z)]) hx hb dL_judges_85 hl (by decide) rfl (fun ls hl => ?_)
        refine lv_iload hx hb dL_judges_87 (lv_at hl 3 rfl) ?_
        refine lv_if_ge (tgt := 96) hx hb dL_judges_89 (by decide) (fun c89 => ?_) (fun c89 => ?_)
        · skip
          refine lv_aload_n hx hb dL_judges_96 rfl (lv_at hl 7 rfl) ?_
          refine lv_iload hx hb dL_judges_97 (lv_at hl 0 rfl) ?_
          refine p_iVk (fr := 7) (lo := 110) (mc1 := 1) (ms1 := 6) (n := 1) (As := [.int (nI g)]) (rest := []) hF (pv_trust l hflag G xa mm (nI g)  (r0 := (mm 0 g)) (m0 := mm) (v_tru hL hg) (hL.2.1)) p_Em.l ke_X4_trust wd_l_L_45 (by decide) hI hX hS rfl hl.1 rfl (Nat.le_of_ble_eq_true rfl) dL_judges_99 (by first | decide | omega | (dsimp only; omega)) (fun H locs hI hS => ?_)
          replace hI : p_J G xa xb Z (mm, mm) H := hI
          refine lv_istore (lv' := [(10, .int (mm 0 g)), (9, .int (nI g)), (8, .int 1), (7, .int (mm 6 w)), (6, .int (mm 9 w)), (5, .int 1), (4, .int (nI w)), (3, .int (nI f)), (0, .ref xa), (1, .ref xb), (2, .int z)]) hx hb dL_judges_102 hl (by decide) rfl (fun ls hl => ?_)
          refine lv_aload_n hx hb dL_judges_104 rfl (lv_at hl 8 rfl) ?_
          refine lv_iload hx hb dL_judges_105 (lv_at hl 6 rfl) ?_
          refine p_iVk (fr := 7) (lo := 111) (mc1 := 1) (ms1 := 6) (n := 1) (As := [.int (nI w)]) (rest := []) hF (pv_versions l hflag G xa mm (nI w) hL.1 (r0 := (mm 7 w)) (m0 := mm) (v_of hL hw) (hL.2.1)) p_Em.l ke_X4_versions wd_l_L_49 (by decide) hI hX hS rfl hl.1 rfl (Nat.le_of_ble_eq_true rfl) dL_judges_107 (by first | decide | omega | (dsimp only; omega)) (fun H locs hI hS => ?_)
          replace hI : p_J G xa xb Z (mm, mm) H := hI
          refine lv_istore (lv' := [(11, .int (mm 7 w)), (10, .int (mm 0 g)), (9, .int (nI g)), (8, .int 1), (7, .int (mm 6 w)), (6, .int (mm 9 w)), (5, .int 1), (4, .int (nI w)), (3, .int (nI f)), (0, .ref xa), (1, .ref xb), (2, .int z)]) hx hb dL_judges_110 hl (by decide) rfl (fun ls hl => ?_)
          refine lv_aload_n hx hb dL_judges_112 rfl (lv_at hl 9 rfl) ?_
          refine p_lSk (mc1 := 460) (ms1 := 2760) (fr := 12) (lo := 240) (n := 1) (As := [.ref xa]) (rest := []) hF (m_all l hflag G xa mm hL) p_Em.l ke_L_all wd_l_L_151 (by decide) hI hX hS rfl hl.1 rfl (Nat.le_of_ble_eq_true rfl) dL_judges_113 (by first | decide | omega | (dsimp only; omega)) (fun H locs hI hS => ?_)
          replace hI : p_J G xa xb Z (mm, mm) H := hI
          refine lv_lstore (lv' := [(12, .long (al mm)), (11, .int (mm 7 w)), (10, .int (mm 0 g)), (9, .int (nI g)), (8, .int 1), (7, .int (mm 6 w)), (6, .int (mm 9 w)), (5, .int 1), (4, .int (nI w)), (3, .int (nI f)), (0, .ref xa), (1, .ref xb), (2, .int z)]) hx hb dL_judges_116 hl (by decide) rfl (fun ls hl => ?_)
          refine W.widen (k := 500) (n := 3000) (by first | decide | omega | (dsimp only; omega)) (by first | decide | omega | (dsimp only; omega)) ?_
          exact m_judges_11 l hflag G xa xb mm z f w g k d tt hL hK1 hf hw hg hk hd hq q1 q2 q3 q4 htt et Z hx hb hr hF hlk hX _ _ _ hI hS (lv_sub hl [0, 1, 2, 3, 4, 5, 6, 7, 8, 9, 10, 11, 12] rfl)
        · skip
          exact absurd (by rw [q1]; exact nI_pos' (by omega)) c89
theorem ke_L_judges : wl_S yL_judges cL_judges 17 (some .boolean) 3 := ⟨wd_c_L_judges, wd_t_L_judges, wd_n_L, by decide, by decide +kernel⟩
