/-! ===== what 'all' answers: one number of the table ===== -/
theorem p_cv {l : Launch} {y : MethodName} {w0 : Cond} {fr lo mc ms : Nat} {G : k_G} {I : p_Im q_Mem} {mm m0 : q_Mem} {r0 : Int32} {As : List Value} {nm : Int32 → String} {sp : Int32 × q_Mem} (h : cl nm sp mm = (r0, m0)) (hM : p_Ci l y w0 fr lo mc ms G I mm As (fun v u => v = (cl nm sp mm).1 ∧ u = (cl nm sp mm).2) (fun _ => False)) : p_Ci l y w0 fr lo mc ms G I mm As (fun v u => v = r0 ∧ u = m0) (fun _ => False) := by
  rw [h] at hM; exact hM
def al1 (mm : q_Mem) (k : Nat) (h : Int64) : Int64 := h * 103 + Int32.toInt64 (mm 0 k)
def al2 (mm : q_Mem) (w : Nat) (h : Int64) : Int64 := ((((((h * 1009 + Int32.toInt64 (vc mm w)) * 1009 + Int32.toInt64 (mm 9 w)) * 521 + Int32.toInt64 (nI (sp_L mm w) + 1)) * 61 + Int32.toInt64 (mm 7 w)) * 11 + Int32.toInt64 (sp_dc mm w)) * 409 + Int32.toInt64 (sp_dv mm w))
def al3 (mm : q_Mem) (c : Nat) (h : Int64) : Int64 := (h * 1709 + Int32.toInt64 (100 * mm 15 c + mm 16 c)) * 43 + Int32.toInt64 (sp_tg mm c)
def al5 (mm : q_Mem) (z k : Nat) (h : Int64) : Int64 := (h * 1000003 + Int32.toInt64 (cl k_n2 (sp_ptr mm (nI z) (nI (k * 7 % 2 ^ z)) (nI (k * 3 % 2 ^ z))) mm).1) * 509 + Int32.toInt64 (mm 13 (tb_i z (k * 7 % 2 ^ z) (k * 3 % 2 ^ z)) - 1)
def al4 (mm : q_Mem) (z : Nat) (h : Int64) : Int64 := it_n (al5 mm z) 4 (h * 257 + Int32.toInt64 (stl mm z))
theorem it_n_s {α : Type} (f : Nat → α → α) (n : Nat) (x : α) : it_n f (n + 1) x = f n (it_n f n x) := rfl
theorem al4_d (mm : q_Mem) (z : Nat) (h : Int64) : al4 mm z h = it_n (al5 mm z) 4 (h * 257 + Int32.toInt64 (stl mm z)) := rfl
def al0 (mm : q_Mem) : Int64 := Int32.toInt64 (mm 10 0) * 41 + Int32.toInt64 (mm 1 0)
def al (mm : q_Mem) : Int64 := it_n (al4 mm) 5 (it_n (al3 mm) 3 (it_n (al2 mm) (sp_W mm) (it_n (al1 mm) 6 (al0 mm))))
theorem ptr_cl {mm : q_Mem} {z x y : Nat} (hL : LI mm) (hz : z < 5) (hx : x < 2 ^ z) (hy : y < 2 ^ z) : cl k_n2 (sp_ptr mm (nI z) (nI x) (nI y)) mm = ((cl k_n2 (sp_ptr mm (nI z) (nI x) (nI y)) mm).1, mm) := by
  by_cases hd : mm 13 (tb_i z x y) = 0
  · rw [cl_th (v_ptn hz hx hy hd) (by decide)]
  · rw [cl_ok (v_ptr hL hz hx hy hd) hL.2.1]
theorem shl1 : ∀ z, z < 5 → (1 : Int32) <<< (nI z &&& 31) = nI (2 ^ z) := by decide +kernel
theorem m_c11 {l : Launch} (hflag : l.stackTraces = false) {G : k_G} (xa : Nat) (mm : q_Mem) {z x y : Nat} (hL : LI mm) (hz : z < 5) (hx : x < 2 ^ z) (hy : y < 2 ^ z) : p_Ci l yL_call (Cond.codeWith yL_call cL_call 6 (some .int) [(0, 9, 10, 15), (0, 9, 15, 18), (0, 9, 20, 21)]) 11 214 3 18 G (p_I G xa) mm [.ref xa, .int 11, .int (nI z), .int (nI x), .int (nI y)] (fun v u => v = (cl k_n2 (sp_ptr mm (nI z) (nI x) (nI y)) mm).1 ∧ u = mm) (fun _ => False) :=
  p_cv (ptr_cl hL hz hx hy) (m_call (fun Z ad h => by rw [← h]; exact m_does_11 l hflag G Z ad mm (nI z) (nI x) (nI y)) (Or.inr rfl))
theorem k_end {k n : Nat} (hk : k ≤ n) (hn : n < 2 ^ 31) (c : nI n ≤ nI k) : k = n := by
  have := (nI_leI hn (by omega)).mp c
  omega
theorem k_in {k n : Nat} (hk : k ≤ n) (hn : n < 2 ^ 31) (c : ¬ nI n ≤ nI k) : k < n := by
  have : ¬ n ≤ k := fun q => c (nI_le q (by omega))
  omega
theorem dL_all_0 : decode cL_all 0 = .ok (.aload_n 0, 1) := by decide +kernel
theorem dL_all_1 : decode cL_all 1 = .ok (.invokevirtual 102, 3) := by decide +kernel
theorem dL_all_4 : decode cL_all 4 = .ok (.i2l, 1) := by decide +kernel
theorem dL_all_5 : decode cL_all 5 = .ok (.ldc2_w 106, 3) := by decide +kernel
theorem dL_all_8 : decode cL_all 8 = .ok (.lmul, 1) := by decide +kernel
theorem dL_all_9 : decode cL_all 9 = .ok (.aload_n 0, 1) := by decide +kernel
theorem dL_all_10 : decode cL_all 10 = .ok (.invokevirtual 108, 3) := by decide +kernel
theorem dL_all_13 : decode cL_all 13 = .ok (.i2l, 1) := by decide +kernel
theorem dL_all_14 : decode cL_all 14 = .ok (.ladd, 1) := by decide +kernel
theorem dL_all_15 : decode cL_all 15 = .ok (.lstore_n 1, 1) := by decide +kernel
theorem dL_all_16 : decode cL_all 16 = .ok (.iconst 0, 1) := by decide +kernel
theorem dL_all_17 : decode cL_all 17 = .ok (.istore_n 3, 1) := by decide +kernel
theorem dL_all_18 : decode cL_all 18 = .ok (.iload_n 3, 1) := by decide +kernel
theorem dL_all_19 : decode cL_all 19 = .ok (.bipush 6, 2) := by decide +kernel
theorem dL_all_21 : decode cL_all 21 = .ok (.if_icmp .ge 22, 3) := by decide +kernel
theorem dL_all_24 : decode cL_all 24 = .ok (.lload_n 1, 1) := by decide +kernel
theorem dL_all_25 : decode cL_all 25 = .ok (.ldc2_w 111, 3) := by decide +kernel
theorem dL_all_28 : decode cL_all 28 = .ok (.lmul, 1) := by decide +kernel
theorem dL_all_29 : decode cL_all 29 = .ok (.aload_n 0, 1) := by decide +kernel
theorem dL_all_30 : decode cL_all 30 = .ok (.iload_n 3, 1) := by decide +kernel
theorem dL_all_31 : decode cL_all 31 = .ok (.invokevirtual 45, 3) := by decide +kernel
theorem dL_all_34 : decode cL_all 34 = .ok (.i2l, 1) := by decide +kernel
theorem dL_all_35 : decode cL_all 35 = .ok (.ladd, 1) := by decide +kernel
theorem dL_all_36 : decode cL_all 36 = .ok (.lstore_n 1, 1) := by decide +kernel
theorem dL_all_37 : decode cL_all 37 = .ok (.iinc 3 1, 3) := by decide +kernel
theorem dL_all_40 : decode cL_all 40 = .ok (.goto (-22), 3) := by decide +kernel
theorem dL_all_43 : decode cL_all 43 = .ok (.iconst 0, 1) := by decide +kernel
theorem dL_all_44 : decode cL_all 44 = .ok (.istore_n 3, 1) := by decide +kernel
theorem dL_all_45 : decode cL_all 45 = .ok (.iload_n 3, 1) := by decide +kernel
theorem dL_all_46 : decode cL_all 46 = .ok (.aload_n 0, 1) := by decide +kernel
theorem dL_all_47 : decode cL_all 47 = .ok (.invokevirtual 108, 3) := by decide +kernel
theorem dL_all_50 : decode cL_all 50 = .ok (.if_icmp .ge 91, 3) := by decide +kernel
theorem dL_all_53 : decode cL_all 53 = .ok (.aload_n 0, 1) := by decide +kernel
theorem dL_all_54 : decode cL_all 54 = .ok (.iload_n 3, 1) := by decide +kernel
theorem dL_all_55 : decode cL_all 55 = .ok (.invokevirtual 49, 3) := by decide +kernel
theorem dL_all_58 : decode cL_all 58 = .ok (.istore 4, 2) := by decide +kernel
theorem dL_all_60 : decode cL_all 60 = .ok (.lload_n 1, 1) := by decide +kernel
theorem dL_all_61 : decode cL_all 61 = .ok (.ldc2_w 113, 3) := by decide +kernel
theorem dL_all_64 : decode cL_all 64 = .ok (.lmul, 1) := by decide +kernel
theorem dL_all_65 : decode cL_all 65 = .ok (.aload_n 0, 1) := by decide +kernel
theorem dL_all_66 : decode cL_all 66 = .ok (.iload_n 3, 1) := by decide +kernel
theorem dL_all_67 : decode cL_all 67 = .ok (.iload 4, 2) := by decide +kernel
theorem dL_all_69 : decode cL_all 69 = .ok (.iconst 1, 1) := by decide +kernel
theorem dL_all_70 : decode cL_all 70 = .ok (.isub, 1) := by decide +kernel
theorem dL_all_71 : decode cL_all 71 = .ok (.invokevirtual 52, 3) := by decide +kernel
theorem dL_all_74 : decode cL_all 74 = .ok (.i2l, 1) := by decide +kernel
theorem dL_all_75 : decode cL_all 75 = .ok (.ladd, 1) := by decide +kernel
theorem dL_all_76 : decode cL_all 76 = .ok (.ldc2_w 113, 3) := by decide +kernel
theorem dL_all_79 : decode cL_all 79 = .ok (.lmul, 1) := by decide +kernel
theorem dL_all_80 : decode cL_all 80 = .ok (.aload_n 0, 1) := by decide +kernel
theorem dL_all_81 : decode cL_all 81 = .ok (.iload_n 3, 1) := by decide +kernel
theorem dL_all_82 : decode cL_all 82 = .ok (.invokevirtual 58, 3) := by decide +kernel
theorem dL_all_85 : decode cL_all 85 = .ok (.i2l, 1) := by decide +kernel
theorem dL_all_86 : decode cL_all 86 = .ok (.ladd, 1) := by decide +kernel
theorem dL_all_87 : decode cL_all 87 = .ok (.ldc2_w 115, 3) := by decide +kernel
theorem dL_all_90 : decode cL_all 90 = .ok (.lmul, 1) := by decide +kernel
theorem dL_all_91 : decode cL_all 91 = .ok (.aload_n 0, 1) := by decide +kernel
theorem dL_all_92 : decode cL_all 92 = .ok (.iload_n 3, 1) := by decide +kernel
theorem dL_all_93 : decode cL_all 93 = .ok (.iload 4, 2) := by decide +kernel
theorem dL_all_95 : decode cL_all 95 = .ok (.iconst 1, 1) := by decide +kernel
theorem dL_all_96 : decode cL_all 96 = .ok (.isub, 1) := by decide +kernel
theorem dL_all_97 : decode cL_all 97 = .ok (.invokevirtual 55, 3) := by decide +kernel
theorem dL_all_100 : decode cL_all 100 = .ok (.i2l, 1) := by decide +kernel
theorem dL_all_101 : decode cL_all 101 = .ok (.ladd, 1) := by decide +kernel
theorem dL_all_102 : decode cL_all 102 = .ok (.lstore_n 1, 1) := by decide +kernel
theorem dL_all_103 : decode cL_all 103 = .ok (.lload_n 1, 1) := by decide +kernel
theorem dL_all_104 : decode cL_all 104 = .ok (.ldc2_w 117, 3) := by decide +kernel
theorem dL_all_107 : decode cL_all 107 = .ok (.lmul, 1) := by decide +kernel
theorem dL_all_108 : decode cL_all 108 = .ok (.iload 4, 2) := by decide +kernel
theorem dL_all_110 : decode cL_all 110 = .ok (.i2l, 1) := by decide +kernel
theorem dL_all_111 : decode cL_all 111 = .ok (.ladd, 1) := by decide +kernel
theorem dL_all_112 : decode cL_all 112 = .ok (.ldc2_w 119, 3) := by decide +kernel
theorem dL_all_115 : decode cL_all 115 = .ok (.lmul, 1) := by decide +kernel
theorem dL_all_116 : decode cL_all 116 = .ok (.aload_n 0, 1) := by decide +kernel
theorem dL_all_117 : decode cL_all 117 = .ok (.iload_n 3, 1) := by decide +kernel
theorem dL_all_118 : decode cL_all 118 = .ok (.invokevirtual 87, 3) := by decide +kernel
theorem dL_all_121 : decode cL_all 121 = .ok (.i2l, 1) := by decide +kernel
theorem dL_all_122 : decode cL_all 122 = .ok (.ladd, 1) := by decide +kernel
theorem dL_all_123 : decode cL_all 123 = .ok (.ldc2_w 121, 3) := by decide +kernel
theorem dL_all_126 : decode cL_all 126 = .ok (.lmul, 1) := by decide +kernel
theorem dL_all_127 : decode cL_all 127 = .ok (.aload_n 0, 1) := by decide +kernel
theorem dL_all_128 : decode cL_all 128 = .ok (.iload_n 3, 1) := by decide +kernel
theorem dL_all_129 : decode cL_all 129 = .ok (.invokevirtual 90, 3) := by decide +kernel
theorem dL_all_132 : decode cL_all 132 = .ok (.i2l, 1) := by decide +kernel
theorem dL_all_133 : decode cL_all 133 = .ok (.ladd, 1) := by decide +kernel
theorem dL_all_134 : decode cL_all 134 = .ok (.lstore_n 1, 1) := by decide +kernel
theorem dL_all_135 : decode cL_all 135 = .ok (.iinc 3 1, 3) := by decide +kernel
theorem dL_all_138 : decode cL_all 138 = .ok (.goto (-93), 3) := by decide +kernel
theorem dL_all_141 : decode cL_all 141 = .ok (.iconst 0, 1) := by decide +kernel
theorem dL_all_142 : decode cL_all 142 = .ok (.istore_n 3, 1) := by decide +kernel
theorem dL_all_143 : decode cL_all 143 = .ok (.iload_n 3, 1) := by decide +kernel
theorem dL_all_144 : decode cL_all 144 = .ok (.iconst 3, 1) := by decide +kernel
theorem dL_all_145 : decode cL_all 145 = .ok (.if_icmp .ge 33, 3) := by decide +kernel
theorem dL_all_148 : decode cL_all 148 = .ok (.lload_n 1, 1) := by decide +kernel
theorem dL_all_149 : decode cL_all 149 = .ok (.ldc2_w 123, 3) := by decide +kernel
theorem dL_all_152 : decode cL_all 152 = .ok (.lmul, 1) := by decide +kernel
theorem dL_all_153 : decode cL_all 153 = .ok (.aload_n 0, 1) := by decide +kernel
theorem dL_all_154 : decode cL_all 154 = .ok (.iload_n 3, 1) := by decide +kernel
theorem dL_all_155 : decode cL_all 155 = .ok (.invokevirtual 99, 3) := by decide +kernel
theorem dL_all_158 : decode cL_all 158 = .ok (.i2l, 1) := by decide +kernel
theorem dL_all_159 : decode cL_all 159 = .ok (.ladd, 1) := by decide +kernel
theorem dL_all_160 : decode cL_all 160 = .ok (.ldc2_w 125, 3) := by decide +kernel
theorem dL_all_163 : decode cL_all 163 = .ok (.lmul, 1) := by decide +kernel
theorem dL_all_164 : decode cL_all 164 = .ok (.aload_n 0, 1) := by decide +kernel
theorem dL_all_165 : decode cL_all 165 = .ok (.iload_n 3, 1) := by decide +kernel
theorem dL_all_166 : decode cL_all 166 = .ok (.invokevirtual 93, 3) := by decide +kernel
theorem dL_all_169 : decode cL_all 169 = .ok (.i2l, 1) := by decide +kernel
theorem dL_all_170 : decode cL_all 170 = .ok (.ladd, 1) := by decide +kernel
theorem dL_all_171 : decode cL_all 171 = .ok (.lstore_n 1, 1) := by decide +kernel
theorem dL_all_172 : decode cL_all 172 = .ok (.iinc 3 1, 3) := by decide +kernel
theorem dL_all_175 : decode cL_all 175 = .ok (.goto (-32), 3) := by decide +kernel
theorem dL_all_178 : decode cL_all 178 = .ok (.iconst 0, 1) := by decide +kernel
theorem dL_all_179 : decode cL_all 179 = .ok (.istore_n 3, 1) := by decide +kernel
theorem dL_all_180 : decode cL_all 180 = .ok (.iload_n 3, 1) := by decide +kernel
theorem dL_all_181 : decode cL_all 181 = .ok (.iconst 5, 1) := by decide +kernel
theorem dL_all_182 : decode cL_all 182 = .ok (.if_icmp .ge 98, 3) := by decide +kernel
theorem dL_all_185 : decode cL_all 185 = .ok (.lload_n 1, 1) := by decide +kernel
theorem dL_all_186 : decode cL_all 186 = .ok (.ldc2_w 127, 3) := by decide +kernel
theorem dL_all_189 : decode cL_all 189 = .ok (.lmul, 1) := by decide +kernel
theorem dL_all_190 : decode cL_all 190 = .ok (.aload_n 0, 1) := by decide +kernel
theorem dL_all_191 : decode cL_all 191 = .ok (.iload_n 3, 1) := by decide +kernel
theorem dL_all_192 : decode cL_all 192 = .ok (.invokevirtual 78, 3) := by decide +kernel
theorem dL_all_195 : decode cL_all 195 = .ok (.i2l, 1) := by decide +kernel
theorem dL_all_196 : decode cL_all 196 = .ok (.ladd, 1) := by decide +kernel
theorem dL_all_197 : decode cL_all 197 = .ok (.lstore_n 1, 1) := by decide +kernel
theorem dL_all_198 : decode cL_all 198 = .ok (.iconst 0, 1) := by decide +kernel
theorem dL_all_199 : decode cL_all 199 = .ok (.istore 4, 2) := by decide +kernel
theorem dL_all_201 : decode cL_all 201 = .ok (.iload 4, 2) := by decide +kernel
theorem dL_all_203 : decode cL_all 203 = .ok (.iconst 4, 1) := by decide +kernel
theorem dL_all_204 : decode cL_all 204 = .ok (.if_icmp .ge 70, 3) := by decide +kernel
theorem dL_all_207 : decode cL_all 207 = .ok (.iconst 1, 1) := by decide +kernel
theorem dL_all_208 : decode cL_all 208 = .ok (.iload_n 3, 1) := by decide +kernel
theorem dL_all_209 : decode cL_all 209 = .ok (.ishl, 1) := by decide +kernel
theorem dL_all_210 : decode cL_all 210 = .ok (.istore 5, 2) := by decide +kernel
theorem dL_all_212 : decode cL_all 212 = .ok (.lload_n 1, 1) := by decide +kernel
theorem dL_all_213 : decode cL_all 213 = .ok (.ldc2_w 129, 3) := by decide +kernel
theorem dL_all_216 : decode cL_all 216 = .ok (.lmul, 1) := by decide +kernel
theorem dL_all_217 : decode cL_all 217 = .ok (.aload_n 0, 1) := by decide +kernel
theorem dL_all_218 : decode cL_all 218 = .ok (.bipush 11, 2) := by decide +kernel
theorem dL_all_220 : decode cL_all 220 = .ok (.iload_n 3, 1) := by decide +kernel
theorem dL_all_221 : decode cL_all 221 = .ok (.iload 4, 2) := by decide +kernel
theorem dL_all_223 : decode cL_all 223 = .ok (.bipush 7, 2) := by decide +kernel
theorem dL_all_225 : decode cL_all 225 = .ok (.imul, 1) := by decide +kernel
theorem dL_all_226 : decode cL_all 226 = .ok (.iload 5, 2) := by decide +kernel
theorem dL_all_228 : decode cL_all 228 = .ok (.irem, 1) := by decide +kernel
theorem dL_all_229 : decode cL_all 229 = .ok (.iload 4, 2) := by decide +kernel
theorem dL_all_231 : decode cL_all 231 = .ok (.iconst 3, 1) := by decide +kernel
theorem dL_all_232 : decode cL_all 232 = .ok (.imul, 1) := by decide +kernel
theorem dL_all_233 : decode cL_all 233 = .ok (.iload 5, 2) := by decide +kernel
theorem dL_all_235 : decode cL_all 235 = .ok (.irem, 1) := by decide +kernel
theorem dL_all_236 : decode cL_all 236 = .ok (.invokestatic 131, 3) := by decide +kernel
theorem dL_all_239 : decode cL_all 239 = .ok (.i2l, 1) := by decide +kernel
theorem dL_all_240 : decode cL_all 240 = .ok (.ladd, 1) := by decide +kernel
theorem dL_all_241 : decode cL_all 241 = .ok (.ldc2_w 134, 3) := by decide +kernel
theorem dL_all_244 : decode cL_all 244 = .ok (.lmul, 1) := by decide +kernel
theorem dL_all_245 : decode cL_all 245 = .ok (.aload_n 0, 1) := by decide +kernel
theorem dL_all_246 : decode cL_all 246 = .ok (.iload_n 3, 1) := by decide +kernel
theorem dL_all_247 : decode cL_all 247 = .ok (.iload 4, 2) := by decide +kernel
theorem dL_all_249 : decode cL_all 249 = .ok (.bipush 7, 2) := by decide +kernel
theorem dL_all_251 : decode cL_all 251 = .ok (.imul, 1) := by decide +kernel
theorem dL_all_252 : decode cL_all 252 = .ok (.iload 5, 2) := by decide +kernel
theorem dL_all_254 : decode cL_all 254 = .ok (.irem, 1) := by decide +kernel
theorem dL_all_255 : decode cL_all 255 = .ok (.iload 4, 2) := by decide +kernel
theorem dL_all_257 : decode cL_all 257 = .ok (.iconst 3, 1) := by decide +kernel
theorem dL_all_258 : decode cL_all 258 = .ok (.imul, 1) := by decide +kernel
theorem dL_all_259 : decode cL_all 259 = .ok (.iload 5, 2) := by decide +kernel
theorem dL_all_261 : decode cL_all 261 = .ok (.irem, 1) := by decide +kernel
theorem dL_all_262 : decode cL_all 262 = .ok (.invokevirtual 71, 3) := by decide +kernel
theorem dL_all_265 : decode cL_all 265 = .ok (.i2l, 1) := by decide +kernel
theorem dL_all_266 : decode cL_all 266 = .ok (.ladd, 1) := by decide +kernel
theorem dL_all_267 : decode cL_all 267 = .ok (.lstore_n 1, 1) := by decide +kernel
theorem dL_all_268 : decode cL_all 268 = .ok (.iinc 4 1, 3) := by decide +kernel
theorem dL_all_271 : decode cL_all 271 = .ok (.goto (-70), 3) := by decide +kernel
theorem dL_all_274 : decode cL_all 274 = .ok (.iinc 3 1, 3) := by decide +kernel
theorem dL_all_277 : decode cL_all 277 = .ok (.goto (-97), 3) := by decide +kernel
theorem dL_all_280 : decode cL_all 280 = .ok (.lload_n 1, 1) := by decide +kernel
theorem dL_all_281 : decode cL_all 281 = .ok (.lreturn, 1) := by decide +kernel
set_option maxHeartbeats 1000000 in
set_option maxRecDepth 100000 in
theorem m_all (l : Launch) (hflag : l.stackTraces = false) (G : k_G) (xa : Nat) (mm : q_Mem) (hL : LI mm) : p_Cl l yL_all (Cond.code yL_all cL_all 6 (some .long)) 12 240 460 2760 G (p_I G xa) mm [.ref xa] (fun v u => v = al mm ∧ u = mm) (fun _ => False) := by
  refine p_of (by decide) (Nat.le_of_ble_eq_true rfl) ?_
  intro Z p e s m args below meth c hx hb hr hF hlk hI hX ls hl
  have hl : lv_has ls 6 [(0, .ref xa)] := hl
  have hS : va_S Z s.heap s.heap [] := va_S.rf
  refine lv_aload_n hx hb dL_all_0 rfl (lv_at hl 0 rfl) ?_
  refine p_iVk (fr := 0) (lo := 0) (mc1 := 0) (ms1 := 0) (n := 0) (As := []) (rest := []) hF (pv_clock l G xa mm) p_Em.id ke_X4_clock wd_l_L_102 (by decide) hI hX hS rfl hl.1 rfl (Nat.le_of_ble_eq_true rfl) dL_all_1 (by first | decide | omega | (dsimp only; omega)) (fun H locs hI hS => ?_)
  replace hI : p_I G xa Z mm H := hI
  refine lv_i2l (v := Int32.toInt64 (mm 10 0)) hx hb dL_all_4 rfl ?_
  refine lv_ldc2 (v := 41) hx hb hF.2.2.2.1 (hF.2.2.2.2 _ wd_x5) dL_all_5 ?_
  refine lv_lmul hx hb dL_all_8 ?_
  refine lv_aload_n hx hb dL_all_9 rfl (lv_at hl 0 rfl) ?_
  refine p_iVk (fr := 1) (lo := 20) (mc1 := 0) (ms1 := 0) (n := 0) (As := []) (rest := [.long ((Int32.toInt64 (mm 10 0)) * 41)]) hF (pv_ways l G xa mm) p_Em.id ke_X4_ways wd_l_L_108 (by decide) hI hX hS rfl hl.1 rfl (Nat.le_of_ble_eq_true rfl) dL_all_10 (by first | decide | omega | (dsimp only; omega)) (fun H locs hI hS => ?_)
  replace hI : p_I G xa Z mm H := hI
  refine lv_i2l (v := Int32.toInt64 (mm 1 0)) hx hb dL_all_13 rfl ?_
  refine lv_ladd hx hb dL_all_14 ?_
  refine bo_toV (v := .long (al0 mm)) (rfl) ?_
  refine lv_lstore_n (lv' := [(1, .long (al0 mm)), (0, .ref xa)]) hx hb dL_all_15 rfl hl (by decide) rfl (fun ls hl => ?_)
  refine lv_iconst (v := 0) hx hb dL_all_16 (by decide) ?_
  refine lv_istore_n (lv' := [(3, .int 0), (1, .long (al0 mm)), (0, .ref xa)]) hx hb dL_all_17 rfl hl (by decide) rfl (fun ls hl => ?_)
  obtain ⟨h0, e_h0⟩ : ∃ x : Int64, x = (al0 mm) := ⟨_, rfl⟩
  rw [← e_h0] at hl
  refine p_loop (fun k => 6 - k) (fun k => 1 * k) (fun k => 6 * k) (fun k H locs ls => k ≤ 6 ∧ p_I G xa Z mm H ∧ va_S Z s.heap H locs ∧ lv_has ls 6 [(0, .ref xa), (1, .long (it_n (al1 mm) k h0)), (3, .int (nI k))]) 0 (by first | decide | omega | (dsimp only; omega)) (by first | decide | omega | (dsimp only; omega)) ⟨Nat.zero_le _, hI, hS, lv_sub hl [2, 1, 0] rfl⟩ ?_
  intro k H locs ls hJ ih18
  obtain ⟨hk_k, hI, hS, hl⟩ := hJ
  refine lv_iload_n hx hb dL_all_18 rfl (lv_at hl 2 rfl) ?_
  refine lv_bipush (v := 6) hx hb dL_all_19 (by decide) ?_
  refine bo_to (v := (nI 6)) (rfl) ?_
  refine lv_icmp_ge (tgt := 43) hx hb dL_all_21 (by decide) (fun c1 => ?_) (fun c1 => ?_)
  · skip
    have ek := k_end hk_k (by decide) c1
    subst ek
    refine W.widen (k := 6) (n := 36) (by first | decide | omega | (dsimp only; omega)) (by first | decide | omega | (dsimp only; omega)) ?_
    refine lv_iconst (v := 0) hx hb dL_all_43 (by decide) ?_
    refine lv_istore_n (lv' := [(3, .int 0), (0, .ref xa), (1, .long (it_n (al1 mm) 6 h0))]) hx hb dL_all_44 rfl hl (by decide) rfl (fun ls hl => ?_)
    have hW40 := hL.1.W40
    obtain ⟨h1, e_h1⟩ : ∃ x : Int64, x = (it_n (al1 mm) 6 h0) := ⟨_, rfl⟩
    rw [← e_h1] at hl
    refine p_loop (fun w => sp_W mm - w) (fun w => 6 + 8 * w) (fun w => 36 + 48 * w) (fun w H locs ls => w ≤ sp_W mm ∧ p_I G xa Z mm H ∧ va_S Z s.heap H locs ∧ lv_has ls 6 [(0, .ref xa), (1, .long (it_n (al2 mm) w h1)), (3, .int (nI w))]) 0 (by first | decide | omega | (dsimp only; omega)) (by first | decide | omega | (dsimp only; omega)) ⟨Nat.zero_le _, hI, hS, lv_sub hl [1, 2, 0] rfl⟩ ?_
    intro w H locs ls hJ ih45
    obtain ⟨hk_w, hI, hS, hl⟩ := hJ
    refine lv_iload_n hx hb dL_all_45 rfl (lv_at hl 2 rfl) ?_
    refine lv_aload_n hx hb dL_all_46 rfl (lv_at hl 0 rfl) ?_
    refine p_iVk (fr := 1) (lo := 20) (mc1 := 0) (ms1 := 0) (n := 0) (As := []) (rest := [.int (nI w)]) hF (pv_ways l G xa mm) p_Em.id ke_X4_ways wd_l_L_108 (by decide) hI hX hS rfl hl.1 rfl (Nat.le_of_ble_eq_true rfl) dL_all_47 (by first | decide | omega | (dsimp only; omega)) (fun H locs hI hS => ?_)
    replace hI : p_I G xa Z mm H := hI
    refine bo_to (v := (nI (sp_W mm))) (hL.1.W) ?_
    refine lv_icmp_ge (tgt := 141) hx hb dL_all_50 (by decide) (fun c2 => ?_) (fun c2 => ?_)
    · skip
      have ek := k_end hk_w (by omega) c2
      subst ek
      refine W.widen (k := 326) (n := 1956) (by first | decide | omega | (dsimp only; omega)) (by first | decide | omega | (dsimp only; omega)) ?_
      refine lv_iconst (v := 0) hx hb dL_all_141 (by decide) ?_
      refine lv_istore_n (lv' := [(3, .int 0), (0, .ref xa), (1, .long (it_n (al2 mm) (sp_W mm) h1))]) hx hb dL_all_142 rfl hl (by decide) rfl (fun ls hl => ?_)
      obtain ⟨h2, e_h2⟩ : ∃ x : Int64, x = (it_n (al2 mm) (sp_W mm) h1) := ⟨_, rfl⟩
      rw [← e_h2] at hl
      refine p_loop (fun q => 3 - q) (fun q => 326 + 2 * q) (fun q => 1956 + 12 * q) (fun q H locs ls => q ≤ 3 ∧ p_I G xa Z mm H ∧ va_S Z s.heap H locs ∧ lv_has ls 6 [(0, .ref xa), (1, .long (it_n (al3 mm) q h2)), (3, .int (nI q))]) 0 (by first | decide | omega | (dsimp only; omega)) (by first | decide | omega | (dsimp only; omega)) ⟨Nat.zero_le _, hI, hS, lv_sub hl [1, 2, 0] rfl⟩ ?_
      intro q H locs ls hJ ih143
      obtain ⟨hk_q, hI, hS, hl⟩ := hJ
      refine lv_iload_n hx hb dL_all_143 rfl (lv_at hl 2 rfl) ?_
      refine lv_iconst (v := 3) hx hb dL_all_144 (by decide) ?_
      refine bo_to (v := (nI 3)) (rfl) ?_
      refine lv_icmp_ge (tgt := 178) hx hb dL_all_145 (by decide) (fun c3 => ?_) (fun c3 => ?_)
      · skip
        have ek := k_end hk_q (by decide) c3
        subst ek
        refine W.widen (k := 332) (n := 1992) (by first | decide | omega | (dsimp only; omega)) (by first | decide | omega | (dsimp only; omega)) ?_
        refine lv_iconst (v := 0) hx hb dL_all_178 (by decide) ?_
        refine lv_istore_n (lv' := [(3, .int 0), (0, .ref xa), (1, .long (it_n (al3 mm) 3 h2))]) hx hb dL_all_179 rfl hl (by decide) rfl (fun ls hl => ?_)
        obtain ⟨h3, e_h3⟩ : ∃ x : Int64, x = (it_n (al3 mm) 3 h2) := ⟨_, rfl⟩
        rw [← e_h3] at hl
        refine p_loop (fun z => 5 - z) (fun z => 332 + 25 * z) (fun z => 1992 + 150 * z) (fun z H locs ls => z ≤ 5 ∧ p_I G xa Z mm H ∧ va_S Z s.heap H locs ∧ lv_has ls 6 [(0, .ref xa), (1, .long (it_n (al4 mm) z h3)), (3, .int (nI z))]) 0 (by first | decide | omega | (dsimp only; omega)) (by first | decide | omega | (dsimp only; omega)) ⟨Nat.zero_le _, hI, hS, lv_sub hl [1, 2, 0] rfl⟩ ?_
        intro z H locs ls hJ ih180
        obtain ⟨hk_z, hI, hS, hl⟩ := hJ
        refine lv_iload_n hx hb dL_all_180 rfl (lv_at hl 2 rfl) ?_
        refine lv_iconst (v := 5) hx hb dL_all_181 (by decide) ?_
        refine bo_to (v := (nI 5)) (rfl) ?_
        refine lv_icmp_ge (tgt := 280) hx hb dL_all_182 (by decide) (fun c4 => ?_) (fun c4 => ?_)
        · skip
          have ek := k_end hk_z (by decide) c4
          subst ek
          refine lv_lload_n hx hb dL_all_280 rfl (lv_at hl 1 rfl) ?_
          exact p_lret hx hb hr hlk hI hS (by first | decide | omega | (dsimp only; omega)) (by first | decide | omega | (dsimp only; omega)) (⟨by rw [e_h3, e_h2, e_h1, e_h0]; rfl, rfl⟩) dL_all_281
        · skip
          have hz := k_in hk_z (by decide) c4
          have h2p := pw_le z hz
          have h2q : 0 < 2 ^ z := Nat.pow_pos (by decide)
          refine lv_lload_n hx hb dL_all_185 rfl (lv_at hl 1 rfl) ?_
          refine lv_ldc2 (v := 257) hx hb hF.2.2.2.1 (hF.2.2.2.2 _ wd_x14) dL_all_186 ?_
          refine lv_lmul hx hb dL_all_189 ?_
          refine lv_aload_n hx hb dL_all_190 rfl (lv_at hl 0 rfl) ?_
          refine lv_iload_n hx hb dL_all_191 rfl (lv_at hl 2 rfl) ?_
          refine p_iVk (fr := 7) (lo := 110) (mc1 := 1) (ms1 := 6) (n := 1) (As := [.int (nI z)]) (rest := [.long ((it_n (al4 mm) z h3) * 257)]) hF (pv_staleTiles l hflag G xa mm (nI z) hL.1 (r0 := (stl mm z)) (m0 := mm) (v_stl hL hz) (hL.2.1)) p_Em.id ke_X4_staleTiles wd_l_L_78 (by decide) hI hX hS rfl hl.1 rfl (Nat.le_of_ble_eq_true rfl) dL_all_192 (by first | decide | omega | (dsimp only; omega)) (fun H locs hI hS => ?_)
          replace hI : p_I G xa Z mm H := hI
          refine lv_i2l (v := Int32.toInt64 (stl mm z)) hx hb dL_all_195 rfl ?_
          refine lv_ladd hx hb dL_all_196 ?_
          refine lv_lstore_n (lv' := [(1, .long (((it_n (al4 mm) z h3) * 257) + (Int32.toInt64 (stl mm z)))), (0, .ref xa), (3, .int (nI z))]) hx hb dL_all_197 rfl hl (by decide) rfl (fun ls hl => ?_)
          refine lv_iconst (v := 0) hx hb dL_all_198 (by decide) ?_
          refine lv_istore (lv' := [(4, .int 0), (1, .long (((it_n (al4 mm) z h3) * 257) + (Int32.toInt64 (stl mm z)))), (0, .ref xa), (3, .int (nI z))]) hx hb dL_all_199 hl (by decide) rfl (fun ls hl => ?_)
          obtain ⟨h4, e_h4⟩ : ∃ x : Int64, x = ((it_n (al4 mm) z h3 * 257) + (Int32.toInt64 (stl mm z))) := ⟨_, rfl⟩
          rw [← e_h4] at hl
          refine p_loop (fun k => 4 - k) (fun k => 332 + 25 * z + 1 + 6 * k) (fun k => 1992 + 150 * z + 6 + 36 * k) (fun k H locs ls => k ≤ 4 ∧ p_I G xa Z mm H ∧ va_S Z s.heap H locs ∧ lv_has ls 6 [(0, .ref xa), (1, .long (it_n (al5 mm z) k h4)), (3, .int (nI z)), (4, .int (nI k))]) 0 (by first | decide | omega | (dsimp only; omega)) (by first | decide | omega | (dsimp only; omega)) ⟨Nat.zero_le _, hI, hS, lv_sub hl [2, 1, 3, 0] rfl⟩ ?_
          intro k H locs ls hJ ih201
          obtain ⟨hk_k, hI, hS, hl⟩ := hJ
          refine lv_iload hx hb dL_all_201 (lv_at hl 3 rfl) ?_
          refine lv_iconst (v := 4) hx hb dL_all_203 (by decide) ?_
          refine bo_to (v := (nI 4)) (rfl) ?_
          refine lv_icmp_ge (tgt := 274) hx hb dL_all_204 (by decide) (fun c5 => ?_) (fun c5 => ?_)
          · skip
            have ek := k_end hk_k (by decide) c5
            subst ek
            have e9 : it_n (al5 mm z) 4 h4 = it_n (al4 mm) (z + 1) h3 := by rw [e_h4]; exact ((it_n_s (al4 mm) z h3).trans (al4_d mm z _)).symm
            rw [e9] at hl
            refine lv_iinc (v := (nI (z + 1))) (lv' := [(3, .int (nI (z + 1))), (0, .ref xa), (1, .long (it_n (al4 mm) (z + 1) h3)), (4, .int (nI 4))]) hx hb dL_all_274 hl (k := 2) rfl (nI_add z 1) (by decide) rfl (fun ls hl => ?_)
            refine lv_goto (tgt := 180) hx hb dL_all_277 (by decide) ?_
            refine W.widen (k := 332 + 25 * (z + 1)) (n := 1992 + 150 * (z + 1)) (by first | decide | omega | (dsimp only; omega)) (by first | decide | omega | (dsimp only; omega)) ?_
            exact ih180 (z + 1) _ _ _ (by omega) ⟨by omega, hI, hS, lv_sub hl [1, 2, 0] rfl⟩
          · skip
            have hk := k_in hk_k (by decide) c5
            refine lv_iconst (v := 1) hx hb dL_all_207 (by decide) ?_
            refine lv_iload_n hx hb dL_all_208 rfl (lv_at hl 2 rfl) ?_
            refine lv_ishl hx hb dL_all_209 ?_
            refine bo_to (v := (nI (2 ^ z))) (shl1 z hz) ?_
            refine lv_istore (lv' := [(5, .int (nI (2 ^ z))), (0, .ref xa), (1, .long (it_n (al5 mm z) k h4)), (3, .int (nI z)), (4, .int (nI k))]) hx hb dL_all_210 hl (by decide) rfl (fun ls hl => ?_)
            refine lv_lload_n hx hb dL_all_212 rfl (lv_at hl 2 rfl) ?_
            refine lv_ldc2 (v := 1000003) hx hb hF.2.2.2.1 (hF.2.2.2.2 _ wd_x15) dL_all_213 ?_
            refine lv_lmul hx hb dL_all_216 ?_
            refine lv_aload_n hx hb dL_all_217 rfl (lv_at hl 1 rfl) ?_
            refine lv_bipush (v := 11) hx hb dL_all_218 (by decide) ?_
            refine lv_iload_n hx hb dL_all_220 rfl (lv_at hl 3 rfl) ?_
            refine lv_iload hx hb dL_all_221 (lv_at hl 4 rfl) ?_
            refine lv_bipush (v := 7) hx hb dL_all_223 (by decide) ?_
            refine lv_imul hx hb dL_all_225 ?_
            refine bo_to (v := (nI (k * 7))) (pk_mul k 7) ?_
            refine lv_iload hx hb dL_all_226 (lv_at hl 0 rfl) ?_
            refine lv_irem hx hb dL_all_228 (nI_ne0 h2q (by omega)) ?_
            refine bo_to (v := (nI (k * 7 % 2 ^ z))) (pk_rem (by omega) h2q (by omega)) ?_
            refine lv_iload hx hb dL_all_229 (lv_at hl 4 rfl) ?_
            refine lv_iconst (v := 3) hx hb dL_all_231 (by decide) ?_
            refine lv_imul hx hb dL_all_232 ?_
            refine bo_to (v := (nI (k * 3))) (pk_mul k 3) ?_
            refine lv_iload hx hb dL_all_233 (lv_at hl 0 rfl) ?_
            refine lv_irem hx hb dL_all_235 (nI_ne0 h2q (by omega)) ?_
            refine bo_to (v := (nI (k * 3 % 2 ^ z))) (pk_rem (by omega) h2q (by omega)) ?_
            refine p_iSXk (mc1 := 3) (ms1 := 18) (fr := 11) (lo := 214) (n := 5) (As := [.ref xa, .int 11, .int (nI z), .int (nI (k * 7 % 2 ^ z)), .int (nI (k * 3 % 2 ^ z))]) (rest := [.long ((it_n (al5 mm z) k h4) * 1000003)]) hF (m_c11 hflag xa mm hL hz (Nat.mod_lt _ h2q) (Nat.mod_lt _ h2q)) p_Em.id ke_L_call wd_l_L_131 (by decide) hI hX hS rfl hl.1 rfl (Nat.le_of_ble_eq_true rfl) dL_all_236 (by first | decide | omega | (dsimp only; omega)) (fun H locs hI hS => ?_)
            replace hI : p_I G xa Z mm H := hI
            refine lv_i2l (v := Int32.toInt64 ((cl k_n2 (sp_ptr mm (nI z) (nI (k * 7 % 2 ^ z)) (nI (k * 3 % 2 ^ z))) mm).1)) hx hb dL_all_239 rfl ?_
            refine lv_ladd hx hb dL_all_240 ?_
            refine lv_ldc2 (v := 509) hx hb hF.2.2.2.1 (hF.2.2.2.2 _ wd_x16) dL_all_241 ?_
            refine lv_lmul hx hb dL_all_244 ?_
            refine lv_aload_n hx hb dL_all_245 rfl (lv_at hl 1 rfl) ?_
            refine lv_iload_n hx hb dL_all_246 rfl (lv_at hl 3 rfl) ?_
            refine lv_iload hx hb dL_all_247 (lv_at hl 4 rfl) ?_
            refine lv_bipush (v := 7) hx hb dL_all_249 (by decide) ?_
            refine lv_imul hx hb dL_all_251 ?_
            refine bo_to (v := (nI (k * 7))) (pk_mul k 7) ?_
            refine lv_iload hx hb dL_all_252 (lv_at hl 0 rfl) ?_
            refine lv_irem hx hb dL_all_254 (nI_ne0 h2q (by omega)) ?_
            refine bo_to (v := (nI (k * 7 % 2 ^ z))) (pk_rem (by omega) h2q (by omega)) ?_
            refine lv_iload hx hb dL_all_255 (lv_at hl 4 rfl) ?_
            refine lv_iconst (v := 3) hx hb dL_all_257 (by decide) ?_
            refine lv_imul hx hb dL_all_258 ?_
            refine bo_to (v := (nI (k * 3))) (pk_mul k 3) ?_
            refine lv_iload hx hb dL_all_259 (lv_at hl 0 rfl) ?_
            refine lv_irem hx hb dL_all_261 (nI_ne0 h2q (by omega)) ?_
            refine bo_to (v := (nI (k * 3 % 2 ^ z))) (pk_rem (by omega) h2q (by omega)) ?_
            refine p_iVk (fr := 8) (lo := 133) (mc1 := 3) (ms1 := 18) (n := 3) (As := [.int (nI z), .int (nI (k * 7 % 2 ^ z)), .int (nI (k * 3 % 2 ^ z))]) (rest := [.long ((((it_n (al5 mm z) k h4) * 1000003) + (Int32.toInt64 ((cl k_n2 (sp_ptr mm (nI z) (nI (k * 7 % 2 ^ z)) (nI (k * 3 % 2 ^ z))) mm).1))) * 509)]) hF (pv_tileStamp l hflag G xa mm (nI z) (nI (k * 7 % 2 ^ z)) (nI (k * 3 % 2 ^ z))  (r0 := (mm 13 (tb_i z (k * 7 % 2 ^ z) (k * 3 % 2 ^ z)) - 1)) (m0 := mm) (v_tst hL hz (Nat.mod_lt _ h2q) (Nat.mod_lt _ h2q)) (hL.2.1)) p_Em.id ke_X4_tileStamp wd_l_L_71 (by decide) hI hX hS rfl hl.1 rfl (Nat.le_of_ble_eq_true rfl) dL_all_262 (by first | decide | omega | (dsimp only; omega)) (fun H locs hI hS => ?_)
            replace hI : p_I G xa Z mm H := hI
            refine lv_i2l (v := Int32.toInt64 (mm 13 (tb_i z (k * 7 % 2 ^ z) (k * 3 % 2 ^ z)) - 1)) hx hb dL_all_265 rfl ?_
            refine lv_ladd hx hb dL_all_266 ?_
            refine bo_toV (v := .long (it_n (al5 mm z) (k + 1) h4)) (rfl) ?_
            refine lv_lstore_n (lv' := [(1, .long (it_n (al5 mm z) (k + 1) h4)), (5, .int (nI (2 ^ z))), (0, .ref xa), (3, .int (nI z)), (4, .int (nI k))]) hx hb dL_all_267 rfl hl (by decide) rfl (fun ls hl => ?_)
            refine lv_iinc (v := (nI (k + 1))) (lv' := [(4, .int (nI (k + 1))), (1, .long (it_n (al5 mm z) (k + 1) h4)), (5, .int (nI (2 ^ z))), (0, .ref xa), (3, .int (nI z))]) hx hb dL_all_268 hl (k := 4) rfl (nI_add k 1) (by decide) rfl (fun ls hl => ?_)
            refine lv_goto (tgt := 201) hx hb dL_all_271 (by decide) ?_
            refine W.widen (k := 332 + 25 * z + 1 + 6 * (k + 1)) (n := 1992 + 150 * z + 6 + 36 * (k + 1)) (by first | decide | omega | (dsimp only; omega)) (by first | decide | omega | (dsimp only; omega)) ?_
            exact ih201 (k + 1) _ _ _ (by omega) ⟨by omega, hI, hS, lv_sub hl [3, 1, 4, 0] rfl⟩
      · skip
        have hq := k_in hk_q (by decide) c3
        refine lv_lload_n hx hb dL_all_148 rfl (lv_at hl 1 rfl) ?_
        refine lv_ldc2 (v := 1709) hx hb hF.2.2.2.1 (hF.2.2.2.2 _ wd_x12) dL_all_149 ?_
        refine lv_lmul hx hb dL_all_152 ?_
        refine lv_aload_n hx hb dL_all_153 rfl (lv_at hl 0 rfl) ?_
        refine lv_iload_n hx hb dL_all_154 rfl (lv_at hl 2 rfl) ?_
        refine p_iVk (fr := 7) (lo := 110) (mc1 := 1) (ms1 := 6) (n := 1) (As := [.int (nI q)]) (rest := [.long ((it_n (al3 mm) q h2) * 1709)]) hF (pv_carAt l hflag G xa mm (nI q)  (r0 := (100 * mm 15 q + mm 16 q)) (m0 := mm) (v_cat hL hq) (hL.2.1)) p_Em.id ke_X4_carAt wd_l_L_99 (by decide) hI hX hS rfl hl.1 rfl (Nat.le_of_ble_eq_true rfl) dL_all_155 (by first | decide | omega | (dsimp only; omega)) (fun H locs hI hS => ?_)
        replace hI : p_I G xa Z mm H := hI
        refine lv_i2l (v := Int32.toInt64 (100 * mm 15 q + mm 16 q)) hx hb dL_all_158 rfl ?_
        refine lv_ladd hx hb dL_all_159 ?_
        refine lv_ldc2 (v := 43) hx hb hF.2.2.2.1 (hF.2.2.2.2 _ wd_x13) dL_all_160 ?_
        refine lv_lmul hx hb dL_all_163 ?_
        refine lv_aload_n hx hb dL_all_164 rfl (lv_at hl 0 rfl) ?_
        refine lv_iload_n hx hb dL_all_165 rfl (lv_at hl 2 rfl) ?_
        refine p_iVk (fr := 7) (lo := 118) (mc1 := 1) (ms1 := 6) (n := 1) (As := [.int (nI q)]) (rest := [.long ((((it_n (al3 mm) q h2) * 1709) + (Int32.toInt64 (100 * mm 15 q + mm 16 q))) * 43)]) hF (pv_target l hflag G xa mm (nI q) hL.1 (r0 := (sp_tg mm q)) (m0 := mm) (v_tar hL hq) (hL.2.1)) p_Em.id ke_X4_target wd_l_L_93 (by decide) hI hX hS rfl hl.1 rfl (Nat.le_of_ble_eq_true rfl) dL_all_166 (by first | decide | omega | (dsimp only; omega)) (fun H locs hI hS => ?_)
        replace hI : p_I G xa Z mm H := hI
        refine lv_i2l (v := Int32.toInt64 (sp_tg mm q)) hx hb dL_all_169 rfl ?_
        refine lv_ladd hx hb dL_all_170 ?_
        refine bo_toV (v := .long (it_n (al3 mm) (q + 1) h2)) (rfl) ?_
        refine lv_lstore_n (lv' := [(1, .long (it_n (al3 mm) (q + 1) h2)), (0, .ref xa), (3, .int (nI q))]) hx hb dL_all_171 rfl hl (by decide) rfl (fun ls hl => ?_)
        refine lv_iinc (v := (nI (q + 1))) (lv' := [(3, .int (nI (q + 1))), (1, .long (it_n (al3 mm) (q + 1) h2)), (0, .ref xa)]) hx hb dL_all_172 hl (k := 2) rfl (nI_add q 1) (by decide) rfl (fun ls hl => ?_)
        refine lv_goto (tgt := 143) hx hb dL_all_175 (by decide) ?_
        refine W.widen (k := 326 + 2 * (q + 1)) (n := 1956 + 12 * (q + 1)) (by first | decide | omega | (dsimp only; omega)) (by first | decide | omega | (dsimp only; omega)) ?_
        exact ih143 (q + 1) _ _ _ (by omega) ⟨by omega, hI, hS, lv_sub hl [2, 1, 0] rfl⟩
    · skip
      have hw := k_in hk_w (by omega) c2
      refine lv_aload_n hx hb dL_all_53 rfl (lv_at hl 0 rfl) ?_
      refine lv_iload_n hx hb dL_all_54 rfl (lv_at hl 2 rfl) ?_
      refine p_iVk (fr := 7) (lo := 111) (mc1 := 1) (ms1 := 6) (n := 1) (As := [.int (nI w)]) (rest := []) hF (pv_versions l hflag G xa mm (nI w) hL.1 (r0 := (mm 7 w)) (m0 := mm) (v_of hL hw) (hL.2.1)) p_Em.id ke_X4_versions wd_l_L_49 (by decide) hI hX hS rfl hl.1 rfl (Nat.le_of_ble_eq_true rfl) dL_all_55 (by first | decide | omega | (dsimp only; omega)) (fun H locs hI hS => ?_)
      replace hI : p_I G xa Z mm H := hI
      refine lv_istore (lv' := [(4, .int (mm 7 w)), (0, .ref xa), (1, .long (it_n (al2 mm) w h1)), (3, .int (nI w))]) hx hb dL_all_58 hl (by decide) rfl (fun ls hl => ?_)
      refine lv_lload_n hx hb dL_all_60 rfl (lv_at hl 2 rfl) ?_
      refine lv_ldc2 (v := 1009) hx hb hF.2.2.2.1 (hF.2.2.2.2 _ wd_x7) dL_all_61 ?_
      refine lv_lmul hx hb dL_all_64 ?_
      refine lv_aload_n hx hb dL_all_65 rfl (lv_at hl 1 rfl) ?_
      refine lv_iload_n hx hb dL_all_66 rfl (lv_at hl 3 rfl) ?_
      refine lv_iload hx hb dL_all_67 (lv_at hl 0 rfl) ?_
      refine lv_iconst (v := 1) hx hb dL_all_69 (by decide) ?_
      refine lv_isub hx hb dL_all_70 ?_
      refine p_iVk (fr := 7) (lo := 112) (mc1 := 2) (ms1 := 12) (n := 2) (As := [.int (nI w), .int ((mm 7 w) - 1)]) (rest := [.long ((it_n (al2 mm) w h1) * 1009)]) hF (pv_version l hflag G xa mm (nI w) ((mm 7 w) - 1) hL.1 (r0 := (vc mm w)) (m0 := mm) (v_ver hL hw) (hL.2.1)) p_Em.id ke_X4_version wd_l_L_52 (by decide) hI hX hS rfl hl.1 rfl (Nat.le_of_ble_eq_true rfl) dL_all_71 (by first | decide | omega | (dsimp only; omega)) (fun H locs hI hS => ?_)
      replace hI : p_I G xa Z mm H := hI
      refine lv_i2l (v := Int32.toInt64 (vc mm w)) hx hb dL_all_74 rfl ?_
      refine lv_ladd hx hb dL_all_75 ?_
      refine lv_ldc2 (v := 1009) hx hb hF.2.2.2.1 (hF.2.2.2.2 _ wd_x7) dL_all_76 ?_
      refine lv_lmul hx hb dL_all_79 ?_
      refine lv_aload_n hx hb dL_all_80 rfl (lv_at hl 1 rfl) ?_
      refine lv_iload_n hx hb dL_all_81 rfl (lv_at hl 3 rfl) ?_
      refine p_iVk (fr := 7) (lo := 111) (mc1 := 1) (ms1 := 6) (n := 1) (As := [.int (nI w)]) (rest := [.long ((((it_n (al2 mm) w h1) * 1009) + (Int32.toInt64 (vc mm w))) * 1009)]) hF (pv_waiting l hflag G xa mm (nI w) hL.1 (r0 := (mm 9 w)) (m0 := mm) (v_of hL hw) (hL.2.1)) p_Em.id ke_X4_waiting wd_l_L_58 (by decide) hI hX hS rfl hl.1 rfl (Nat.le_of_ble_eq_true rfl) dL_all_82 (by first | decide | omega | (dsimp only; omega)) (fun H locs hI hS => ?_)
      replace hI : p_I G xa Z mm H := hI
      refine lv_i2l (v := Int32.toInt64 (mm 9 w)) hx hb dL_all_85 rfl ?_
      refine lv_ladd hx hb dL_all_86 ?_
      refine lv_ldc2 (v := 521) hx hb hF.2.2.2.1 (hF.2.2.2.2 _ wd_x8) dL_all_87 ?_
      refine lv_lmul hx hb dL_all_90 ?_
      refine lv_aload_n hx hb dL_all_91 rfl (lv_at hl 1 rfl) ?_
      refine lv_iload_n hx hb dL_all_92 rfl (lv_at hl 3 rfl) ?_
      refine lv_iload hx hb dL_all_93 (lv_at hl 0 rfl) ?_
      refine lv_iconst (v := 1) hx hb dL_all_95 (by decide) ?_
      refine lv_isub hx hb dL_all_96 ?_
      refine p_iVk (fr := 7) (lo := 112) (mc1 := 2) (ms1 := 12) (n := 2) (As := [.int (nI w), .int ((mm 7 w) - 1)]) (rest := [.long ((((((it_n (al2 mm) w h1) * 1009) + (Int32.toInt64 (vc mm w))) * 1009) + (Int32.toInt64 (mm 9 w))) * 521)]) hF (pv_stampOf l hflag G xa mm (nI w) ((mm 7 w) - 1) hL.1 (r0 := (nI (sp_L mm w) + 1)) (m0 := mm) (v_sta hL hw) (hL.2.1)) p_Em.id ke_X4_stampOf wd_l_L_55 (by decide) hI hX hS rfl hl.1 rfl (Nat.le_of_ble_eq_true rfl) dL_all_97 (by first | decide | omega | (dsimp only; omega)) (fun H locs hI hS => ?_)
      replace hI : p_I G xa Z mm H := hI
      refine lv_i2l (v := Int32.toInt64 (nI (sp_L mm w) + 1)) hx hb dL_all_100 rfl ?_
      refine lv_ladd hx hb dL_all_101 ?_
      refine lv_lstore_n (lv' := [(1, .long (((((((it_n (al2 mm) w h1) * 1009) + (Int32.toInt64 (vc mm w))) * 1009) + (Int32.toInt64 (mm 9 w))) * 521) + (Int32.toInt64 (nI (sp_L mm w) + 1)))), (4, .int (mm 7 w)), (0, .ref xa), (3, .int (nI w))]) hx hb dL_all_102 rfl hl (by decide) rfl (fun ls hl => ?_)
      refine lv_lload_n hx hb dL_all_103 rfl (lv_at hl 0 rfl) ?_
      refine lv_ldc2 (v := 61) hx hb hF.2.2.2.1 (hF.2.2.2.2 _ wd_x9) dL_all_104 ?_
      refine lv_lmul hx hb dL_all_107 ?_
      refine lv_iload hx hb dL_all_108 (lv_at hl 1 rfl) ?_
      refine lv_i2l (v := Int32.toInt64 (mm 7 w)) hx hb dL_all_110 rfl ?_
      refine lv_ladd hx hb dL_all_111 ?_
      refine lv_ldc2 (v := 11) hx hb hF.2.2.2.1 (hF.2.2.2.2 _ wd_x10) dL_all_112 ?_
      refine lv_lmul hx hb dL_all_115 ?_
      refine lv_aload_n hx hb dL_all_116 rfl (lv_at hl 2 rfl) ?_
      refine lv_iload_n hx hb dL_all_117 rfl (lv_at hl 3 rfl) ?_
      refine p_iVk (fr := 7) (lo := 111) (mc1 := 1) (ms1 := 6) (n := 1) (As := [.int (nI w)]) (rest := [.long ((((((((((it_n (al2 mm) w h1) * 1009) + (Int32.toInt64 (vc mm w))) * 1009) + (Int32.toInt64 (mm 9 w))) * 521) + (Int32.toInt64 (nI (sp_L mm w) + 1))) * 61) + (Int32.toInt64 (mm 7 w))) * 11)]) hF (pv_sightings l hflag G xa mm (nI w) hL.1 (r0 := (sp_dc mm w)) (m0 := mm) (v_sgt hL hw) (hL.2.1)) p_Em.id ke_X4_sightings wd_l_L_87 (by decide) hI hX hS rfl hl.1 rfl (Nat.le_of_ble_eq_true rfl) dL_all_118 (by first | decide | omega | (dsimp only; omega)) (fun H locs hI hS => ?_)
      replace hI : p_I G xa Z mm H := hI
      refine lv_i2l (v := Int32.toInt64 (sp_dc mm w)) hx hb dL_all_121 rfl ?_
      refine lv_ladd hx hb dL_all_122 ?_
      refine lv_ldc2 (v := 409) hx hb hF.2.2.2.1 (hF.2.2.2.2 _ wd_x11) dL_all_123 ?_
      refine lv_lmul hx hb dL_all_126 ?_
      refine lv_aload_n hx hb dL_all_127 rfl (lv_at hl 2 rfl) ?_
      refine lv_iload_n hx hb dL_all_128 rfl (lv_at hl 3 rfl) ?_
      refine p_iVk (fr := 7) (lo := 111) (mc1 := 1) (ms1 := 6) (n := 1) (As := [.int (nI w)]) (rest := [.long ((((((((((((it_n (al2 mm) w h1) * 1009) + (Int32.toInt64 (vc mm w))) * 1009) + (Int32.toInt64 (mm 9 w))) * 521) + (Int32.toInt64 (nI (sp_L mm w) + 1))) * 61) + (Int32.toInt64 (mm 7 w))) * 11) + (Int32.toInt64 (sp_dc mm w))) * 409)]) hF (pv_dear l hflag G xa mm (nI w) hL.1 (r0 := (sp_dv mm w)) (m0 := mm) (v_dear hL hw) (hL.2.1)) p_Em.id ke_X4_dear wd_l_L_90 (by decide) hI hX hS rfl hl.1 rfl (Nat.le_of_ble_eq_true rfl) dL_all_129 (by first | decide | omega | (dsimp only; omega)) (fun H locs hI hS => ?_)
      replace hI : p_I G xa Z mm H := hI
      refine lv_i2l (v := Int32.toInt64 (sp_dv mm w)) hx hb dL_all_132 rfl ?_
      refine lv_ladd hx hb dL_all_133 ?_
      refine bo_toV (v := .long (it_n (al2 mm) (w + 1) h1)) (rfl) ?_
      refine lv_lstore_n (lv' := [(1, .long (it_n (al2 mm) (w + 1) h1)), (4, .int (mm 7 w)), (0, .ref xa), (3, .int (nI w))]) hx hb dL_all_134 rfl hl (by decide) rfl (fun ls hl => ?_)
      refine lv_iinc (v := (nI (w + 1))) (lv' := [(3, .int (nI (w + 1))), (1, .long (it_n (al2 mm) (w + 1) h1)), (4, .int (mm 7 w)), (0, .ref xa)]) hx hb dL_all_135 hl (k := 3) rfl (nI_add w 1) (by decide) rfl (fun ls hl => ?_)
      refine lv_goto (tgt := 45) hx hb dL_all_138 (by decide) ?_
      refine W.widen (k := 6 + 8 * (w + 1)) (n := 36 + 48 * (w + 1)) (by first | decide | omega | (dsimp only; omega)) (by first | decide | omega | (dsimp only; omega)) ?_
      exact ih45 (w + 1) _ _ _ (by omega) ⟨by omega, hI, hS, lv_sub hl [3, 1, 0] rfl⟩
  · skip
    have hk := k_in hk_k (by decide) c1
    refine lv_lload_n hx hb dL_all_24 rfl (lv_at hl 1 rfl) ?_
    refine lv_ldc2 (v := 103) hx hb hF.2.2.2.1 (hF.2.2.2.2 _ wd_x6) dL_all_25 ?_
    refine lv_lmul hx hb dL_all_28 ?_
    refine lv_aload_n hx hb dL_all_29 rfl (lv_at hl 0 rfl) ?_
    refine lv_iload_n hx hb dL_all_30 rfl (lv_at hl 2 rfl) ?_
    refine p_iVk (fr := 7) (lo := 110) (mc1 := 1) (ms1 := 6) (n := 1) (As := [.int (nI k)]) (rest := [.long ((it_n (al1 mm) k h0) * 103)]) hF (pv_trust l hflag G xa mm (nI k)  (r0 := (mm 0 k)) (m0 := mm) (v_tru hL hk) (hL.2.1)) p_Em.id ke_X4_trust wd_l_L_45 (by decide) hI hX hS rfl hl.1 rfl (Nat.le_of_ble_eq_true rfl) dL_all_31 (by first | decide | omega | (dsimp only; omega)) (fun H locs hI hS => ?_)
    replace hI : p_I G xa Z mm H := hI
    refine lv_i2l (v := Int32.toInt64 (mm 0 k)) hx hb dL_all_34 rfl ?_
    refine lv_ladd hx hb dL_all_35 ?_
    refine bo_toV (v := .long (it_n (al1 mm) (k + 1) h0)) (rfl) ?_
    refine lv_lstore_n (lv' := [(1, .long (it_n (al1 mm) (k + 1) h0)), (0, .ref xa), (3, .int (nI k))]) hx hb dL_all_36 rfl hl (by decide) rfl (fun ls hl => ?_)
    refine lv_iinc (v := (nI (k + 1))) (lv' := [(3, .int (nI (k + 1))), (1, .long (it_n (al1 mm) (k + 1) h0)), (0, .ref xa)]) hx hb dL_all_37 hl (k := 2) rfl (nI_add k 1) (by decide) rfl (fun ls hl => ?_)
    refine lv_goto (tgt := 18) hx hb dL_all_40 (by decide) ?_
    refine W.widen (k := 1 * (k + 1)) (n := 6 * (k + 1)) (by first | decide | omega | (dsimp only; omega)) (by first | decide | omega | (dsimp only; omega)) ?_
    exact ih18 (k + 1) _ _ _ (by omega) ⟨by omega, hI, hS, lv_sub hl [2, 1, 0] rfl⟩
theorem ke_L_all : wl_S yL_all cL_all 6 (some .long) 1 := ⟨wd_c_L_all, wd_t_L_all, wd_n_L, by decide, by decide +kernel⟩
