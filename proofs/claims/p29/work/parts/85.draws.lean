/-! ===== draws ===== -/
theorem tt64 : ∀ z, z < 4 → 2 ^ z * 2 ^ z ≤ 64 := by decide +kernel
section
variable {M : q_Mem} {z w : Nat}
theorem sw_y (hq : qs M z w = true) : nI (sw M z w) + 1 = nI (sw M z (w + 1)) := by
  rw [nI_1]
  show _ = nI (fb_ct (qs M z) (w + 1))
  rw [fb_ct_succ, hq]; rfl
theorem sw_n (hq : ¬ qs M z w = true) : nI (sw M z w) + 0 = nI (sw M z (w + 1)) := by
  rw [Int32.add_zero]
  show _ = nI (fb_ct (qs M z) (w + 1))
  have : qs M z w = false := by
    cases q : qs M z w with
    | false => rfl
    | true => exact absurd q hq
  rw [fb_ct_succ, this]; rfl
theorem pc_y (hq : qs M z w = true) : it_n (pcf M z) w 17 * 31 + 16 * nI w + 4 * kd M w + td M w = it_n (pcf M z) (w + 1) 17 := by
  rw [it_n_s]; exact (if_pos hq).symm
theorem pc_n (hq : ¬ qs M z w = true) : it_n (pcf M z) w 17 = it_n (pcf M z) (w + 1) 17 := by
  rw [it_n_s]; exact (if_neg hq).symm
end
theorem dL_draws_0 : decode cL_draws 0 = .ok (.iload_n 2, 1) := by decide +kernel
theorem dL_draws_1 : decode cL_draws 1 = .ok (.iconst 4, 1) := by decide +kernel
theorem dL_draws_2 : decode cL_draws 2 = .ok (.invokestatic 137, 3) := by decide +kernel
theorem dL_draws_5 : decode cL_draws 5 = .ok (.istore_n 3, 1) := by decide +kernel
theorem dL_draws_6 : decode cL_draws 6 = .ok (.iconst 1, 1) := by decide +kernel
theorem dL_draws_7 : decode cL_draws 7 = .ok (.iload_n 3, 1) := by decide +kernel
theorem dL_draws_8 : decode cL_draws 8 = .ok (.ishl, 1) := by decide +kernel
theorem dL_draws_9 : decode cL_draws 9 = .ok (.istore 4, 2) := by decide +kernel
theorem dL_draws_11 : decode cL_draws 11 = .ok (.aload_n 0, 1) := by decide +kernel
theorem dL_draws_12 : decode cL_draws 12 = .ok (.invokevirtual 102, 3) := by decide +kernel
theorem dL_draws_15 : decode cL_draws 15 = .ok (.istore 5, 2) := by decide +kernel
theorem dL_draws_17 : decode cL_draws 17 = .ok (.iconst 0, 1) := by decide +kernel
theorem dL_draws_18 : decode cL_draws 18 = .ok (.istore 6, 2) := by decide +kernel
theorem dL_draws_20 : decode cL_draws 20 = .ok (.iconst 1, 1) := by decide +kernel
theorem dL_draws_21 : decode cL_draws 21 = .ok (.istore 7, 2) := by decide +kernel
theorem dL_draws_23 : decode cL_draws 23 = .ok (.iconst 0, 1) := by decide +kernel
theorem dL_draws_24 : decode cL_draws 24 = .ok (.istore 8, 2) := by decide +kernel
theorem dL_draws_26 : decode cL_draws 26 = .ok (.iload 8, 2) := by decide +kernel
theorem dL_draws_28 : decode cL_draws 28 = .ok (.iload 4, 2) := by decide +kernel
theorem dL_draws_30 : decode cL_draws 30 = .ok (.iload 4, 2) := by decide +kernel
theorem dL_draws_32 : decode cL_draws 32 = .ok (.imul, 1) := by decide +kernel
theorem dL_draws_33 : decode cL_draws 33 = .ok (.if_icmp .ge 164, 3) := by decide +kernel
theorem dL_draws_36 : decode cL_draws 36 = .ok (.iload 7, 2) := by decide +kernel
theorem dL_draws_38 : decode cL_draws 38 = .ok (.ifCond .eq 159, 3) := by decide +kernel
theorem dL_draws_41 : decode cL_draws 41 = .ok (.aload_n 0, 1) := by decide +kernel
theorem dL_draws_42 : decode cL_draws 42 = .ok (.aload_n 1, 1) := by decide +kernel
theorem dL_draws_43 : decode cL_draws 43 = .ok (.bipush 10, 2) := by decide +kernel
theorem dL_draws_45 : decode cL_draws 45 = .ok (.iload_n 3, 1) := by decide +kernel
theorem dL_draws_46 : decode cL_draws 46 = .ok (.iload 8, 2) := by decide +kernel
theorem dL_draws_48 : decode cL_draws 48 = .ok (.iload 4, 2) := by decide +kernel
theorem dL_draws_50 : decode cL_draws 50 = .ok (.irem, 1) := by decide +kernel
theorem dL_draws_51 : decode cL_draws 51 = .ok (.iload 8, 2) := by decide +kernel
theorem dL_draws_53 : decode cL_draws 53 = .ok (.iload 4, 2) := by decide +kernel
theorem dL_draws_55 : decode cL_draws 55 = .ok (.idiv, 1) := by decide +kernel
theorem dL_draws_56 : decode cL_draws 56 = .ok (.invokestatic 147, 3) := by decide +kernel
theorem dL_draws_59 : decode cL_draws 59 = .ok (.istore 9, 2) := by decide +kernel
theorem dL_draws_61 : decode cL_draws 61 = .ok (.iload 6, 2) := by decide +kernel
theorem dL_draws_63 : decode cL_draws 63 = .ok (.iload 9, 2) := by decide +kernel
theorem dL_draws_65 : decode cL_draws 65 = .ok (.iadd, 1) := by decide +kernel
theorem dL_draws_66 : decode cL_draws 66 = .ok (.istore 6, 2) := by decide +kernel
theorem dL_draws_68 : decode cL_draws 68 = .ok (.iload 9, 2) := by decide +kernel
theorem dL_draws_70 : decode cL_draws 70 = .ok (.ifCond .lt 118, 3) := by decide +kernel
theorem dL_draws_73 : decode cL_draws 73 = .ok (.aload_n 0, 1) := by decide +kernel
theorem dL_draws_74 : decode cL_draws 74 = .ok (.iload_n 3, 1) := by decide +kernel
theorem dL_draws_75 : decode cL_draws 75 = .ok (.iload 8, 2) := by decide +kernel
theorem dL_draws_77 : decode cL_draws 77 = .ok (.iload 4, 2) := by decide +kernel
theorem dL_draws_79 : decode cL_draws 79 = .ok (.irem, 1) := by decide +kernel
theorem dL_draws_80 : decode cL_draws 80 = .ok (.iload 8, 2) := by decide +kernel
theorem dL_draws_82 : decode cL_draws 82 = .ok (.iload 4, 2) := by decide +kernel
theorem dL_draws_84 : decode cL_draws 84 = .ok (.idiv, 1) := by decide +kernel
theorem dL_draws_85 : decode cL_draws 85 = .ok (.invokevirtual 71, 3) := by decide +kernel
theorem dL_draws_88 : decode cL_draws 88 = .ok (.iload 5, 2) := by decide +kernel
theorem dL_draws_90 : decode cL_draws 90 = .ok (.if_icmp .ne 98, 3) := by decide +kernel
theorem dL_draws_93 : decode cL_draws 93 = .ok (.aload_n 0, 1) := by decide +kernel
theorem dL_draws_94 : decode cL_draws 94 = .ok (.iload_n 3, 1) := by decide +kernel
theorem dL_draws_95 : decode cL_draws 95 = .ok (.iload 8, 2) := by decide +kernel
theorem dL_draws_97 : decode cL_draws 97 = .ok (.iload 4, 2) := by decide +kernel
theorem dL_draws_99 : decode cL_draws 99 = .ok (.irem, 1) := by decide +kernel
theorem dL_draws_100 : decode cL_draws 100 = .ok (.iload 8, 2) := by decide +kernel
theorem dL_draws_102 : decode cL_draws 102 = .ok (.iload 4, 2) := by decide +kernel
theorem dL_draws_104 : decode cL_draws 104 = .ok (.idiv, 1) := by decide +kernel
theorem dL_draws_105 : decode cL_draws 105 = .ok (.invokevirtual 65, 3) := by decide +kernel
theorem dL_draws_108 : decode cL_draws 108 = .ok (.aload_n 0, 1) := by decide +kernel
theorem dL_draws_109 : decode cL_draws 109 = .ok (.iload_n 3, 1) := by decide +kernel
theorem dL_draws_110 : decode cL_draws 110 = .ok (.iload 8, 2) := by decide +kernel
theorem dL_draws_112 : decode cL_draws 112 = .ok (.iload 4, 2) := by decide +kernel
theorem dL_draws_114 : decode cL_draws 114 = .ok (.irem, 1) := by decide +kernel
theorem dL_draws_115 : decode cL_draws 115 = .ok (.iload 8, 2) := by decide +kernel
theorem dL_draws_117 : decode cL_draws 117 = .ok (.iload 4, 2) := by decide +kernel
theorem dL_draws_119 : decode cL_draws 119 = .ok (.idiv, 1) := by decide +kernel
theorem dL_draws_120 : decode cL_draws 120 = .ok (.invokevirtual 68, 3) := by decide +kernel
theorem dL_draws_123 : decode cL_draws 123 = .ok (.if_icmp .ne 65, 3) := by decide +kernel
theorem dL_draws_126 : decode cL_draws 126 = .ok (.aload_n 0, 1) := by decide +kernel
theorem dL_draws_127 : decode cL_draws 127 = .ok (.iload_n 3, 1) := by decide +kernel
theorem dL_draws_128 : decode cL_draws 128 = .ok (.iload 8, 2) := by decide +kernel
theorem dL_draws_130 : decode cL_draws 130 = .ok (.iload 4, 2) := by decide +kernel
theorem dL_draws_132 : decode cL_draws 132 = .ok (.irem, 1) := by decide +kernel
theorem dL_draws_133 : decode cL_draws 133 = .ok (.iload 8, 2) := by decide +kernel
theorem dL_draws_135 : decode cL_draws 135 = .ok (.iload 4, 2) := by decide +kernel
theorem dL_draws_137 : decode cL_draws 137 = .ok (.idiv, 1) := by decide +kernel
theorem dL_draws_138 : decode cL_draws 138 = .ok (.invokevirtual 65, 3) := by decide +kernel
theorem dL_draws_141 : decode cL_draws 141 = .ok (.aload_n 1, 1) := by decide +kernel
theorem dL_draws_142 : decode cL_draws 142 = .ok (.iload_n 3, 1) := by decide +kernel
theorem dL_draws_143 : decode cL_draws 143 = .ok (.iload 8, 2) := by decide +kernel
theorem dL_draws_145 : decode cL_draws 145 = .ok (.iload 4, 2) := by decide +kernel
theorem dL_draws_147 : decode cL_draws 147 = .ok (.irem, 1) := by decide +kernel
theorem dL_draws_148 : decode cL_draws 148 = .ok (.iload 8, 2) := by decide +kernel
theorem dL_draws_150 : decode cL_draws 150 = .ok (.iload 4, 2) := by decide +kernel
theorem dL_draws_152 : decode cL_draws 152 = .ok (.idiv, 1) := by decide +kernel
theorem dL_draws_153 : decode cL_draws 153 = .ok (.invokevirtual 65, 3) := by decide +kernel
theorem dL_draws_156 : decode cL_draws 156 = .ok (.if_icmp .ne 32, 3) := by decide +kernel
theorem dL_draws_159 : decode cL_draws 159 = .ok (.iload 9, 2) := by decide +kernel
theorem dL_draws_161 : decode cL_draws 161 = .ok (.ifCond .gt 23, 3) := by decide +kernel
theorem dL_draws_164 : decode cL_draws 164 = .ok (.aload_n 0, 1) := by decide +kernel
theorem dL_draws_165 : decode cL_draws 165 = .ok (.iload_n 3, 1) := by decide +kernel
theorem dL_draws_166 : decode cL_draws 166 = .ok (.iload 8, 2) := by decide +kernel
theorem dL_draws_168 : decode cL_draws 168 = .ok (.iload 4, 2) := by decide +kernel
theorem dL_draws_170 : decode cL_draws 170 = .ok (.irem, 1) := by decide +kernel
theorem dL_draws_171 : decode cL_draws 171 = .ok (.iload 8, 2) := by decide +kernel
theorem dL_draws_173 : decode cL_draws 173 = .ok (.iload 4, 2) := by decide +kernel
theorem dL_draws_175 : decode cL_draws 175 = .ok (.idiv, 1) := by decide +kernel
theorem dL_draws_176 : decode cL_draws 176 = .ok (.invokevirtual 65, 3) := by decide +kernel
theorem dL_draws_179 : decode cL_draws 179 = .ok (.bipush 17, 2) := by decide +kernel
theorem dL_draws_181 : decode cL_draws 181 = .ok (.if_icmp .ne 7, 3) := by decide +kernel
theorem dL_draws_184 : decode cL_draws 184 = .ok (.iconst 1, 1) := by decide +kernel
theorem dL_draws_185 : decode cL_draws 185 = .ok (.goto 4, 3) := by decide +kernel
theorem dL_draws_189 : decode cL_draws 189 = .ok (.istore 7, 2) := by decide +kernel
theorem dL_draws_191 : decode cL_draws 191 = .ok (.iinc 8 1, 3) := by decide +kernel
theorem dL_draws_194 : decode cL_draws 194 = .ok (.goto (-168), 3) := by decide +kernel
theorem dL_draws_197 : decode cL_draws 197 = .ok (.iconst 0, 1) := by decide +kernel
theorem dL_draws_198 : decode cL_draws 198 = .ok (.istore 8, 2) := by decide +kernel
theorem dL_draws_200 : decode cL_draws 200 = .ok (.bipush 17, 2) := by decide +kernel
theorem dL_draws_202 : decode cL_draws 202 = .ok (.istore 9, 2) := by decide +kernel
theorem dL_draws_204 : decode cL_draws 204 = .ok (.iconst 0, 1) := by decide +kernel
theorem dL_draws_205 : decode cL_draws 205 = .ok (.istore 10, 2) := by decide +kernel
theorem dL_draws_207 : decode cL_draws 207 = .ok (.iload 10, 2) := by decide +kernel
theorem dL_draws_209 : decode cL_draws 209 = .ok (.aload_n 0, 1) := by decide +kernel
theorem dL_draws_210 : decode cL_draws 210 = .ok (.invokevirtual 108, 3) := by decide +kernel
theorem dL_draws_213 : decode cL_draws 213 = .ok (.if_icmp .ge 82, 3) := by decide +kernel
theorem dL_draws_216 : decode cL_draws 216 = .ok (.aload_n 0, 1) := by decide +kernel
theorem dL_draws_217 : decode cL_draws 217 = .ok (.iload 10, 2) := by decide +kernel
theorem dL_draws_219 : decode cL_draws 219 = .ok (.invokestatic 140, 3) := by decide +kernel
theorem dL_draws_222 : decode cL_draws 222 = .ok (.iload_n 3, 1) := by decide +kernel
theorem dL_draws_223 : decode cL_draws 223 = .ok (.iadd, 1) := by decide +kernel
theorem dL_draws_224 : decode cL_draws 224 = .ok (.iconst 2, 1) := by decide +kernel
theorem dL_draws_225 : decode cL_draws 225 = .ok (.if_icmp .le 7, 3) := by decide +kernel
theorem dL_draws_228 : decode cL_draws 228 = .ok (.iconst 1, 1) := by decide +kernel
theorem dL_draws_229 : decode cL_draws 229 = .ok (.goto 4, 3) := by decide +kernel
theorem dL_draws_232 : decode cL_draws 232 = .ok (.iconst 0, 1) := by decide +kernel
theorem dL_draws_233 : decode cL_draws 233 = .ok (.istore 11, 2) := by decide +kernel
theorem dL_draws_235 : decode cL_draws 235 = .ok (.iload 8, 2) := by decide +kernel
theorem dL_draws_237 : decode cL_draws 237 = .ok (.iload 11, 2) := by decide +kernel
theorem dL_draws_239 : decode cL_draws 239 = .ok (.ifCond .eq 7, 3) := by decide +kernel
theorem dL_draws_242 : decode cL_draws 242 = .ok (.iconst 1, 1) := by decide +kernel
theorem dL_draws_243 : decode cL_draws 243 = .ok (.goto 4, 3) := by decide +kernel
theorem dL_draws_246 : decode cL_draws 246 = .ok (.iconst 0, 1) := by decide +kernel
theorem dL_draws_247 : decode cL_draws 247 = .ok (.iadd, 1) := by decide +kernel
theorem dL_draws_248 : decode cL_draws 248 = .ok (.istore 8, 2) := by decide +kernel
theorem dL_draws_250 : decode cL_draws 250 = .ok (.iload 11, 2) := by decide +kernel
theorem dL_draws_252 : decode cL_draws 252 = .ok (.ifCond .eq 33, 3) := by decide +kernel
theorem dL_draws_255 : decode cL_draws 255 = .ok (.iload 9, 2) := by decide +kernel
theorem dL_draws_257 : decode cL_draws 257 = .ok (.bipush 31, 2) := by decide +kernel
theorem dL_draws_259 : decode cL_draws 259 = .ok (.imul, 1) := by decide +kernel
theorem dL_draws_260 : decode cL_draws 260 = .ok (.bipush 16, 2) := by decide +kernel
theorem dL_draws_262 : decode cL_draws 262 = .ok (.iload 10, 2) := by decide +kernel
theorem dL_draws_264 : decode cL_draws 264 = .ok (.imul, 1) := by decide +kernel
theorem dL_draws_265 : decode cL_draws 265 = .ok (.iadd, 1) := by decide +kernel
theorem dL_draws_266 : decode cL_draws 266 = .ok (.iconst 4, 1) := by decide +kernel
theorem dL_draws_267 : decode cL_draws 267 = .ok (.aload_n 0, 1) := by decide +kernel
theorem dL_draws_268 : decode cL_draws 268 = .ok (.iload 10, 2) := by decide +kernel
theorem dL_draws_270 : decode cL_draws 270 = .ok (.invokestatic 140, 3) := by decide +kernel
theorem dL_draws_273 : decode cL_draws 273 = .ok (.imul, 1) := by decide +kernel
theorem dL_draws_274 : decode cL_draws 274 = .ok (.iadd, 1) := by decide +kernel
theorem dL_draws_275 : decode cL_draws 275 = .ok (.aload_n 0, 1) := by decide +kernel
theorem dL_draws_276 : decode cL_draws 276 = .ok (.iload 10, 2) := by decide +kernel
theorem dL_draws_278 : decode cL_draws 278 = .ok (.invokestatic 144, 3) := by decide +kernel
theorem dL_draws_281 : decode cL_draws 281 = .ok (.iadd, 1) := by decide +kernel
theorem dL_draws_282 : decode cL_draws 282 = .ok (.goto 5, 3) := by decide +kernel
theorem dL_draws_285 : decode cL_draws 285 = .ok (.iload 9, 2) := by decide +kernel
theorem dL_draws_287 : decode cL_draws 287 = .ok (.istore 9, 2) := by decide +kernel
theorem dL_draws_289 : decode cL_draws 289 = .ok (.iinc 10 1, 3) := by decide +kernel
theorem dL_draws_292 : decode cL_draws 292 = .ok (.goto (-85), 3) := by decide +kernel
theorem dL_draws_295 : decode cL_draws 295 = .ok (.iload 7, 2) := by decide +kernel
theorem dL_draws_297 : decode cL_draws 297 = .ok (.ifCond .eq 55, 3) := by decide +kernel
theorem dL_draws_300 : decode cL_draws 300 = .ok (.aload_n 0, 1) := by decide +kernel
theorem dL_draws_301 : decode cL_draws 301 = .ok (.iload_n 3, 1) := by decide +kernel
theorem dL_draws_302 : decode cL_draws 302 = .ok (.invokevirtual 78, 3) := by decide +kernel
theorem dL_draws_305 : decode cL_draws 305 = .ok (.ifCond .ne 47, 3) := by decide +kernel
theorem dL_draws_308 : decode cL_draws 308 = .ok (.iload 6, 2) := by decide +kernel
theorem dL_draws_310 : decode cL_draws 310 = .ok (.iload 8, 2) := by decide +kernel
theorem dL_draws_312 : decode cL_draws 312 = .ok (.if_icmp .lt 40, 3) := by decide +kernel
theorem dL_draws_315 : decode cL_draws 315 = .ok (.iload_n 3, 1) := by decide +kernel
theorem dL_draws_316 : decode cL_draws 316 = .ok (.ifCond .gt 22, 3) := by decide +kernel
theorem dL_draws_319 : decode cL_draws 319 = .ok (.iload 6, 2) := by decide +kernel
theorem dL_draws_321 : decode cL_draws 321 = .ok (.iload 8, 2) := by decide +kernel
theorem dL_draws_323 : decode cL_draws 323 = .ok (.if_icmp .ne 29, 3) := by decide +kernel
theorem dL_draws_326 : decode cL_draws 326 = .ok (.aload_n 0, 1) := by decide +kernel
theorem dL_draws_327 : decode cL_draws 327 = .ok (.iconst 0, 1) := by decide +kernel
theorem dL_draws_328 : decode cL_draws 328 = .ok (.iconst 0, 1) := by decide +kernel
theorem dL_draws_329 : decode cL_draws 329 = .ok (.iconst 0, 1) := by decide +kernel
theorem dL_draws_330 : decode cL_draws 330 = .ok (.invokevirtual 65, 3) := by decide +kernel
theorem dL_draws_333 : decode cL_draws 333 = .ok (.iload 9, 2) := by decide +kernel
theorem dL_draws_335 : decode cL_draws 335 = .ok (.if_icmp .ne 17, 3) := by decide +kernel
theorem dL_draws_338 : decode cL_draws 338 = .ok (.iload 8, 2) := by decide +kernel
theorem dL_draws_340 : decode cL_draws 340 = .ok (.ifCond .gt 8, 3) := by decide +kernel
theorem dL_draws_343 : decode cL_draws 343 = .ok (.iload 6, 2) := by decide +kernel
theorem dL_draws_345 : decode cL_draws 345 = .ok (.ifCond .ne 7, 3) := by decide +kernel
theorem dL_draws_348 : decode cL_draws 348 = .ok (.iconst 1, 1) := by decide +kernel
theorem dL_draws_349 : decode cL_draws 349 = .ok (.goto 4, 3) := by decide +kernel
theorem dL_draws_353 : decode cL_draws 353 = .ok (.ireturn, 1) := by decide +kernel
set_option maxHeartbeats 1000000 in
set_option maxRecDepth 100000 in
theorem m_draws_b (l : Launch) (hflag : l.stackTraces = false) (G : k_G) (xa xb : Nat) (mm : q_Mem) (z S9 : Nat) (M : q_Mem) (hLM : LI M) (hKM : sp_K M = sp_K mm) (hz : z < 4) (hst : stl M z = 0) (hp0 : z = 0 → ¬ M 13 (tb_i 0 0 0) = 0 ∧ M 14 (tb_i 0 0 0) = it_n (pcf M z) (sp_W M) 17) (hge : sw M z (sp_W M) ≤ S9) (hn0 : sw M z (sp_W M) = 0 → S9 = 0) (h00 : z = 0 → S9 = sw M z (sp_W M)) (hSl : S9 ≤ 2560) (Z : Nat → Prop) {p : Program} {e : Env} {s : State} {m : MethodId} {args : Array Value} {below : List Frame} {meth : Method} {c : Code} (hx : p.tables.exec = Jvm.exec) (hb : c.code = cL_draws) (hr : meth.sig.returnType = (some .boolean)) (hF : CallFix p m c cL_draws 12 s args wsL_law RL) (hlk : meth.locks = false) (hX : p_E0 G Z s) : p_W l G xa xb M M Z p e { frames := 13, cells := 1920, slots := 11600, locals := 275 } s m args below meth c 12 1536 9344 (p_Q2 G xa xb mm (fun v u => v = 1 ∧ ∃ m2, u = (m2, m2) ∧ RD mm m2) Z below args s 1920 11600) [(0, .ref xa), (1, .ref xb), (3, .int (nI z)), (6, .int (nI S9)), (7, .int 1)] 197 [] := by
  intro H locs ls hI hS hl
  refine lv_iconst (v := 0) hx hb dL_draws_197 (by decide) ?_
  refine bo_to (v := (nI (sw M z 0))) (rfl) ?_
  refine lv_istore (lv' := [(8, .int (nI (sw M z 0))), (0, .ref xa), (1, .ref xb), (3, .int (nI z)), (6, .int (nI S9)), (7, .int 1)]) hx hb dL_draws_198 hl (by decide) rfl (fun ls hl => ?_)
  refine lv_bipush (v := 17) hx hb dL_draws_200 (by decide) ?_
  refine bo_to (v := (it_n (pcf M z) 0 17)) (rfl) ?_
  refine lv_istore (lv' := [(9, .int (it_n (pcf M z) 0 17)), (8, .int (nI (sw M z 0))), (0, .ref xa), (1, .ref xb), (3, .int (nI z)), (6, .int (nI S9)), (7, .int 1)]) hx hb dL_draws_202 hl (by decide) rfl (fun ls hl => ?_)
  refine lv_iconst (v := 0) hx hb dL_draws_204 (by decide) ?_
  refine bo_to (v := (nI 0)) (rfl) ?_
  refine lv_istore (lv' := [(10, .int (nI 0)), (9, .int (it_n (pcf M z) 0 17)), (8, .int (nI (sw M z 0))), (0, .ref xa), (1, .ref xb), (3, .int (nI z)), (6, .int (nI S9)), (7, .int 1)]) hx hb dL_draws_205 hl (by decide) rfl (fun ls hl => ?_)
  have hW40 := hLM.1.W40
  refine p_loop (fun w => sp_W M - w) (fun w => 1536 + 9 * w) (fun w => 9344 + 54 * w) (fun w H locs ls => w ≤ sp_W M ∧ p_J G xa xb Z (M, M) H ∧ va_S Z s.heap H locs ∧ lv_has ls 12 [(0, .ref xa), (1, .ref xb), (3, .int (nI z)), (6, .int (nI S9)), (7, .int 1), (8, .int (nI (sw M z w))), (9, .int (it_n (pcf M z) w 17)), (10, .int (nI w))]) 0 (by first | decide | omega | (dsimp only; omega)) (by first | decide | omega | (dsimp only; omega)) ⟨Nat.zero_le _, hI, hS, lv_sub hl [3, 4, 5, 6, 7, 2, 1, 0] rfl⟩ ?_
  intro w H locs ls hJ ih207
  obtain ⟨hk_w, hI, hS, hl⟩ := hJ
  refine lv_iload hx hb dL_draws_207 (lv_at hl 7 rfl) ?_
  refine lv_aload_n hx hb dL_draws_209 rfl (lv_at hl 0 rfl) ?_
  refine p_iVk (fr := 1) (lo := 20) (mc1 := 0) (ms1 := 0) (n := 0) (As := []) (rest := [.int (nI w)]) hF (pv_ways l G xa M) p_Em.l ke_X4_ways wd_l_L_108 (by decide) hI hX hS rfl hl.1 rfl (Nat.le_of_ble_eq_true rfl) dL_draws_210 (by first | decide | omega | (dsimp only; omega)) (fun H locs hI hS => ?_)
  replace hI : p_J G xa xb Z (M, M) H := hI
  refine bo_to (v := (nI (sp_W M))) (hLM.1.W) ?_
  refine lv_icmp_ge (tgt := 295) hx hb dL_draws_213 (by decide) (fun c213 => ?_) (fun c213 => ?_)
  · skip
    have ek := k_end hk_w (by omega) c213
    subst ek
    refine lv_iload hx hb dL_draws_295 (lv_at hl 4 rfl) ?_
    refine lv_if_eq (tgt := 352) hx hb dL_draws_297 (by decide) (fun c297 => ?_) (fun c297 => ?_)
    · skip
      exact absurd c297 (by decide)
    · skip
      refine lv_aload_n hx hb dL_draws_300 rfl (lv_at hl 0 rfl) ?_
      refine lv_iload_n hx hb dL_draws_301 rfl (lv_at hl 2 rfl) ?_
      refine p_iVk (fr := 7) (lo := 110) (mc1 := 1) (ms1 := 6) (n := 1) (As := [.int (nI z)]) (rest := []) hF (pv_staleTiles l hflag G xa M (nI z) hLM.1 (r0 := (stl M z)) (m0 := M) (v_stl hLM (by omega)) (hLM.2.1)) p_Em.l ke_X4_staleTiles wd_l_L_78 (by decide) hI hX hS rfl hl.1 rfl (Nat.le_of_ble_eq_true rfl) dL_draws_302 (by first | decide | omega | (dsimp only; omega)) (fun H locs hI hS => ?_)
      replace hI : p_J G xa xb Z (M, M) H := hI
      refine lv_if_ne (tgt := 352) hx hb dL_draws_305 (by decide) (fun c305 => ?_) (fun c305 => ?_)
      · skip
        exact absurd hst c305
      · skip
        refine lv_iload hx hb dL_draws_308 (lv_at hl 3 rfl) ?_
        refine lv_iload hx hb dL_draws_310 (lv_at hl 5 rfl) ?_
        refine lv_icmp_lt (tgt := 352) hx hb dL_draws_312 (by decide) (fun c312 => ?_) (fun c312 => ?_)
        · skip
          exact absurd c312 (nI_nlt hge (by omega))
        · skip
          refine lv_iload_n hx hb dL_draws_315 rfl (lv_at hl 2 rfl) ?_
          refine lv_if_gt (tgt := 338) hx hb dL_draws_316 (by decide) (fun c316 => ?_) (fun c316 => ?_)
          · skip
            refine lv_iload hx hb dL_draws_338 (lv_at hl 5 rfl) ?_
            refine lv_if_gt (tgt := 348) hx hb dL_draws_340 (by decide) (fun c340 => ?_) (fun c340 => ?_)
            · skip
              refine lv_iconst (v := 1) hx hb dL_draws_348 (by decide) ?_
              refine lv_goto (tgt := 353) hx hb dL_draws_349 (by decide) ?_
              exact p_zret hx hb hr hlk hI hS (by first | decide | omega | (dsimp only; omega)) (by first | decide | omega | (dsimp only; omega)) (by decide) (⟨rfl, M, rfl, hLM, by rw [hKM]; exact Nat.le_succ _⟩) dL_draws_353
            · skip
              have hs0 : sw M z (sp_W M) = 0 := by
                rcases Nat.eq_zero_or_pos (sw M z (sp_W M)) with q | q
                · exact q
                · exact absurd (nI_lt (a := 0) q (by omega)) c340
              refine lv_iload hx hb dL_draws_343 (lv_at hl 3 rfl) ?_
              refine lv_if_ne (tgt := 352) hx hb dL_draws_345 (by decide) (fun c345 => ?_) (fun c345 => ?_)
              · skip
                exact absurd (by rw [hn0 hs0]; rfl) c345
              · skip
                refine lv_iconst (v := 1) hx hb dL_draws_348 (by decide) ?_
                refine lv_goto (tgt := 353) hx hb dL_draws_349 (by decide) ?_
                exact p_zret hx hb hr hlk hI hS (by first | decide | omega | (dsimp only; omega)) (by first | decide | omega | (dsimp only; omega)) (by decide) (⟨rfl, M, rfl, hLM, by rw [hKM]; exact Nat.le_succ _⟩) dL_draws_353
          · skip
            have hz0 : z = 0 := by
              rcases Nat.eq_zero_or_pos z with q | q
              · exact q
              · exact absurd (nI_lt (a := 0) q (by omega)) c316
            refine lv_iload hx hb dL_draws_319 (lv_at hl 3 rfl) ?_
            refine lv_iload hx hb dL_draws_321 (lv_at hl 5 rfl) ?_
            refine lv_icmp_ne (tgt := 352) hx hb dL_draws_323 (by decide) (fun c323 => ?_) (fun c323 => ?_)
            · skip
              exact absurd (by rw [h00 hz0]) c323
            · skip
              refine lv_aload_n hx hb dL_draws_326 rfl (lv_at hl 0 rfl) ?_
              refine lv_iconst (v := 0) hx hb dL_draws_327 (by decide) ?_
              refine bo_to (v := (nI 0)) (rfl) ?_
              refine lv_iconst (v := 0) hx hb dL_draws_328 (by decide) ?_
              refine bo_to (v := (nI 0)) (rfl) ?_
              refine lv_iconst (v := 0) hx hb dL_draws_329 (by decide) ?_
              refine bo_to (v := (nI 0)) (rfl) ?_
              refine p_iVk (fr := 9) (lo := 157) (mc1 := 3) (ms1 := 18) (n := 3) (As := [.int (nI 0), .int (nI 0), .int (nI 0)]) (rest := []) hF (pv_picture l hflag G xa M (nI 0) (nI 0) (nI 0)  (r0 := (M 14 (tb_i 0 0 0))) (m0 := M) (v_ptr (z := 0) (x := 0) (y := 0) hLM (by decide) (by decide) (by decide) (hp0 hz0).1) (hLM.2.1)) p_Em.l ke_X4_picture wd_l_L_65 (by decide) hI hX hS rfl hl.1 rfl (Nat.le_of_ble_eq_true rfl) dL_draws_330 (by first | decide | omega | (dsimp only; omega)) (fun H locs hI hS => ?_)
              replace hI : p_J G xa xb Z (M, M) H := hI
              refine lv_iload hx hb dL_draws_333 (lv_at hl 6 rfl) ?_
              refine lv_icmp_ne (tgt := 352) hx hb dL_draws_335 (by decide) (fun c335 => ?_) (fun c335 => ?_)
              · skip
                exact absurd (hp0 hz0).2 c335
              · skip
                refine lv_iload hx hb dL_draws_338 (lv_at hl 5 rfl) ?_
                refine lv_if_gt (tgt := 348) hx hb dL_draws_340 (by decide) (fun c340 => ?_) (fun c340 => ?_)
                · skip
                  refine lv_iconst (v := 1) hx hb dL_draws_348 (by decide) ?_
                  refine lv_goto (tgt := 353) hx hb dL_draws_349 (by decide) ?_
                  exact p_zret hx hb hr hlk hI hS (by first | decide | omega | (dsimp only; omega)) (by first | decide | omega | (dsimp only; omega)) (by decide) (⟨rfl, M, rfl, hLM, by rw [hKM]; exact Nat.le_succ _⟩) dL_draws_353
                · skip
                  have hs0 : sw M z (sp_W M) = 0 := by
                    rcases Nat.eq_zero_or_pos (sw M z (sp_W M)) with q | q
                    · exact q
                    · exact absurd (nI_lt (a := 0) q (by omega)) c340
                  refine lv_iload hx hb dL_draws_343 (lv_at hl 3 rfl) ?_
                  refine lv_if_ne (tgt := 352) hx hb dL_draws_345 (by decide) (fun c345 => ?_) (fun c345 => ?_)
                  · skip
                    exact absurd (by rw [hn0 hs0]; rfl) c345
                  · skip
                    refine lv_iconst (v := 1) hx hb dL_draws_348 (by decide) ?_
                    refine lv_goto (tgt := 353) hx hb dL_draws_349 (by decide) ?_
                    exact p_zret hx hb hr hlk hI hS (by first | decide | omega | (dsimp only; omega)) (by first | decide | omega | (dsimp only; omega)) (by decide) (⟨rfl, M, rfl, hLM, by rw [hKM]; exact Nat.le_succ _⟩) dL_draws_353
  · skip
    have hw := k_in hk_w (by omega) c213
    refine lv_aload_n hx hb dL_draws_216 rfl (lv_at hl 0 rfl) ?_
    refine lv_iload hx hb dL_draws_217 (lv_at hl 7 rfl) ?_
    refine p_iSk (mc1 := 3) (ms1 := 18) (fr := 8) (lo := 140) (n := 2) (As := [.ref xa, .int (nI w)]) (rest := []) hF (m_kind l hflag G xa M w hLM hw) p_Em.l ke_L_kind wd_l_L_140 (by decide) hI hX hS rfl hl.1 rfl (Nat.le_of_ble_eq_true rfl) dL_draws_219 (by first | decide | omega | (dsimp only; omega)) (fun H locs hI hS => ?_)
    replace hI : p_J G xa xb Z (M, M) H := hI
    refine lv_iload_n hx hb dL_draws_222 rfl (lv_at hl 2 rfl) ?_
    refine lv_iadd hx hb dL_draws_223 ?_
    refine lv_iconst (v := 2) hx hb dL_draws_224 (by decide) ?_
    refine lv_icmp_le (tgt := 232) hx hb dL_draws_225 (by decide) (fun c225 => ?_) (fun c225 => ?_)
    · skip
      have hq : ¬ qs M z w = true := fun q => absurd (of_decide_eq_true q) (bo_nlt c225)
      refine lv_iconst (v := 0) hx hb dL_draws_232 (by decide) ?_
      refine lv_istore (lv' := [(11, .int 0), (0, .ref xa), (1, .ref xb), (3, .int (nI z)), (6, .int (nI S9)), (7, .int 1), (8, .int (nI (sw M z w))), (9, .int (it_n (pcf M z) w 17)), (10, .int (nI w))]) hx hb dL_draws_233 hl (by decide) rfl (fun ls hl => ?_)
      refine lv_iload hx hb dL_draws_235 (lv_at hl 6 rfl) ?_
      refine lv_iload hx hb dL_draws_237 (lv_at hl 0 rfl) ?_
      refine lv_if_eq (tgt := 246) hx hb dL_draws_239 (by decide) (fun c239 => ?_) (fun c239 => ?_)
      · skip
        refine lv_iconst (v := 0) hx hb dL_draws_246 (by decide) ?_
        refine lv_iadd hx hb dL_draws_247 ?_
        refine bo_to (v := (nI (sw M z (w + 1)))) (sw_n hq) ?_
        refine lv_istore (lv' := [(8, .int (nI (sw M z (w + 1)))), (11, .int 0), (0, .ref xa), (1, .ref xb), (3, .int (nI z)), (6, .int (nI S9)), (7, .int 1), (9, .int (it_n (pcf M z) w 17)), (10, .int (nI w))]) hx hb dL_draws_248 hl (by decide) rfl (fun ls hl => ?_)
        refine lv_iload hx hb dL_draws_250 (lv_at hl 1 rfl) ?_
        refine lv_if_eq (tgt := 285) hx hb dL_draws_252 (by decide) (fun c252 => ?_) (fun c252 => ?_)
        · skip
          refine lv_iload hx hb dL_draws_285 (lv_at hl 7 rfl) ?_
          refine bo_to (v := (it_n (pcf M z) (w + 1) 17)) (pc_n hq) ?_
          refine lv_istore (lv' := [(9, .int (it_n (pcf M z) (w + 1) 17)), (8, .int (nI (sw M z (w + 1)))), (11, .int 0), (0, .ref xa), (1, .ref xb), (3, .int (nI z)), (6, .int (nI S9)), (7, .int 1), (10, .int (nI w))]) hx hb dL_draws_287 hl (by decide) rfl (fun ls hl => ?_)
          refine lv_iinc (v := (nI (w + 1))) (lv' := [(10, .int (nI (w + 1))), (9, .int (it_n (pcf M z) (w + 1) 17)), (8, .int (nI (sw M z (w + 1)))), (11, .int 0), (0, .ref xa), (1, .ref xb), (3, .int (nI z)), (6, .int (nI S9)), (7, .int 1)]) hx hb dL_draws_289 hl (k := 8) rfl (nI_add w 1) (by decide) rfl (fun ls hl => ?_)
          refine lv_goto (tgt := 207) hx hb dL_draws_292 (by decide) ?_
          refine W.widen (k := 1536 + 9 * (w + 1)) (n := 9344 + 54 * (w + 1)) (by first | decide | omega | (dsimp only; omega)) (by first | decide | omega | (dsimp only; omega)) ?_
          exact ih207 (w + 1) _ _ _ (by omega) ⟨by omega, hI, hS, lv_sub hl [4, 5, 6, 7, 8, 2, 1, 0] rfl⟩
        · skip
          exact absurd (by decide) c252
      · skip
        exact absurd (by decide) c239
    · skip
      have hq : qs M z w = true := decide_eq_true (bo_le c225)
      refine lv_iconst (v := 1) hx hb dL_draws_228 (by decide) ?_
      refine lv_goto (tgt := 233) hx hb dL_draws_229 (by decide) ?_
      refine lv_istore (lv' := [(11, .int 1), (0, .ref xa), (1, .ref xb), (3, .int (nI z)), (6, .int (nI S9)), (7, .int 1), (8, .int (nI (sw M z w))), (9, .int (it_n (pcf M z) w 17)), (10, .int (nI w))]) hx hb dL_draws_233 hl (by decide) rfl (fun ls hl => ?_)
      refine lv_iload hx hb dL_draws_235 (lv_at hl 6 rfl) ?_
      refine lv_iload hx hb dL_draws_237 (lv_at hl 0 rfl) ?_
      refine lv_if_eq (tgt := 246) hx hb dL_draws_239 (by decide) (fun c239 => ?_) (fun c239 => ?_)
      · skip
        exact absurd c239 (by decide)
      · skip
        refine lv_iconst (v := 1) hx hb dL_draws_242 (by decide) ?_
        refine lv_goto (tgt := 247) hx hb dL_draws_243 (by decide) ?_
        refine lv_iadd hx hb dL_draws_247 ?_
        refine bo_to (v := (nI (sw M z (w + 1)))) (sw_y hq) ?_
        refine lv_istore (lv' := [(8, .int (nI (sw M z (w + 1)))), (11, .int 1), (0, .ref xa), (1, .ref xb), (3, .int (nI z)), (6, .int (nI S9)), (7, .int 1), (9, .int (it_n (pcf M z) w 17)), (10, .int (nI w))]) hx hb dL_draws_248 hl (by decide) rfl (fun ls hl => ?_)
        refine lv_iload hx hb dL_draws_250 (lv_at hl 1 rfl) ?_
        refine lv_if_eq (tgt := 285) hx hb dL_draws_252 (by decide) (fun c252 => ?_) (fun c252 => ?_)
        · skip
          exact absurd c252 (by decide)
        · skip
          refine lv_iload hx hb dL_draws_255 (lv_at hl 7 rfl) ?_
          refine lv_bipush (v := 31) hx hb dL_draws_257 (by decide) ?_
          refine lv_imul hx hb dL_draws_259 ?_
          refine lv_bipush (v := 16) hx hb dL_draws_260 (by decide) ?_
          refine lv_iload hx hb dL_draws_262 (lv_at hl 8 rfl) ?_
          refine lv_imul hx hb dL_draws_264 ?_
          refine lv_iadd hx hb dL_draws_265 ?_
          refine lv_iconst (v := 4) hx hb dL_draws_266 (by decide) ?_
          refine lv_aload_n hx hb dL_draws_267 rfl (lv_at hl 2 rfl) ?_
          refine lv_iload hx hb dL_draws_268 (lv_at hl 8 rfl) ?_
          refine p_iSk (mc1 := 3) (ms1 := 18) (fr := 8) (lo := 140) (n := 2) (As := [.ref xa, .int (nI w)]) (rest := [.int 4, .int (((it_n (pcf M z) w 17) * 31) + (16 * (nI w)))]) hF (m_kind l hflag G xa M w hLM hw) p_Em.l ke_L_kind wd_l_L_140 (by decide) hI hX hS rfl hl.1 rfl (Nat.le_of_ble_eq_true rfl) dL_draws_270 (by first | decide | omega | (dsimp only; omega)) (fun H locs hI hS => ?_)
          replace hI : p_J G xa xb Z (M, M) H := hI
          refine lv_imul hx hb dL_draws_273 ?_
          refine lv_iadd hx hb dL_draws_274 ?_
          refine lv_aload_n hx hb dL_draws_275 rfl (lv_at hl 2 rfl) ?_
          refine lv_iload hx hb dL_draws_276 (lv_at hl 8 rfl) ?_
          refine p_iSk (mc1 := 3) (ms1 := 18) (fr := 8) (lo := 140) (n := 2) (As := [.ref xa, .int (nI w)]) (rest := [.int ((((it_n (pcf M z) w 17) * 31) + (16 * (nI w))) + (4 * (kd M w)))]) hF (m_turn l hflag G xa M w hLM hw) p_Em.l ke_L_turn wd_l_L_144 (by decide) hI hX hS rfl hl.1 rfl (Nat.le_of_ble_eq_true rfl) dL_draws_278 (by first | decide | omega | (dsimp only; omega)) (fun H locs hI hS => ?_)
          replace hI : p_J G xa xb Z (M, M) H := hI
          refine lv_iadd hx hb dL_draws_281 ?_
          refine bo_to (v := (it_n (pcf M z) (w + 1) 17)) (pc_y hq) ?_
          refine lv_goto (tgt := 287) hx hb dL_draws_282 (by decide) ?_
          refine lv_istore (lv' := [(9, .int (it_n (pcf M z) (w + 1) 17)), (8, .int (nI (sw M z (w + 1)))), (11, .int 1), (0, .ref xa), (1, .ref xb), (3, .int (nI z)), (6, .int (nI S9)), (7, .int 1), (10, .int (nI w))]) hx hb dL_draws_287 hl (by decide) rfl (fun ls hl => ?_)
          refine lv_iinc (v := (nI (w + 1))) (lv' := [(10, .int (nI (w + 1))), (9, .int (it_n (pcf M z) (w + 1) 17)), (8, .int (nI (sw M z (w + 1)))), (11, .int 1), (0, .ref xa), (1, .ref xb), (3, .int (nI z)), (6, .int (nI S9)), (7, .int 1)]) hx hb dL_draws_289 hl (k := 8) rfl (nI_add w 1) (by decide) rfl (fun ls hl => ?_)
          refine lv_goto (tgt := 207) hx hb dL_draws_292 (by decide) ?_
          refine W.widen (k := 1536 + 9 * (w + 1)) (n := 9344 + 54 * (w + 1)) (by first | decide | omega | (dsimp only; omega)) (by first | decide | omega | (dsimp only; omega)) ?_
          exact ih207 (w + 1) _ _ _ (by omega) ⟨by omega, hI, hS, lv_sub hl [4, 5, 6, 7, 8, 2, 1, 0] rfl⟩
set_option maxHeartbeats 1000000 in
set_option maxRecDepth 100000 in
theorem m_draws (l : Launch) (hflag : l.stackTraces = false) (G : k_G) (xa xb : Nat) (mm : q_Mem) (a0 : Int32) (hL : LI mm) : p_Ci l yL_draws (Cond.code yL_draws cL_draws 12 (some .boolean)) 13 275 1920 11600 G (p_J G xa xb) (mm, mm) [.ref xa, .ref xb, .int a0] (fun v u => v = 1 ∧ ∃ m2, u = (m2, m2) ∧ RD mm m2) (fun _ => False) := by
  refine p_of (by decide) (Nat.le_of_ble_eq_true rfl) ?_
  intro Z p e s m args below meth c hx hb hr hF hlk hI hX ls hl
  have hl : lv_has ls 12 [(0, .ref xa), (1, .ref xb), (2, .int a0)] := hl
  have hS : va_S Z s.heap s.heap [] := va_S.rf
  refine lv_iload_n hx hb dL_draws_0 rfl (lv_at hl 2 rfl) ?_
  refine lv_iconst (v := 4) hx hb dL_draws_1 (by decide) ?_
  refine bo_to (v := (nI 4)) (rfl) ?_
  refine rc_S (fr := 0) (lo := 0) (n := 2) (As := [.int a0, .int (nI 4)]) (rest := []) hF (m_some l a0 4 (by decide) (by decide)) ke_L_some wd_l_L_137 (by decide) bl_true (fun _ _ _ => trivial) rfl hl.1 rfl (Nat.le_of_ble_eq_true rfl) dL_draws_2 (by first | decide | omega | (dsimp only; omega)) (fun r hq => ?_)
  obtain ⟨z, hz, rfl⟩ := hq
  refine lv_istore_n (lv' := [(3, .int (nI z)), (0, .ref xa), (1, .ref xb), (2, .int a0)]) hx hb dL_draws_5 rfl hl (by decide) rfl (fun ls hl => ?_)
  have hz5 : z < 5 := by omega
  have h2p := pw_le z hz5
  have h2q : 0 < 2 ^ z := Nat.pow_pos (by decide)
  have h64 : 2 ^ z * 2 ^ z ≤ 64 := tt64 z hz
  have hW40 := hL.1.W40
  refine lv_iconst (v := 1) hx hb dL_draws_6 (by decide) ?_
  refine lv_iload_n hx hb dL_draws_7 rfl (lv_at hl 0 rfl) ?_
  refine lv_ishl hx hb dL_draws_8 ?_
  refine bo_to (v := (nI (2 ^ z))) (shl1 z hz5) ?_
  refine lv_istore (lv' := [(4, .int (nI (2 ^ z))), (3, .int (nI z)), (0, .ref xa), (1, .ref xb), (2, .int a0)]) hx hb dL_draws_9 hl (by decide) rfl (fun ls hl => ?_)
  refine lv_aload_n hx hb dL_draws_11 rfl (lv_at hl 2 rfl) ?_
  refine p_iVk (fr := 0) (lo := 0) (mc1 := 0) (ms1 := 0) (n := 0) (As := []) (rest := []) hF (pv_clock l G xa mm) p_Em.l ke_X4_clock wd_l_L_102 (by decide) hI hX hS rfl hl.1 rfl (Nat.le_of_ble_eq_true rfl) dL_draws_12 (by first | decide | omega | (dsimp only; omega)) (fun H locs hI hS => ?_)
  replace hI : p_J G xa xb Z (mm, mm) H := hI
  refine lv_istore (lv' := [(5, .int (mm 10 0)), (4, .int (nI (2 ^ z))), (3, .int (nI z)), (0, .ref xa), (1, .ref xb), (2, .int a0)]) hx hb dL_draws_15 hl (by decide) rfl (fun ls hl => ?_)
  refine lv_iconst (v := 0) hx hb dL_draws_17 (by decide) ?_
  refine bo_to (v := (nI (sm mm z 0))) (rfl) ?_
  refine lv_istore (lv' := [(6, .int (nI (sm mm z 0))), (5, .int (mm 10 0)), (4, .int (nI (2 ^ z))), (3, .int (nI z)), (0, .ref xa), (1, .ref xb), (2, .int a0)]) hx hb dL_draws_18 hl (by decide) rfl (fun ls hl => ?_)
  refine lv_iconst (v := 1) hx hb dL_draws_20 (by decide) ?_
  refine lv_istore (lv' := [(7, .int 1), (6, .int (nI (sm mm z 0))), (5, .int (mm 10 0)), (4, .int (nI (2 ^ z))), (3, .int (nI z)), (0, .ref xa), (1, .ref xb), (2, .int a0)]) hx hb dL_draws_21 hl (by decide) rfl (fun ls hl => ?_)
  refine lv_iconst (v := 0) hx hb dL_draws_23 (by decide) ?_
  refine bo_to (v := (nI 0)) (rfl) ?_
  refine lv_istore (lv' := [(8, .int (nI 0)), (7, .int 1), (6, .int (nI (sm mm z 0))), (5, .int (mm 10 0)), (4, .int (nI (2 ^ z))), (3, .int (nI z)), (0, .ref xa), (1, .ref xb), (2, .int a0)]) hx hb dL_draws_24 hl (by decide) rfl (fun ls hl => ?_)
  refine p_loop (fun k => 2 ^ z * 2 ^ z - k) (fun k => 24 * k) (fun k => 146 * k) (fun k H locs ls => k ≤ 2 ^ z * 2 ^ z ∧ p_J G xa xb Z ((dm mm z k), (dm mm z k)) H ∧ va_S Z s.heap H locs ∧ lv_has ls 12 [(0, .ref xa), (1, .ref xb), (3, .int (nI z)), (4, .int (nI (2 ^ z))), (5, .int (mm 10 0)), (6, .int (nI (sm mm z k))), (7, .int 1), (8, .int (nI k))]) 0 (by first | decide | omega | (dsimp only; omega)) (by first | decide | omega | (dsimp only; omega)) ⟨Nat.zero_le _, hI, hS, lv_sub hl [6, 7, 5, 4, 3, 2, 1, 0] rfl⟩ ?_
  intro k H locs ls hJ ih26
  obtain ⟨hk_k, hI, hS, hl⟩ := hJ
  refine lv_iload hx hb dL_draws_26 (lv_at hl 7 rfl) ?_
  refine lv_iload hx hb dL_draws_28 (lv_at hl 3 rfl) ?_
  refine lv_iload hx hb dL_draws_30 (lv_at hl 3 rfl) ?_
  refine lv_imul hx hb dL_draws_32 ?_
  refine bo_to (v := (nI (2 ^ z * 2 ^ z))) (pk_mul _ _) ?_
  refine lv_icmp_ge (tgt := 197) hx hb dL_draws_33 (by decide) (fun c33 => ?_) (fun c33 => ?_)
  · skip
    have ek := k_end hk_k (by omega) c33
    subst ek
    refine W.widen (k := 1536) (n := 9344) (by first | decide | omega | (dsimp only; omega)) (by first | decide | omega | (dsimp only; omega)) ?_
    obtain ⟨M, hMd⟩ : ∃ x, x = (dm mm z (2 ^ z * 2 ^ z)) := ⟨_, rfl⟩
    rw [← hMd] at hI
    obtain ⟨S9, eS9⟩ : ∃ x, x = (sm mm z (2 ^ z * 2 ^ z)) := ⟨_, rfl⟩
    rw [← eS9] at hl
    have hLM : LI M := by rw [hMd]; exact (dm_f hL hz5 _ (Nat.le_refl _)).2.1
    have hdx : dx M mm := by rw [hMd]; exact (dm_f hL hz5 _ (Nat.le_refl _)).1
    have hst : stl M z = 0 := by rw [hMd]; exact dz_st hL hz5
    have hp0 : z = 0 → ¬ M 13 (tb_i 0 0 0) = 0 ∧ M 14 (tb_i 0 0 0) = it_n (pcf M z) (sp_W M) 17 := fun q => by
      subst q
      rw [← dz_pc hL hdx, hMd]
      exact ⟨(dr_13 hL (by decide) (k := 0) (by decide)).2.1, (dr_13 hL (by decide) (k := 0) (by decide)).2.2⟩
    have hge : sw M z (sp_W M) ≤ S9 := by rw [eS9]; exact dz_ge hL hdx hz
    have hn0 : sw M z (sp_W M) = 0 → S9 = 0 := fun q => by rw [eS9]; exact dz_n hL hdx hz q
    have h00 : z = 0 → S9 = sw M z (sp_W M) := fun q => by subst q; rw [eS9]; exact dz_0 hL hdx
    have hSl : S9 ≤ 2560 := by
      have := sm_lim hL hz (n := 2 ^ z * 2 ^ z) (Nat.le_refl _)
      rw [eS9]; omega
    refine W.widen (k := 1536) (n := 9344) (by first | decide | omega | (dsimp only; omega)) (by first | decide | omega | (dsimp only; omega)) ?_
    exact m_draws_b l hflag G xa xb mm z S9 M hLM hdx.K hz hst hp0 hge hn0 h00 hSl Z hx hb hr hF hlk hX _ _ _ hI hS (lv_sub hl [0, 1, 2, 5, 6] rfl)
  · skip
    have hk := k_in hk_k (by omega) c33
    have hLk0 := (dm_f hL hz5 k (by omega)).2.1
    have hLk := (dm_f hL hz5 (k + 1) (by omega)).2.1
    have hcn : cn mm z k ≤ 40 := Nat.le_trans (fb_ct_le _ _) hW40
    refine lv_iload hx hb dL_draws_36 (lv_at hl 6 rfl) ?_
    refine lv_if_eq (tgt := 197) hx hb dL_draws_38 (by decide) (fun c38 => ?_) (fun c38 => ?_)
    · skip
      exact absurd c38 (by decide)
    · skip
      refine lv_aload_n hx hb dL_draws_41 rfl (lv_at hl 0 rfl) ?_
      refine lv_aload_n hx hb dL_draws_42 rfl (lv_at hl 1 rfl) ?_
      refine lv_bipush (v := 10) hx hb dL_draws_43 (by decide) ?_
      refine lv_iload_n hx hb dL_draws_45 rfl (lv_at hl 2 rfl) ?_
      refine lv_iload hx hb dL_draws_46 (lv_at hl 7 rfl) ?_
      refine lv_iload hx hb dL_draws_48 (lv_at hl 3 rfl) ?_
      refine lv_irem hx hb dL_draws_50 (nI_ne0 h2q (by omega)) ?_
      refine bo_to (v := (nI (k % 2 ^ z))) (pk_rem (by omega) h2q (by omega)) ?_
      refine lv_iload hx hb dL_draws_51 (lv_at hl 7 rfl) ?_
      refine lv_iload hx hb dL_draws_53 (lv_at hl 3 rfl) ?_
      refine lv_idiv hx hb dL_draws_55 (nI_ne0 h2q (by omega)) ?_
      refine bo_to (v := (nI (k / 2 ^ z))) (pk_div (by omega) h2q (by omega)) ?_
      refine p_iSk (mc1 := 6) (ms1 := 38) (fr := 12) (lo := 239) (n := 6) (As := [.ref xa, .ref xb, .int 10, .int (nI z), .int (nI (k % 2 ^ z)), .int (nI (k / 2 ^ z))]) (rest := []) hF (m_both (mc := 3) (ms := 19) (p_cv (nm := k_n3) (sp := sp_draw (dm mm z k) (nI z) (nI (k % 2 ^ z)) (nI (k / 2 ^ z))) (cl_ok (dr_call hL hz5 hk) (hLk.2.1)) (m_call (fun Z ad h => by rw [← h]; exact m_does_10 l hflag G Z ad (dm mm z k) (nI z) (nI (k % 2 ^ z)) (nI (k / 2 ^ z)) hLk0.1) (Or.inl rfl))) (p_cv (nm := k_n3) (sp := sp_draw (dm mm z k) (nI z) (nI (k % 2 ^ z)) (nI (k / 2 ^ z))) (cl_ok (dr_call hL hz5 hk) (hLk.2.1)) (m_call (fun Z ad h => by rw [← h]; exact m_does_10 l hflag G Z ad (dm mm z k) (nI z) (nI (k % 2 ^ z)) (nI (k / 2 ^ z)) hLk0.1) (Or.inl rfl)))) p_Em.id ke_L_both wd_l_L_147 (by decide) hI hX hS rfl hl.1 rfl (Nat.le_of_ble_eq_true rfl) dL_draws_56 (by first | decide | omega | (dsimp only; omega)) (fun H locs hI hS => ?_)
      replace hI : p_J G xa xb Z ((dm mm z (k + 1)), (dm mm z (k + 1))) H := hI
      refine lv_istore (lv' := [(9, .int (nI (cn mm z k))), (0, .ref xa), (1, .ref xb), (3, .int (nI z)), (4, .int (nI (2 ^ z))), (5, .int (mm 10 0)), (6, .int (nI (sm mm z k))), (7, .int 1), (8, .int (nI k))]) hx hb dL_draws_59 hl (by decide) rfl (fun ls hl => ?_)
      refine lv_iload hx hb dL_draws_61 (lv_at hl 6 rfl) ?_
      refine lv_iload hx hb dL_draws_63 (lv_at hl 0 rfl) ?_
      refine lv_iadd hx hb dL_draws_65 ?_
      refine bo_to (v := (nI (sm mm z (k + 1)))) (nI_add _ _) ?_
      refine lv_istore (lv' := [(6, .int (nI (sm mm z (k + 1)))), (9, .int (nI (cn mm z k))), (0, .ref xa), (1, .ref xb), (3, .int (nI z)), (4, .int (nI (2 ^ z))), (5, .int (mm 10 0)), (7, .int 1), (8, .int (nI k))]) hx hb dL_draws_66 hl (by decide) rfl (fun ls hl => ?_)
      refine lv_iload hx hb dL_draws_68 (lv_at hl 1 rfl) ?_
      refine lv_if_lt (tgt := 188) hx hb dL_draws_70 (by decide) (fun c70 => ?_) (fun c70 => ?_)
      · skip
        exact absurd c70 (nI_pos (by omega))
      · skip
        refine lv_aload_n hx hb dL_draws_73 rfl (lv_at hl 2 rfl) ?_
        refine lv_iload_n hx hb dL_draws_74 rfl (lv_at hl 4 rfl) ?_
        refine lv_iload hx hb dL_draws_75 (lv_at hl 8 rfl) ?_
        refine lv_iload hx hb dL_draws_77 (lv_at hl 5 rfl) ?_
        refine lv_irem hx hb dL_draws_79 (nI_ne0 h2q (by omega)) ?_
        refine bo_to (v := (nI (k % 2 ^ z))) (pk_rem (by omega) h2q (by omega)) ?_
        refine lv_iload hx hb dL_draws_80 (lv_at hl 8 rfl) ?_
        refine lv_iload hx hb dL_draws_82 (lv_at hl 5 rfl) ?_
        refine lv_idiv hx hb dL_draws_84 (nI_ne0 h2q (by omega)) ?_
        refine bo_to (v := (nI (k / 2 ^ z))) (pk_div (by omega) h2q (by omega)) ?_
        refine p_iVk (fr := 8) (lo := 133) (mc1 := 3) (ms1 := 18) (n := 3) (As := [.int (nI z), .int (nI (k % 2 ^ z)), .int (nI (k / 2 ^ z))]) (rest := []) hF (pv_tileStamp l hflag G xa (dm mm z (k + 1)) (nI z) (nI (k % 2 ^ z)) (nI (k / 2 ^ z))  (r0 := (mm 10 0)) (m0 := (dm mm z (k + 1))) (dr_tst hL hz5 hk) (hLk.2.1)) p_Em.l ke_X4_tileStamp wd_l_L_71 (by decide) hI hX hS rfl hl.1 rfl (Nat.le_of_ble_eq_true rfl) dL_draws_85 (by first | decide | omega | (dsimp only; omega)) (fun H locs hI hS => ?_)
        replace hI : p_J G xa xb Z ((dm mm z (k + 1)), (dm mm z (k + 1))) H := hI
        refine lv_iload hx hb dL_draws_88 (lv_at hl 6 rfl) ?_
        refine lv_icmp_ne (tgt := 188) hx hb dL_draws_90 (by decide) (fun c90 => ?_) (fun c90 => ?_)
        · skip
          exact absurd rfl c90
        · skip
          refine lv_aload_n hx hb dL_draws_93 rfl (lv_at hl 2 rfl) ?_
          refine lv_iload_n hx hb dL_draws_94 rfl (lv_at hl 4 rfl) ?_
          refine lv_iload hx hb dL_draws_95 (lv_at hl 8 rfl) ?_
          refine lv_iload hx hb dL_draws_97 (lv_at hl 5 rfl) ?_
          refine lv_irem hx hb dL_draws_99 (nI_ne0 h2q (by omega)) ?_
          refine bo_to (v := (nI (k % 2 ^ z))) (pk_rem (by omega) h2q (by omega)) ?_
          refine lv_iload hx hb dL_draws_100 (lv_at hl 8 rfl) ?_
          refine lv_iload hx hb dL_draws_102 (lv_at hl 5 rfl) ?_
          refine lv_idiv hx hb dL_draws_104 (nI_ne0 h2q (by omega)) ?_
          refine bo_to (v := (nI (k / 2 ^ z))) (pk_div (by omega) h2q (by omega)) ?_
          refine p_iVk (fr := 9) (lo := 157) (mc1 := 3) (ms1 := 18) (n := 3) (As := [.int (nI z), .int (nI (k % 2 ^ z)), .int (nI (k / 2 ^ z))]) (rest := []) hF (pv_picture l hflag G xa (dm mm z (k + 1)) (nI z) (nI (k % 2 ^ z)) (nI (k / 2 ^ z))  (r0 := (dp mm z k)) (m0 := (dm mm z (k + 1))) (dr_ptr hL hz5 hk) (hLk.2.1)) p_Em.l ke_X4_picture wd_l_L_65 (by decide) hI hX hS rfl hl.1 rfl (Nat.le_of_ble_eq_true rfl) dL_draws_105 (by first | decide | omega | (dsimp only; omega)) (fun H locs hI hS => ?_)
          replace hI : p_J G xa xb Z ((dm mm z (k + 1)), (dm mm z (k + 1))) H := hI
          refine lv_aload_n hx hb dL_draws_108 rfl (lv_at hl 2 rfl) ?_
          refine lv_iload_n hx hb dL_draws_109 rfl (lv_at hl 4 rfl) ?_
          refine lv_iload hx hb dL_draws_110 (lv_at hl 8 rfl) ?_
          refine lv_iload hx hb dL_draws_112 (lv_at hl 5 rfl) ?_
          refine lv_irem hx hb dL_draws_114 (nI_ne0 h2q (by omega)) ?_
          refine bo_to (v := (nI (k % 2 ^ z))) (pk_rem (by omega) h2q (by omega)) ?_
          refine lv_iload hx hb dL_draws_115 (lv_at hl 8 rfl) ?_
          refine lv_iload hx hb dL_draws_117 (lv_at hl 5 rfl) ?_
          refine lv_idiv hx hb dL_draws_119 (nI_ne0 h2q (by omega)) ?_
          refine bo_to (v := (nI (k / 2 ^ z))) (pk_div (by omega) h2q (by omega)) ?_
          refine p_iVk (fr := 9) (lo := 157) (mc1 := 3) (ms1 := 18) (n := 3) (As := [.int (nI z), .int (nI (k % 2 ^ z)), .int (nI (k / 2 ^ z))]) (rest := [.int (dp mm z k)]) hF (pv_pictureAnew l hflag G xa (dm mm z (k + 1)) (nI z) (nI (k % 2 ^ z)) (nI (k / 2 ^ z)) hLk.1 (r0 := (dp mm z k)) (m0 := (dm mm z (k + 1))) (dr_anew hL hz5 hk) (hLk.2.1)) p_Em.l ke_X4_pictureAnew wd_l_L_68 (by decide) hI hX hS rfl hl.1 rfl (Nat.le_of_ble_eq_true rfl) dL_draws_120 (by first | decide | omega | (dsimp only; omega)) (fun H locs hI hS => ?_)
          replace hI : p_J G xa xb Z ((dm mm z (k + 1)), (dm mm z (k + 1))) H := hI
          refine lv_icmp_ne (tgt := 188) hx hb dL_draws_123 (by decide) (fun c123 => ?_) (fun c123 => ?_)
          · skip
            exact absurd rfl c123
          · skip
            refine lv_aload_n hx hb dL_draws_126 rfl (lv_at hl 2 rfl) ?_
            refine lv_iload_n hx hb dL_draws_127 rfl (lv_at hl 4 rfl) ?_
            refine lv_iload hx hb dL_draws_128 (lv_at hl 8 rfl) ?_
            refine lv_iload hx hb dL_draws_130 (lv_at hl 5 rfl) ?_
            refine lv_irem hx hb dL_draws_132 (nI_ne0 h2q (by omega)) ?_
            refine bo_to (v := (nI (k % 2 ^ z))) (pk_rem (by omega) h2q (by omega)) ?_
            refine lv_iload hx hb dL_draws_133 (lv_at hl 8 rfl) ?_
            refine lv_iload hx hb dL_draws_135 (lv_at hl 5 rfl) ?_
            refine lv_idiv hx hb dL_draws_137 (nI_ne0 h2q (by omega)) ?_
            refine bo_to (v := (nI (k / 2 ^ z))) (pk_div (by omega) h2q (by omega)) ?_
            refine p_iVk (fr := 9) (lo := 157) (mc1 := 3) (ms1 := 18) (n := 3) (As := [.int (nI z), .int (nI (k % 2 ^ z)), .int (nI (k / 2 ^ z))]) (rest := []) hF (pv_picture l hflag G xa (dm mm z (k + 1)) (nI z) (nI (k % 2 ^ z)) (nI (k / 2 ^ z))  (r0 := (dp mm z k)) (m0 := (dm mm z (k + 1))) (dr_ptr hL hz5 hk) (hLk.2.1)) p_Em.l ke_X4_picture wd_l_L_65 (by decide) hI hX hS rfl hl.1 rfl (Nat.le_of_ble_eq_true rfl) dL_draws_138 (by first | decide | omega | (dsimp only; omega)) (fun H locs hI hS => ?_)
            replace hI : p_J G xa xb Z ((dm mm z (k + 1)), (dm mm z (k + 1))) H := hI
            refine lv_aload_n hx hb dL_draws_141 rfl (lv_at hl 3 rfl) ?_
            refine lv_iload_n hx hb dL_draws_142 rfl (lv_at hl 4 rfl) ?_
            refine lv_iload hx hb dL_draws_143 (lv_at hl 8 rfl) ?_
            refine lv_iload hx hb dL_draws_145 (lv_at hl 5 rfl) ?_
            refine lv_irem hx hb dL_draws_147 (nI_ne0 h2q (by omega)) ?_
            refine bo_to (v := (nI (k % 2 ^ z))) (pk_rem (by omega) h2q (by omega)) ?_
            refine lv_iload hx hb dL_draws_148 (lv_at hl 8 rfl) ?_
            refine lv_iload hx hb dL_draws_150 (lv_at hl 5 rfl) ?_
            refine lv_idiv hx hb dL_draws_152 (nI_ne0 h2q (by omega)) ?_
            refine bo_to (v := (nI (k / 2 ^ z))) (pk_div (by omega) h2q (by omega)) ?_
            refine p_iVk (fr := 9) (lo := 157) (mc1 := 3) (ms1 := 18) (n := 3) (As := [.int (nI z), .int (nI (k % 2 ^ z)), .int (nI (k / 2 ^ z))]) (rest := [.int (dp mm z k)]) hF (pv_picture l hflag G xb (dm mm z (k + 1)) (nI z) (nI (k % 2 ^ z)) (nI (k / 2 ^ z))  (r0 := (dp mm z k)) (m0 := (dm mm z (k + 1))) (dr_ptr hL hz5 hk) (hLk.2.1)) p_Em.r ke_X4_picture wd_l_L_65 (by decide) hI hX hS rfl hl.1 rfl (Nat.le_of_ble_eq_true rfl) dL_draws_153 (by first | decide | omega | (dsimp only; omega)) (fun H locs hI hS => ?_)
            replace hI : p_J G xa xb Z ((dm mm z (k + 1)), (dm mm z (k + 1))) H := hI
            refine lv_icmp_ne (tgt := 188) hx hb dL_draws_156 (by decide) (fun c156 => ?_) (fun c156 => ?_)
            · skip
              exact absurd rfl c156
            · skip
              refine lv_iload hx hb dL_draws_159 (lv_at hl 1 rfl) ?_
              refine lv_if_gt (tgt := 184) hx hb dL_draws_161 (by decide) (fun c161 => ?_) (fun c161 => ?_)
              · skip
                refine lv_iconst (v := 1) hx hb dL_draws_184 (by decide) ?_
                refine lv_goto (tgt := 189) hx hb dL_draws_185 (by decide) ?_
                refine lv_istore (lv' := [(7, .int 1), (6, .int (nI (sm mm z (k + 1)))), (9, .int (nI (cn mm z k))), (0, .ref xa), (1, .ref xb), (3, .int (nI z)), (4, .int (nI (2 ^ z))), (5, .int (mm 10 0)), (8, .int (nI k))]) hx hb dL_draws_189 hl (by decide) rfl (fun ls hl => ?_)
                refine lv_iinc (v := (nI (k + 1))) (lv' := [(8, .int (nI (k + 1))), (7, .int 1), (6, .int (nI (sm mm z (k + 1)))), (9, .int (nI (cn mm z k))), (0, .ref xa), (1, .ref xb), (3, .int (nI z)), (4, .int (nI (2 ^ z))), (5, .int (mm 10 0))]) hx hb dL_draws_191 hl (k := 8) rfl (nI_add k 1) (by decide) rfl (fun ls hl => ?_)
                refine lv_goto (tgt := 26) hx hb dL_draws_194 (by decide) ?_
                refine W.widen (k := 24 * (k + 1)) (n := 146 * (k + 1)) (by first | decide | omega | (dsimp only; omega)) (by first | decide | omega | (dsimp only; omega)) ?_
                exact ih26 (k + 1) _ _ _ (by omega) ⟨by omega, hI, hS, lv_sub hl [4, 5, 6, 7, 8, 2, 1, 0] rfl⟩
              · skip
                have hcn0 : cn mm z k = 0 := by
                  rcases Nat.eq_zero_or_pos (cn mm z k) with q | q
                  · exact q
                  · exact absurd (nI_lt (a := 0) q (by omega)) c161
                refine lv_aload_n hx hb dL_draws_164 rfl (lv_at hl 2 rfl) ?_
                refine lv_iload_n hx hb dL_draws_165 rfl (lv_at hl 4 rfl) ?_
                refine lv_iload hx hb dL_draws_166 (lv_at hl 8 rfl) ?_
                refine lv_iload hx hb dL_draws_168 (lv_at hl 5 rfl) ?_
                refine lv_irem hx hb dL_draws_170 (nI_ne0 h2q (by omega)) ?_
                refine bo_to (v := (nI (k % 2 ^ z))) (pk_rem (by omega) h2q (by omega)) ?_
                refine lv_iload hx hb dL_draws_171 (lv_at hl 8 rfl) ?_
                refine lv_iload hx hb dL_draws_173 (lv_at hl 5 rfl) ?_
                refine lv_idiv hx hb dL_draws_175 (nI_ne0 h2q (by omega)) ?_
                refine bo_to (v := (nI (k / 2 ^ z))) (pk_div (by omega) h2q (by omega)) ?_
                refine p_iVk (fr := 9) (lo := 157) (mc1 := 3) (ms1 := 18) (n := 3) (As := [.int (nI z), .int (nI (k % 2 ^ z)), .int (nI (k / 2 ^ z))]) (rest := []) hF (pv_picture l hflag G xa (dm mm z (k + 1)) (nI z) (nI (k % 2 ^ z)) (nI (k / 2 ^ z))  (r0 := (dp mm z k)) (m0 := (dm mm z (k + 1))) (dr_ptr hL hz5 hk) (hLk.2.1)) p_Em.l ke_X4_picture wd_l_L_65 (by decide) hI hX hS rfl hl.1 rfl (Nat.le_of_ble_eq_true rfl) dL_draws_176 (by first | decide | omega | (dsimp only; omega)) (fun H locs hI hS => ?_)
                replace hI : p_J G xa xb Z ((dm mm z (k + 1)), (dm mm z (k + 1))) H := hI
                refine lv_bipush (v := 17) hx hb dL_draws_179 (by decide) ?_
                refine lv_icmp_ne (tgt := 188) hx hb dL_draws_181 (by decide) (fun c181 => ?_) (fun c181 => ?_)
                · skip
                  exact absurd (dp_0 hL hcn0) c181
                · skip
                  refine lv_iconst (v := 1) hx hb dL_draws_184 (by decide) ?_
                  refine lv_goto (tgt := 189) hx hb dL_draws_185 (by decide) ?_
                  refine lv_istore (lv' := [(7, .int 1), (6, .int (nI (sm mm z (k + 1)))), (9, .int (nI (cn mm z k))), (0, .ref xa), (1, .ref xb), (3, .int (nI z)), (4, .int (nI (2 ^ z))), (5, .int (mm 10 0)), (8, .int (nI k))]) hx hb dL_draws_189 hl (by decide) rfl (fun ls hl => ?_)
                  refine lv_iinc (v := (nI (k + 1))) (lv' := [(8, .int (nI (k + 1))), (7, .int 1), (6, .int (nI (sm mm z (k + 1)))), (9, .int (nI (cn mm z k))), (0, .ref xa), (1, .ref xb), (3, .int (nI z)), (4, .int (nI (2 ^ z))), (5, .int (mm 10 0))]) hx hb dL_draws_191 hl (k := 8) rfl (nI_add k 1) (by decide) rfl (fun ls hl => ?_)
                  refine lv_goto (tgt := 26) hx hb dL_draws_194 (by decide) ?_
                  refine W.widen (k := 24 * (k + 1)) (n := 146 * (k + 1)) (by first | decide | omega | (dsimp only; omega)) (by first | decide | omega | (dsimp only; omega)) ?_
                  exact ih26 (k + 1) _ _ _ (by omega) ⟨by omega, hI, hS, lv_sub hl [4, 5, 6, 7, 8, 2, 1, 0] rfl⟩
theorem ke_L_draws : wl_S yL_draws cL_draws 12 (some .boolean) 3 := ⟨wd_c_L_draws, wd_t_L_draws, wd_n_L, by decide, by decide +kernel⟩
