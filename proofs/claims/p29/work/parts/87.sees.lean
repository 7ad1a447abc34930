/-! ===== sees ===== -/
theorem dL_sees_0 : decode cL_sees 0 = .ok (.iload_n 2, 1) := by decide +kernel
theorem dL_sees_1 : decode cL_sees 1 = .ok (.iconst 3, 1) := by decide +kernel
theorem dL_sees_2 : decode cL_sees 2 = .ok (.invokestatic 137, 3) := by decide +kernel
theorem dL_sees_5 : decode cL_sees 5 = .ok (.istore_n 3, 1) := by decide +kernel
theorem dL_sees_6 : decode cL_sees 6 = .ok (.iload_n 2, 1) := by decide +kernel
theorem dL_sees_7 : decode cL_sees 7 = .ok (.iconst 2, 1) := by decide +kernel
theorem dL_sees_8 : decode cL_sees 8 = .ok (.ishr, 1) := by decide +kernel
theorem dL_sees_9 : decode cL_sees 9 = .ok (.aload_n 0, 1) := by decide +kernel
theorem dL_sees_10 : decode cL_sees 10 = .ok (.invokevirtual 108, 3) := by decide +kernel
theorem dL_sees_13 : decode cL_sees 13 = .ok (.invokestatic 137, 3) := by decide +kernel
theorem dL_sees_16 : decode cL_sees 16 = .ok (.istore 4, 2) := by decide +kernel
theorem dL_sees_18 : decode cL_sees 18 = .ok (.iload_n 2, 1) := by decide +kernel
theorem dL_sees_19 : decode cL_sees 19 = .ok (.bipush 6, 2) := by decide +kernel
theorem dL_sees_21 : decode cL_sees 21 = .ok (.ishr, 1) := by decide +kernel
theorem dL_sees_22 : decode cL_sees 22 = .ok (.iconst 3, 1) := by decide +kernel
theorem dL_sees_23 : decode cL_sees 23 = .ok (.invokestatic 137, 3) := by decide +kernel
theorem dL_sees_26 : decode cL_sees 26 = .ok (.istore 5, 2) := by decide +kernel
theorem dL_sees_28 : decode cL_sees 28 = .ok (.iload_n 2, 1) := by decide +kernel
theorem dL_sees_29 : decode cL_sees 29 = .ok (.bipush 8, 2) := by decide +kernel
theorem dL_sees_31 : decode cL_sees 31 = .ok (.ishr, 1) := by decide +kernel
theorem dL_sees_32 : decode cL_sees 32 = .ok (.iconst 2, 1) := by decide +kernel
theorem dL_sees_33 : decode cL_sees 33 = .ok (.invokestatic 137, 3) := by decide +kernel
theorem dL_sees_36 : decode cL_sees 36 = .ok (.ifCond .ne 15, 3) := by decide +kernel
theorem dL_sees_39 : decode cL_sees 39 = .ok (.iload_n 2, 1) := by decide +kernel
theorem dL_sees_40 : decode cL_sees 40 = .ok (.bipush 9, 2) := by decide +kernel
theorem dL_sees_42 : decode cL_sees 42 = .ok (.ishr, 1) := by decide +kernel
theorem dL_sees_43 : decode cL_sees 43 = .ok (.bipush 50, 2) := by decide +kernel
theorem dL_sees_45 : decode cL_sees 45 = .ok (.invokestatic 137, 3) := by decide +kernel
theorem dL_sees_48 : decode cL_sees 48 = .ok (.goto 12, 3) := by decide +kernel
theorem dL_sees_51 : decode cL_sees 51 = .ok (.iload_n 2, 1) := by decide +kernel
theorem dL_sees_52 : decode cL_sees 52 = .ok (.bipush 9, 2) := by decide +kernel
theorem dL_sees_54 : decode cL_sees 54 = .ok (.ishr, 1) := by decide +kernel
theorem dL_sees_55 : decode cL_sees 55 = .ok (.bipush 100, 2) := by decide +kernel
theorem dL_sees_57 : decode cL_sees 57 = .ok (.invokestatic 137, 3) := by decide +kernel
theorem dL_sees_60 : decode cL_sees 60 = .ok (.istore 6, 2) := by decide +kernel
theorem dL_sees_62 : decode cL_sees 62 = .ok (.aload_n 0, 1) := by decide +kernel
theorem dL_sees_63 : decode cL_sees 63 = .ok (.iload 4, 2) := by decide +kernel
theorem dL_sees_65 : decode cL_sees 65 = .ok (.invokevirtual 49, 3) := by decide +kernel
theorem dL_sees_68 : decode cL_sees 68 = .ok (.istore 7, 2) := by decide +kernel
theorem dL_sees_70 : decode cL_sees 70 = .ok (.aload_n 0, 1) := by decide +kernel
theorem dL_sees_71 : decode cL_sees 71 = .ok (.iload 4, 2) := by decide +kernel
theorem dL_sees_73 : decode cL_sees 73 = .ok (.invokevirtual 87, 3) := by decide +kernel
theorem dL_sees_76 : decode cL_sees 76 = .ok (.istore 8, 2) := by decide +kernel
theorem dL_sees_78 : decode cL_sees 78 = .ok (.aload_n 0, 1) := by decide +kernel
theorem dL_sees_79 : decode cL_sees 79 = .ok (.iload 4, 2) := by decide +kernel
theorem dL_sees_81 : decode cL_sees 81 = .ok (.invokestatic 144, 3) := by decide +kernel
theorem dL_sees_84 : decode cL_sees 84 = .ok (.istore 9, 2) := by decide +kernel
theorem dL_sees_86 : decode cL_sees 86 = .ok (.aload_n 0, 1) := by decide +kernel
theorem dL_sees_87 : decode cL_sees 87 = .ok (.iload 4, 2) := by decide +kernel
theorem dL_sees_89 : decode cL_sees 89 = .ok (.invokestatic 140, 3) := by decide +kernel
theorem dL_sees_92 : decode cL_sees 92 = .ok (.istore 10, 2) := by decide +kernel
theorem dL_sees_94 : decode cL_sees 94 = .ok (.aload_n 0, 1) := by decide +kernel
theorem dL_sees_95 : decode cL_sees 95 = .ok (.aload_n 1, 1) := by decide +kernel
theorem dL_sees_96 : decode cL_sees 96 = .ok (.bipush 17, 2) := by decide +kernel
theorem dL_sees_98 : decode cL_sees 98 = .ok (.iload_n 3, 1) := by decide +kernel
theorem dL_sees_99 : decode cL_sees 99 = .ok (.iload 4, 2) := by decide +kernel
theorem dL_sees_101 : decode cL_sees 101 = .ok (.sipush 128, 3) := by decide +kernel
theorem dL_sees_104 : decode cL_sees 104 = .ok (.iload 5, 2) := by decide +kernel
theorem dL_sees_106 : decode cL_sees 106 = .ok (.iconst 2, 1) := by decide +kernel
theorem dL_sees_107 : decode cL_sees 107 = .ok (.iadd, 1) := by decide +kernel
theorem dL_sees_108 : decode cL_sees 108 = .ok (.imul, 1) := by decide +kernel
theorem dL_sees_109 : decode cL_sees 109 = .ok (.iload 6, 2) := by decide +kernel
theorem dL_sees_111 : decode cL_sees 111 = .ok (.iadd, 1) := by decide +kernel
theorem dL_sees_112 : decode cL_sees 112 = .ok (.bipush 8, 2) := by decide +kernel
theorem dL_sees_114 : decode cL_sees 114 = .ok (.iadd, 1) := by decide +kernel
theorem dL_sees_115 : decode cL_sees 115 = .ok (.invokestatic 147, 3) := by decide +kernel
theorem dL_sees_118 : decode cL_sees 118 = .ok (.istore 11, 2) := by decide +kernel
theorem dL_sees_120 : decode cL_sees 120 = .ok (.iload 11, 2) := by decide +kernel
theorem dL_sees_122 : decode cL_sees 122 = .ok (.ldc 23, 2) := by decide +kernel
theorem dL_sees_124 : decode cL_sees 124 = .ok (.if_icmp .ne 110, 3) := by decide +kernel
theorem dL_sees_127 : decode cL_sees 127 = .ok (.aload_n 0, 1) := by decide +kernel
theorem dL_sees_128 : decode cL_sees 128 = .ok (.iload_n 3, 1) := by decide +kernel
theorem dL_sees_129 : decode cL_sees 129 = .ok (.invokevirtual 93, 3) := by decide +kernel
theorem dL_sees_132 : decode cL_sees 132 = .ok (.istore 12, 2) := by decide +kernel
theorem dL_sees_134 : decode cL_sees 134 = .ok (.aload_n 0, 1) := by decide +kernel
theorem dL_sees_135 : decode cL_sees 135 = .ok (.aload_n 1, 1) := by decide +kernel
theorem dL_sees_136 : decode cL_sees 136 = .ok (.bipush 21, 2) := by decide +kernel
theorem dL_sees_138 : decode cL_sees 138 = .ok (.iload_n 3, 1) := by decide +kernel
theorem dL_sees_139 : decode cL_sees 139 = .ok (.iconst 0, 1) := by decide +kernel
theorem dL_sees_140 : decode cL_sees 140 = .ok (.iconst 0, 1) := by decide +kernel
theorem dL_sees_141 : decode cL_sees 141 = .ok (.invokestatic 147, 3) := by decide +kernel
theorem dL_sees_144 : decode cL_sees 144 = .ok (.istore 13, 2) := by decide +kernel
theorem dL_sees_146 : decode cL_sees 146 = .ok (.aload_n 0, 1) := by decide +kernel
theorem dL_sees_147 : decode cL_sees 147 = .ok (.iload 4, 2) := by decide +kernel
theorem dL_sees_149 : decode cL_sees 149 = .ok (.invokevirtual 87, 3) := by decide +kernel
theorem dL_sees_152 : decode cL_sees 152 = .ok (.iload 8, 2) := by decide +kernel
theorem dL_sees_154 : decode cL_sees 154 = .ok (.if_icmp .ne 78, 3) := by decide +kernel
theorem dL_sees_157 : decode cL_sees 157 = .ok (.iload 12, 2) := by decide +kernel
theorem dL_sees_159 : decode cL_sees 159 = .ok (.iconst (-1), 1) := by decide +kernel
theorem dL_sees_160 : decode cL_sees 160 = .ok (.if_icmp .ne 41, 3) := by decide +kernel
theorem dL_sees_163 : decode cL_sees 163 = .ok (.iload 13, 2) := by decide +kernel
theorem dL_sees_165 : decode cL_sees 165 = .ok (.ldc 23, 2) := by decide +kernel
theorem dL_sees_167 : decode cL_sees 167 = .ok (.if_icmp .ne 65, 3) := by decide +kernel
theorem dL_sees_170 : decode cL_sees 170 = .ok (.aload_n 0, 1) := by decide +kernel
theorem dL_sees_171 : decode cL_sees 171 = .ok (.aload_n 1, 1) := by decide +kernel
theorem dL_sees_172 : decode cL_sees 172 = .ok (.bipush 16, 2) := by decide +kernel
theorem dL_sees_174 : decode cL_sees 174 = .ok (.iload_n 3, 1) := by decide +kernel
theorem dL_sees_175 : decode cL_sees 175 = .ok (.iload_n 2, 1) := by decide +kernel
theorem dL_sees_176 : decode cL_sees 176 = .ok (.iconst 3, 1) := by decide +kernel
theorem dL_sees_177 : decode cL_sees 177 = .ok (.ishr, 1) := by decide +kernel
theorem dL_sees_178 : decode cL_sees 178 = .ok (.bipush 17, 2) := by decide +kernel
theorem dL_sees_180 : decode cL_sees 180 = .ok (.invokestatic 137, 3) := by decide +kernel
theorem dL_sees_183 : decode cL_sees 183 = .ok (.iload_n 2, 1) := by decide +kernel
theorem dL_sees_184 : decode cL_sees 184 = .ok (.bipush 7, 2) := by decide +kernel
theorem dL_sees_186 : decode cL_sees 186 = .ok (.ishr, 1) := by decide +kernel
theorem dL_sees_187 : decode cL_sees 187 = .ok (.bipush 17, 2) := by decide +kernel
theorem dL_sees_189 : decode cL_sees 189 = .ok (.invokestatic 137, 3) := by decide +kernel
theorem dL_sees_192 : decode cL_sees 192 = .ok (.invokestatic 147, 3) := by decide +kernel
theorem dL_sees_195 : decode cL_sees 195 = .ok (.ifCond .lt 37, 3) := by decide +kernel
theorem dL_sees_198 : decode cL_sees 198 = .ok (.goto 30, 3) := by decide +kernel
theorem dL_sees_201 : decode cL_sees 201 = .ok (.iload 13, 2) := by decide +kernel
theorem dL_sees_203 : decode cL_sees 203 = .ok (.ifCond .lt 29, 3) := by decide +kernel
theorem dL_sees_206 : decode cL_sees 206 = .ok (.aload_n 0, 1) := by decide +kernel
theorem dL_sees_207 : decode cL_sees 207 = .ok (.iload 12, 2) := by decide +kernel
theorem dL_sees_209 : decode cL_sees 209 = .ok (.invokevirtual 90, 3) := by decide +kernel
theorem dL_sees_212 : decode cL_sees 212 = .ok (.ifCond .le 20, 3) := by decide +kernel
theorem dL_sees_215 : decode cL_sees 215 = .ok (.aload_n 0, 1) := by decide +kernel
theorem dL_sees_216 : decode cL_sees 216 = .ok (.aload_n 1, 1) := by decide +kernel
theorem dL_sees_217 : decode cL_sees 217 = .ok (.bipush 21, 2) := by decide +kernel
theorem dL_sees_219 : decode cL_sees 219 = .ok (.iload_n 3, 1) := by decide +kernel
theorem dL_sees_220 : decode cL_sees 220 = .ok (.iconst 0, 1) := by decide +kernel
theorem dL_sees_221 : decode cL_sees 221 = .ok (.iconst 0, 1) := by decide +kernel
theorem dL_sees_222 : decode cL_sees 222 = .ok (.invokestatic 147, 3) := by decide +kernel
theorem dL_sees_225 : decode cL_sees 225 = .ok (.ifCond .lt 7, 3) := by decide +kernel
theorem dL_sees_228 : decode cL_sees 228 = .ok (.iconst 1, 1) := by decide +kernel
theorem dL_sees_229 : decode cL_sees 229 = .ok (.goto 4, 3) := by decide +kernel
theorem dL_sees_233 : decode cL_sees 233 = .ok (.ireturn, 1) := by decide +kernel
theorem dL_sees_234 : decode cL_sees 234 = .ok (.iload 11, 2) := by decide +kernel
theorem dL_sees_236 : decode cL_sees 236 = .ok (.iconst 1, 1) := by decide +kernel
theorem dL_sees_237 : decode cL_sees 237 = .ok (.if_icmp .ne 79, 3) := by decide +kernel
theorem dL_sees_240 : decode cL_sees 240 = .ok (.iload 9, 2) := by decide +kernel
theorem dL_sees_242 : decode cL_sees 242 = .ok (.iload 5, 2) := by decide +kernel
theorem dL_sees_244 : decode cL_sees 244 = .ok (.if_icmp .eq 70, 3) := by decide +kernel
theorem dL_sees_247 : decode cL_sees 247 = .ok (.aload_n 0, 1) := by decide +kernel
theorem dL_sees_248 : decode cL_sees 248 = .ok (.iload 4, 2) := by decide +kernel
theorem dL_sees_250 : decode cL_sees 250 = .ok (.invokevirtual 87, 3) := by decide +kernel
theorem dL_sees_253 : decode cL_sees 253 = .ok (.ifCond .ne 61, 3) := by decide +kernel
theorem dL_sees_256 : decode cL_sees 256 = .ok (.aload_n 0, 1) := by decide +kernel
theorem dL_sees_257 : decode cL_sees 257 = .ok (.iload 4, 2) := by decide +kernel
theorem dL_sees_259 : decode cL_sees 259 = .ok (.invokevirtual 49, 3) := by decide +kernel
theorem dL_sees_262 : decode cL_sees 262 = .ok (.iload 7, 2) := by decide +kernel
theorem dL_sees_264 : decode cL_sees 264 = .ok (.iconst 1, 1) := by decide +kernel
theorem dL_sees_265 : decode cL_sees 265 = .ok (.iadd, 1) := by decide +kernel
theorem dL_sees_266 : decode cL_sees 266 = .ok (.if_icmp .ne 48, 3) := by decide +kernel
theorem dL_sees_269 : decode cL_sees 269 = .ok (.aload_n 0, 1) := by decide +kernel
theorem dL_sees_270 : decode cL_sees 270 = .ok (.iload 4, 2) := by decide +kernel
theorem dL_sees_272 : decode cL_sees 272 = .ok (.invokestatic 144, 3) := by decide +kernel
theorem dL_sees_275 : decode cL_sees 275 = .ok (.iload 5, 2) := by decide +kernel
theorem dL_sees_277 : decode cL_sees 277 = .ok (.if_icmp .ne 37, 3) := by decide +kernel
theorem dL_sees_280 : decode cL_sees 280 = .ok (.aload_n 0, 1) := by decide +kernel
theorem dL_sees_281 : decode cL_sees 281 = .ok (.iload 4, 2) := by decide +kernel
theorem dL_sees_283 : decode cL_sees 283 = .ok (.invokestatic 140, 3) := by decide +kernel
theorem dL_sees_286 : decode cL_sees 286 = .ok (.iload 10, 2) := by decide +kernel
theorem dL_sees_288 : decode cL_sees 288 = .ok (.if_icmp .ne 26, 3) := by decide +kernel
theorem dL_sees_291 : decode cL_sees 291 = .ok (.aload_n 0, 1) := by decide +kernel
theorem dL_sees_292 : decode cL_sees 292 = .ok (.iload 4, 2) := by decide +kernel
theorem dL_sees_294 : decode cL_sees 294 = .ok (.invokestatic 155, 3) := by decide +kernel
theorem dL_sees_297 : decode cL_sees 297 = .ok (.iconst (-1), 1) := by decide +kernel
theorem dL_sees_298 : decode cL_sees 298 = .ok (.if_icmp .ne 16, 3) := by decide +kernel
theorem dL_sees_301 : decode cL_sees 301 = .ok (.aload_n 0, 1) := by decide +kernel
theorem dL_sees_302 : decode cL_sees 302 = .ok (.iload 4, 2) := by decide +kernel
theorem dL_sees_304 : decode cL_sees 304 = .ok (.invokevirtual 90, 3) := by decide +kernel
theorem dL_sees_307 : decode cL_sees 307 = .ok (.ifCond .ne 7, 3) := by decide +kernel
theorem dL_sees_310 : decode cL_sees 310 = .ok (.iconst 1, 1) := by decide +kernel
theorem dL_sees_311 : decode cL_sees 311 = .ok (.goto 4, 3) := by decide +kernel
theorem dL_sees_315 : decode cL_sees 315 = .ok (.ireturn, 1) := by decide +kernel
theorem dL_sees_316 : decode cL_sees 316 = .ok (.iload 11, 2) := by decide +kernel
theorem dL_sees_318 : decode cL_sees 318 = .ok (.ifCond .ne 66, 3) := by decide +kernel
theorem dL_sees_321 : decode cL_sees 321 = .ok (.aload_n 0, 1) := by decide +kernel
theorem dL_sees_322 : decode cL_sees 322 = .ok (.iload 4, 2) := by decide +kernel
theorem dL_sees_324 : decode cL_sees 324 = .ok (.invokevirtual 49, 3) := by decide +kernel
theorem dL_sees_327 : decode cL_sees 327 = .ok (.iload 7, 2) := by decide +kernel
theorem dL_sees_329 : decode cL_sees 329 = .ok (.if_icmp .ne 55, 3) := by decide +kernel
theorem dL_sees_332 : decode cL_sees 332 = .ok (.aload_n 0, 1) := by decide +kernel
theorem dL_sees_333 : decode cL_sees 333 = .ok (.iload 4, 2) := by decide +kernel
theorem dL_sees_335 : decode cL_sees 335 = .ok (.invokevirtual 87, 3) := by decide +kernel
theorem dL_sees_338 : decode cL_sees 338 = .ok (.ifCond .le 46, 3) := by decide +kernel
theorem dL_sees_341 : decode cL_sees 341 = .ok (.aload_n 0, 1) := by decide +kernel
theorem dL_sees_342 : decode cL_sees 342 = .ok (.iload 4, 2) := by decide +kernel
theorem dL_sees_344 : decode cL_sees 344 = .ok (.invokevirtual 87, 3) := by decide +kernel
theorem dL_sees_347 : decode cL_sees 347 = .ok (.iload 8, 2) := by decide +kernel
theorem dL_sees_349 : decode cL_sees 349 = .ok (.iconst 1, 1) := by decide +kernel
theorem dL_sees_350 : decode cL_sees 350 = .ok (.iadd, 1) := by decide +kernel
theorem dL_sees_351 : decode cL_sees 351 = .ok (.if_icmp .gt 33, 3) := by decide +kernel
theorem dL_sees_354 : decode cL_sees 354 = .ok (.iload 5, 2) := by decide +kernel
theorem dL_sees_356 : decode cL_sees 356 = .ok (.iload 9, 2) := by decide +kernel
theorem dL_sees_358 : decode cL_sees 358 = .ok (.if_icmp .eq 22, 3) := by decide +kernel
theorem dL_sees_361 : decode cL_sees 361 = .ok (.aload_n 0, 1) := by decide +kernel
theorem dL_sees_362 : decode cL_sees 362 = .ok (.iload 4, 2) := by decide +kernel
theorem dL_sees_364 : decode cL_sees 364 = .ok (.invokevirtual 90, 3) := by decide +kernel
theorem dL_sees_367 : decode cL_sees 367 = .ok (.bipush 100, 2) := by decide +kernel
theorem dL_sees_369 : decode cL_sees 369 = .ok (.iload 6, 2) := by decide +kernel
theorem dL_sees_371 : decode cL_sees 371 = .ok (.isub, 1) := by decide +kernel
theorem dL_sees_372 : decode cL_sees 372 = .ok (.iload 10, 2) := by decide +kernel
theorem dL_sees_374 : decode cL_sees 374 = .ok (.iconst 1, 1) := by decide +kernel
theorem dL_sees_375 : decode cL_sees 375 = .ok (.iadd, 1) := by decide +kernel
theorem dL_sees_376 : decode cL_sees 376 = .ok (.imul, 1) := by decide +kernel
theorem dL_sees_377 : decode cL_sees 377 = .ok (.if_icmp .lt 7, 3) := by decide +kernel
theorem dL_sees_380 : decode cL_sees 380 = .ok (.iconst 1, 1) := by decide +kernel
theorem dL_sees_381 : decode cL_sees 381 = .ok (.goto 4, 3) := by decide +kernel
theorem dL_sees_385 : decode cL_sees 385 = .ok (.ireturn, 1) := by decide +kernel
set_option maxHeartbeats 1000000 in
set_option maxRecDepth 100000 in
theorem m_sees_b (l : Launch) (hflag : l.stackTraces = false) (G : k_G) (xa xb : Nat) (mm : q_Mem) (a0 : Int32) (ca w d q : Nat) (hL : LI mm) (hK1 : sp_K mm < 512) (hca : ca < 3) (hw : w < sp_W mm) (hd : d < 3) (hq : q < 100) (Z : Nat → Prop) {p : Program} {e : Env} {s : State} {m : MethodId} {args : Array Value} {below : List Frame} {meth : Method} {c : Code} (hx : p.tables.exec = Jvm.exec) (hb : c.code = cL_sees) (hr : meth.sig.returnType = (some .boolean)) (hF : CallFix p m c cL_sees 14 s args wsL_law RL) (hlk : meth.locks = false) (hX : p_E0 G Z s) : p_W l G xa xb mm mm Z p e { frames := 13, cells := 100, slots := 600, locals := 275 } s m args below meth c 14 0 0 (p_Q2 G xa xb mm (fun v u => v = 1 ∧ ∃ m2, u = (m2, m2) ∧ RD mm m2) Z below args s 100 600) [(5, .int (nI d)), (4, .int (nI w)), (3, .int (nI ca)), (0, .ref xa), (1, .ref xb), (2, .int a0)] 60 [.int (nI q)] := by
  intro H locs ls hI hS hl
  refine lv_istore (lv' := [(6, .int (nI q)), (5, .int (nI d)), (4, .int (nI w)), (3, .int (nI ca)), (0, .ref xa), (1, .ref xb), (2, .int a0)]) hx hb dL_sees_60 hl (by decide) rfl (fun ls hl => ?_)
  refine lv_aload_n hx hb dL_sees_62 rfl (lv_at hl 4 rfl) ?_
  refine lv_iload hx hb dL_sees_63 (lv_at hl 2 rfl) ?_
  refine p_iVk (fr := 7) (lo := 111) (mc1 := 1) (ms1 := 6) (n := 1) (As := [.int (nI w)]) (rest := []) hF (pv_versions l hflag G xa mm (nI w) hL.1 (r0 := (mm 7 w)) (m0 := mm) (v_of hL hw) (hL.2.1)) p_Em.l ke_X4_versions wd_l_L_49 (by decide) hI hX hS rfl hl.1 rfl (Nat.le_of_ble_eq_true rfl) dL_sees_65 (by first | decide | omega | (dsimp only; omega)) (fun H locs hI hS => ?_)
  replace hI : p_J G xa xb Z (mm, mm) H := hI
  refine lv_istore (lv' := [(7, .int (mm 7 w)), (6, .int (nI q)), (5, .int (nI d)), (4, .int (nI w)), (3, .int (nI ca)), (0, .ref xa), (1, .ref xb), (2, .int a0)]) hx hb dL_sees_68 hl (by decide) rfl (fun ls hl => ?_)
  refine lv_aload_n hx hb dL_sees_70 rfl (lv_at hl 5 rfl) ?_
  refine lv_iload hx hb dL_sees_71 (lv_at hl 3 rfl) ?_
  refine p_iVk (fr := 7) (lo := 111) (mc1 := 1) (ms1 := 6) (n := 1) (As := [.int (nI w)]) (rest := []) hF (pv_sightings l hflag G xa mm (nI w) hL.1 (r0 := (sp_dc mm w)) (m0 := mm) (v_sgt hL hw) (hL.2.1)) p_Em.l ke_X4_sightings wd_l_L_87 (by decide) hI hX hS rfl hl.1 rfl (Nat.le_of_ble_eq_true rfl) dL_sees_73 (by first | decide | omega | (dsimp only; omega)) (fun H locs hI hS => ?_)
  replace hI : p_J G xa xb Z (mm, mm) H := hI
  refine lv_istore (lv' := [(8, .int (sp_dc mm w)), (7, .int (mm 7 w)), (6, .int (nI q)), (5, .int (nI d)), (4, .int (nI w)), (3, .int (nI ca)), (0, .ref xa), (1, .ref xb), (2, .int a0)]) hx hb dL_sees_76 hl (by decide) rfl (fun ls hl => ?_)
  refine lv_aload_n hx hb dL_sees_78 rfl (lv_at hl 6 rfl) ?_
  refine lv_iload hx hb dL_sees_79 (lv_at hl 4 rfl) ?_
  refine p_iSk (mc1 := 3) (ms1 := 18) (fr := 8) (lo := 140) (n := 2) (As := [.ref xa, .int (nI w)]) (rest := []) hF (m_turn l hflag G xa mm w hL hw) p_Em.l ke_L_turn wd_l_L_144 (by decide) hI hX hS rfl hl.1 rfl (Nat.le_of_ble_eq_true rfl) dL_sees_81 (by first | decide | omega | (dsimp only; omega)) (fun H locs hI hS => ?_)
  replace hI : p_J G xa xb Z (mm, mm) H := hI
  refine lv_istore (lv' := [(9, .int (td mm w)), (8, .int (sp_dc mm w)), (7, .int (mm 7 w)), (6, .int (nI q)), (5, .int (nI d)), (4, .int (nI w)), (3, .int (nI ca)), (0, .ref xa), (1, .ref xb), (2, .int a0)]) hx hb dL_sees_84 hl (by decide) rfl (fun ls hl => ?_)
  refine lv_aload_n hx hb dL_sees_86 rfl (lv_at hl 7 rfl) ?_
  refine lv_iload hx hb dL_sees_87 (lv_at hl 5 rfl) ?_
  refine p_iSk (mc1 := 3) (ms1 := 18) (fr := 8) (lo := 140) (n := 2) (As := [.ref xa, .int (nI w)]) (rest := []) hF (m_kind l hflag G xa mm w hL hw) p_Em.l ke_L_kind wd_l_L_140 (by decide) hI hX hS rfl hl.1 rfl (Nat.le_of_ble_eq_true rfl) dL_sees_89 (by first | decide | omega | (dsimp only; omega)) (fun H locs hI hS => ?_)
  replace hI : p_J G xa xb Z (mm, mm) H := hI
  refine lv_istore (lv' := [(10, .int (kd mm w)), (9, .int (td mm w)), (8, .int (sp_dc mm w)), (7, .int (mm 7 w)), (6, .int (nI q)), (5, .int (nI d)), (4, .int (nI w)), (3, .int (nI ca)), (0, .ref xa), (1, .ref xb), (2, .int a0)]) hx hb dL_sees_92 hl (by decide) rfl (fun ls hl => ?_)
  by_cases hn : sp_nr mm ca w
  · skip
    by_cases hC : ¬ td mm w = nI d ∧ sp_agr (sp_keep mm w ca d (nI q)) w d
    · skip
      obtain ⟨M, hS9, hM, hMK, hMW, m1, m2, m3, m4, m5, m6⟩ := se_y hL hK1 hca hw hd hq hn hC
      have hMw : w < sp_W M := by rw [hMW]; exact hw
      refine lv_aload_n hx hb dL_sees_94 rfl (lv_at hl 8 rfl) ?_
      refine lv_aload_n hx hb dL_sees_95 rfl (lv_at hl 9 rfl) ?_
      refine lv_bipush (v := 17) hx hb dL_sees_96 (by decide) ?_
      refine lv_iload_n hx hb dL_sees_98 rfl (lv_at hl 7 rfl) ?_
      refine lv_iload hx hb dL_sees_99 (lv_at hl 6 rfl) ?_
      refine lv_sipush (v := 128) hx hb dL_sees_101 (by decide) ?_
      refine lv_iload hx hb dL_sees_104 (lv_at hl 5 rfl) ?_
      refine lv_iconst (v := 2) hx hb dL_sees_106 (by decide) ?_
      refine lv_iadd hx hb dL_sees_107 ?_
      refine bo_to (v := (nI (d + 2))) (nI_add d 2) ?_
      refine lv_imul hx hb dL_sees_108 ?_
      refine bo_to (v := (nI (128 * (d + 2)))) (pk_mul 128 (d + 2)) ?_
      refine lv_iload hx hb dL_sees_109 (lv_at hl 4 rfl) ?_
      refine lv_iadd hx hb dL_sees_111 ?_
      refine bo_to (v := (nI (128 * (d + 2) + q))) (nI_add _ _) ?_
      refine lv_bipush (v := 8) hx hb dL_sees_112 (by decide) ?_
      refine lv_iadd hx hb dL_sees_114 ?_
      have ea1 : nI (128 * (d + 2) + q + 8) / 128 - 2 = nI d := by
        rw [show (128 : Int32) = nI 128 from rfl, pk_div (by omega) (by decide) (by decide), show (2 : Int32) = nI 2 from rfl, pk_sub (by omega)]; congr 1; omega
      have ea2 : nI (128 * (d + 2) + q + 8) - nI (128 * (d + 2) + q + 8) / 128 * 128 - 8 = nI q := by
        rw [show (128 : Int32) = nI 128 from rfl, pk_rem (by omega) (by decide) (by decide), show (8 : Int32) = nI 8 from rfl, pk_sub (by omega)]; congr 1; omega
      refine bo_to (v := (nI (128 * (d + 2) + q + 8))) (nI_add _ 8) ?_
      refine p_iSk (mc1 := 8) (ms1 := 38) (fr := 12) (lo := 239) (n := 6) (As := [.ref xa, .ref xb, .int 17, .int (nI ca), .int (nI w), .int (nI (128 * (d + 2) + q + 8))]) (rest := []) hF (m_both (mc := 4) (ms := 19) (p_cv (nm := k_n3) (sp := sp_see mm (nI ca) (nI w) ((nI (128 * (d + 2) + q + 8)) / 128 - 2) (((nI (128 * (d + 2) + q + 8)) - (nI (128 * (d + 2) + q + 8)) / 128 * 128) - 8)) (cl_ok ((by rw [ea1, ea2]; exact hS9)) (hM.2.1)) (m_call (fun Z ad h => by rw [← h]; exact m_does_17 l hflag G Z ad mm (nI ca) (nI w) (nI (128 * (d + 2) + q + 8)) hL.1 hK1) (Or.inl rfl))) (p_cv (nm := k_n3) (sp := sp_see mm (nI ca) (nI w) ((nI (128 * (d + 2) + q + 8)) / 128 - 2) (((nI (128 * (d + 2) + q + 8)) - (nI (128 * (d + 2) + q + 8)) / 128 * 128) - 8)) (cl_ok ((by rw [ea1, ea2]; exact hS9)) (hM.2.1)) (m_call (fun Z ad h => by rw [← h]; exact m_does_17 l hflag G Z ad mm (nI ca) (nI w) (nI (128 * (d + 2) + q + 8)) hL.1 hK1) (Or.inl rfl)))) p_Em.id ke_L_both wd_l_L_147 (by decide) hI hX hS rfl hl.1 rfl (Nat.le_of_ble_eq_true rfl) dL_sees_115 (by first | decide | omega | (dsimp only; omega)) (fun H locs hI hS => ?_)
      replace hI : p_J G xa xb Z (M, M) H := hI
      refine lv_istore (lv' := [(11, .int 1), (10, .int (kd mm w)), (9, .int (td mm w)), (8, .int (sp_dc mm w)), (7, .int (mm 7 w)), (6, .int (nI q)), (5, .int (nI d)), (4, .int (nI w)), (3, .int (nI ca)), (0, .ref xa), (1, .ref xb), (2, .int a0)]) hx hb dL_sees_118 hl (by decide) rfl (fun ls hl => ?_)
      refine lv_iload hx hb dL_sees_120 (lv_at hl 0 rfl) ?_
      refine lv_ldc (v := -2100000003) hx hb hF.2.2.2.1 (hF.2.2.2.2 _ wd_x23) dL_sees_122 ?_
      refine lv_icmp_ne (tgt := 234) hx hb dL_sees_124 (by decide) (fun c124 => ?_) (fun c124 => ?_)
      · skip
        refine lv_iload hx hb dL_sees_234 (lv_at hl 0 rfl) ?_
        refine lv_iconst (v := 1) hx hb dL_sees_236 (by decide) ?_
        refine lv_icmp_ne (tgt := 316) hx hb dL_sees_237 (by decide) (fun c237 => ?_) (fun c237 => ?_)
        · skip
          exact absurd rfl c237
        · skip
          refine lv_iload hx hb dL_sees_240 (lv_at hl 2 rfl) ?_
          refine lv_iload hx hb dL_sees_242 (lv_at hl 6 rfl) ?_
          refine lv_icmp_eq (tgt := 314) hx hb dL_sees_244 (by decide) (fun c244 => ?_) (fun c244 => ?_)
          · skip
            exact absurd c244 hC.1
          · skip
            refine lv_aload_n hx hb dL_sees_247 rfl (lv_at hl 9 rfl) ?_
            refine lv_iload hx hb dL_sees_248 (lv_at hl 7 rfl) ?_
            refine p_iVk (fr := 7) (lo := 111) (mc1 := 1) (ms1 := 6) (n := 1) (As := [.int (nI w)]) (rest := []) hF (pv_sightings l hflag G xa M (nI w) hM.1 (r0 := (sp_dc M w)) (m0 := M) (v_sgt hM hMw) (hM.2.1)) p_Em.l ke_X4_sightings wd_l_L_87 (by decide) hI hX hS rfl hl.1 rfl (Nat.le_of_ble_eq_true rfl) dL_sees_250 (by first | decide | omega | (dsimp only; omega)) (fun H locs hI hS => ?_)
            replace hI : p_J G xa xb Z (M, M) H := hI
            refine lv_if_ne (tgt := 314) hx hb dL_sees_253 (by decide) (fun c253 => ?_) (fun c253 => ?_)
            · skip
              exact absurd m1 c253
            · skip
              refine lv_aload_n hx hb dL_sees_256 rfl (lv_at hl 9 rfl) ?_
              refine lv_iload hx hb dL_sees_257 (lv_at hl 7 rfl) ?_
              refine p_iVk (fr := 7) (lo := 111) (mc1 := 1) (ms1 := 6) (n := 1) (As := [.int (nI w)]) (rest := []) hF (pv_versions l hflag G xa M (nI w) hM.1 (r0 := (M 7 w)) (m0 := M) (v_of hM hMw) (hM.2.1)) p_Em.l ke_X4_versions wd_l_L_49 (by decide) hI hX hS rfl hl.1 rfl (Nat.le_of_ble_eq_true rfl) dL_sees_259 (by first | decide | omega | (dsimp only; omega)) (fun H locs hI hS => ?_)
              replace hI : p_J G xa xb Z (M, M) H := hI
              refine lv_iload hx hb dL_sees_262 (lv_at hl 4 rfl) ?_
              refine lv_iconst (v := 1) hx hb dL_sees_264 (by decide) ?_
              refine lv_iadd hx hb dL_sees_265 ?_
              refine lv_icmp_ne (tgt := 314) hx hb dL_sees_266 (by decide) (fun c266 => ?_) (fun c266 => ?_)
              · skip
                exact absurd m2 c266
              · skip
                refine lv_aload_n hx hb dL_sees_269 rfl (lv_at hl 9 rfl) ?_
                refine lv_iload hx hb dL_sees_270 (lv_at hl 7 rfl) ?_
                refine p_iSk (mc1 := 3) (ms1 := 18) (fr := 8) (lo := 140) (n := 2) (As := [.ref xa, .int (nI w)]) (rest := []) hF (m_turn l hflag G xa M w hM hMw) p_Em.l ke_L_turn wd_l_L_144 (by decide) hI hX hS rfl hl.1 rfl (Nat.le_of_ble_eq_true rfl) dL_sees_272 (by first | decide | omega | (dsimp only; omega)) (fun H locs hI hS => ?_)
                replace hI : p_J G xa xb Z (M, M) H := hI
                refine lv_iload hx hb dL_sees_275 (lv_at hl 6 rfl) ?_
                refine lv_icmp_ne (tgt := 314) hx hb dL_sees_277 (by decide) (fun c277 => ?_) (fun c277 => ?_)
                · skip
                  exact absurd m3 c277
                · skip
                  refine lv_aload_n hx hb dL_sees_280 rfl (lv_at hl 9 rfl) ?_
                  refine lv_iload hx hb dL_sees_281 (lv_at hl 7 rfl) ?_
                  refine p_iSk (mc1 := 3) (ms1 := 18) (fr := 8) (lo := 140) (n := 2) (As := [.ref xa, .int (nI w)]) (rest := []) hF (m_kind l hflag G xa M w hM hMw) p_Em.l ke_L_kind wd_l_L_140 (by decide) hI hX hS rfl hl.1 rfl (Nat.le_of_ble_eq_true rfl) dL_sees_283 (by first | decide | omega | (dsimp only; omega)) (fun H locs hI hS => ?_)
                  replace hI : p_J G xa xb Z (M, M) H := hI
                  refine lv_iload hx hb dL_sees_286 (lv_at hl 1 rfl) ?_
                  refine lv_icmp_ne (tgt := 314) hx hb dL_sees_288 (by decide) (fun c288 => ?_) (fun c288 => ?_)
                  · skip
                    exact absurd m4 c288
                  · skip
                    refine lv_aload_n hx hb dL_sees_291 rfl (lv_at hl 9 rfl) ?_
                    refine lv_iload hx hb dL_sees_292 (lv_at hl 7 rfl) ?_
                    refine p_iSk (mc1 := 3) (ms1 := 18) (fr := 8) (lo := 140) (n := 2) (As := [.ref xa, .int (nI w)]) (rest := []) hF (m_by l hflag G xa M w hM hMw) p_Em.l ke_L_by wd_l_L_155 (by decide) hI hX hS rfl hl.1 rfl (Nat.le_of_ble_eq_true rfl) dL_sees_294 (by first | decide | omega | (dsimp only; omega)) (fun H locs hI hS => ?_)
                    replace hI : p_J G xa xb Z (M, M) H := hI
                    refine lv_iconst (v := (-1)) hx hb dL_sees_297 (by decide) ?_
                    refine lv_icmp_ne (tgt := 314) hx hb dL_sees_298 (by decide) (fun c298 => ?_) (fun c298 => ?_)
                    · skip
                      exact absurd m5 c298
                    · skip
                      refine lv_aload_n hx hb dL_sees_301 rfl (lv_at hl 9 rfl) ?_
                      refine lv_iload hx hb dL_sees_302 (lv_at hl 7 rfl) ?_
                      refine p_iVk (fr := 7) (lo := 111) (mc1 := 1) (ms1 := 6) (n := 1) (As := [.int (nI w)]) (rest := []) hF (pv_dear l hflag G xa M (nI w) hM.1 (r0 := (sp_dv M w)) (m0 := M) (v_dear hM hMw) (hM.2.1)) p_Em.l ke_X4_dear wd_l_L_90 (by decide) hI hX hS rfl hl.1 rfl (Nat.le_of_ble_eq_true rfl) dL_sees_304 (by first | decide | omega | (dsimp only; omega)) (fun H locs hI hS => ?_)
                      replace hI : p_J G xa xb Z (M, M) H := hI
                      refine lv_if_ne (tgt := 314) hx hb dL_sees_307 (by decide) (fun c307 => ?_) (fun c307 => ?_)
                      · skip
                        exact absurd m6 c307
                      · skip
                        refine lv_iconst (v := 1) hx hb dL_sees_310 (by decide) ?_
                        refine lv_goto (tgt := 315) hx hb dL_sees_311 (by decide) ?_
                        exact p_zret hx hb hr hlk hI hS (by first | decide | omega | (dsimp only; omega)) (by first | decide | omega | (dsimp only; omega)) (by decide) (⟨rfl, M, rfl, hM, Nat.le_of_eq hMK⟩) dL_sees_315
      · skip
        exact absurd c124 (by decide)
    · skip
      obtain ⟨M, hS9, hM, hMK, hMW, m1, m2, m3, m4⟩ := se_n hL hca hw hd hq hn hC
      have hMw : w < sp_W M := by rw [hMW]; exact hw
      refine lv_aload_n hx hb dL_sees_94 rfl (lv_at hl 8 rfl) ?_
      refine lv_aload_n hx hb dL_sees_95 rfl (lv_at hl 9 rfl) ?_
      refine lv_bipush (v := 17) hx hb dL_sees_96 (by decide) ?_
      refine lv_iload_n hx hb dL_sees_98 rfl (lv_at hl 7 rfl) ?_
      refine lv_iload hx hb dL_sees_99 (lv_at hl 6 rfl) ?_
      refine lv_sipush (v := 128) hx hb dL_sees_101 (by decide) ?_
      refine lv_iload hx hb dL_sees_104 (lv_at hl 5 rfl) ?_
      refine lv_iconst (v := 2) hx hb dL_sees_106 (by decide) ?_
      refine lv_iadd hx hb dL_sees_107 ?_
      refine bo_to (v := (nI (d + 2))) (nI_add d 2) ?_
      refine lv_imul hx hb dL_sees_108 ?_
      refine bo_to (v := (nI (128 * (d + 2)))) (pk_mul 128 (d + 2)) ?_
      refine lv_iload hx hb dL_sees_109 (lv_at hl 4 rfl) ?_
      refine lv_iadd hx hb dL_sees_111 ?_
      refine bo_to (v := (nI (128 * (d + 2) + q))) (nI_add _ _) ?_
      refine lv_bipush (v := 8) hx hb dL_sees_112 (by decide) ?_
      refine lv_iadd hx hb dL_sees_114 ?_
      have ea1 : nI (128 * (d + 2) + q + 8) / 128 - 2 = nI d := by
        rw [show (128 : Int32) = nI 128 from rfl, pk_div (by omega) (by decide) (by decide), show (2 : Int32) = nI 2 from rfl, pk_sub (by omega)]; congr 1; omega
      have ea2 : nI (128 * (d + 2) + q + 8) - nI (128 * (d + 2) + q + 8) / 128 * 128 - 8 = nI q := by
        rw [show (128 : Int32) = nI 128 from rfl, pk_rem (by omega) (by decide) (by decide), show (8 : Int32) = nI 8 from rfl, pk_sub (by omega)]; congr 1; omega
      refine bo_to (v := (nI (128 * (d + 2) + q + 8))) (nI_add _ 8) ?_
      refine p_iSk (mc1 := 8) (ms1 := 38) (fr := 12) (lo := 239) (n := 6) (As := [.ref xa, .ref xb, .int 17, .int (nI ca), .int (nI w), .int (nI (128 * (d + 2) + q + 8))]) (rest := []) hF (m_both (mc := 4) (ms := 19) (p_cv (nm := k_n3) (sp := sp_see mm (nI ca) (nI w) ((nI (128 * (d + 2) + q + 8)) / 128 - 2) (((nI (128 * (d + 2) + q + 8)) - (nI (128 * (d + 2) + q + 8)) / 128 * 128) - 8)) (cl_ok ((by rw [ea1, ea2]; exact hS9)) (hM.2.1)) (m_call (fun Z ad h => by rw [← h]; exact m_does_17 l hflag G Z ad mm (nI ca) (nI w) (nI (128 * (d + 2) + q + 8)) hL.1 hK1) (Or.inl rfl))) (p_cv (nm := k_n3) (sp := sp_see mm (nI ca) (nI w) ((nI (128 * (d + 2) + q + 8)) / 128 - 2) (((nI (128 * (d + 2) + q + 8)) - (nI (128 * (d + 2) + q + 8)) / 128 * 128) - 8)) (cl_ok ((by rw [ea1, ea2]; exact hS9)) (hM.2.1)) (m_call (fun Z ad h => by rw [← h]; exact m_does_17 l hflag G Z ad mm (nI ca) (nI w) (nI (128 * (d + 2) + q + 8)) hL.1 hK1) (Or.inl rfl)))) p_Em.id ke_L_both wd_l_L_147 (by decide) hI hX hS rfl hl.1 rfl (Nat.le_of_ble_eq_true rfl) dL_sees_115 (by first | decide | omega | (dsimp only; omega)) (fun H locs hI hS => ?_)
      replace hI : p_J G xa xb Z (M, M) H := hI
      refine lv_istore (lv' := [(11, .int 0), (10, .int (kd mm w)), (9, .int (td mm w)), (8, .int (sp_dc mm w)), (7, .int (mm 7 w)), (6, .int (nI q)), (5, .int (nI d)), (4, .int (nI w)), (3, .int (nI ca)), (0, .ref xa), (1, .ref xb), (2, .int a0)]) hx hb dL_sees_118 hl (by decide) rfl (fun ls hl => ?_)
      refine lv_iload hx hb dL_sees_120 (lv_at hl 0 rfl) ?_
      refine lv_ldc (v := -2100000003) hx hb hF.2.2.2.1 (hF.2.2.2.2 _ wd_x23) dL_sees_122 ?_
      refine lv_icmp_ne (tgt := 234) hx hb dL_sees_124 (by decide) (fun c124 => ?_) (fun c124 => ?_)
      · skip
        refine lv_iload hx hb dL_sees_234 (lv_at hl 0 rfl) ?_
        refine lv_iconst (v := 1) hx hb dL_sees_236 (by decide) ?_
        refine lv_icmp_ne (tgt := 316) hx hb dL_sees_237 (by decide) (fun c237 => ?_) (fun c237 => ?_)
        · skip
          refine lv_iload hx hb dL_sees_316 (lv_at hl 0 rfl) ?_
          refine lv_if_ne (tgt := 384) hx hb dL_sees_318 (by decide) (fun c318 => ?_) (fun c318 => ?_)
          · skip
            exact absurd c318 (by decide)
          · skip
            refine lv_aload_n hx hb dL_sees_321 rfl (lv_at hl 9 rfl) ?_
            refine lv_iload hx hb dL_sees_322 (lv_at hl 7 rfl) ?_
            refine p_iVk (fr := 7) (lo := 111) (mc1 := 1) (ms1 := 6) (n := 1) (As := [.int (nI w)]) (rest := []) hF (pv_versions l hflag G xa M (nI w) hM.1 (r0 := (M 7 w)) (m0 := M) (v_of hM hMw) (hM.2.1)) p_Em.l ke_X4_versions wd_l_L_49 (by decide) hI hX hS rfl hl.1 rfl (Nat.le_of_ble_eq_true rfl) dL_sees_324 (by first | decide | omega | (dsimp only; omega)) (fun H locs hI hS => ?_)
            replace hI : p_J G xa xb Z (M, M) H := hI
            refine lv_iload hx hb dL_sees_327 (lv_at hl 4 rfl) ?_
            refine lv_icmp_ne (tgt := 384) hx hb dL_sees_329 (by decide) (fun c329 => ?_) (fun c329 => ?_)
            · skip
              exact absurd m1 c329
            · skip
              refine lv_aload_n hx hb dL_sees_332 rfl (lv_at hl 9 rfl) ?_
              refine lv_iload hx hb dL_sees_333 (lv_at hl 7 rfl) ?_
              refine p_iVk (fr := 7) (lo := 111) (mc1 := 1) (ms1 := 6) (n := 1) (As := [.int (nI w)]) (rest := []) hF (pv_sightings l hflag G xa M (nI w) hM.1 (r0 := (sp_dc M w)) (m0 := M) (v_sgt hM hMw) (hM.2.1)) p_Em.l ke_X4_sightings wd_l_L_87 (by decide) hI hX hS rfl hl.1 rfl (Nat.le_of_ble_eq_true rfl) dL_sees_335 (by first | decide | omega | (dsimp only; omega)) (fun H locs hI hS => ?_)
              replace hI : p_J G xa xb Z (M, M) H := hI
              refine lv_if_le (tgt := 384) hx hb dL_sees_338 (by decide) (fun c338 => ?_) (fun c338 => ?_)
              · skip
                exact absurd m2 (bo_nlt c338)
              · skip
                refine lv_aload_n hx hb dL_sees_341 rfl (lv_at hl 9 rfl) ?_
                refine lv_iload hx hb dL_sees_342 (lv_at hl 7 rfl) ?_
                refine p_iVk (fr := 7) (lo := 111) (mc1 := 1) (ms1 := 6) (n := 1) (As := [.int (nI w)]) (rest := []) hF (pv_sightings l hflag G xa M (nI w) hM.1 (r0 := (sp_dc M w)) (m0 := M) (v_sgt hM hMw) (hM.2.1)) p_Em.l ke_X4_sightings wd_l_L_87 (by decide) hI hX hS rfl hl.1 rfl (Nat.le_of_ble_eq_true rfl) dL_sees_344 (by first | decide | omega | (dsimp only; omega)) (fun H locs hI hS => ?_)
                replace hI : p_J G xa xb Z (M, M) H := hI
                refine lv_iload hx hb dL_sees_347 (lv_at hl 3 rfl) ?_
                refine lv_iconst (v := 1) hx hb dL_sees_349 (by decide) ?_
                refine lv_iadd hx hb dL_sees_350 ?_
                refine lv_icmp_gt (tgt := 384) hx hb dL_sees_351 (by decide) (fun c351 => ?_) (fun c351 => ?_)
                · skip
                  exact absurd c351 (bo_nlt m3)
                · skip
                  refine lv_iload hx hb dL_sees_354 (lv_at hl 6 rfl) ?_
                  refine lv_iload hx hb dL_sees_356 (lv_at hl 2 rfl) ?_
                  refine lv_icmp_eq (tgt := 380) hx hb dL_sees_358 (by decide) (fun c358 => ?_) (fun c358 => ?_)
                  · skip
                    refine lv_iconst (v := 1) hx hb dL_sees_380 (by decide) ?_
                    refine lv_goto (tgt := 385) hx hb dL_sees_381 (by decide) ?_
                    exact p_zret hx hb hr hlk hI hS (by first | decide | omega | (dsimp only; omega)) (by first | decide | omega | (dsimp only; omega)) (by decide) (⟨rfl, M, rfl, hM, by rw [hMK]; exact Nat.le_succ _⟩) dL_sees_385
                  · skip
                    refine lv_aload_n hx hb dL_sees_361 rfl (lv_at hl 9 rfl) ?_
                    refine lv_iload hx hb dL_sees_362 (lv_at hl 7 rfl) ?_
                    refine p_iVk (fr := 7) (lo := 111) (mc1 := 1) (ms1 := 6) (n := 1) (As := [.int (nI w)]) (rest := []) hF (pv_dear l hflag G xa M (nI w) hM.1 (r0 := (sp_dv M w)) (m0 := M) (v_dear hM hMw) (hM.2.1)) p_Em.l ke_X4_dear wd_l_L_90 (by decide) hI hX hS rfl hl.1 rfl (Nat.le_of_ble_eq_true rfl) dL_sees_364 (by first | decide | omega | (dsimp only; omega)) (fun H locs hI hS => ?_)
                    replace hI : p_J G xa xb Z (M, M) H := hI
                    refine lv_bipush (v := 100) hx hb dL_sees_367 (by decide) ?_
                    refine lv_iload hx hb dL_sees_369 (lv_at hl 5 rfl) ?_
                    refine lv_isub hx hb dL_sees_371 ?_
                    refine lv_iload hx hb dL_sees_372 (lv_at hl 1 rfl) ?_
                    refine lv_iconst (v := 1) hx hb dL_sees_374 (by decide) ?_
                    refine lv_iadd hx hb dL_sees_375 ?_
                    refine lv_imul hx hb dL_sees_376 ?_
                    refine lv_icmp_lt (tgt := 384) hx hb dL_sees_377 (by decide) (fun c377 => ?_) (fun c377 => ?_)
                    · skip
                      exact absurd c377 (bo_nlt (m4 (fun z => c358 z.symm)))
                    · skip
                      refine lv_iconst (v := 1) hx hb dL_sees_380 (by decide) ?_
                      refine lv_goto (tgt := 385) hx hb dL_sees_381 (by decide) ?_
                      exact p_zret hx hb hr hlk hI hS (by first | decide | omega | (dsimp only; omega)) (by first | decide | omega | (dsimp only; omega)) (by decide) (⟨rfl, M, rfl, hM, by rw [hMK]; exact Nat.le_succ _⟩) dL_sees_385
        · skip
          exact absurd c237 (by decide)
      · skip
        exact absurd c124 (by decide)
  · skip
    refine lv_aload_n hx hb dL_sees_94 rfl (lv_at hl 8 rfl) ?_
    refine lv_aload_n hx hb dL_sees_95 rfl (lv_at hl 9 rfl) ?_
    refine lv_bipush (v := 17) hx hb dL_sees_96 (by decide) ?_
    refine lv_iload_n hx hb dL_sees_98 rfl (lv_at hl 7 rfl) ?_
    refine lv_iload hx hb dL_sees_99 (lv_at hl 6 rfl) ?_
    refine lv_sipush (v := 128) hx hb dL_sees_101 (by decide) ?_
    refine lv_iload hx hb dL_sees_104 (lv_at hl 5 rfl) ?_
    refine lv_iconst (v := 2) hx hb dL_sees_106 (by decide) ?_
    refine lv_iadd hx hb dL_sees_107 ?_
    refine bo_to (v := (nI (d + 2))) (nI_add d 2) ?_
    refine lv_imul hx hb dL_sees_108 ?_
    refine bo_to (v := (nI (128 * (d + 2)))) (pk_mul 128 (d + 2)) ?_
    refine lv_iload hx hb dL_sees_109 (lv_at hl 4 rfl) ?_
    refine lv_iadd hx hb dL_sees_111 ?_
    refine bo_to (v := (nI (128 * (d + 2) + q))) (nI_add _ _) ?_
    refine lv_bipush (v := 8) hx hb dL_sees_112 (by decide) ?_
    refine lv_iadd hx hb dL_sees_114 ?_
    have ea1 : nI (128 * (d + 2) + q + 8) / 128 - 2 = nI d := by
      rw [show (128 : Int32) = nI 128 from rfl, pk_div (by omega) (by decide) (by decide), show (2 : Int32) = nI 2 from rfl, pk_sub (by omega)]; congr 1; omega
    have ea2 : nI (128 * (d + 2) + q + 8) - nI (128 * (d + 2) + q + 8) / 128 * 128 - 8 = nI q := by
      rw [show (128 : Int32) = nI 128 from rfl, pk_rem (by omega) (by decide) (by decide), show (8 : Int32) = nI 8 from rfl, pk_sub (by omega)]; congr 1; omega
    refine bo_to (v := (nI (128 * (d + 2) + q + 8))) (nI_add _ 8) ?_
    refine p_iSk (mc1 := 8) (ms1 := 38) (fr := 12) (lo := 239) (n := 6) (As := [.ref xa, .ref xb, .int 17, .int (nI ca), .int (nI w), .int (nI (128 * (d + 2) + q + 8))]) (rest := []) hF (m_both (mc := 4) (ms := 19) (p_cx (nm := k_n3) (sp := sp_see mm (nI ca) (nI w) ((nI (128 * (d + 2) + q + 8)) / 128 - 2) (((nI (128 * (d + 2) + q + 8)) - (nI (128 * (d + 2) + q + 8)) / 128 * 128) - 8)) ((by rw [ea1, ea2, se_at hL hca hw hd hq, if_neg hn])) (by decide) ce3 (m_call (fun Z ad h => by rw [← h]; exact m_does_17 l hflag G Z ad mm (nI ca) (nI w) (nI (128 * (d + 2) + q + 8)) hL.1 hK1) (Or.inl rfl))) (p_cx (nm := k_n3) (sp := sp_see mm (nI ca) (nI w) ((nI (128 * (d + 2) + q + 8)) / 128 - 2) (((nI (128 * (d + 2) + q + 8)) - (nI (128 * (d + 2) + q + 8)) / 128 * 128) - 8)) ((by rw [ea1, ea2, se_at hL hca hw hd hq, if_neg hn])) (by decide) ce3 (m_call (fun Z ad h => by rw [← h]; exact m_does_17 l hflag G Z ad mm (nI ca) (nI w) (nI (128 * (d + 2) + q + 8)) hL.1 hK1) (Or.inl rfl)))) p_Em.id ke_L_both wd_l_L_147 (by decide) hI hX hS rfl hl.1 rfl (Nat.le_of_ble_eq_true rfl) dL_sees_115 (by first | decide | omega | (dsimp only; omega)) (fun H locs hI hS => ?_)
    replace hI : p_J G xa xb Z (mm, mm) H := hI
    refine lv_istore (lv' := [(11, .int (-2100000003)), (10, .int (kd mm w)), (9, .int (td mm w)), (8, .int (sp_dc mm w)), (7, .int (mm 7 w)), (6, .int (nI q)), (5, .int (nI d)), (4, .int (nI w)), (3, .int (nI ca)), (0, .ref xa), (1, .ref xb), (2, .int a0)]) hx hb dL_sees_118 hl (by decide) rfl (fun ls hl => ?_)
    refine lv_iload hx hb dL_sees_120 (lv_at hl 0 rfl) ?_
    refine lv_ldc (v := -2100000003) hx hb hF.2.2.2.1 (hF.2.2.2.2 _ wd_x23) dL_sees_122 ?_
    refine lv_icmp_ne (tgt := 234) hx hb dL_sees_124 (by decide) (fun c124 => ?_) (fun c124 => ?_)
    · skip
      exact absurd rfl c124
    · skip
      refine lv_aload_n hx hb dL_sees_127 rfl (lv_at hl 9 rfl) ?_
      refine lv_iload_n hx hb dL_sees_128 rfl (lv_at hl 8 rfl) ?_
      refine p_iVk (fr := 7) (lo := 118) (mc1 := 1) (ms1 := 6) (n := 1) (As := [.int (nI ca)]) (rest := []) hF (pv_target l hflag G xa mm (nI ca) hL.1 (r0 := (sp_tg mm ca)) (m0 := mm) (v_tar hL hca) (hL.2.1)) p_Em.l ke_X4_target wd_l_L_93 (by decide) hI hX hS rfl hl.1 rfl (Nat.le_of_ble_eq_true rfl) dL_sees_129 (by first | decide | omega | (dsimp only; omega)) (fun H locs hI hS => ?_)
      replace hI : p_J G xa xb Z (mm, mm) H := hI
      refine lv_istore (lv' := [(12, .int (sp_tg mm ca)), (11, .int (-2100000003)), (10, .int (kd mm w)), (9, .int (td mm w)), (8, .int (sp_dc mm w)), (7, .int (mm 7 w)), (6, .int (nI q)), (5, .int (nI d)), (4, .int (nI w)), (3, .int (nI ca)), (0, .ref xa), (1, .ref xb), (2, .int a0)]) hx hb dL_sees_132 hl (by decide) rfl (fun ls hl => ?_)
      rcases tg_dear hL hca with htg | ⟨v, hv, htg, hdv⟩
      · skip
        refine lv_aload_n hx hb dL_sees_134 rfl (lv_at hl 10 rfl) ?_
        refine lv_aload_n hx hb dL_sees_135 rfl (lv_at hl 11 rfl) ?_
        refine lv_bipush (v := 21) hx hb dL_sees_136 (by decide) ?_
        refine lv_iload_n hx hb dL_sees_138 rfl (lv_at hl 9 rfl) ?_
        refine lv_iconst (v := 0) hx hb dL_sees_139 (by decide) ?_
        refine lv_iconst (v := 0) hx hb dL_sees_140 (by decide) ?_
        refine p_iSk (mc1 := 6) (ms1 := 36) (fr := 12) (lo := 239) (n := 6) (As := [.ref xa, .ref xb, .int 21, .int (nI ca), .int 0, .int 0]) (rest := []) hF (m_both (mc := 3) (ms := 18) (p_cx (nm := k_n2) (sp := sp_snd mm (nI ca)) (sn_no hL hca htg) (by decide) cf2 (m_call (fun Z ad h => by rw [← h]; exact m_does_21 l hflag G Z ad mm (nI ca) 0 0 hL.1) (Or.inr rfl))) (p_cx (nm := k_n2) (sp := sp_snd mm (nI ca)) (sn_no hL hca htg) (by decide) cf2 (m_call (fun Z ad h => by rw [← h]; exact m_does_21 l hflag G Z ad mm (nI ca) 0 0 hL.1) (Or.inr rfl)))) p_Em.id ke_L_both wd_l_L_147 (by decide) hI hX hS rfl hl.1 rfl (Nat.le_of_ble_eq_true rfl) dL_sees_141 (by first | decide | omega | (dsimp only; omega)) (fun H locs hI hS => ?_)
        replace hI : p_J G xa xb Z (mm, mm) H := hI
        refine lv_istore (lv' := [(13, .int (-2100000003)), (12, .int (sp_tg mm ca)), (11, .int (-2100000003)), (10, .int (kd mm w)), (9, .int (td mm w)), (8, .int (sp_dc mm w)), (7, .int (mm 7 w)), (6, .int (nI q)), (5, .int (nI d)), (4, .int (nI w)), (3, .int (nI ca)), (0, .ref xa), (1, .ref xb), (2, .int a0)]) hx hb dL_sees_144 hl (by decide) rfl (fun ls hl => ?_)
        refine lv_aload_n hx hb dL_sees_146 rfl (lv_at hl 11 rfl) ?_
        refine lv_iload hx hb dL_sees_147 (lv_at hl 9 rfl) ?_
        refine p_iVk (fr := 7) (lo := 111) (mc1 := 1) (ms1 := 6) (n := 1) (As := [.int (nI w)]) (rest := []) hF (pv_sightings l hflag G xa mm (nI w) hL.1 (r0 := (sp_dc mm w)) (m0 := mm) (v_sgt hL hw) (hL.2.1)) p_Em.l ke_X4_sightings wd_l_L_87 (by decide) hI hX hS rfl hl.1 rfl (Nat.le_of_ble_eq_true rfl) dL_sees_149 (by first | decide | omega | (dsimp only; omega)) (fun H locs hI hS => ?_)
        replace hI : p_J G xa xb Z (mm, mm) H := hI
        refine lv_iload hx hb dL_sees_152 (lv_at hl 5 rfl) ?_
        refine lv_icmp_ne (tgt := 232) hx hb dL_sees_154 (by decide) (fun c154 => ?_) (fun c154 => ?_)
        · skip
          exact absurd rfl c154
        · skip
          refine lv_iload hx hb dL_sees_157 (lv_at hl 1 rfl) ?_
          refine lv_iconst (v := (-1)) hx hb dL_sees_159 (by decide) ?_
          refine lv_icmp_ne (tgt := 201) hx hb dL_sees_160 (by decide) (fun c160 => ?_) (fun c160 => ?_)
          · skip
            exact absurd htg c160
          · skip
            refine lv_iload hx hb dL_sees_163 (lv_at hl 0 rfl) ?_
            refine lv_ldc (v := -2100000003) hx hb hF.2.2.2.1 (hF.2.2.2.2 _ wd_x23) dL_sees_165 ?_
            refine lv_icmp_ne (tgt := 232) hx hb dL_sees_167 (by decide) (fun c167 => ?_) (fun c167 => ?_)
            · skip
              exact absurd rfl c167
            · skip
              refine lv_aload_n hx hb dL_sees_170 rfl (lv_at hl 11 rfl) ?_
              refine lv_aload_n hx hb dL_sees_171 rfl (lv_at hl 12 rfl) ?_
              refine lv_bipush (v := 16) hx hb dL_sees_172 (by decide) ?_
              refine lv_iload_n hx hb dL_sees_174 rfl (lv_at hl 10 rfl) ?_
              refine lv_iload_n hx hb dL_sees_175 rfl (lv_at hl 13 rfl) ?_
              refine lv_iconst (v := 3) hx hb dL_sees_176 (by decide) ?_
              refine lv_ishr hx hb dL_sees_177 ?_
              refine lv_bipush (v := 17) hx hb dL_sees_178 (by decide) ?_
              refine bo_to (v := (nI 17)) (rfl) ?_
              refine rc_S (fr := 0) (lo := 0) (n := 2) (As := [.int (a0 >>> (3 &&& 31)), .int (nI 17)]) (rest := [.int (nI ca), .int 16, .ref xb, .ref xa]) hF (m_some l (a0 >>> (3 &&& 31)) 17 (by decide) (by decide)) ke_L_some wd_l_L_137 (by decide) bl_true (fun _ _ _ => trivial) rfl hl.1 rfl (Nat.le_of_ble_eq_true rfl) dL_sees_180 (by first | decide | omega | (dsimp only; omega)) (fun r hq => ?_)
              obtain ⟨px, hpx, rfl⟩ := hq
              refine lv_iload_n hx hb dL_sees_183 rfl (lv_at hl 13 rfl) ?_
              refine lv_bipush (v := 7) hx hb dL_sees_184 (by decide) ?_
              refine lv_ishr hx hb dL_sees_186 ?_
              refine lv_bipush (v := 17) hx hb dL_sees_187 (by decide) ?_
              refine bo_to (v := (nI 17)) (rfl) ?_
              refine rc_S (fr := 0) (lo := 0) (n := 2) (As := [.int (a0 >>> (7 &&& 31)), .int (nI 17)]) (rest := [.int (nI px), .int (nI ca), .int 16, .ref xb, .ref xa]) hF (m_some l (a0 >>> (7 &&& 31)) 17 (by decide) (by decide)) ke_L_some wd_l_L_137 (by decide) bl_true (fun _ _ _ => trivial) rfl hl.1 rfl (Nat.le_of_ble_eq_true rfl) dL_sees_189 (by first | decide | omega | (dsimp only; omega)) (fun r hq => ?_)
              obtain ⟨py, hpy, rfl⟩ := hq
              obtain ⟨n1, M1, hdr, hn1, hM1, hK2⟩ := gd_at hL hca (Nat.le_of_lt_succ hpx) (Nat.le_of_lt_succ hpy)
              refine p_iSk (mc1 := 4) (ms1 := 24) (fr := 12) (lo := 239) (n := 6) (As := [.ref xa, .ref xb, .int 16, .int (nI ca), .int (nI px), .int (nI py)]) (rest := []) hF (m_both (mc := 2) (ms := 12) (p_cv (nm := k_n3) (sp := sp_drive mm (nI ca) (nI px) (nI py)) (cl_ok (hdr) (hM1.2.1)) (m_call (fun Z ad h => by rw [← h]; exact m_does_16 l hflag G Z ad mm (nI ca) (nI px) (nI py) hL.1) (Or.inl rfl))) (p_cv (nm := k_n3) (sp := sp_drive mm (nI ca) (nI px) (nI py)) (cl_ok (hdr) (hM1.2.1)) (m_call (fun Z ad h => by rw [← h]; exact m_does_16 l hflag G Z ad mm (nI ca) (nI px) (nI py) hL.1) (Or.inl rfl)))) p_Em.id ke_L_both wd_l_L_147 (by decide) hI hX hS rfl hl.1 rfl (Nat.le_of_ble_eq_true rfl) dL_sees_192 (by first | decide | omega | (dsimp only; omega)) (fun H locs hI hS => ?_)
              replace hI : p_J G xa xb Z (M1, M1) H := hI
              refine lv_if_lt (tgt := 232) hx hb dL_sees_195 (by decide) (fun c195 => ?_) (fun c195 => ?_)
              · skip
                exact absurd c195 (nI_pos (by omega))
              · skip
                refine lv_goto (tgt := 228) hx hb dL_sees_198 (by decide) ?_
                refine lv_iconst (v := 1) hx hb dL_sees_228 (by decide) ?_
                refine lv_goto (tgt := 233) hx hb dL_sees_229 (by decide) ?_
                exact p_zret hx hb hr hlk hI hS (by first | decide | omega | (dsimp only; omega)) (by first | decide | omega | (dsimp only; omega)) (by decide) (⟨rfl, _, rfl, hM1, by rw [hK2]; exact Nat.le_succ _⟩) dL_sees_233
      · skip
        have hv40 := hL.1.W40
        obtain ⟨n1, M1, hs1, hn1, hM1, hK2, hW1, hx1⟩ := sn_at hL hca hv htg
        have hv1 : v < sp_W M1 := by rw [hW1]; exact hv
        have hw1 : w < sp_W M1 := by rw [hW1]; exact hw
        have hdv1 : 0 < sp_dv M1 v := by rw [(hx1 v).1]; exact hdv
        have htg1 := tg_some hM1 hca hv1 hdv1
        obtain ⟨v2, hv2, htg2⟩ := (tg_or M1 ca).resolve_left htg1
        obtain ⟨n2, M2, hs2, hn2, hM2, hK3, -⟩ := sn_at hM1 hca hv2 htg2
        refine lv_aload_n hx hb dL_sees_134 rfl (lv_at hl 10 rfl) ?_
        refine lv_aload_n hx hb dL_sees_135 rfl (lv_at hl 11 rfl) ?_
        refine lv_bipush (v := 21) hx hb dL_sees_136 (by decide) ?_
        refine lv_iload_n hx hb dL_sees_138 rfl (lv_at hl 9 rfl) ?_
        refine lv_iconst (v := 0) hx hb dL_sees_139 (by decide) ?_
        refine lv_iconst (v := 0) hx hb dL_sees_140 (by decide) ?_
        refine p_iSk (mc1 := 6) (ms1 := 36) (fr := 12) (lo := 239) (n := 6) (As := [.ref xa, .ref xb, .int 21, .int (nI ca), .int 0, .int 0]) (rest := []) hF (m_both (mc := 3) (ms := 18) (p_cv (nm := k_n2) (sp := sp_snd mm (nI ca)) (cl_ok (hs1) (hM1.2.1)) (m_call (fun Z ad h => by rw [← h]; exact m_does_21 l hflag G Z ad mm (nI ca) 0 0 hL.1) (Or.inr rfl))) (p_cv (nm := k_n2) (sp := sp_snd mm (nI ca)) (cl_ok (hs1) (hM1.2.1)) (m_call (fun Z ad h => by rw [← h]; exact m_does_21 l hflag G Z ad mm (nI ca) 0 0 hL.1) (Or.inr rfl)))) p_Em.id ke_L_both wd_l_L_147 (by decide) hI hX hS rfl hl.1 rfl (Nat.le_of_ble_eq_true rfl) dL_sees_141 (by first | decide | omega | (dsimp only; omega)) (fun H locs hI hS => ?_)
        replace hI : p_J G xa xb Z (M1, M1) H := hI
        refine lv_istore (lv' := [(13, .int (nI n1)), (12, .int (sp_tg mm ca)), (11, .int (-2100000003)), (10, .int (kd mm w)), (9, .int (td mm w)), (8, .int (sp_dc mm w)), (7, .int (mm 7 w)), (6, .int (nI q)), (5, .int (nI d)), (4, .int (nI w)), (3, .int (nI ca)), (0, .ref xa), (1, .ref xb), (2, .int a0)]) hx hb dL_sees_144 hl (by decide) rfl (fun ls hl => ?_)
        refine lv_aload_n hx hb dL_sees_146 rfl (lv_at hl 11 rfl) ?_
        refine lv_iload hx hb dL_sees_147 (lv_at hl 9 rfl) ?_
        refine p_iVk (fr := 7) (lo := 111) (mc1 := 1) (ms1 := 6) (n := 1) (As := [.int (nI w)]) (rest := []) hF (pv_sightings l hflag G xa M1 (nI w) hM1.1 (r0 := (sp_dc M1 w)) (m0 := M1) (v_sgt hM1 hw1) (hM1.2.1)) p_Em.l ke_X4_sightings wd_l_L_87 (by decide) hI hX hS rfl hl.1 rfl (Nat.le_of_ble_eq_true rfl) dL_sees_149 (by first | decide | omega | (dsimp only; omega)) (fun H locs hI hS => ?_)
        replace hI : p_J G xa xb Z (M1, M1) H := hI
        refine lv_iload hx hb dL_sees_152 (lv_at hl 5 rfl) ?_
        refine lv_icmp_ne (tgt := 232) hx hb dL_sees_154 (by decide) (fun c154 => ?_) (fun c154 => ?_)
        · skip
          exact absurd (hx1 w).2 c154
        · skip
          refine lv_iload hx hb dL_sees_157 (lv_at hl 1 rfl) ?_
          refine lv_iconst (v := (-1)) hx hb dL_sees_159 (by decide) ?_
          refine lv_icmp_ne (tgt := 201) hx hb dL_sees_160 (by decide) (fun c160 => ?_) (fun c160 => ?_)
          · skip
            refine lv_iload hx hb dL_sees_201 (lv_at hl 0 rfl) ?_
            refine lv_if_lt (tgt := 232) hx hb dL_sees_203 (by decide) (fun c203 => ?_) (fun c203 => ?_)
            · skip
              exact absurd c203 (nI_pos (by omega))
            · skip
              refine lv_aload_n hx hb dL_sees_206 rfl (lv_at hl 11 rfl) ?_
              refine lv_iload hx hb dL_sees_207 (lv_at hl 1 rfl) ?_
              refine bo_to (v := (nI v)) (htg) ?_
              refine p_iVk (fr := 7) (lo := 111) (mc1 := 1) (ms1 := 6) (n := 1) (As := [.int (nI v)]) (rest := []) hF (pv_dear l hflag G xa M1 (nI v) hM1.1 (r0 := (sp_dv M1 v)) (m0 := M1) (v_dear hM1 hv1) (hM1.2.1)) p_Em.l ke_X4_dear wd_l_L_90 (by decide) hI hX hS rfl hl.1 rfl (Nat.le_of_ble_eq_true rfl) dL_sees_209 (by first | decide | omega | (dsimp only; omega)) (fun H locs hI hS => ?_)
              replace hI : p_J G xa xb Z (M1, M1) H := hI
              refine lv_if_le (tgt := 232) hx hb dL_sees_212 (by decide) (fun c212 => ?_) (fun c212 => ?_)
              · skip
                exact absurd hdv1 (bo_nlt c212)
              · skip
                refine lv_aload_n hx hb dL_sees_215 rfl (lv_at hl 11 rfl) ?_
                refine lv_aload_n hx hb dL_sees_216 rfl (lv_at hl 12 rfl) ?_
                refine lv_bipush (v := 21) hx hb dL_sees_217 (by decide) ?_
                refine lv_iload_n hx hb dL_sees_219 rfl (lv_at hl 10 rfl) ?_
                refine lv_iconst (v := 0) hx hb dL_sees_220 (by decide) ?_
                refine lv_iconst (v := 0) hx hb dL_sees_221 (by decide) ?_
                refine p_iSk (mc1 := 6) (ms1 := 36) (fr := 12) (lo := 239) (n := 6) (As := [.ref xa, .ref xb, .int 21, .int (nI ca), .int 0, .int 0]) (rest := []) hF (m_both (mc := 3) (ms := 18) (p_cv (nm := k_n2) (sp := sp_snd M1 (nI ca)) (cl_ok (hs2) (hM2.2.1)) (m_call (fun Z ad h => by rw [← h]; exact m_does_21 l hflag G Z ad M1 (nI ca) 0 0 hM1.1) (Or.inr rfl))) (p_cv (nm := k_n2) (sp := sp_snd M1 (nI ca)) (cl_ok (hs2) (hM2.2.1)) (m_call (fun Z ad h => by rw [← h]; exact m_does_21 l hflag G Z ad M1 (nI ca) 0 0 hM1.1) (Or.inr rfl)))) p_Em.id ke_L_both wd_l_L_147 (by decide) hI hX hS rfl hl.1 rfl (Nat.le_of_ble_eq_true rfl) dL_sees_222 (by first | decide | omega | (dsimp only; omega)) (fun H locs hI hS => ?_)
                replace hI : p_J G xa xb Z (M2, M2) H := hI
                refine lv_if_lt (tgt := 232) hx hb dL_sees_225 (by decide) (fun c225 => ?_) (fun c225 => ?_)
                · skip
                  exact absurd c225 (nI_pos (by omega))
                · skip
                  refine lv_iconst (v := 1) hx hb dL_sees_228 (by decide) ?_
                  refine lv_goto (tgt := 233) hx hb dL_sees_229 (by decide) ?_
                  exact p_zret hx hb hr hlk hI hS (by first | decide | omega | (dsimp only; omega)) (by first | decide | omega | (dsimp only; omega)) (by decide) (⟨rfl, _, rfl, hM2, by rw [hK3, hK2]; exact Nat.le_succ _⟩) dL_sees_233
          · skip
            exact absurd (htg.symm.trans c160) (nI_nm1 (by omega))
set_option maxHeartbeats 1000000 in
set_option maxRecDepth 100000 in
theorem m_sees (l : Launch) (hflag : l.stackTraces = false) (G : k_G) (xa xb : Nat) (mm : q_Mem) (a0 : Int32) (hL : LI mm) (hK1 : sp_K mm < 512) (hW0 : 0 < sp_W mm) : p_Ci l yL_sees (Cond.code yL_sees cL_sees 14 (some .boolean)) 13 275 100 600 G (p_J G xa xb) (mm, mm) [.ref xa, .ref xb, .int a0] (fun v u => v = 1 ∧ ∃ m2, u = (m2, m2) ∧ RD mm m2) (fun _ => False) := by
  refine p_of (by decide) (Nat.le_of_ble_eq_true rfl) ?_
  intro Z p e s m args below meth c hx hb hr hF hlk hI hX ls hl
  have hl : lv_has ls 14 [(0, .ref xa), (1, .ref xb), (2, .int a0)] := hl
  have hS : va_S Z s.heap s.heap [] := va_S.rf
  refine lv_iload_n hx hb dL_sees_0 rfl (lv_at hl 2 rfl) ?_
  refine lv_iconst (v := 3) hx hb dL_sees_1 (by decide) ?_
  refine bo_to (v := (nI 3)) (rfl) ?_
  refine rc_S (fr := 0) (lo := 0) (n := 2) (As := [.int a0, .int (nI 3)]) (rest := []) hF (m_some l a0 3 (by decide) (by decide)) ke_L_some wd_l_L_137 (by decide) bl_true (fun _ _ _ => trivial) rfl hl.1 rfl (Nat.le_of_ble_eq_true rfl) dL_sees_2 (by first | decide | omega | (dsimp only; omega)) (fun r hq => ?_)
  obtain ⟨ca, hca, rfl⟩ := hq
  refine lv_istore_n (lv' := [(3, .int (nI ca)), (0, .ref xa), (1, .ref xb), (2, .int a0)]) hx hb dL_sees_5 rfl hl (by decide) rfl (fun ls hl => ?_)
  refine lv_iload_n hx hb dL_sees_6 rfl (lv_at hl 3 rfl) ?_
  refine lv_iconst (v := 2) hx hb dL_sees_7 (by decide) ?_
  refine lv_ishr hx hb dL_sees_8 ?_
  refine lv_aload_n hx hb dL_sees_9 rfl (lv_at hl 1 rfl) ?_
  refine p_iVk (fr := 1) (lo := 20) (mc1 := 0) (ms1 := 0) (n := 0) (As := []) (rest := [.int (a0 >>> (2 &&& 31))]) hF (pv_ways l G xa mm) p_Em.l ke_X4_ways wd_l_L_108 (by decide) hI hX hS rfl hl.1 rfl (Nat.le_of_ble_eq_true rfl) dL_sees_10 (by first | decide | omega | (dsimp only; omega)) (fun H locs hI hS => ?_)
  replace hI : p_J G xa xb Z (mm, mm) H := hI
  refine bo_to (v := (nI (sp_W mm))) (hL.1.W) ?_
  refine rc_S (fr := 0) (lo := 0) (n := 2) (As := [.int (a0 >>> (2 &&& 31)), .int (nI (sp_W mm))]) (rest := []) hF (m_some l (a0 >>> (2 &&& 31)) (sp_W mm) hW0 (by have := hL.1.W40; omega)) ke_L_some wd_l_L_137 (by decide) bl_true (fun _ _ _ => trivial) rfl hl.1 rfl (Nat.le_of_ble_eq_true rfl) dL_sees_13 (by first | decide | omega | (dsimp only; omega)) (fun r hq => ?_)
  obtain ⟨w, hw, rfl⟩ := hq
  refine lv_istore (lv' := [(4, .int (nI w)), (3, .int (nI ca)), (0, .ref xa), (1, .ref xb), (2, .int a0)]) hx hb dL_sees_16 hl (by decide) rfl (fun ls hl => ?_)
  refine lv_iload_n hx hb dL_sees_18 rfl (lv_at hl 4 rfl) ?_
  refine lv_bipush (v := 6) hx hb dL_sees_19 (by decide) ?_
  refine lv_ishr hx hb dL_sees_21 ?_
  refine lv_iconst (v := 3) hx hb dL_sees_22 (by decide) ?_
  refine bo_to (v := (nI 3)) (rfl) ?_
  refine rc_S (fr := 0) (lo := 0) (n := 2) (As := [.int (a0 >>> (6 &&& 31)), .int (nI 3)]) (rest := []) hF (m_some l (a0 >>> (6 &&& 31)) 3 (by decide) (by decide)) ke_L_some wd_l_L_137 (by decide) bl_true (fun _ _ _ => trivial) rfl hl.1 rfl (Nat.le_of_ble_eq_true rfl) dL_sees_23 (by first | decide | omega | (dsimp only; omega)) (fun r hq => ?_)
  obtain ⟨d, hd, rfl⟩ := hq
  refine lv_istore (lv' := [(5, .int (nI d)), (4, .int (nI w)), (3, .int (nI ca)), (0, .ref xa), (1, .ref xb), (2, .int a0)]) hx hb dL_sees_26 hl (by decide) rfl (fun ls hl => ?_)
  refine lv_iload_n hx hb dL_sees_28 rfl (lv_at hl 5 rfl) ?_
  refine lv_bipush (v := 8) hx hb dL_sees_29 (by decide) ?_
  refine lv_ishr hx hb dL_sees_31 ?_
  refine lv_iconst (v := 2) hx hb dL_sees_32 (by decide) ?_
  refine bo_to (v := (nI 2)) (rfl) ?_
  refine rc_S (fr := 0) (lo := 0) (n := 2) (As := [.int (a0 >>> (8 &&& 31)), .int (nI 2)]) (rest := []) hF (m_some l (a0 >>> (8 &&& 31)) 2 (by decide) (by decide)) ke_L_some wd_l_L_137 (by decide) bl_true (fun _ _ _ => trivial) rfl hl.1 rfl (Nat.le_of_ble_eq_true rfl) dL_sees_33 (by first | decide | omega | (dsimp only; omega)) (fun r hq => ?_)
  obtain ⟨j0, hj0, rfl⟩ := hq
  refine lv_if_ne (tgt := 51) hx hb dL_sees_36 (by decide) (fun c36 => ?_) (fun c36 => ?_)
  · skip
    refine lv_iload_n hx hb dL_sees_51 rfl (lv_at hl 5 rfl) ?_
    refine lv_bipush (v := 9) hx hb dL_sees_52 (by decide) ?_
    refine lv_ishr hx hb dL_sees_54 ?_
    refine lv_bipush (v := 100) hx hb dL_sees_55 (by decide) ?_
    refine bo_to (v := (nI 100)) (rfl) ?_
    refine rc_S (fr := 0) (lo := 0) (n := 2) (As := [.int (a0 >>> (9 &&& 31)), .int (nI 100)]) (rest := []) hF (m_some l (a0 >>> (9 &&& 31)) 100 (by decide) (by decide)) ke_L_some wd_l_L_137 (by decide) bl_true (fun _ _ _ => trivial) rfl hl.1 rfl (Nat.le_of_ble_eq_true rfl) dL_sees_57 (by first | decide | omega | (dsimp only; omega)) (fun r hq => ?_)
    obtain ⟨q, hq, rfl⟩ := hq
    refine W.widen (k := 0) (n := 0) (by first | decide | omega | (dsimp only; omega)) (by first | decide | omega | (dsimp only; omega)) ?_
    exact m_sees_b l hflag G xa xb mm a0 ca w d q hL hK1 hca hw hd hq Z hx hb hr hF hlk hX _ _ _ hI hS (lv_sub hl [0, 1, 2, 3, 4, 5] rfl)
  · skip
    refine lv_iload_n hx hb dL_sees_39 rfl (lv_at hl 5 rfl) ?_
    refine lv_bipush (v := 9) hx hb dL_sees_40 (by decide) ?_
    refine lv_ishr hx hb dL_sees_42 ?_
    refine lv_bipush (v := 50) hx hb dL_sees_43 (by decide) ?_
    refine bo_to (v := (nI 50)) (rfl) ?_
    refine rc_S (fr := 0) (lo := 0) (n := 2) (As := [.int (a0 >>> (9 &&& 31)), .int (nI 50)]) (rest := []) hF (m_some l (a0 >>> (9 &&& 31)) 50 (by decide) (by decide)) ke_L_some wd_l_L_137 (by decide) bl_true (fun _ _ _ => trivial) rfl hl.1 rfl (Nat.le_of_ble_eq_true rfl) dL_sees_45 (by first | decide | omega | (dsimp only; omega)) (fun r hq => ?_)
    obtain ⟨q, hq, rfl⟩ := hq
    refine lv_goto (tgt := 60) hx hb dL_sees_48 (by decide) ?_
    refine W.widen (k := 0) (n := 0) (by first | decide | omega | (dsimp only; omega)) (by first | decide | omega | (dsimp only; omega)) ?_
    exact m_sees_b l hflag G xa xb mm a0 ca w d q hL hK1 hca hw hd (Nat.lt_of_lt_of_le hq (by decide)) Z hx hb hr hF hlk hX _ _ _ hI hS (lv_sub hl [0, 1, 2, 3, 4, 5] rfl)
theorem ke_L_sees : wl_S yL_sees cL_sees 14 (some .boolean) 3 := ⟨wd_c_L_sees, wd_t_L_sees, wd_n_L, by decide, by decide +kernel⟩
