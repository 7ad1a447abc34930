/-! ===== edits ===== -/
section
variable {p : Program} {l : Launch} {e : Env} {R : Room} {s : State} {m : MethodId} {args : Array Value} {below : List Frame} {meth : Method} {c : Code} {H : Heap} {locs : List Loc} {cells slots : Nat} {Q : State → Prop} {g : JFrame}
theorem p_join {T : Nat} {st1 : List Value} (J : Heap → List Loc → Array Slot → Prop) (c1 s1 : Nat) (k : ∀ (H1 : Heap) (locs1 : List Loc) (ls1 : Array Slot), J H1 locs1 ls1 → W p l e R s m args below meth c H1 locs1 c1 s1 Q (F0 m T ls1 st1)) (j : (∀ (H1 : Heap) (locs1 : List Loc) (ls1 : Array Slot), J H1 locs1 ls1 → W p l e R s m args below meth c H1 locs1 c1 s1 Q (F0 m T ls1 st1)) → W p l e R s m args below meth c H locs cells slots Q g) : W p l e R s m args below meth c H locs cells slots Q g := j k
end
theorem dL_edits_0 : decode cL_edits 0 = .ok (.iload_n 2, 1) := by decide +kernel
theorem dL_edits_1 : decode cL_edits 1 = .ok (.bipush 6, 2) := by decide +kernel
theorem dL_edits_3 : decode cL_edits 3 = .ok (.invokestatic 137, 3) := by decide +kernel
theorem dL_edits_6 : decode cL_edits 6 = .ok (.istore_n 3, 1) := by decide +kernel
theorem dL_edits_7 : decode cL_edits 7 = .ok (.iload_n 2, 1) := by decide +kernel
theorem dL_edits_8 : decode cL_edits 8 = .ok (.iconst 3, 1) := by decide +kernel
theorem dL_edits_9 : decode cL_edits 9 = .ok (.ishr, 1) := by decide +kernel
theorem dL_edits_10 : decode cL_edits 10 = .ok (.aload_n 0, 1) := by decide +kernel
theorem dL_edits_11 : decode cL_edits 11 = .ok (.invokevirtual 108, 3) := by decide +kernel
theorem dL_edits_14 : decode cL_edits 14 = .ok (.invokestatic 137, 3) := by decide +kernel
theorem dL_edits_17 : decode cL_edits 17 = .ok (.istore 4, 2) := by decide +kernel
theorem dL_edits_19 : decode cL_edits 19 = .ok (.iload_n 2, 1) := by decide +kernel
theorem dL_edits_20 : decode cL_edits 20 = .ok (.bipush 6, 2) := by decide +kernel
theorem dL_edits_22 : decode cL_edits 22 = .ok (.ishr, 1) := by decide +kernel
theorem dL_edits_23 : decode cL_edits 23 = .ok (.iconst 4, 1) := by decide +kernel
theorem dL_edits_24 : decode cL_edits 24 = .ok (.invokestatic 137, 3) := by decide +kernel
theorem dL_edits_27 : decode cL_edits 27 = .ok (.istore 5, 2) := by decide +kernel
theorem dL_edits_29 : decode cL_edits 29 = .ok (.iload_n 2, 1) := by decide +kernel
theorem dL_edits_30 : decode cL_edits 30 = .ok (.bipush 8, 2) := by decide +kernel
theorem dL_edits_32 : decode cL_edits 32 = .ok (.ishr, 1) := by decide +kernel
theorem dL_edits_33 : decode cL_edits 33 = .ok (.iconst 3, 1) := by decide +kernel
theorem dL_edits_34 : decode cL_edits 34 = .ok (.invokestatic 137, 3) := by decide +kernel
theorem dL_edits_37 : decode cL_edits 37 = .ok (.istore 6, 2) := by decide +kernel
theorem dL_edits_39 : decode cL_edits 39 = .ok (.aload_n 0, 1) := by decide +kernel
theorem dL_edits_40 : decode cL_edits 40 = .ok (.iload 4, 2) := by decide +kernel
theorem dL_edits_42 : decode cL_edits 42 = .ok (.invokestatic 140, 3) := by decide +kernel
theorem dL_edits_45 : decode cL_edits 45 = .ok (.iload 5, 2) := by decide +kernel
theorem dL_edits_47 : decode cL_edits 47 = .ok (.if_icmp .ne 18, 3) := by decide +kernel
theorem dL_edits_50 : decode cL_edits 50 = .ok (.aload_n 0, 1) := by decide +kernel
theorem dL_edits_51 : decode cL_edits 51 = .ok (.iload 4, 2) := by decide +kernel
theorem dL_edits_53 : decode cL_edits 53 = .ok (.invokestatic 144, 3) := by decide +kernel
theorem dL_edits_56 : decode cL_edits 56 = .ok (.iload 6, 2) := by decide +kernel
theorem dL_edits_58 : decode cL_edits 58 = .ok (.if_icmp .ne 7, 3) := by decide +kernel
theorem dL_edits_61 : decode cL_edits 61 = .ok (.iconst 1, 1) := by decide +kernel
theorem dL_edits_62 : decode cL_edits 62 = .ok (.goto 4, 3) := by decide +kernel
theorem dL_edits_65 : decode cL_edits 65 = .ok (.iconst 0, 1) := by decide +kernel
theorem dL_edits_66 : decode cL_edits 66 = .ok (.istore 7, 2) := by decide +kernel
theorem dL_edits_68 : decode cL_edits 68 = .ok (.aload_n 0, 1) := by decide +kernel
theorem dL_edits_69 : decode cL_edits 69 = .ok (.aload_n 1, 1) := by decide +kernel
theorem dL_edits_70 : decode cL_edits 70 = .ok (.iconst 4, 1) := by decide +kernel
theorem dL_edits_71 : decode cL_edits 71 = .ok (.iload 4, 2) := by decide +kernel
theorem dL_edits_73 : decode cL_edits 73 = .ok (.iconst 0, 1) := by decide +kernel
theorem dL_edits_74 : decode cL_edits 74 = .ok (.iconst 0, 1) := by decide +kernel
theorem dL_edits_75 : decode cL_edits 75 = .ok (.invokestatic 147, 3) := by decide +kernel
theorem dL_edits_78 : decode cL_edits 78 = .ok (.istore 8, 2) := by decide +kernel
theorem dL_edits_80 : decode cL_edits 80 = .ok (.iload 8, 2) := by decide +kernel
theorem dL_edits_82 : decode cL_edits 82 = .ok (.ifCond .lt 21, 3) := by decide +kernel
theorem dL_edits_85 : decode cL_edits 85 = .ok (.aload_n 0, 1) := by decide +kernel
theorem dL_edits_86 : decode cL_edits 86 = .ok (.aload_n 1, 1) := by decide +kernel
theorem dL_edits_87 : decode cL_edits 87 = .ok (.iconst 4, 1) := by decide +kernel
theorem dL_edits_88 : decode cL_edits 88 = .ok (.iload 4, 2) := by decide +kernel
theorem dL_edits_90 : decode cL_edits 90 = .ok (.iload 8, 2) := by decide +kernel
theorem dL_edits_92 : decode cL_edits 92 = .ok (.iconst 0, 1) := by decide +kernel
theorem dL_edits_93 : decode cL_edits 93 = .ok (.invokestatic 147, 3) := by decide +kernel
theorem dL_edits_96 : decode cL_edits 96 = .ok (.ifCond .ne 7, 3) := by decide +kernel
theorem dL_edits_99 : decode cL_edits 99 = .ok (.iconst 1, 1) := by decide +kernel
theorem dL_edits_100 : decode cL_edits 100 = .ok (.goto 4, 3) := by decide +kernel
theorem dL_edits_104 : decode cL_edits 104 = .ok (.istore 9, 2) := by decide +kernel
theorem dL_edits_106 : decode cL_edits 106 = .ok (.aload_n 0, 1) := by decide +kernel
theorem dL_edits_107 : decode cL_edits 107 = .ok (.iload 4, 2) := by decide +kernel
theorem dL_edits_109 : decode cL_edits 109 = .ok (.invokevirtual 49, 3) := by decide +kernel
theorem dL_edits_112 : decode cL_edits 112 = .ok (.istore 10, 2) := by decide +kernel
theorem dL_edits_114 : decode cL_edits 114 = .ok (.aload_n 0, 1) := by decide +kernel
theorem dL_edits_115 : decode cL_edits 115 = .ok (.invokevirtual 102, 3) := by decide +kernel
theorem dL_edits_118 : decode cL_edits 118 = .ok (.istore 11, 2) := by decide +kernel
theorem dL_edits_120 : decode cL_edits 120 = .ok (.aload_n 0, 1) := by decide +kernel
theorem dL_edits_121 : decode cL_edits 121 = .ok (.invokestatic 151, 3) := by decide +kernel
theorem dL_edits_124 : decode cL_edits 124 = .ok (.lstore 12, 2) := by decide +kernel
theorem dL_edits_126 : decode cL_edits 126 = .ok (.aload_n 0, 1) := by decide +kernel
theorem dL_edits_127 : decode cL_edits 127 = .ok (.aload_n 1, 1) := by decide +kernel
theorem dL_edits_128 : decode cL_edits 128 = .ok (.iconst 1, 1) := by decide +kernel
theorem dL_edits_129 : decode cL_edits 129 = .ok (.iload_n 3, 1) := by decide +kernel
theorem dL_edits_130 : decode cL_edits 130 = .ok (.iload 4, 2) := by decide +kernel
theorem dL_edits_132 : decode cL_edits 132 = .ok (.bipush 16, 2) := by decide +kernel
theorem dL_edits_134 : decode cL_edits 134 = .ok (.iload 5, 2) := by decide +kernel
theorem dL_edits_136 : decode cL_edits 136 = .ok (.iconst 2, 1) := by decide +kernel
theorem dL_edits_137 : decode cL_edits 137 = .ok (.iadd, 1) := by decide +kernel
theorem dL_edits_138 : decode cL_edits 138 = .ok (.imul, 1) := by decide +kernel
theorem dL_edits_139 : decode cL_edits 139 = .ok (.iload 6, 2) := by decide +kernel
theorem dL_edits_141 : decode cL_edits 141 = .ok (.iadd, 1) := by decide +kernel
theorem dL_edits_142 : decode cL_edits 142 = .ok (.iconst 2, 1) := by decide +kernel
theorem dL_edits_143 : decode cL_edits 143 = .ok (.iadd, 1) := by decide +kernel
theorem dL_edits_144 : decode cL_edits 144 = .ok (.invokestatic 147, 3) := by decide +kernel
theorem dL_edits_147 : decode cL_edits 147 = .ok (.istore 14, 2) := by decide +kernel
theorem dL_edits_149 : decode cL_edits 149 = .ok (.iload 7, 2) := by decide +kernel
theorem dL_edits_151 : decode cL_edits 151 = .ok (.ifCond .eq 31, 3) := by decide +kernel
theorem dL_edits_154 : decode cL_edits 154 = .ok (.iload 9, 2) := by decide +kernel
theorem dL_edits_156 : decode cL_edits 156 = .ok (.ifCond .eq 24, 3) := by decide +kernel
theorem dL_edits_159 : decode cL_edits 159 = .ok (.iload 14, 2) := by decide +kernel
theorem dL_edits_161 : decode cL_edits 161 = .ok (.ldc 23, 2) := by decide +kernel
theorem dL_edits_163 : decode cL_edits 163 = .ok (.if_icmp .ne 17, 3) := by decide +kernel
theorem dL_edits_166 : decode cL_edits 166 = .ok (.aload_n 0, 1) := by decide +kernel
theorem dL_edits_167 : decode cL_edits 167 = .ok (.invokestatic 151, 3) := by decide +kernel
theorem dL_edits_170 : decode cL_edits 170 = .ok (.lload 12, 2) := by decide +kernel
theorem dL_edits_172 : decode cL_edits 172 = .ok (.lcmp, 1) := by decide +kernel
theorem dL_edits_173 : decode cL_edits 173 = .ok (.ifCond .ne 7, 3) := by decide +kernel
theorem dL_edits_176 : decode cL_edits 176 = .ok (.iconst 1, 1) := by decide +kernel
theorem dL_edits_177 : decode cL_edits 177 = .ok (.goto 4, 3) := by decide +kernel
theorem dL_edits_181 : decode cL_edits 181 = .ok (.ireturn, 1) := by decide +kernel
theorem dL_edits_182 : decode cL_edits 182 = .ok (.iload 14, 2) := by decide +kernel
theorem dL_edits_184 : decode cL_edits 184 = .ok (.ifCond .ne 68, 3) := by decide +kernel
theorem dL_edits_187 : decode cL_edits 187 = .ok (.iload 9, 2) := by decide +kernel
theorem dL_edits_189 : decode cL_edits 189 = .ok (.ifCond .eq 61, 3) := by decide +kernel
theorem dL_edits_192 : decode cL_edits 192 = .ok (.aload_n 0, 1) := by decide +kernel
theorem dL_edits_193 : decode cL_edits 193 = .ok (.iload_n 3, 1) := by decide +kernel
theorem dL_edits_194 : decode cL_edits 194 = .ok (.invokevirtual 45, 3) := by decide +kernel
theorem dL_edits_197 : decode cL_edits 197 = .ok (.iload 8, 2) := by decide +kernel
theorem dL_edits_199 : decode cL_edits 199 = .ok (.if_icmp .ge 51, 3) := by decide +kernel
theorem dL_edits_202 : decode cL_edits 202 = .ok (.aload_n 0, 1) := by decide +kernel
theorem dL_edits_203 : decode cL_edits 203 = .ok (.iload 4, 2) := by decide +kernel
theorem dL_edits_205 : decode cL_edits 205 = .ok (.invokevirtual 58, 3) := by decide +kernel
theorem dL_edits_208 : decode cL_edits 208 = .ok (.bipush 100, 2) := by decide +kernel
theorem dL_edits_210 : decode cL_edits 210 = .ok (.iload 5, 2) := by decide +kernel
theorem dL_edits_212 : decode cL_edits 212 = .ok (.imul, 1) := by decide +kernel
theorem dL_edits_213 : decode cL_edits 213 = .ok (.bipush 10, 2) := by decide +kernel
theorem dL_edits_215 : decode cL_edits 215 = .ok (.iload 6, 2) := by decide +kernel
theorem dL_edits_217 : decode cL_edits 217 = .ok (.imul, 1) := by decide +kernel
theorem dL_edits_218 : decode cL_edits 218 = .ok (.iadd, 1) := by decide +kernel
theorem dL_edits_219 : decode cL_edits 219 = .ok (.iload_n 3, 1) := by decide +kernel
theorem dL_edits_220 : decode cL_edits 220 = .ok (.iadd, 1) := by decide +kernel
theorem dL_edits_221 : decode cL_edits 221 = .ok (.iconst 1, 1) := by decide +kernel
theorem dL_edits_222 : decode cL_edits 222 = .ok (.iadd, 1) := by decide +kernel
theorem dL_edits_223 : decode cL_edits 223 = .ok (.if_icmp .ne 27, 3) := by decide +kernel
theorem dL_edits_226 : decode cL_edits 226 = .ok (.aload_n 0, 1) := by decide +kernel
theorem dL_edits_227 : decode cL_edits 227 = .ok (.iload 4, 2) := by decide +kernel
theorem dL_edits_229 : decode cL_edits 229 = .ok (.invokevirtual 49, 3) := by decide +kernel
theorem dL_edits_232 : decode cL_edits 232 = .ok (.iload 10, 2) := by decide +kernel
theorem dL_edits_234 : decode cL_edits 234 = .ok (.if_icmp .ne 16, 3) := by decide +kernel
theorem dL_edits_237 : decode cL_edits 237 = .ok (.aload_n 0, 1) := by decide +kernel
theorem dL_edits_238 : decode cL_edits 238 = .ok (.invokevirtual 102, 3) := by decide +kernel
theorem dL_edits_241 : decode cL_edits 241 = .ok (.iload 11, 2) := by decide +kernel
theorem dL_edits_243 : decode cL_edits 243 = .ok (.if_icmp .ne 7, 3) := by decide +kernel
theorem dL_edits_246 : decode cL_edits 246 = .ok (.iconst 1, 1) := by decide +kernel
theorem dL_edits_247 : decode cL_edits 247 = .ok (.goto 4, 3) := by decide +kernel
theorem dL_edits_251 : decode cL_edits 251 = .ok (.ireturn, 1) := by decide +kernel
theorem dL_edits_252 : decode cL_edits 252 = .ok (.iload 9, 2) := by decide +kernel
theorem dL_edits_254 : decode cL_edits 254 = .ok (.ifCond .eq 104, 3) := by decide +kernel
theorem dL_edits_257 : decode cL_edits 257 = .ok (.iload 14, 2) := by decide +kernel
theorem dL_edits_259 : decode cL_edits 259 = .ok (.iconst 1, 1) := by decide +kernel
theorem dL_edits_260 : decode cL_edits 260 = .ok (.if_icmp .ne 98, 3) := by decide +kernel
theorem dL_edits_263 : decode cL_edits 263 = .ok (.aload_n 0, 1) := by decide +kernel
theorem dL_edits_264 : decode cL_edits 264 = .ok (.iload_n 3, 1) := by decide +kernel
theorem dL_edits_265 : decode cL_edits 265 = .ok (.invokevirtual 45, 3) := by decide +kernel
theorem dL_edits_268 : decode cL_edits 268 = .ok (.iload 8, 2) := by decide +kernel
theorem dL_edits_270 : decode cL_edits 270 = .ok (.if_icmp .lt 88, 3) := by decide +kernel
theorem dL_edits_273 : decode cL_edits 273 = .ok (.aload_n 0, 1) := by decide +kernel
theorem dL_edits_274 : decode cL_edits 274 = .ok (.iload 4, 2) := by decide +kernel
theorem dL_edits_276 : decode cL_edits 276 = .ok (.invokestatic 140, 3) := by decide +kernel
theorem dL_edits_279 : decode cL_edits 279 = .ok (.iload 5, 2) := by decide +kernel
theorem dL_edits_281 : decode cL_edits 281 = .ok (.if_icmp .ne 77, 3) := by decide +kernel
theorem dL_edits_284 : decode cL_edits 284 = .ok (.aload_n 0, 1) := by decide +kernel
theorem dL_edits_285 : decode cL_edits 285 = .ok (.iload 4, 2) := by decide +kernel
theorem dL_edits_287 : decode cL_edits 287 = .ok (.invokestatic 144, 3) := by decide +kernel
theorem dL_edits_290 : decode cL_edits 290 = .ok (.iload 6, 2) := by decide +kernel
theorem dL_edits_292 : decode cL_edits 292 = .ok (.if_icmp .ne 66, 3) := by decide +kernel
theorem dL_edits_295 : decode cL_edits 295 = .ok (.aload_n 0, 1) := by decide +kernel
theorem dL_edits_296 : decode cL_edits 296 = .ok (.iload 4, 2) := by decide +kernel
theorem dL_edits_298 : decode cL_edits 298 = .ok (.invokestatic 155, 3) := by decide +kernel
theorem dL_edits_301 : decode cL_edits 301 = .ok (.iload_n 3, 1) := by decide +kernel
theorem dL_edits_302 : decode cL_edits 302 = .ok (.if_icmp .ne 56, 3) := by decide +kernel
theorem dL_edits_305 : decode cL_edits 305 = .ok (.aload_n 0, 1) := by decide +kernel
theorem dL_edits_306 : decode cL_edits 306 = .ok (.iload 4, 2) := by decide +kernel
theorem dL_edits_308 : decode cL_edits 308 = .ok (.invokevirtual 49, 3) := by decide +kernel
theorem dL_edits_311 : decode cL_edits 311 = .ok (.iload 10, 2) := by decide +kernel
theorem dL_edits_313 : decode cL_edits 313 = .ok (.iconst 1, 1) := by decide +kernel
theorem dL_edits_314 : decode cL_edits 314 = .ok (.iadd, 1) := by decide +kernel
theorem dL_edits_315 : decode cL_edits 315 = .ok (.if_icmp .ne 43, 3) := by decide +kernel
theorem dL_edits_318 : decode cL_edits 318 = .ok (.aload_n 0, 1) := by decide +kernel
theorem dL_edits_319 : decode cL_edits 319 = .ok (.invokevirtual 102, 3) := by decide +kernel
theorem dL_edits_322 : decode cL_edits 322 = .ok (.iload 11, 2) := by decide +kernel
theorem dL_edits_324 : decode cL_edits 324 = .ok (.iconst 1, 1) := by decide +kernel
theorem dL_edits_325 : decode cL_edits 325 = .ok (.iadd, 1) := by decide +kernel
theorem dL_edits_326 : decode cL_edits 326 = .ok (.if_icmp .ne 32, 3) := by decide +kernel
theorem dL_edits_329 : decode cL_edits 329 = .ok (.aload_n 0, 1) := by decide +kernel
theorem dL_edits_330 : decode cL_edits 330 = .ok (.iload 4, 2) := by decide +kernel
theorem dL_edits_332 : decode cL_edits 332 = .ok (.iload 10, 2) := by decide +kernel
theorem dL_edits_334 : decode cL_edits 334 = .ok (.invokevirtual 55, 3) := by decide +kernel
theorem dL_edits_337 : decode cL_edits 337 = .ok (.iload 11, 2) := by decide +kernel
theorem dL_edits_339 : decode cL_edits 339 = .ok (.iconst 1, 1) := by decide +kernel
theorem dL_edits_340 : decode cL_edits 340 = .ok (.iadd, 1) := by decide +kernel
theorem dL_edits_341 : decode cL_edits 341 = .ok (.if_icmp .ne 17, 3) := by decide +kernel
theorem dL_edits_344 : decode cL_edits 344 = .ok (.aload_n 0, 1) := by decide +kernel
theorem dL_edits_345 : decode cL_edits 345 = .ok (.iload 4, 2) := by decide +kernel
theorem dL_edits_347 : decode cL_edits 347 = .ok (.invokevirtual 58, 3) := by decide +kernel
theorem dL_edits_350 : decode cL_edits 350 = .ok (.iconst (-1), 1) := by decide +kernel
theorem dL_edits_351 : decode cL_edits 351 = .ok (.if_icmp .ne 7, 3) := by decide +kernel
theorem dL_edits_354 : decode cL_edits 354 = .ok (.iconst 1, 1) := by decide +kernel
theorem dL_edits_355 : decode cL_edits 355 = .ok (.goto 4, 3) := by decide +kernel
theorem dL_edits_359 : decode cL_edits 359 = .ok (.ireturn, 1) := by decide +kernel
set_option maxHeartbeats 1000000 in
set_option maxRecDepth 100000 in
theorem m_edits (l : Launch) (hflag : l.stackTraces = false) (G : k_G) (xa xb : Nat) (mm : q_Mem) (z : Int32) (hL : LI mm) (hK1 : sp_K mm < 512) (hW0 : 0 < sp_W mm) : p_Ci l yL_edits (Cond.code yL_edits cL_edits 15 (some .boolean)) 13 270 1000 6000 G (p_J G xa xb) (mm, mm) [.ref xa, .ref xb, .int z] (fun v u => v = 1 ∧ ∃ m2, u = (m2, m2) ∧ RD mm m2) (fun _ => False) := by
  refine p_of (by decide) (Nat.le_of_ble_eq_true rfl) ?_
  intro Z p e s m args below meth c hx hb hr hF hlk hI hX ls hl
  have hl : lv_has ls 15 [(0, .ref xa), (1, .ref xb), (2, .int z)] := hl
  have hS : va_S Z s.heap s.heap [] := va_S.rf
  refine lv_iload_n hx hb dL_edits_0 rfl (lv_at hl 2 rfl) ?_
  refine lv_bipush (v := 6) hx hb dL_edits_1 (by decide) ?_
  refine bo_to (v := (nI 6)) (rfl) ?_
  refine rc_S (fr := 0) (lo := 0) (n := 2) (As := [.int z, .int (nI 6)]) (rest := []) hF (m_some l z 6 (by decide) (by decide)) ke_L_some wd_l_L_137 (by decide) bl_true (fun _ _ _ => trivial) rfl hl.1 rfl (Nat.le_of_ble_eq_true rfl) dL_edits_3 (by first | decide | omega | (dsimp only; omega)) (fun r hq => ?_)
  obtain ⟨f, hf, rfl⟩ := hq
  refine lv_istore_n (lv' := [(3, .int (nI f)), (0, .ref xa), (1, .ref xb), (2, .int z)]) hx hb dL_edits_6 rfl hl (by decide) rfl (fun ls hl => ?_)
  refine lv_iload_n hx hb dL_edits_7 rfl (lv_at hl 3 rfl) ?_
  refine lv_iconst (v := 3) hx hb dL_edits_8 (by decide) ?_
  refine lv_ishr hx hb dL_edits_9 ?_
  refine lv_aload_n hx hb dL_edits_10 rfl (lv_at hl 1 rfl) ?_
  refine p_iVk (fr := 1) (lo := 20) (mc1 := 0) (ms1 := 0) (n := 0) (As := []) (rest := [.int (z >>> (3 &&& 31))]) hF (pv_ways l G xa mm) p_Em.l ke_X4_ways wd_l_L_108 (by decide) hI hX hS rfl hl.1 rfl (Nat.le_of_ble_eq_true rfl) dL_edits_11 (by first | decide | omega | (dsimp only; omega)) (fun H locs hI hS => ?_)
  replace hI : p_J G xa xb Z (mm, mm) H := hI
  refine bo_to (v := (nI (sp_W mm))) (hL.1.W) ?_
  refine rc_S (fr := 0) (lo := 0) (n := 2) (As := [.int (z >>> (3 &&& 31)), .int (nI (sp_W mm))]) (rest := []) hF (m_some l (z >>> (3 &&& 31)) (sp_W mm) hW0 (by have := hL.1.W40; omega)) ke_L_some wd_l_L_137 (by decide) bl_true (fun _ _ _ => trivial) rfl hl.1 rfl (Nat.le_of_ble_eq_true rfl) dL_edits_14 (by first | decide | omega | (dsimp only; omega)) (fun r hq => ?_)
  obtain ⟨w, hw, rfl⟩ := hq
  refine lv_istore (lv' := [(4, .int (nI w)), (3, .int (nI f)), (0, .ref xa), (1, .ref xb), (2, .int z)]) hx hb dL_edits_17 hl (by decide) rfl (fun ls hl => ?_)
  refine lv_iload_n hx hb dL_edits_19 rfl (lv_at hl 4 rfl) ?_
  refine lv_bipush (v := 6) hx hb dL_edits_20 (by decide) ?_
  refine lv_ishr hx hb dL_edits_22 ?_
  refine lv_iconst (v := 4) hx hb dL_edits_23 (by decide) ?_
  refine bo_to (v := (nI 4)) (rfl) ?_
  refine rc_S (fr := 0) (lo := 0) (n := 2) (As := [.int (z >>> (6 &&& 31)), .int (nI 4)]) (rest := []) hF (m_some l (z >>> (6 &&& 31)) 4 (by decide) (by decide)) ke_L_some wd_l_L_137 (by decide) bl_true (fun _ _ _ => trivial) rfl hl.1 rfl (Nat.le_of_ble_eq_true rfl) dL_edits_24 (by first | decide | omega | (dsimp only; omega)) (fun r hq => ?_)
  obtain ⟨k, hk, rfl⟩ := hq
  refine lv_istore (lv' := [(5, .int (nI k)), (4, .int (nI w)), (3, .int (nI f)), (0, .ref xa), (1, .ref xb), (2, .int z)]) hx hb dL_edits_27 hl (by decide) rfl (fun ls hl => ?_)
  refine lv_iload_n hx hb dL_edits_29 rfl (lv_at hl 5 rfl) ?_
  refine lv_bipush (v := 8) hx hb dL_edits_30 (by decide) ?_
  refine lv_ishr hx hb dL_edits_32 ?_
  refine lv_iconst (v := 3) hx hb dL_edits_33 (by decide) ?_
  refine bo_to (v := (nI 3)) (rfl) ?_
  refine rc_S (fr := 0) (lo := 0) (n := 2) (As := [.int (z >>> (8 &&& 31)), .int (nI 3)]) (rest := []) hF (m_some l (z >>> (8 &&& 31)) 3 (by decide) (by decide)) ke_L_some wd_l_L_137 (by decide) bl_true (fun _ _ _ => trivial) rfl hl.1 rfl (Nat.le_of_ble_eq_true rfl) dL_edits_34 (by first | decide | omega | (dsimp only; omega)) (fun r hq => ?_)
  obtain ⟨d, hd, rfl⟩ := hq
  refine lv_istore (lv' := [(6, .int (nI d)), (5, .int (nI k)), (4, .int (nI w)), (3, .int (nI f)), (0, .ref xa), (1, .ref xb), (2, .int z)]) hx hb dL_edits_37 hl (by decide) rfl (fun ls hl => ?_)
  by_cases hs : nI k = kd mm w ∧ nI d = td mm w
  · skip
    refine lv_aload_n hx hb dL_edits_39 rfl (lv_at hl 4 rfl) ?_
    refine lv_iload hx hb dL_edits_40 (lv_at hl 2 rfl) ?_
    refine p_iSk (mc1 := 3) (ms1 := 18) (fr := 8) (lo := 140) (n := 2) (As := [.ref xa, .int (nI w)]) (rest := []) hF (m_kind l hflag G xa mm w hL hw) p_Em.l ke_L_kind wd_l_L_140 (by decide) hI hX hS rfl hl.1 rfl (Nat.le_of_ble_eq_true rfl) dL_edits_42 (by first | decide | omega | (dsimp only; omega)) (fun H locs hI hS => ?_)
    replace hI : p_J G xa xb Z (mm, mm) H := hI
    refine lv_iload hx hb dL_edits_45 (lv_at hl 1 rfl) ?_
    refine lv_icmp_ne (tgt := 65) hx hb dL_edits_47 (by decide) (fun c47 => ?_) (fun c47 => ?_)
    · skip
      exact absurd hs.1.symm c47
    · skip
      refine lv_aload_n hx hb dL_edits_50 rfl (lv_at hl 4 rfl) ?_
      refine lv_iload hx hb dL_edits_51 (lv_at hl 2 rfl) ?_
      refine p_iSk (mc1 := 3) (ms1 := 18) (fr := 8) (lo := 140) (n := 2) (As := [.ref xa, .int (nI w)]) (rest := []) hF (m_turn l hflag G xa mm w hL hw) p_Em.l ke_L_turn wd_l_L_144 (by decide) hI hX hS rfl hl.1 rfl (Nat.le_of_ble_eq_true rfl) dL_edits_53 (by first | decide | omega | (dsimp only; omega)) (fun H locs hI hS => ?_)
      replace hI : p_J G xa xb Z (mm, mm) H := hI
      refine lv_iload hx hb dL_edits_56 (lv_at hl 0 rfl) ?_
      refine lv_icmp_ne (tgt := 65) hx hb dL_edits_58 (by decide) (fun c58 => ?_) (fun c58 => ?_)
      · skip
        exact absurd hs.2.symm c58
      · skip
        refine lv_iconst (v := 1) hx hb dL_edits_61 (by decide) ?_
        refine lv_goto (tgt := 66) hx hb dL_edits_62 (by decide) ?_
        obtain ⟨gg, hgg, eg⟩ := hL.2.2.1 w hw
        refine lv_istore (lv' := [(7, .int 1), (6, .int (nI d)), (5, .int (nI k)), (4, .int (nI w)), (3, .int (nI f)), (0, .ref xa), (1, .ref xb), (2, .int z)]) hx hb dL_edits_66 hl (by decide) rfl (fun ls hl => ?_)
        refine lv_aload_n hx hb dL_edits_68 rfl (lv_at hl 5 rfl) ?_
        refine lv_aload_n hx hb dL_edits_69 rfl (lv_at hl 6 rfl) ?_
        refine lv_iconst (v := 4) hx hb dL_edits_70 (by decide) ?_
        refine lv_iload hx hb dL_edits_71 (lv_at hl 3 rfl) ?_
        refine lv_iconst (v := 0) hx hb dL_edits_73 (by decide) ?_
        refine bo_to (v := (nI 0)) (rfl) ?_
        refine lv_iconst (v := 0) hx hb dL_edits_74 (by decide) ?_
        refine p_iSk (mc1 := 4) (ms1 := 24) (fr := 12) (lo := 239) (n := 6) (As := [.ref xa, .ref xb, .int 4, .int (nI w), .int (nI 0), .int 0]) (rest := []) hF (m_both (mc := 2) (ms := 12) (p_cv (nm := k_n3) (sp := sp_guard mm (nI w) (nI 0)) (cl_ok (gd_m hL hw (Nat.zero_le _)) ((gd_LI hL hw (Nat.zero_le _)).2.1)) (m_call (fun Z ad h => by rw [← h]; exact m_does_4 l hflag G Z ad mm (nI w) (nI 0) 0 hL.1) (Or.inl rfl))) (p_cv (nm := k_n3) (sp := sp_guard mm (nI w) (nI 0)) (cl_ok (gd_m hL hw (Nat.zero_le _)) ((gd_LI hL hw (Nat.zero_le _)).2.1)) (m_call (fun Z ad h => by rw [← h]; exact m_does_4 l hflag G Z ad mm (nI w) (nI 0) 0 hL.1) (Or.inl rfl)))) p_Em.id ke_L_both wd_l_L_147 (by decide) hI hX hS rfl hl.1 rfl (Nat.le_of_ble_eq_true rfl) dL_edits_75 (by first | decide | omega | (dsimp only; omega)) (fun H locs hI hS => ?_)
        replace hI : p_J G xa xb Z ((up2 mm 6 w (nI 0)), (up2 mm 6 w (nI 0))) H := hI
        refine lv_istore (lv' := [(8, .int (mm 6 w)), (7, .int 1), (6, .int (nI d)), (5, .int (nI k)), (4, .int (nI w)), (3, .int (nI f)), (0, .ref xa), (1, .ref xb), (2, .int z)]) hx hb dL_edits_78 hl (by decide) rfl (fun ls hl => ?_)
        refine lv_iload hx hb dL_edits_80 (lv_at hl 0 rfl) ?_
        refine lv_if_lt (tgt := 103) hx hb dL_edits_82 (by decide) (fun c82 => ?_) (fun c82 => ?_)
        · skip
          exact absurd c82 (by rw [eg]; exact nI_pos (by omega))
        · skip
          refine lv_aload_n hx hb dL_edits_85 rfl (lv_at hl 6 rfl) ?_
          refine lv_aload_n hx hb dL_edits_86 rfl (lv_at hl 7 rfl) ?_
          refine lv_iconst (v := 4) hx hb dL_edits_87 (by decide) ?_
          refine lv_iload hx hb dL_edits_88 (lv_at hl 4 rfl) ?_
          refine lv_iload hx hb dL_edits_90 (lv_at hl 0 rfl) ?_
          refine lv_iconst (v := 0) hx hb dL_edits_92 (by decide) ?_
          refine p_iSk (mc1 := 4) (ms1 := 24) (fr := 12) (lo := 239) (n := 6) (As := [.ref xa, .ref xb, .int 4, .int (nI w), .int (mm 6 w), .int 0]) (rest := []) hF (m_both (mc := 2) (ms := 12) (p_cv (nm := k_n3) (sp := sp_guard (up2 mm 6 w (nI 0)) (nI w) (mm 6 w)) (cl_ok (gd_b hL hw) (hL.2.1)) (m_call (fun Z ad h => by rw [← h]; exact m_does_4 l hflag G Z ad (up2 mm 6 w (nI 0)) (nI w) (mm 6 w) 0 (gd_LI hL hw (Nat.zero_le _)).1) (Or.inl rfl))) (p_cv (nm := k_n3) (sp := sp_guard (up2 mm 6 w (nI 0)) (nI w) (mm 6 w)) (cl_ok (gd_b hL hw) (hL.2.1)) (m_call (fun Z ad h => by rw [← h]; exact m_does_4 l hflag G Z ad (up2 mm 6 w (nI 0)) (nI w) (mm 6 w) 0 (gd_LI hL hw (Nat.zero_le _)).1) (Or.inl rfl)))) p_Em.id ke_L_both wd_l_L_147 (by decide) hI hX hS rfl hl.1 rfl (Nat.le_of_ble_eq_true rfl) dL_edits_93 (by first | decide | omega | (dsimp only; omega)) (fun H locs hI hS => ?_)
          replace hI : p_J G xa xb Z (mm, mm) H := hI
          refine lv_if_ne (tgt := 103) hx hb dL_edits_96 (by decide) (fun c96 => ?_) (fun c96 => ?_)
          · skip
            exact absurd nI_0 c96
          · skip
            refine lv_iconst (v := 1) hx hb dL_edits_99 (by decide) ?_
            refine lv_goto (tgt := 104) hx hb dL_edits_100 (by decide) ?_
            refine lv_istore (lv' := [(9, .int 1), (8, .int (mm 6 w)), (7, .int 1), (6, .int (nI d)), (5, .int (nI k)), (4, .int (nI w)), (3, .int (nI f)), (0, .ref xa), (1, .ref xb), (2, .int z)]) hx hb dL_edits_104 hl (by decide) rfl (fun ls hl => ?_)
            refine lv_aload_n hx hb dL_edits_106 rfl (lv_at hl 7 rfl) ?_
            refine lv_iload hx hb dL_edits_107 (lv_at hl 5 rfl) ?_
            refine p_iVk (fr := 7) (lo := 111) (mc1 := 1) (ms1 := 6) (n := 1) (As := [.int (nI w)]) (rest := []) hF (pv_versions l hflag G xa mm (nI w) hL.1 (r0 := (mm 7 w)) (m0 := mm) (v_of hL hw) (hL.2.1)) p_Em.l ke_X4_versions wd_l_L_49 (by decide) hI hX hS rfl hl.1 rfl (Nat.le_of_ble_eq_true rfl) dL_edits_109 (by first | decide | omega | (dsimp only; omega)) (fun H locs hI hS => ?_)
            replace hI : p_J G xa xb Z (mm, mm) H := hI
            refine lv_istore (lv' := [(10, .int (mm 7 w)), (9, .int 1), (8, .int (mm 6 w)), (7, .int 1), (6, .int (nI d)), (5, .int (nI k)), (4, .int (nI w)), (3, .int (nI f)), (0, .ref xa), (1, .ref xb), (2, .int z)]) hx hb dL_edits_112 hl (by decide) rfl (fun ls hl => ?_)
            refine lv_aload_n hx hb dL_edits_114 rfl (lv_at hl 8 rfl) ?_
            refine p_iVk (fr := 0) (lo := 0) (mc1 := 0) (ms1 := 0) (n := 0) (As := []) (rest := []) hF (pv_clock l G xa mm) p_Em.l ke_X4_clock wd_l_L_102 (by decide) hI hX hS rfl hl.1 rfl (Nat.le_of_ble_eq_true rfl) dL_edits_115 (by first | decide | omega | (dsimp only; omega)) (fun H locs hI hS => ?_)
            replace hI : p_J G xa xb Z (mm, mm) H := hI
            refine lv_istore (lv' := [(11, .int (mm 10 0)), (10, .int (mm 7 w)), (9, .int 1), (8, .int (mm 6 w)), (7, .int 1), (6, .int (nI d)), (5, .int (nI k)), (4, .int (nI w)), (3, .int (nI f)), (0, .ref xa), (1, .ref xb), (2, .int z)]) hx hb dL_edits_118 hl (by decide) rfl (fun ls hl => ?_)
            refine lv_aload_n hx hb dL_edits_120 rfl (lv_at hl 9 rfl) ?_
            refine p_lSk (mc1 := 460) (ms1 := 2760) (fr := 12) (lo := 240) (n := 1) (As := [.ref xa]) (rest := []) hF (m_all l hflag G xa mm hL) p_Em.l ke_L_all wd_l_L_151 (by decide) hI hX hS rfl hl.1 rfl (Nat.le_of_ble_eq_true rfl) dL_edits_121 (by first | decide | omega | (dsimp only; omega)) (fun H locs hI hS => ?_)
            replace hI : p_J G xa xb Z (mm, mm) H := hI
            refine lv_lstore (lv' := [(12, .long (al mm)), (11, .int (mm 10 0)), (10, .int (mm 7 w)), (9, .int 1), (8, .int (mm 6 w)), (7, .int 1), (6, .int (nI d)), (5, .int (nI k)), (4, .int (nI w)), (3, .int (nI f)), (0, .ref xa), (1, .ref xb), (2, .int z)]) hx hb dL_edits_124 hl (by decide) rfl (fun ls hl => ?_)
            refine lv_aload_n hx hb dL_edits_126 rfl (lv_at hl 10 rfl) ?_
            refine lv_aload_n hx hb dL_edits_127 rfl (lv_at hl 11 rfl) ?_
            refine lv_iconst (v := 1) hx hb dL_edits_128 (by decide) ?_
            refine lv_iload_n hx hb dL_edits_129 rfl (lv_at hl 9 rfl) ?_
            refine lv_iload hx hb dL_edits_130 (lv_at hl 8 rfl) ?_
            refine lv_bipush (v := 16) hx hb dL_edits_132 (by decide) ?_
            refine lv_iload hx hb dL_edits_134 (lv_at hl 7 rfl) ?_
            refine lv_iconst (v := 2) hx hb dL_edits_136 (by decide) ?_
            refine lv_iadd hx hb dL_edits_137 ?_
            refine bo_to (v := (nI (k + 2))) (nI_add k 2) ?_
            refine lv_imul hx hb dL_edits_138 ?_
            refine bo_to (v := (nI (16 * (k + 2)))) (pk_mul 16 (k + 2)) ?_
            refine lv_iload hx hb dL_edits_139 (lv_at hl 6 rfl) ?_
            refine lv_iadd hx hb dL_edits_141 ?_
            refine bo_to (v := (nI (16 * (k + 2) + d))) (nI_add _ _) ?_
            refine lv_iconst (v := 2) hx hb dL_edits_142 (by decide) ?_
            refine lv_iadd hx hb dL_edits_143 ?_
            have ea1 : nI (16 * (k + 2) + d + 2) / 16 - 2 = nI k := by
              rw [show (16 : Int32) = nI 16 from rfl, pk_div (by omega) (by decide) (by decide), show (2 : Int32) = nI 2 from rfl, pk_sub (by omega)]; congr 1; omega
            have ea2 : nI (16 * (k + 2) + d + 2) - nI (16 * (k + 2) + d + 2) / 16 * 16 - 2 = nI d := by
              rw [show (16 : Int32) = nI 16 from rfl, pk_rem (by omega) (by decide) (by decide), show (2 : Int32) = nI 2 from rfl, pk_sub (by omega)]; congr 1; omega
            refine bo_to (v := (nI (16 * (k + 2) + d + 2))) (nI_add _ 2) ?_
            refine p_iSk (mc1 := 8) (ms1 := 38) (fr := 12) (lo := 239) (n := 6) (As := [.ref xa, .ref xb, .int 1, .int (nI f), .int (nI w), .int (nI (16 * (k + 2) + d + 2))]) (rest := []) hF (m_both (mc := 4) (ms := 19) (p_cx (nm := k_n3) (sp := sp_edit mm (nI f) (nI w) ((nI (16 * (k + 2) + d + 2)) / 16 - 2) (((nI (16 * (k + 2) + d + 2)) - (nI (16 * (k + 2) + d + 2)) / 16 * 16) - 2)) ((by rw [ea1, ea2]; exact ed_s hL hw hf hk hd hs)) (by decide) ce3 (m_call (fun Z ad h => by rw [← h]; exact m_does_1 l hflag G Z ad mm (nI f) (nI w) (nI (16 * (k + 2) + d + 2)) hL.1 hK1) (Or.inl rfl))) (p_cx (nm := k_n3) (sp := sp_edit mm (nI f) (nI w) ((nI (16 * (k + 2) + d + 2)) / 16 - 2) (((nI (16 * (k + 2) + d + 2)) - (nI (16 * (k + 2) + d + 2)) / 16 * 16) - 2)) ((by rw [ea1, ea2]; exact ed_s hL hw hf hk hd hs)) (by decide) ce3 (m_call (fun Z ad h => by rw [← h]; exact m_does_1 l hflag G Z ad mm (nI f) (nI w) (nI (16 * (k + 2) + d + 2)) hL.1 hK1) (Or.inl rfl)))) p_Em.id ke_L_both wd_l_L_147 (by decide) hI hX hS rfl hl.1 rfl (Nat.le_of_ble_eq_true rfl) dL_edits_144 (by first | decide | omega | (dsimp only; omega)) (fun H locs hI hS => ?_)
            replace hI : p_J G xa xb Z (mm, mm) H := hI
            refine lv_istore (lv' := [(14, .int (-2100000003)), (12, .long (al mm)), (11, .int (mm 10 0)), (10, .int (mm 7 w)), (9, .int 1), (8, .int (mm 6 w)), (7, .int 1), (6, .int (nI d)), (5, .int (nI k)), (4, .int (nI w)), (3, .int (nI f)), (0, .ref xa), (1, .ref xb), (2, .int z)]) hx hb dL_edits_147 hl (by decide) rfl (fun ls hl => ?_)
            refine lv_iload hx hb dL_edits_149 (lv_at hl 6 rfl) ?_
            refine lv_if_eq (tgt := 182) hx hb dL_edits_151 (by decide) (fun c151 => ?_) (fun c151 => ?_)
            · skip
              exact absurd c151 (by decide)
            · skip
              refine lv_iload hx hb dL_edits_154 (lv_at hl 4 rfl) ?_
              refine lv_if_eq (tgt := 180) hx hb dL_edits_156 (by decide) (fun c156 => ?_) (fun c156 => ?_)
              · skip
                exact absurd c156 (by decide)
              · skip
                refine lv_iload hx hb dL_edits_159 (lv_at hl 0 rfl) ?_
                refine lv_ldc (v := -2100000003) hx hb hF.2.2.2.1 (hF.2.2.2.2 _ wd_x23) dL_edits_161 ?_
                refine lv_icmp_ne (tgt := 180) hx hb dL_edits_163 (by decide) (fun c163 => ?_) (fun c163 => ?_)
                · skip
                  exact absurd rfl c163
                · skip
                  refine lv_aload_n hx hb dL_edits_166 rfl (lv_at hl 11 rfl) ?_
                  refine p_lSk (mc1 := 460) (ms1 := 2760) (fr := 12) (lo := 240) (n := 1) (As := [.ref xa]) (rest := []) hF (m_all l hflag G xa mm hL) p_Em.l ke_L_all wd_l_L_151 (by decide) hI hX hS rfl hl.1 rfl (Nat.le_of_ble_eq_true rfl) dL_edits_167 (by first | decide | omega | (dsimp only; omega)) (fun H locs hI hS => ?_)
                  replace hI : p_J G xa xb Z (mm, mm) H := hI
                  refine lv_lload hx hb dL_edits_170 (lv_at hl 1 rfl) ?_
                  refine W.lcmp hx hb dL_edits_172 ?_
                  refine bo_to (v := 0) (by simp [lg_cmp]) ?_
                  refine lv_if_ne (tgt := 180) hx hb dL_edits_173 (by decide) (fun c173 => ?_) (fun c173 => ?_)
                  · skip
                    exact absurd c173 (by decide)
                  · skip
                    refine lv_iconst (v := 1) hx hb dL_edits_176 (by decide) ?_
                    refine lv_goto (tgt := 181) hx hb dL_edits_177 (by decide) ?_
                    exact p_zret hx hb hr hlk hI hS (by first | decide | omega | (dsimp only; omega)) (by first | decide | omega | (dsimp only; omega)) (by decide) (⟨rfl, mm, rfl, RD.rf hL⟩) dL_edits_181
  · skip
    refine p_join (T := 66) (st1 := [.int 0]) (fun H locs ls => p_J G xa xb Z (mm, mm) H ∧ va_S Z s.heap H locs ∧ lv_has ls 15 [(0, .ref xa), (1, .ref xb), (3, .int (nI f)), (4, .int (nI w)), (5, .int (nI k)), (6, .int (nI d))]) 6 36 (fun H locs ls hJ => ?_) (fun J66 => ?_)
    · obtain ⟨hI, hS, hl⟩ := hJ
      obtain ⟨gg, hgg, eg⟩ := hL.2.2.1 w hw
      refine lv_istore (lv' := [(7, .int 0), (0, .ref xa), (1, .ref xb), (3, .int (nI f)), (4, .int (nI w)), (5, .int (nI k)), (6, .int (nI d))]) hx hb dL_edits_66 hl (by decide) rfl (fun ls hl => ?_)
      refine lv_aload_n hx hb dL_edits_68 rfl (lv_at hl 1 rfl) ?_
      refine lv_aload_n hx hb dL_edits_69 rfl (lv_at hl 2 rfl) ?_
      refine lv_iconst (v := 4) hx hb dL_edits_70 (by decide) ?_
      refine lv_iload hx hb dL_edits_71 (lv_at hl 4 rfl) ?_
      refine lv_iconst (v := 0) hx hb dL_edits_73 (by decide) ?_
      refine bo_to (v := (nI 0)) (rfl) ?_
      refine lv_iconst (v := 0) hx hb dL_edits_74 (by decide) ?_
      refine p_iSk (mc1 := 4) (ms1 := 24) (fr := 12) (lo := 239) (n := 6) (As := [.ref xa, .ref xb, .int 4, .int (nI w), .int (nI 0), .int 0]) (rest := []) hF (m_both (mc := 2) (ms := 12) (p_cv (nm := k_n3) (sp := sp_guard mm (nI w) (nI 0)) (cl_ok (gd_m hL hw (Nat.zero_le _)) ((gd_LI hL hw (Nat.zero_le _)).2.1)) (m_call (fun Z ad h => by rw [← h]; exact m_does_4 l hflag G Z ad mm (nI w) (nI 0) 0 hL.1) (Or.inl rfl))) (p_cv (nm := k_n3) (sp := sp_guard mm (nI w) (nI 0)) (cl_ok (gd_m hL hw (Nat.zero_le _)) ((gd_LI hL hw (Nat.zero_le _)).2.1)) (m_call (fun Z ad h => by rw [← h]; exact m_does_4 l hflag G Z ad mm (nI w) (nI 0) 0 hL.1) (Or.inl rfl)))) p_Em.id ke_L_both wd_l_L_147 (by decide) hI hX hS rfl hl.1 rfl (Nat.le_of_ble_eq_true rfl) dL_edits_75 (by first | decide | omega | (dsimp only; omega)) (fun H locs hI hS => ?_)
      replace hI : p_J G xa xb Z ((up2 mm 6 w (nI 0)), (up2 mm 6 w (nI 0))) H := hI
      refine lv_istore (lv' := [(8, .int (mm 6 w)), (7, .int 0), (0, .ref xa), (1, .ref xb), (3, .int (nI f)), (4, .int (nI w)), (5, .int (nI k)), (6, .int (nI d))]) hx hb dL_edits_78 hl (by decide) rfl (fun ls hl => ?_)
      refine lv_iload hx hb dL_edits_80 (lv_at hl 0 rfl) ?_
      refine lv_if_lt (tgt := 103) hx hb dL_edits_82 (by decide) (fun c82 => ?_) (fun c82 => ?_)
      · skip
        exact absurd c82 (by rw [eg]; exact nI_pos (by omega))
      · skip
        refine lv_aload_n hx hb dL_edits_85 rfl (lv_at hl 2 rfl) ?_
        refine lv_aload_n hx hb dL_edits_86 rfl (lv_at hl 3 rfl) ?_
        refine lv_iconst (v := 4) hx hb dL_edits_87 (by decide) ?_
        refine lv_iload hx hb dL_edits_88 (lv_at hl 5 rfl) ?_
        refine lv_iload hx hb dL_edits_90 (lv_at hl 0 rfl) ?_
        refine lv_iconst (v := 0) hx hb dL_edits_92 (by decide) ?_
        refine p_iSk (mc1 := 4) (ms1 := 24) (fr := 12) (lo := 239) (n := 6) (As := [.ref xa, .ref xb, .int 4, .int (nI w), .int (mm 6 w), .int 0]) (rest := []) hF (m_both (mc := 2) (ms := 12) (p_cv (nm := k_n3) (sp := sp_guard (up2 mm 6 w (nI 0)) (nI w) (mm 6 w)) (cl_ok (gd_b hL hw) (hL.2.1)) (m_call (fun Z ad h => by rw [← h]; exact m_does_4 l hflag G Z ad (up2 mm 6 w (nI 0)) (nI w) (mm 6 w) 0 (gd_LI hL hw (Nat.zero_le _)).1) (Or.inl rfl))) (p_cv (nm := k_n3) (sp := sp_guard (up2 mm 6 w (nI 0)) (nI w) (mm 6 w)) (cl_ok (gd_b hL hw) (hL.2.1)) (m_call (fun Z ad h => by rw [← h]; exact m_does_4 l hflag G Z ad (up2 mm 6 w (nI 0)) (nI w) (mm 6 w) 0 (gd_LI hL hw (Nat.zero_le _)).1) (Or.inl rfl)))) p_Em.id ke_L_both wd_l_L_147 (by decide) hI hX hS rfl hl.1 rfl (Nat.le_of_ble_eq_true rfl) dL_edits_93 (by first | decide | omega | (dsimp only; omega)) (fun H locs hI hS => ?_)
        replace hI : p_J G xa xb Z (mm, mm) H := hI
        refine lv_if_ne (tgt := 103) hx hb dL_edits_96 (by decide) (fun c96 => ?_) (fun c96 => ?_)
        · skip
          exact absurd nI_0 c96
        · skip
          refine lv_iconst (v := 1) hx hb dL_edits_99 (by decide) ?_
          refine lv_goto (tgt := 104) hx hb dL_edits_100 (by decide) ?_
          refine lv_istore (lv' := [(9, .int 1), (8, .int (mm 6 w)), (7, .int 0), (0, .ref xa), (1, .ref xb), (3, .int (nI f)), (4, .int (nI w)), (5, .int (nI k)), (6, .int (nI d))]) hx hb dL_edits_104 hl (by decide) rfl (fun ls hl => ?_)
          refine lv_aload_n hx hb dL_edits_106 rfl (lv_at hl 3 rfl) ?_
          refine lv_iload hx hb dL_edits_107 (lv_at hl 6 rfl) ?_
          refine p_iVk (fr := 7) (lo := 111) (mc1 := 1) (ms1 := 6) (n := 1) (As := [.int (nI w)]) (rest := []) hF (pv_versions l hflag G xa mm (nI w) hL.1 (r0 := (mm 7 w)) (m0 := mm) (v_of hL hw) (hL.2.1)) p_Em.l ke_X4_versions wd_l_L_49 (by decide) hI hX hS rfl hl.1 rfl (Nat.le_of_ble_eq_true rfl) dL_edits_109 (by first | decide | omega | (dsimp only; omega)) (fun H locs hI hS => ?_)
          replace hI : p_J G xa xb Z (mm, mm) H := hI
          refine lv_istore (lv' := [(10, .int (mm 7 w)), (9, .int 1), (8, .int (mm 6 w)), (7, .int 0), (0, .ref xa), (1, .ref xb), (3, .int (nI f)), (4, .int (nI w)), (5, .int (nI k)), (6, .int (nI d))]) hx hb dL_edits_112 hl (by decide) rfl (fun ls hl => ?_)
          refine lv_aload_n hx hb dL_edits_114 rfl (lv_at hl 4 rfl) ?_
          refine p_iVk (fr := 0) (lo := 0) (mc1 := 0) (ms1 := 0) (n := 0) (As := []) (rest := []) hF (pv_clock l G xa mm) p_Em.l ke_X4_clock wd_l_L_102 (by decide) hI hX hS rfl hl.1 rfl (Nat.le_of_ble_eq_true rfl) dL_edits_115 (by first | decide | omega | (dsimp only; omega)) (fun H locs hI hS => ?_)
          replace hI : p_J G xa xb Z (mm, mm) H := hI
          refine lv_istore (lv' := [(11, .int (mm 10 0)), (10, .int (mm 7 w)), (9, .int 1), (8, .int (mm 6 w)), (7, .int 0), (0, .ref xa), (1, .ref xb), (3, .int (nI f)), (4, .int (nI w)), (5, .int (nI k)), (6, .int (nI d))]) hx hb dL_edits_118 hl (by decide) rfl (fun ls hl => ?_)
          refine lv_aload_n hx hb dL_edits_120 rfl (lv_at hl 5 rfl) ?_
          refine p_lSk (mc1 := 460) (ms1 := 2760) (fr := 12) (lo := 240) (n := 1) (As := [.ref xa]) (rest := []) hF (m_all l hflag G xa mm hL) p_Em.l ke_L_all wd_l_L_151 (by decide) hI hX hS rfl hl.1 rfl (Nat.le_of_ble_eq_true rfl) dL_edits_121 (by first | decide | omega | (dsimp only; omega)) (fun H locs hI hS => ?_)
          replace hI : p_J G xa xb Z (mm, mm) H := hI
          refine lv_lstore (lv' := [(12, .long (al mm)), (11, .int (mm 10 0)), (10, .int (mm 7 w)), (9, .int 1), (8, .int (mm 6 w)), (7, .int 0), (0, .ref xa), (1, .ref xb), (3, .int (nI f)), (4, .int (nI w)), (5, .int (nI k)), (6, .int (nI d))]) hx hb dL_edits_124 hl (by decide) rfl (fun ls hl => ?_)
          by_cases hg : mm 6 w ≤ mm 0 f
          · skip
            have hM := (LI_make hL hK1 hw hk hd (Nat.succ_lt_succ hf) (f_m1 f)).1
            have hMK := (LI_make hL hK1 hw hk hd (Nat.succ_lt_succ hf) (f_m1 f)).2
            obtain ⟨n1, n2, n3, n4, n5, n6, n7, n8, -⟩ := mk_facts hL hw hk hd (Nat.succ_lt_succ hf) (f_m1 f)
            have hMw : w < sp_W (sp_make mm w (nI k) (nI d) (nI f)) := by rw [mk_W]; exact hw
            refine lv_aload_n hx hb dL_edits_126 rfl (lv_at hl 6 rfl) ?_
            refine lv_aload_n hx hb dL_edits_127 rfl (lv_at hl 7 rfl) ?_
            refine lv_iconst (v := 1) hx hb dL_edits_128 (by decide) ?_
            refine lv_iload_n hx hb dL_edits_129 rfl (lv_at hl 8 rfl) ?_
            refine lv_iload hx hb dL_edits_130 (lv_at hl 9 rfl) ?_
            refine lv_bipush (v := 16) hx hb dL_edits_132 (by decide) ?_
            refine lv_iload hx hb dL_edits_134 (lv_at hl 10 rfl) ?_
            refine lv_iconst (v := 2) hx hb dL_edits_136 (by decide) ?_
            refine lv_iadd hx hb dL_edits_137 ?_
            refine bo_to (v := (nI (k + 2))) (nI_add k 2) ?_
            refine lv_imul hx hb dL_edits_138 ?_
            refine bo_to (v := (nI (16 * (k + 2)))) (pk_mul 16 (k + 2)) ?_
            refine lv_iload hx hb dL_edits_139 (lv_at hl 11 rfl) ?_
            refine lv_iadd hx hb dL_edits_141 ?_
            refine bo_to (v := (nI (16 * (k + 2) + d))) (nI_add _ _) ?_
            refine lv_iconst (v := 2) hx hb dL_edits_142 (by decide) ?_
            refine lv_iadd hx hb dL_edits_143 ?_
            have ea1 : nI (16 * (k + 2) + d + 2) / 16 - 2 = nI k := by
              rw [show (16 : Int32) = nI 16 from rfl, pk_div (by omega) (by decide) (by decide), show (2 : Int32) = nI 2 from rfl, pk_sub (by omega)]; congr 1; omega
            have ea2 : nI (16 * (k + 2) + d + 2) - nI (16 * (k + 2) + d + 2) / 16 * 16 - 2 = nI d := by
              rw [show (16 : Int32) = nI 16 from rfl, pk_rem (by omega) (by decide) (by decide), show (2 : Int32) = nI 2 from rfl, pk_sub (by omega)]; congr 1; omega
            refine bo_to (v := (nI (16 * (k + 2) + d + 2))) (nI_add _ 2) ?_
            refine p_iSk (mc1 := 8) (ms1 := 38) (fr := 12) (lo := 239) (n := 6) (As := [.ref xa, .ref xb, .int 1, .int (nI f), .int (nI w), .int (nI (16 * (k + 2) + d + 2))]) (rest := []) hF (m_both (mc := 4) (ms := 19) (p_cv (nm := k_n3) (sp := sp_edit mm (nI f) (nI w) ((nI (16 * (k + 2) + d + 2)) / 16 - 2) (((nI (16 * (k + 2) + d + 2)) - (nI (16 * (k + 2) + d + 2)) / 16 * 16) - 2)) (cl_ok ((by rw [ea1, ea2]; exact ed_y hL hw hf hk hd hs hg)) (hM.2.1)) (m_call (fun Z ad h => by rw [← h]; exact m_does_1 l hflag G Z ad mm (nI f) (nI w) (nI (16 * (k + 2) + d + 2)) hL.1 hK1) (Or.inl rfl))) (p_cv (nm := k_n3) (sp := sp_edit mm (nI f) (nI w) ((nI (16 * (k + 2) + d + 2)) / 16 - 2) (((nI (16 * (k + 2) + d + 2)) - (nI (16 * (k + 2) + d + 2)) / 16 * 16) - 2)) (cl_ok ((by rw [ea1, ea2]; exact ed_y hL hw hf hk hd hs hg)) (hM.2.1)) (m_call (fun Z ad h => by rw [← h]; exact m_does_1 l hflag G Z ad mm (nI f) (nI w) (nI (16 * (k + 2) + d + 2)) hL.1 hK1) (Or.inl rfl)))) p_Em.id ke_L_both wd_l_L_147 (by decide) hI hX hS rfl hl.1 rfl (Nat.le_of_ble_eq_true rfl) dL_edits_144 (by first | decide | omega | (dsimp only; omega)) (fun H locs hI hS => ?_)
            replace hI : p_J G xa xb Z ((sp_make mm w (nI k) (nI d) (nI f)), (sp_make mm w (nI k) (nI d) (nI f))) H := hI
            refine lv_istore (lv' := [(14, .int 1), (12, .long (al mm)), (11, .int (mm 10 0)), (10, .int (mm 7 w)), (9, .int 1), (8, .int (mm 6 w)), (7, .int 0), (0, .ref xa), (1, .ref xb), (3, .int (nI f)), (4, .int (nI w)), (5, .int (nI k)), (6, .int (nI d))]) hx hb dL_edits_147 hl (by decide) rfl (fun ls hl => ?_)
            refine lv_iload hx hb dL_edits_149 (lv_at hl 6 rfl) ?_
            refine lv_if_eq (tgt := 182) hx hb dL_edits_151 (by decide) (fun c151 => ?_) (fun c151 => ?_)
            · skip
              refine lv_iload hx hb dL_edits_182 (lv_at hl 0 rfl) ?_
              refine lv_if_ne (tgt := 252) hx hb dL_edits_184 (by decide) (fun c184 => ?_) (fun c184 => ?_)
              · skip
                refine lv_iload hx hb dL_edits_252 (lv_at hl 4 rfl) ?_
                refine lv_if_eq (tgt := 358) hx hb dL_edits_254 (by decide) (fun c254 => ?_) (fun c254 => ?_)
                · skip
                  exact absurd c254 (by decide)
                · skip
                  refine lv_iload hx hb dL_edits_257 (lv_at hl 0 rfl) ?_
                  refine lv_iconst (v := 1) hx hb dL_edits_259 (by decide) ?_
                  refine lv_icmp_ne (tgt := 358) hx hb dL_edits_260 (by decide) (fun c260 => ?_) (fun c260 => ?_)
                  · skip
                    exact absurd rfl c260
                  · skip
                    refine lv_aload_n hx hb dL_edits_263 rfl (lv_at hl 7 rfl) ?_
                    refine lv_iload_n hx hb dL_edits_264 rfl (lv_at hl 9 rfl) ?_
                    refine p_iVk (fr := 7) (lo := 110) (mc1 := 1) (ms1 := 6) (n := 1) (As := [.int (nI f)]) (rest := []) hF (pv_trust l hflag G xa (sp_make mm w (nI k) (nI d) (nI f)) (nI f)  (r0 := ((sp_make mm w (nI k) (nI d) (nI f)) 0 f)) (m0 := (sp_make mm w (nI k) (nI d) (nI f))) (v_tru hM hf) (hM.2.1)) p_Em.l ke_X4_trust wd_l_L_45 (by decide) hI hX hS rfl hl.1 rfl (Nat.le_of_ble_eq_true rfl) dL_edits_265 (by first | decide | omega | (dsimp only; omega)) (fun H locs hI hS => ?_)
                    replace hI : p_J G xa xb Z ((sp_make mm w (nI k) (nI d) (nI f)), (sp_make mm w (nI k) (nI d) (nI f))) H := hI
                    refine lv_iload hx hb dL_edits_268 (lv_at hl 5 rfl) ?_
                    refine lv_icmp_lt (tgt := 358) hx hb dL_edits_270 (by decide) (fun c270 => ?_) (fun c270 => ?_)
                    · skip
                      exact absurd hg (by rw [n8] at c270; exact bo_nle c270)
                    · skip
                      refine lv_aload_n hx hb dL_edits_273 rfl (lv_at hl 7 rfl) ?_
                      refine lv_iload hx hb dL_edits_274 (lv_at hl 10 rfl) ?_
                      refine p_iSk (mc1 := 3) (ms1 := 18) (fr := 8) (lo := 140) (n := 2) (As := [.ref xa, .int (nI w)]) (rest := []) hF (m_kind l hflag G xa (sp_make mm w (nI k) (nI d) (nI f)) w hM hMw) p_Em.l ke_L_kind wd_l_L_140 (by decide) hI hX hS rfl hl.1 rfl (Nat.le_of_ble_eq_true rfl) dL_edits_276 (by first | decide | omega | (dsimp only; omega)) (fun H locs hI hS => ?_)
                      replace hI : p_J G xa xb Z ((sp_make mm w (nI k) (nI d) (nI f)), (sp_make mm w (nI k) (nI d) (nI f))) H := hI
                      refine lv_iload hx hb dL_edits_279 (lv_at hl 11 rfl) ?_
                      refine lv_icmp_ne (tgt := 358) hx hb dL_edits_281 (by decide) (fun c281 => ?_) (fun c281 => ?_)
                      · skip
                        exact absurd n1 c281
                      · skip
                        refine lv_aload_n hx hb dL_edits_284 rfl (lv_at hl 7 rfl) ?_
                        refine lv_iload hx hb dL_edits_285 (lv_at hl 10 rfl) ?_
                        refine p_iSk (mc1 := 3) (ms1 := 18) (fr := 8) (lo := 140) (n := 2) (As := [.ref xa, .int (nI w)]) (rest := []) hF (m_turn l hflag G xa (sp_make mm w (nI k) (nI d) (nI f)) w hM hMw) p_Em.l ke_L_turn wd_l_L_144 (by decide) hI hX hS rfl hl.1 rfl (Nat.le_of_ble_eq_true rfl) dL_edits_287 (by first | decide | omega | (dsimp only; omega)) (fun H locs hI hS => ?_)
                        replace hI : p_J G xa xb Z ((sp_make mm w (nI k) (nI d) (nI f)), (sp_make mm w (nI k) (nI d) (nI f))) H := hI
                        refine lv_iload hx hb dL_edits_290 (lv_at hl 12 rfl) ?_
                        refine lv_icmp_ne (tgt := 358) hx hb dL_edits_292 (by decide) (fun c292 => ?_) (fun c292 => ?_)
                        · skip
                          exact absurd n2 c292
                        · skip
                          refine lv_aload_n hx hb dL_edits_295 rfl (lv_at hl 7 rfl) ?_
                          refine lv_iload hx hb dL_edits_296 (lv_at hl 10 rfl) ?_
                          refine p_iSk (mc1 := 3) (ms1 := 18) (fr := 8) (lo := 140) (n := 2) (As := [.ref xa, .int (nI w)]) (rest := []) hF (m_by l hflag G xa (sp_make mm w (nI k) (nI d) (nI f)) w hM hMw) p_Em.l ke_L_by wd_l_L_155 (by decide) hI hX hS rfl hl.1 rfl (Nat.le_of_ble_eq_true rfl) dL_edits_298 (by first | decide | omega | (dsimp only; omega)) (fun H locs hI hS => ?_)
                          replace hI : p_J G xa xb Z ((sp_make mm w (nI k) (nI d) (nI f)), (sp_make mm w (nI k) (nI d) (nI f))) H := hI
                          refine lv_iload_n hx hb dL_edits_301 rfl (lv_at hl 9 rfl) ?_
                          refine lv_icmp_ne (tgt := 358) hx hb dL_edits_302 (by decide) (fun c302 => ?_) (fun c302 => ?_)
                          · skip
                            exact absurd n3 c302
                          · skip
                            refine lv_aload_n hx hb dL_edits_305 rfl (lv_at hl 7 rfl) ?_
                            refine lv_iload hx hb dL_edits_306 (lv_at hl 10 rfl) ?_
                            refine p_iVk (fr := 7) (lo := 111) (mc1 := 1) (ms1 := 6) (n := 1) (As := [.int (nI w)]) (rest := []) hF (pv_versions l hflag G xa (sp_make mm w (nI k) (nI d) (nI f)) (nI w) hM.1 (r0 := ((sp_make mm w (nI k) (nI d) (nI f)) 7 w)) (m0 := (sp_make mm w (nI k) (nI d) (nI f))) (v_of hM hMw) (hM.2.1)) p_Em.l ke_X4_versions wd_l_L_49 (by decide) hI hX hS rfl hl.1 rfl (Nat.le_of_ble_eq_true rfl) dL_edits_308 (by first | decide | omega | (dsimp only; omega)) (fun H locs hI hS => ?_)
                            replace hI : p_J G xa xb Z ((sp_make mm w (nI k) (nI d) (nI f)), (sp_make mm w (nI k) (nI d) (nI f))) H := hI
                            refine lv_iload hx hb dL_edits_311 (lv_at hl 3 rfl) ?_
                            refine lv_iconst (v := 1) hx hb dL_edits_313 (by decide) ?_
                            refine lv_iadd hx hb dL_edits_314 ?_
                            refine lv_icmp_ne (tgt := 358) hx hb dL_edits_315 (by decide) (fun c315 => ?_) (fun c315 => ?_)
                            · skip
                              exact absurd n4 c315
                            · skip
                              refine lv_aload_n hx hb dL_edits_318 rfl (lv_at hl 7 rfl) ?_
                              refine p_iVk (fr := 0) (lo := 0) (mc1 := 0) (ms1 := 0) (n := 0) (As := []) (rest := []) hF (pv_clock l G xa (sp_make mm w (nI k) (nI d) (nI f))) p_Em.l ke_X4_clock wd_l_L_102 (by decide) hI hX hS rfl hl.1 rfl (Nat.le_of_ble_eq_true rfl) dL_edits_319 (by first | decide | omega | (dsimp only; omega)) (fun H locs hI hS => ?_)
                              replace hI : p_J G xa xb Z ((sp_make mm w (nI k) (nI d) (nI f)), (sp_make mm w (nI k) (nI d) (nI f))) H := hI
                              refine lv_iload hx hb dL_edits_322 (lv_at hl 2 rfl) ?_
                              refine lv_iconst (v := 1) hx hb dL_edits_324 (by decide) ?_
                              refine lv_iadd hx hb dL_edits_325 ?_
                              refine lv_icmp_ne (tgt := 358) hx hb dL_edits_326 (by decide) (fun c326 => ?_) (fun c326 => ?_)
                              · skip
                                exact absurd n5 c326
                              · skip
                                refine lv_aload_n hx hb dL_edits_329 rfl (lv_at hl 7 rfl) ?_
                                refine lv_iload hx hb dL_edits_330 (lv_at hl 10 rfl) ?_
                                refine lv_iload hx hb dL_edits_332 (lv_at hl 3 rfl) ?_
                                refine p_iVk (fr := 7) (lo := 112) (mc1 := 2) (ms1 := 12) (n := 2) (As := [.int (nI w), .int (mm 7 w)]) (rest := []) hF (pv_stampOf l hflag G xa (sp_make mm w (nI k) (nI d) (nI f)) (nI w) (mm 7 w) hM.1 (r0 := (nI (sp_L (sp_make mm w (nI k) (nI d) (nI f)) w) + 1)) (m0 := (sp_make mm w (nI k) (nI d) (nI f))) ((by rw [show mm 7 w = (sp_make mm w (nI k) (nI d) (nI f)) 7 w - 1 from by rw [n4]; exact (i_pm _).symm]; exact v_sta hM hMw)) (hM.2.1)) p_Em.l ke_X4_stampOf wd_l_L_55 (by decide) hI hX hS rfl hl.1 rfl (Nat.le_of_ble_eq_true rfl) dL_edits_334 (by first | decide | omega | (dsimp only; omega)) (fun H locs hI hS => ?_)
                                replace hI : p_J G xa xb Z ((sp_make mm w (nI k) (nI d) (nI f)), (sp_make mm w (nI k) (nI d) (nI f))) H := hI
                                refine lv_iload hx hb dL_edits_337 (lv_at hl 2 rfl) ?_
                                refine lv_iconst (v := 1) hx hb dL_edits_339 (by decide) ?_
                                refine lv_iadd hx hb dL_edits_340 ?_
                                refine lv_icmp_ne (tgt := 358) hx hb dL_edits_341 (by decide) (fun c341 => ?_) (fun c341 => ?_)
                                · skip
                                  exact absurd n6 c341
                                · skip
                                  refine lv_aload_n hx hb dL_edits_344 rfl (lv_at hl 7 rfl) ?_
                                  refine lv_iload hx hb dL_edits_345 (lv_at hl 10 rfl) ?_
                                  refine p_iVk (fr := 7) (lo := 111) (mc1 := 1) (ms1 := 6) (n := 1) (As := [.int (nI w)]) (rest := []) hF (pv_waiting l hflag G xa (sp_make mm w (nI k) (nI d) (nI f)) (nI w) hM.1 (r0 := ((sp_make mm w (nI k) (nI d) (nI f)) 9 w)) (m0 := (sp_make mm w (nI k) (nI d) (nI f))) (v_of hM hMw) (hM.2.1)) p_Em.l ke_X4_waiting wd_l_L_58 (by decide) hI hX hS rfl hl.1 rfl (Nat.le_of_ble_eq_true rfl) dL_edits_347 (by first | decide | omega | (dsimp only; omega)) (fun H locs hI hS => ?_)
                                  replace hI : p_J G xa xb Z ((sp_make mm w (nI k) (nI d) (nI f)), (sp_make mm w (nI k) (nI d) (nI f))) H := hI
                                  refine lv_iconst (v := (-1)) hx hb dL_edits_350 (by decide) ?_
                                  refine lv_icmp_ne (tgt := 358) hx hb dL_edits_351 (by decide) (fun c351 => ?_) (fun c351 => ?_)
                                  · skip
                                    exact absurd n7 c351
                                  · skip
                                    refine lv_iconst (v := 1) hx hb dL_edits_354 (by decide) ?_
                                    refine lv_goto (tgt := 359) hx hb dL_edits_355 (by decide) ?_
                                    exact p_zret hx hb hr hlk hI hS (by first | decide | omega | (dsimp only; omega)) (by first | decide | omega | (dsimp only; omega)) (by decide) (⟨rfl, _, rfl, hM, Nat.le_of_eq hMK⟩) dL_edits_359
              · skip
                exact absurd c184 (by decide)
            · skip
              exact absurd (by decide) c151
          · skip
            have hM := LI_wait (w := w) hL (Q_co hk hd hf)
            have hMw : w < sp_W (up2 mm 9 w (sp_co (nI k) (nI d) (nI f))) := hw
            refine lv_aload_n hx hb dL_edits_126 rfl (lv_at hl 6 rfl) ?_
            refine lv_aload_n hx hb dL_edits_127 rfl (lv_at hl 7 rfl) ?_
            refine lv_iconst (v := 1) hx hb dL_edits_128 (by decide) ?_
            refine lv_iload_n hx hb dL_edits_129 rfl (lv_at hl 8 rfl) ?_
            refine lv_iload hx hb dL_edits_130 (lv_at hl 9 rfl) ?_
            refine lv_bipush (v := 16) hx hb dL_edits_132 (by decide) ?_
            refine lv_iload hx hb dL_edits_134 (lv_at hl 10 rfl) ?_
            refine lv_iconst (v := 2) hx hb dL_edits_136 (by decide) ?_
            refine lv_iadd hx hb dL_edits_137 ?_
            refine bo_to (v := (nI (k + 2))) (nI_add k 2) ?_
            refine lv_imul hx hb dL_edits_138 ?_
            refine bo_to (v := (nI (16 * (k + 2)))) (pk_mul 16 (k + 2)) ?_
            refine lv_iload hx hb dL_edits_139 (lv_at hl 11 rfl) ?_
            refine lv_iadd hx hb dL_edits_141 ?_
            refine bo_to (v := (nI (16 * (k + 2) + d))) (nI_add _ _) ?_
            refine lv_iconst (v := 2) hx hb dL_edits_142 (by decide) ?_
            refine lv_iadd hx hb dL_edits_143 ?_
            have ea1 : nI (16 * (k + 2) + d + 2) / 16 - 2 = nI k := by
              rw [show (16 : Int32) = nI 16 from rfl, pk_div (by omega) (by decide) (by decide), show (2 : Int32) = nI 2 from rfl, pk_sub (by omega)]; congr 1; omega
            have ea2 : nI (16 * (k + 2) + d + 2) - nI (16 * (k + 2) + d + 2) / 16 * 16 - 2 = nI d := by
              rw [show (16 : Int32) = nI 16 from rfl, pk_rem (by omega) (by decide) (by decide), show (2 : Int32) = nI 2 from rfl, pk_sub (by omega)]; congr 1; omega
            refine bo_to (v := (nI (16 * (k + 2) + d + 2))) (nI_add _ 2) ?_
            refine p_iSk (mc1 := 8) (ms1 := 38) (fr := 12) (lo := 239) (n := 6) (As := [.ref xa, .ref xb, .int 1, .int (nI f), .int (nI w), .int (nI (16 * (k + 2) + d + 2))]) (rest := []) hF (m_both (mc := 4) (ms := 19) (p_cv (nm := k_n3) (sp := sp_edit mm (nI f) (nI w) ((nI (16 * (k + 2) + d + 2)) / 16 - 2) (((nI (16 * (k + 2) + d + 2)) - (nI (16 * (k + 2) + d + 2)) / 16 * 16) - 2)) (cl_ok ((by rw [ea1, ea2]; exact ed_n hL hw hf hk hd hs hg)) (hM.2.1)) (m_call (fun Z ad h => by rw [← h]; exact m_does_1 l hflag G Z ad mm (nI f) (nI w) (nI (16 * (k + 2) + d + 2)) hL.1 hK1) (Or.inl rfl))) (p_cv (nm := k_n3) (sp := sp_edit mm (nI f) (nI w) ((nI (16 * (k + 2) + d + 2)) / 16 - 2) (((nI (16 * (k + 2) + d + 2)) - (nI (16 * (k + 2) + d + 2)) / 16 * 16) - 2)) (cl_ok ((by rw [ea1, ea2]; exact ed_n hL hw hf hk hd hs hg)) (hM.2.1)) (m_call (fun Z ad h => by rw [← h]; exact m_does_1 l hflag G Z ad mm (nI f) (nI w) (nI (16 * (k + 2) + d + 2)) hL.1 hK1) (Or.inl rfl)))) p_Em.id ke_L_both wd_l_L_147 (by decide) hI hX hS rfl hl.1 rfl (Nat.le_of_ble_eq_true rfl) dL_edits_144 (by first | decide | omega | (dsimp only; omega)) (fun H locs hI hS => ?_)
            replace hI : p_J G xa xb Z ((up2 mm 9 w (sp_co (nI k) (nI d) (nI f))), (up2 mm 9 w (sp_co (nI k) (nI d) (nI f)))) H := hI
            refine lv_istore (lv' := [(14, .int 0), (12, .long (al mm)), (11, .int (mm 10 0)), (10, .int (mm 7 w)), (9, .int 1), (8, .int (mm 6 w)), (7, .int 0), (0, .ref xa), (1, .ref xb), (3, .int (nI f)), (4, .int (nI w)), (5, .int (nI k)), (6, .int (nI d))]) hx hb dL_edits_147 hl (by decide) rfl (fun ls hl => ?_)
            refine lv_iload hx hb dL_edits_149 (lv_at hl 6 rfl) ?_
            refine lv_if_eq (tgt := 182) hx hb dL_edits_151 (by decide) (fun c151 => ?_) (fun c151 => ?_)
            · skip
              refine lv_iload hx hb dL_edits_182 (lv_at hl 0 rfl) ?_
              refine lv_if_ne (tgt := 252) hx hb dL_edits_184 (by decide) (fun c184 => ?_) (fun c184 => ?_)
              · skip
                exact absurd c184 (by decide)
              · skip
                refine lv_iload hx hb dL_edits_187 (lv_at hl 4 rfl) ?_
                refine lv_if_eq (tgt := 250) hx hb dL_edits_189 (by decide) (fun c189 => ?_) (fun c189 => ?_)
                · skip
                  exact absurd c189 (by decide)
                · skip
                  refine lv_aload_n hx hb dL_edits_192 rfl (lv_at hl 7 rfl) ?_
                  refine lv_iload_n hx hb dL_edits_193 rfl (lv_at hl 9 rfl) ?_
                  refine p_iVk (fr := 7) (lo := 110) (mc1 := 1) (ms1 := 6) (n := 1) (As := [.int (nI f)]) (rest := []) hF (pv_trust l hflag G xa (up2 mm 9 w (sp_co (nI k) (nI d) (nI f))) (nI f)  (r0 := ((up2 mm 9 w (sp_co (nI k) (nI d) (nI f))) 0 f)) (m0 := (up2 mm 9 w (sp_co (nI k) (nI d) (nI f)))) (v_tru hM hf) (hM.2.1)) p_Em.l ke_X4_trust wd_l_L_45 (by decide) hI hX hS rfl hl.1 rfl (Nat.le_of_ble_eq_true rfl) dL_edits_194 (by first | decide | omega | (dsimp only; omega)) (fun H locs hI hS => ?_)
                  replace hI : p_J G xa xb Z ((up2 mm 9 w (sp_co (nI k) (nI d) (nI f))), (up2 mm 9 w (sp_co (nI k) (nI d) (nI f)))) H := hI
                  refine lv_iload hx hb dL_edits_197 (lv_at hl 5 rfl) ?_
                  refine lv_icmp_ge (tgt := 250) hx hb dL_edits_199 (by decide) (fun c199 => ?_) (fun c199 => ?_)
                  · skip
                    exact absurd (show mm 6 w ≤ mm 0 f from c199) hg
                  · skip
                    refine lv_aload_n hx hb dL_edits_202 rfl (lv_at hl 7 rfl) ?_
                    refine lv_iload hx hb dL_edits_203 (lv_at hl 10 rfl) ?_
                    refine p_iVk (fr := 7) (lo := 111) (mc1 := 1) (ms1 := 6) (n := 1) (As := [.int (nI w)]) (rest := []) hF (pv_waiting l hflag G xa (up2 mm 9 w (sp_co (nI k) (nI d) (nI f))) (nI w) hM.1 (r0 := ((up2 mm 9 w (sp_co (nI k) (nI d) (nI f))) 9 w)) (m0 := (up2 mm 9 w (sp_co (nI k) (nI d) (nI f)))) (v_of hM hMw) (hM.2.1)) p_Em.l ke_X4_waiting wd_l_L_58 (by decide) hI hX hS rfl hl.1 rfl (Nat.le_of_ble_eq_true rfl) dL_edits_205 (by first | decide | omega | (dsimp only; omega)) (fun H locs hI hS => ?_)
                    replace hI : p_J G xa xb Z ((up2 mm 9 w (sp_co (nI k) (nI d) (nI f))), (up2 mm 9 w (sp_co (nI k) (nI d) (nI f)))) H := hI
                    refine lv_bipush (v := 100) hx hb dL_edits_208 (by decide) ?_
                    refine lv_iload hx hb dL_edits_210 (lv_at hl 11 rfl) ?_
                    refine lv_imul hx hb dL_edits_212 ?_
                    refine lv_bipush (v := 10) hx hb dL_edits_213 (by decide) ?_
                    refine lv_iload hx hb dL_edits_215 (lv_at hl 12 rfl) ?_
                    refine lv_imul hx hb dL_edits_217 ?_
                    refine lv_iadd hx hb dL_edits_218 ?_
                    refine lv_iload_n hx hb dL_edits_219 rfl (lv_at hl 9 rfl) ?_
                    refine lv_iadd hx hb dL_edits_220 ?_
                    refine lv_iconst (v := 1) hx hb dL_edits_221 (by decide) ?_
                    refine lv_iadd hx hb dL_edits_222 ?_
                    refine lv_icmp_ne (tgt := 250) hx hb dL_edits_223 (by decide) (fun c223 => ?_) (fun c223 => ?_)
                    · skip
                      exact absurd (by rw [up2_s]; rfl) c223
                    · skip
                      refine lv_aload_n hx hb dL_edits_226 rfl (lv_at hl 7 rfl) ?_
                      refine lv_iload hx hb dL_edits_227 (lv_at hl 10 rfl) ?_
                      refine p_iVk (fr := 7) (lo := 111) (mc1 := 1) (ms1 := 6) (n := 1) (As := [.int (nI w)]) (rest := []) hF (pv_versions l hflag G xa (up2 mm 9 w (sp_co (nI k) (nI d) (nI f))) (nI w) hM.1 (r0 := ((up2 mm 9 w (sp_co (nI k) (nI d) (nI f))) 7 w)) (m0 := (up2 mm 9 w (sp_co (nI k) (nI d) (nI f)))) (v_of hM hMw) (hM.2.1)) p_Em.l ke_X4_versions wd_l_L_49 (by decide) hI hX hS rfl hl.1 rfl (Nat.le_of_ble_eq_true rfl) dL_edits_229 (by first | decide | omega | (dsimp only; omega)) (fun H locs hI hS => ?_)
                      replace hI : p_J G xa xb Z ((up2 mm 9 w (sp_co (nI k) (nI d) (nI f))), (up2 mm 9 w (sp_co (nI k) (nI d) (nI f)))) H := hI
                      refine lv_iload hx hb dL_edits_232 (lv_at hl 3 rfl) ?_
                      refine lv_icmp_ne (tgt := 250) hx hb dL_edits_234 (by decide) (fun c234 => ?_) (fun c234 => ?_)
                      · skip
                        exact absurd (up2_c (by decide)) c234
                      · skip
                        refine lv_aload_n hx hb dL_edits_237 rfl (lv_at hl 7 rfl) ?_
                        refine p_iVk (fr := 0) (lo := 0) (mc1 := 0) (ms1 := 0) (n := 0) (As := []) (rest := []) hF (pv_clock l G xa (up2 mm 9 w (sp_co (nI k) (nI d) (nI f)))) p_Em.l ke_X4_clock wd_l_L_102 (by decide) hI hX hS rfl hl.1 rfl (Nat.le_of_ble_eq_true rfl) dL_edits_238 (by first | decide | omega | (dsimp only; omega)) (fun H locs hI hS => ?_)
                        replace hI : p_J G xa xb Z ((up2 mm 9 w (sp_co (nI k) (nI d) (nI f))), (up2 mm 9 w (sp_co (nI k) (nI d) (nI f)))) H := hI
                        refine lv_iload hx hb dL_edits_241 (lv_at hl 2 rfl) ?_
                        refine lv_icmp_ne (tgt := 250) hx hb dL_edits_243 (by decide) (fun c243 => ?_) (fun c243 => ?_)
                        · skip
                          exact absurd (up2_c (by decide)) c243
                        · skip
                          refine lv_iconst (v := 1) hx hb dL_edits_246 (by decide) ?_
                          refine lv_goto (tgt := 251) hx hb dL_edits_247 (by decide) ?_
                          exact p_zret hx hb hr hlk hI hS (by first | decide | omega | (dsimp only; omega)) (by first | decide | omega | (dsimp only; omega)) (by decide) (⟨rfl, _, rfl, hM, Nat.le_succ _⟩) dL_edits_251
            · skip
              exact absurd (by decide) c151
    · skip
      refine lv_aload_n hx hb dL_edits_39 rfl (lv_at hl 4 rfl) ?_
      refine lv_iload hx hb dL_edits_40 (lv_at hl 2 rfl) ?_
      refine p_iSk (mc1 := 3) (ms1 := 18) (fr := 8) (lo := 140) (n := 2) (As := [.ref xa, .int (nI w)]) (rest := []) hF (m_kind l hflag G xa mm w hL hw) p_Em.l ke_L_kind wd_l_L_140 (by decide) hI hX hS rfl hl.1 rfl (Nat.le_of_ble_eq_true rfl) dL_edits_42 (by first | decide | omega | (dsimp only; omega)) (fun H locs hI hS => ?_)
      replace hI : p_J G xa xb Z (mm, mm) H := hI
      refine lv_iload hx hb dL_edits_45 (lv_at hl 1 rfl) ?_
      refine lv_icmp_ne (tgt := 65) hx hb dL_edits_47 (by decide) (fun c47 => ?_) (fun c47 => ?_)
      · skip
        refine lv_iconst (v := 0) hx hb dL_edits_65 (by decide) ?_
        refine W.widen (k := 6) (n := 36) (by first | decide | omega | (dsimp only; omega)) (by first | decide | omega | (dsimp only; omega)) ?_
        exact J66 _ _ _ ⟨hI, hS, lv_sub hl [4, 5, 3, 2, 1, 0] rfl⟩
      · skip
        refine lv_aload_n hx hb dL_edits_50 rfl (lv_at hl 4 rfl) ?_
        refine lv_iload hx hb dL_edits_51 (lv_at hl 2 rfl) ?_
        refine p_iSk (mc1 := 3) (ms1 := 18) (fr := 8) (lo := 140) (n := 2) (As := [.ref xa, .int (nI w)]) (rest := []) hF (m_turn l hflag G xa mm w hL hw) p_Em.l ke_L_turn wd_l_L_144 (by decide) hI hX hS rfl hl.1 rfl (Nat.le_of_ble_eq_true rfl) dL_edits_53 (by first | decide | omega | (dsimp only; omega)) (fun H locs hI hS => ?_)
        replace hI : p_J G xa xb Z (mm, mm) H := hI
        refine lv_iload hx hb dL_edits_56 (lv_at hl 0 rfl) ?_
        refine lv_icmp_ne (tgt := 65) hx hb dL_edits_58 (by decide) (fun c58 => ?_) (fun c58 => ?_)
        · skip
          refine lv_iconst (v := 0) hx hb dL_edits_65 (by decide) ?_
          refine W.widen (k := 6) (n := 36) (by first | decide | omega | (dsimp only; omega)) (by first | decide | omega | (dsimp only; omega)) ?_
          exact J66 _ _ _ ⟨hI, hS, lv_sub hl [4, 5, 3, 2, 1, 0] rfl⟩
        · skip
          exact absurd ⟨c47.symm, c58.symm⟩ hs
theorem ke_L_edits : wl_S yL_edits cL_edits 15 (some .boolean) 3 := ⟨wd_c_L_edits, wd_t_L_edits, wd_n_L, by decide, by decide +kernel⟩
