/-! ===== the law of the property: its loop ===== -/
def ll_0 (n : Nat) : Nat → Prop := fun q => n ≤ q
/-- a place in the loop: P what is known of the table, L0 the locals -/
def lg_W (p : Program) (l : Launch) (e : Env) (s : State) (m : MethodId) (below : List Frame) (meth : Method) (c : Code) (b : Nat) (G : k_G) (xa xb : Nat) (Z : Nat → Prop) (Q : State → Prop) (cells slots t : Nat) (P : q_Mem → Prop) (L0 : q_Mem → List (Nat × Value)) (pc : Nat) : Prop :=
  ∀ (mm : q_Mem) (H : Heap) (locs : List Loc) (ls : Array Slot), LI mm → sp_K mm ≤ t → P mm → p_J G xa xb Z (mm, mm) H → va_S Z s.heap H locs → lv_has ls 15 (L0 mm) → W p l e room_1 s m #[Value.ref b] below meth c H locs cells slots Q (F0 m pc ls [])
theorem dL_law_44 : decode cL_law 44 = .ok (.iload 4, 2) := by decide +kernel
theorem dL_law_46 : decode cL_law 46 = .ok (.bipush 110, 2) := by decide +kernel
theorem dL_law_48 : decode cL_law 48 = .ok (.if_icmp .ge 497, 3) := by decide +kernel
theorem dL_law_51 : decode cL_law 51 = .ok (.iload_n 3, 1) := by decide +kernel
theorem dL_law_52 : decode cL_law 52 = .ok (.ifCond .eq 493, 3) := by decide +kernel
theorem dL_law_55 : decode cL_law 55 = .ok (.aload_n 0, 1) := by decide +kernel
theorem dL_law_56 : decode cL_law 56 = .ok (.iconst 2, 1) := by decide +kernel
theorem dL_law_57 : decode cL_law 57 = .ok (.iload 4, 2) := by decide +kernel
theorem dL_law_59 : decode cL_law 59 = .ok (.imul, 1) := by decide +kernel
theorem dL_law_60 : decode cL_law 60 = .ok (.invokestatic 166, 3) := by decide +kernel
theorem dL_law_63 : decode cL_law 63 = .ok (.istore 5, 2) := by decide +kernel
theorem dL_law_65 : decode cL_law 65 = .ok (.aload_n 0, 1) := by decide +kernel
theorem dL_law_66 : decode cL_law 66 = .ok (.iconst 2, 1) := by decide +kernel
theorem dL_law_67 : decode cL_law 67 = .ok (.iload 4, 2) := by decide +kernel
theorem dL_law_69 : decode cL_law 69 = .ok (.imul, 1) := by decide +kernel
theorem dL_law_70 : decode cL_law 70 = .ok (.iconst 1, 1) := by decide +kernel
theorem dL_law_71 : decode cL_law 71 = .ok (.iadd, 1) := by decide +kernel
theorem dL_law_72 : decode cL_law 72 = .ok (.invokestatic 166, 3) := by decide +kernel
theorem dL_law_75 : decode cL_law 75 = .ok (.istore 6, 2) := by decide +kernel
theorem dL_law_77 : decode cL_law 77 = .ok (.iload 5, 2) := by decide +kernel
theorem dL_law_79 : decode cL_law 79 = .ok (.bipush 20, 2) := by decide +kernel
theorem dL_law_81 : decode cL_law 81 = .ok (.invokestatic 137, 3) := by decide +kernel
theorem dL_law_84 : decode cL_law 84 = .ok (.istore 7, 2) := by decide +kernel
theorem dL_law_86 : decode cL_law 86 = .ok (.aload_n 1, 1) := by decide +kernel
theorem dL_law_87 : decode cL_law 87 = .ok (.invokevirtual 108, 3) := by decide +kernel
theorem dL_law_90 : decode cL_law 90 = .ok (.istore 8, 2) := by decide +kernel
theorem dL_law_92 : decode cL_law 92 = .ok (.iload 8, 2) := by decide +kernel
theorem dL_law_94 : decode cL_law 94 = .ok (.iconst 3, 1) := by decide +kernel
theorem dL_law_95 : decode cL_law 95 = .ok (.if_icmp .lt 16, 3) := by decide +kernel
theorem dL_law_98 : decode cL_law 98 = .ok (.iload 7, 2) := by decide +kernel
theorem dL_law_100 : decode cL_law 100 = .ok (.iconst 2, 1) := by decide +kernel
theorem dL_law_101 : decode cL_law 101 = .ok (.if_icmp .ge 209, 3) := by decide +kernel
theorem dL_law_104 : decode cL_law 104 = .ok (.iload 8, 2) := by decide +kernel
theorem dL_law_106 : decode cL_law 106 = .ok (.bipush 12, 2) := by decide +kernel
theorem dL_law_108 : decode cL_law 108 = .ok (.if_icmp .ge 202, 3) := by decide +kernel
theorem dL_law_111 : decode cL_law 111 = .ok (.aload_n 1, 1) := by decide +kernel
theorem dL_law_112 : decode cL_law 112 = .ok (.invokevirtual 102, 3) := by decide +kernel
theorem dL_law_115 : decode cL_law 115 = .ok (.istore 9, 2) := by decide +kernel
theorem dL_law_117 : decode cL_law 117 = .ok (.iload 6, 2) := by decide +kernel
theorem dL_law_119 : decode cL_law 119 = .ok (.bipush 13, 2) := by decide +kernel
theorem dL_law_121 : decode cL_law 121 = .ok (.invokestatic 137, 3) := by decide +kernel
theorem dL_law_124 : decode cL_law 124 = .ok (.istore 10, 2) := by decide +kernel
theorem dL_law_126 : decode cL_law 126 = .ok (.iload 6, 2) := by decide +kernel
theorem dL_law_128 : decode cL_law 128 = .ok (.iconst 4, 1) := by decide +kernel
theorem dL_law_129 : decode cL_law 129 = .ok (.ishr, 1) := by decide +kernel
theorem dL_law_130 : decode cL_law 130 = .ok (.bipush 13, 2) := by decide +kernel
theorem dL_law_132 : decode cL_law 132 = .ok (.invokestatic 137, 3) := by decide +kernel
theorem dL_law_135 : decode cL_law 135 = .ok (.istore 11, 2) := by decide +kernel
theorem dL_law_137 : decode cL_law 137 = .ok (.iconst 1, 1) := by decide +kernel
theorem dL_law_138 : decode cL_law 138 = .ok (.iload 6, 2) := by decide +kernel
theorem dL_law_140 : decode cL_law 140 = .ok (.bipush 8, 2) := by decide +kernel
theorem dL_law_142 : decode cL_law 142 = .ok (.ishr, 1) := by decide +kernel
theorem dL_law_143 : decode cL_law 143 = .ok (.iconst 4, 1) := by decide +kernel
theorem dL_law_144 : decode cL_law 144 = .ok (.invokestatic 137, 3) := by decide +kernel
theorem dL_law_147 : decode cL_law 147 = .ok (.iadd, 1) := by decide +kernel
theorem dL_law_148 : decode cL_law 148 = .ok (.iload 6, 2) := by decide +kernel
theorem dL_law_150 : decode cL_law 150 = .ok (.bipush 10, 2) := by decide +kernel
theorem dL_law_152 : decode cL_law 152 = .ok (.ishr, 1) := by decide +kernel
theorem dL_law_153 : decode cL_law 153 = .ok (.iconst 2, 1) := by decide +kernel
theorem dL_law_154 : decode cL_law 154 = .ok (.invokestatic 137, 3) := by decide +kernel
theorem dL_law_157 : decode cL_law 157 = .ok (.ifCond .ne 7, 3) := by decide +kernel
theorem dL_law_160 : decode cL_law 160 = .ok (.iconst 1, 1) := by decide +kernel
theorem dL_law_161 : decode cL_law 161 = .ok (.goto 4, 3) := by decide +kernel
theorem dL_law_164 : decode cL_law 164 = .ok (.iconst (-1), 1) := by decide +kernel
theorem dL_law_165 : decode cL_law 165 = .ok (.imul, 1) := by decide +kernel
theorem dL_law_166 : decode cL_law 166 = .ok (.istore 12, 2) := by decide +kernel
theorem dL_law_168 : decode cL_law 168 = .ok (.iload 6, 2) := by decide +kernel
theorem dL_law_170 : decode cL_law 170 = .ok (.bipush 11, 2) := by decide +kernel
theorem dL_law_172 : decode cL_law 172 = .ok (.ishr, 1) := by decide +kernel
theorem dL_law_173 : decode cL_law 173 = .ok (.iconst 4, 1) := by decide +kernel
theorem dL_law_174 : decode cL_law 174 = .ok (.invokestatic 137, 3) := by decide +kernel
theorem dL_law_177 : decode cL_law 177 = .ok (.istore 13, 2) := by decide +kernel
theorem dL_law_179 : decode cL_law 179 = .ok (.aload_n 1, 1) := by decide +kernel
theorem dL_law_180 : decode cL_law 180 = .ok (.aload_n 2, 1) := by decide +kernel
theorem dL_law_181 : decode cL_law 181 = .ok (.iconst 0, 1) := by decide +kernel
theorem dL_law_182 : decode cL_law 182 = .ok (.iload 5, 2) := by decide +kernel
theorem dL_law_184 : decode cL_law 184 = .ok (.iconst 5, 1) := by decide +kernel
theorem dL_law_185 : decode cL_law 185 = .ok (.ishr, 1) := by decide +kernel
theorem dL_law_186 : decode cL_law 186 = .ok (.bipush 6, 2) := by decide +kernel
theorem dL_law_188 : decode cL_law 188 = .ok (.invokestatic 137, 3) := by decide +kernel
theorem dL_law_191 : decode cL_law 191 = .ok (.bipush 32, 2) := by decide +kernel
theorem dL_law_193 : decode cL_law 193 = .ok (.iload 10, 2) := by decide +kernel
theorem dL_law_195 : decode cL_law 195 = .ok (.bipush 8, 2) := by decide +kernel
theorem dL_law_197 : decode cL_law 197 = .ok (.iadd, 1) := by decide +kernel
theorem dL_law_198 : decode cL_law 198 = .ok (.imul, 1) := by decide +kernel
theorem dL_law_199 : decode cL_law 199 = .ok (.iload 11, 2) := by decide +kernel
theorem dL_law_201 : decode cL_law 201 = .ok (.iadd, 1) := by decide +kernel
theorem dL_law_202 : decode cL_law 202 = .ok (.bipush 8, 2) := by decide +kernel
theorem dL_law_204 : decode cL_law 204 = .ok (.iadd, 1) := by decide +kernel
theorem dL_law_205 : decode cL_law 205 = .ok (.bipush 16, 2) := by decide +kernel
theorem dL_law_207 : decode cL_law 207 = .ok (.iload 12, 2) := by decide +kernel
theorem dL_law_209 : decode cL_law 209 = .ok (.bipush 40, 2) := by decide +kernel
theorem dL_law_211 : decode cL_law 211 = .ok (.iadd, 1) := by decide +kernel
theorem dL_law_212 : decode cL_law 212 = .ok (.imul, 1) := by decide +kernel
theorem dL_law_213 : decode cL_law 213 = .ok (.iload 13, 2) := by decide +kernel
theorem dL_law_215 : decode cL_law 215 = .ok (.iadd, 1) := by decide +kernel
theorem dL_law_216 : decode cL_law 216 = .ok (.iconst 2, 1) := by decide +kernel
theorem dL_law_217 : decode cL_law 217 = .ok (.iadd, 1) := by decide +kernel
theorem dL_law_218 : decode cL_law 218 = .ok (.invokestatic 147, 3) := by decide +kernel
theorem dL_law_221 : decode cL_law 221 = .ok (.istore 14, 2) := by decide +kernel
theorem dL_law_223 : decode cL_law 223 = .ok (.iload 14, 2) := by decide +kernel
theorem dL_law_225 : decode cL_law 225 = .ok (.iload 8, 2) := by decide +kernel
theorem dL_law_227 : decode cL_law 227 = .ok (.if_icmp .ne 78, 3) := by decide +kernel
theorem dL_law_230 : decode cL_law 230 = .ok (.aload_n 1, 1) := by decide +kernel
theorem dL_law_231 : decode cL_law 231 = .ok (.invokevirtual 108, 3) := by decide +kernel
theorem dL_law_234 : decode cL_law 234 = .ok (.iload 8, 2) := by decide +kernel
theorem dL_law_236 : decode cL_law 236 = .ok (.iconst 1, 1) := by decide +kernel
theorem dL_law_237 : decode cL_law 237 = .ok (.iadd, 1) := by decide +kernel
theorem dL_law_238 : decode cL_law 238 = .ok (.if_icmp .ne 67, 3) := by decide +kernel
theorem dL_law_241 : decode cL_law 241 = .ok (.aload_n 1, 1) := by decide +kernel
theorem dL_law_242 : decode cL_law 242 = .ok (.invokevirtual 102, 3) := by decide +kernel
theorem dL_law_245 : decode cL_law 245 = .ok (.iload 9, 2) := by decide +kernel
theorem dL_law_247 : decode cL_law 247 = .ok (.iconst 1, 1) := by decide +kernel
theorem dL_law_248 : decode cL_law 248 = .ok (.iadd, 1) := by decide +kernel
theorem dL_law_249 : decode cL_law 249 = .ok (.if_icmp .ne 56, 3) := by decide +kernel
theorem dL_law_252 : decode cL_law 252 = .ok (.aload_n 1, 1) := by decide +kernel
theorem dL_law_253 : decode cL_law 253 = .ok (.iload 14, 2) := by decide +kernel
theorem dL_law_255 : decode cL_law 255 = .ok (.invokestatic 140, 3) := by decide +kernel
theorem dL_law_258 : decode cL_law 258 = .ok (.iload 13, 2) := by decide +kernel
theorem dL_law_260 : decode cL_law 260 = .ok (.if_icmp .ne 45, 3) := by decide +kernel
theorem dL_law_263 : decode cL_law 263 = .ok (.aload_n 1, 1) := by decide +kernel
theorem dL_law_264 : decode cL_law 264 = .ok (.iload 14, 2) := by decide +kernel
theorem dL_law_266 : decode cL_law 266 = .ok (.invokestatic 144, 3) := by decide +kernel
theorem dL_law_269 : decode cL_law 269 = .ok (.ifCond .ne 36, 3) := by decide +kernel
theorem dL_law_272 : decode cL_law 272 = .ok (.aload_n 1, 1) := by decide +kernel
theorem dL_law_273 : decode cL_law 273 = .ok (.iload 14, 2) := by decide +kernel
theorem dL_law_275 : decode cL_law 275 = .ok (.invokevirtual 49, 3) := by decide +kernel
theorem dL_law_278 : decode cL_law 278 = .ok (.iconst 1, 1) := by decide +kernel
theorem dL_law_279 : decode cL_law 279 = .ok (.if_icmp .ne 26, 3) := by decide +kernel
theorem dL_law_282 : decode cL_law 282 = .ok (.aload_n 1, 1) := by decide +kernel
theorem dL_law_283 : decode cL_law 283 = .ok (.iload 14, 2) := by decide +kernel
theorem dL_law_285 : decode cL_law 285 = .ok (.invokevirtual 87, 3) := by decide +kernel
theorem dL_law_288 : decode cL_law 288 = .ok (.ifCond .ne 17, 3) := by decide +kernel
theorem dL_law_291 : decode cL_law 291 = .ok (.aload_n 1, 1) := by decide +kernel
theorem dL_law_292 : decode cL_law 292 = .ok (.iload 14, 2) := by decide +kernel
theorem dL_law_294 : decode cL_law 294 = .ok (.invokevirtual 58, 3) := by decide +kernel
theorem dL_law_297 : decode cL_law 297 = .ok (.iconst (-1), 1) := by decide +kernel
theorem dL_law_298 : decode cL_law 298 = .ok (.if_icmp .ne 7, 3) := by decide +kernel
theorem dL_law_301 : decode cL_law 301 = .ok (.iconst 1, 1) := by decide +kernel
theorem dL_law_302 : decode cL_law 302 = .ok (.goto 4, 3) := by decide +kernel
theorem dL_law_306 : decode cL_law 306 = .ok (.istore_n 3, 1) := by decide +kernel
theorem dL_law_307 : decode cL_law 307 = .ok (.goto 188, 3) := by decide +kernel
theorem dL_law_310 : decode cL_law 310 = .ok (.iload 7, 2) := by decide +kernel
theorem dL_law_312 : decode cL_law 312 = .ok (.bipush 7, 2) := by decide +kernel
theorem dL_law_314 : decode cL_law 314 = .ok (.if_icmp .ge 14, 3) := by decide +kernel
theorem dL_law_317 : decode cL_law 317 = .ok (.aload_n 1, 1) := by decide +kernel
theorem dL_law_318 : decode cL_law 318 = .ok (.aload_n 2, 1) := by decide +kernel
theorem dL_law_319 : decode cL_law 319 = .ok (.iload 6, 2) := by decide +kernel
theorem dL_law_321 : decode cL_law 321 = .ok (.invokestatic 170, 3) := by decide +kernel
theorem dL_law_324 : decode cL_law 324 = .ok (.istore_n 3, 1) := by decide +kernel
theorem dL_law_325 : decode cL_law 325 = .ok (.goto 170, 3) := by decide +kernel
theorem dL_law_328 : decode cL_law 328 = .ok (.iload 7, 2) := by decide +kernel
theorem dL_law_330 : decode cL_law 330 = .ok (.bipush 9, 2) := by decide +kernel
theorem dL_law_332 : decode cL_law 332 = .ok (.if_icmp .ge 14, 3) := by decide +kernel
theorem dL_law_335 : decode cL_law 335 = .ok (.aload_n 1, 1) := by decide +kernel
theorem dL_law_336 : decode cL_law 336 = .ok (.aload_n 2, 1) := by decide +kernel
theorem dL_law_337 : decode cL_law 337 = .ok (.iload 6, 2) := by decide +kernel
theorem dL_law_339 : decode cL_law 339 = .ok (.invokestatic 174, 3) := by decide +kernel
theorem dL_law_342 : decode cL_law 342 = .ok (.istore_n 3, 1) := by decide +kernel
theorem dL_law_343 : decode cL_law 343 = .ok (.goto 152, 3) := by decide +kernel
theorem dL_law_346 : decode cL_law 346 = .ok (.iload 7, 2) := by decide +kernel
theorem dL_law_348 : decode cL_law 348 = .ok (.bipush 10, 2) := by decide +kernel
theorem dL_law_350 : decode cL_law 350 = .ok (.if_icmp .ge 14, 3) := by decide +kernel
theorem dL_law_353 : decode cL_law 353 = .ok (.aload_n 1, 1) := by decide +kernel
theorem dL_law_354 : decode cL_law 354 = .ok (.aload_n 2, 1) := by decide +kernel
theorem dL_law_355 : decode cL_law 355 = .ok (.iload 6, 2) := by decide +kernel
theorem dL_law_357 : decode cL_law 357 = .ok (.invokestatic 177, 3) := by decide +kernel
theorem dL_law_360 : decode cL_law 360 = .ok (.istore_n 3, 1) := by decide +kernel
theorem dL_law_361 : decode cL_law 361 = .ok (.goto 134, 3) := by decide +kernel
theorem dL_law_364 : decode cL_law 364 = .ok (.iload 7, 2) := by decide +kernel
theorem dL_law_366 : decode cL_law 366 = .ok (.bipush 12, 2) := by decide +kernel
theorem dL_law_368 : decode cL_law 368 = .ok (.if_icmp .ge 65, 3) := by decide +kernel
theorem dL_law_371 : decode cL_law 371 = .ok (.iload 6, 2) := by decide +kernel
theorem dL_law_373 : decode cL_law 373 = .ok (.iload 8, 2) := by decide +kernel
theorem dL_law_375 : decode cL_law 375 = .ok (.invokestatic 137, 3) := by decide +kernel
theorem dL_law_378 : decode cL_law 378 = .ok (.istore 9, 2) := by decide +kernel
theorem dL_law_380 : decode cL_law 380 = .ok (.bipush 30, 2) := by decide +kernel
theorem dL_law_382 : decode cL_law 382 = .ok (.iload 6, 2) := by decide +kernel
theorem dL_law_384 : decode cL_law 384 = .ok (.iconst 4, 1) := by decide +kernel
theorem dL_law_385 : decode cL_law 385 = .ok (.ishr, 1) := by decide +kernel
theorem dL_law_386 : decode cL_law 386 = .ok (.bipush 50, 2) := by decide +kernel
theorem dL_law_388 : decode cL_law 388 = .ok (.invokestatic 137, 3) := by decide +kernel
theorem dL_law_391 : decode cL_law 391 = .ok (.iadd, 1) := by decide +kernel
theorem dL_law_392 : decode cL_law 392 = .ok (.istore 10, 2) := by decide +kernel
theorem dL_law_394 : decode cL_law 394 = .ok (.aload_n 1, 1) := by decide +kernel
theorem dL_law_395 : decode cL_law 395 = .ok (.aload_n 2, 1) := by decide +kernel
theorem dL_law_396 : decode cL_law 396 = .ok (.iconst 4, 1) := by decide +kernel
theorem dL_law_397 : decode cL_law 397 = .ok (.iload 9, 2) := by decide +kernel
theorem dL_law_399 : decode cL_law 399 = .ok (.iload 10, 2) := by decide +kernel
theorem dL_law_401 : decode cL_law 401 = .ok (.iconst 0, 1) := by decide +kernel
theorem dL_law_402 : decode cL_law 402 = .ok (.invokestatic 147, 3) := by decide +kernel
theorem dL_law_405 : decode cL_law 405 = .ok (.ifCond .lt 23, 3) := by decide +kernel
theorem dL_law_408 : decode cL_law 408 = .ok (.aload_n 1, 1) := by decide +kernel
theorem dL_law_409 : decode cL_law 409 = .ok (.aload_n 2, 1) := by decide +kernel
theorem dL_law_410 : decode cL_law 410 = .ok (.iconst 4, 1) := by decide +kernel
theorem dL_law_411 : decode cL_law 411 = .ok (.iload 9, 2) := by decide +kernel
theorem dL_law_413 : decode cL_law 413 = .ok (.iload 10, 2) := by decide +kernel
theorem dL_law_415 : decode cL_law 415 = .ok (.iconst 0, 1) := by decide +kernel
theorem dL_law_416 : decode cL_law 416 = .ok (.invokestatic 147, 3) := by decide +kernel
theorem dL_law_419 : decode cL_law 419 = .ok (.iload 10, 2) := by decide +kernel
theorem dL_law_421 : decode cL_law 421 = .ok (.if_icmp .ne 7, 3) := by decide +kernel
theorem dL_law_424 : decode cL_law 424 = .ok (.iconst 1, 1) := by decide +kernel
theorem dL_law_425 : decode cL_law 425 = .ok (.goto 4, 3) := by decide +kernel
theorem dL_law_429 : decode cL_law 429 = .ok (.istore_n 3, 1) := by decide +kernel
theorem dL_law_430 : decode cL_law 430 = .ok (.goto 65, 3) := by decide +kernel
theorem dL_law_433 : decode cL_law 433 = .ok (.iload 7, 2) := by decide +kernel
theorem dL_law_435 : decode cL_law 435 = .ok (.bipush 14, 2) := by decide +kernel
theorem dL_law_437 : decode cL_law 437 = .ok (.if_icmp .ge 34, 3) := by decide +kernel
theorem dL_law_440 : decode cL_law 440 = .ok (.iload 6, 2) := by decide +kernel
theorem dL_law_442 : decode cL_law 442 = .ok (.bipush 9, 2) := by decide +kernel
theorem dL_law_444 : decode cL_law 444 = .ok (.ishr, 1) := by decide +kernel
theorem dL_law_445 : decode cL_law 445 = .ok (.iconst 2, 1) := by decide +kernel
theorem dL_law_446 : decode cL_law 446 = .ok (.invokestatic 137, 3) := by decide +kernel
theorem dL_law_449 : decode cL_law 449 = .ok (.ifCond .eq 13, 3) := by decide +kernel
theorem dL_law_452 : decode cL_law 452 = .ok (.aload_n 1, 1) := by decide +kernel
theorem dL_law_453 : decode cL_law 453 = .ok (.aload_n 2, 1) := by decide +kernel
theorem dL_law_454 : decode cL_law 454 = .ok (.iload 6, 2) := by decide +kernel
theorem dL_law_456 : decode cL_law 456 = .ok (.invokestatic 180, 3) := by decide +kernel
theorem dL_law_459 : decode cL_law 459 = .ok (.ifCond .eq 7, 3) := by decide +kernel
theorem dL_law_462 : decode cL_law 462 = .ok (.iconst 1, 1) := by decide +kernel
theorem dL_law_463 : decode cL_law 463 = .ok (.goto 4, 3) := by decide +kernel
theorem dL_law_467 : decode cL_law 467 = .ok (.istore_n 3, 1) := by decide +kernel
theorem dL_law_468 : decode cL_law 468 = .ok (.goto 27, 3) := by decide +kernel
theorem dL_law_471 : decode cL_law 471 = .ok (.iload 7, 2) := by decide +kernel
theorem dL_law_473 : decode cL_law 473 = .ok (.bipush 15, 2) := by decide +kernel
theorem dL_law_475 : decode cL_law 475 = .ok (.if_icmp .ge 12, 3) := by decide +kernel
theorem dL_law_478 : decode cL_law 478 = .ok (.aload_n 1, 1) := by decide +kernel
theorem dL_law_479 : decode cL_law 479 = .ok (.aload_n 2, 1) := by decide +kernel
theorem dL_law_480 : decode cL_law 480 = .ok (.invokestatic 183, 3) := by decide +kernel
theorem dL_law_483 : decode cL_law 483 = .ok (.istore_n 3, 1) := by decide +kernel
theorem dL_law_484 : decode cL_law 484 = .ok (.goto 11, 3) := by decide +kernel
theorem dL_law_487 : decode cL_law 487 = .ok (.aload_n 1, 1) := by decide +kernel
theorem dL_law_488 : decode cL_law 488 = .ok (.aload_n 2, 1) := by decide +kernel
theorem dL_law_489 : decode cL_law 489 = .ok (.iload 6, 2) := by decide +kernel
theorem dL_law_491 : decode cL_law 491 = .ok (.invokestatic 187, 3) := by decide +kernel
theorem dL_law_494 : decode cL_law 494 = .ok (.istore_n 3, 1) := by decide +kernel
theorem dL_law_495 : decode cL_law 495 = .ok (.iload_n 3, 1) := by decide +kernel
theorem dL_law_496 : decode cL_law 496 = .ok (.ifCond .eq 41, 3) := by decide +kernel
theorem dL_law_499 : decode cL_law 499 = .ok (.iload 4, 2) := by decide +kernel
theorem dL_law_501 : decode cL_law 501 = .ok (.iconst 5, 1) := by decide +kernel
theorem dL_law_502 : decode cL_law 502 = .ok (.irem, 1) := by decide +kernel
theorem dL_law_503 : decode cL_law 503 = .ok (.ifCond .gt 15, 3) := by decide +kernel
theorem dL_law_506 : decode cL_law 506 = .ok (.aload_n 1, 1) := by decide +kernel
theorem dL_law_507 : decode cL_law 507 = .ok (.invokestatic 151, 3) := by decide +kernel
theorem dL_law_510 : decode cL_law 510 = .ok (.aload_n 2, 1) := by decide +kernel
theorem dL_law_511 : decode cL_law 511 = .ok (.invokestatic 151, 3) := by decide +kernel
theorem dL_law_514 : decode cL_law 514 = .ok (.lcmp, 1) := by decide +kernel
theorem dL_law_515 : decode cL_law 515 = .ok (.ifCond .ne 22, 3) := by decide +kernel
theorem dL_law_518 : decode cL_law 518 = .ok (.iload 4, 2) := by decide +kernel
theorem dL_law_520 : decode cL_law 520 = .ok (.bipush 25, 2) := by decide +kernel
theorem dL_law_522 : decode cL_law 522 = .ok (.irem, 1) := by decide +kernel
theorem dL_law_523 : decode cL_law 523 = .ok (.ifCond .gt 10, 3) := by decide +kernel
theorem dL_law_526 : decode cL_law 526 = .ok (.aload_n 1, 1) := by decide +kernel
theorem dL_law_527 : decode cL_law 527 = .ok (.invokestatic 162, 3) := by decide +kernel
theorem dL_law_530 : decode cL_law 530 = .ok (.ifCond .eq 7, 3) := by decide +kernel
theorem dL_law_533 : decode cL_law 533 = .ok (.iconst 1, 1) := by decide +kernel
theorem dL_law_534 : decode cL_law 534 = .ok (.goto 4, 3) := by decide +kernel
theorem dL_law_538 : decode cL_law 538 = .ok (.istore_n 3, 1) := by decide +kernel
theorem dL_law_539 : decode cL_law 539 = .ok (.iinc 4 1, 3) := by decide +kernel
theorem dL_law_542 : decode cL_law 542 = .ok (.goto (-498), 3) := by decide +kernel
theorem i40 (x : Nat) : nI (x + 40) - 40 = nI x := by
  rw [← nI_add, show nI 40 = (40 : Int32) from rfl, Int32.add_sub_cancel]
theorem lt_3 {mm : q_Mem} (hL : LI mm) (c : nI (sp_W mm) < 3) : sp_W mm < 40 := by
  have := hL.1.W40
  have := (nI_ltI (b := 3) (by omega) (by decide)).mp c
  omega
theorem lt_12 {mm : q_Mem} (hL : LI mm) (c : ¬ 12 ≤ nI (sp_W mm)) : sp_W mm < 40 := by
  have := hL.1.W40
  rcases Nat.lt_or_ge (sp_W mm) 12 with q | q
  · omega
  · exact absurd (nI_le (a := 12) q (by omega)) c
theorem ge_3 {mm : q_Mem} (hL : LI mm) (c : ¬ nI (sp_W mm) < 3) : 0 < sp_W mm := by
  have := hL.1.W40
  rcases Nat.eq_zero_or_pos (sp_W mm) with q | q
  · rw [q] at c; exact absurd (by decide) c
  · exact q
set_option maxHeartbeats 1000000 in
set_option maxRecDepth 100000 in
theorem lg_tail {p : Program} (l : Launch) (hflag : l.stackTraces = false) {e : Env} {s : State} {m : MethodId} {below : List Frame} {meth : Method} {c : Code} {b : Nat} {G : k_G} {xa xb : Nat} {Z : Nat → Prop} {Q : State → Prop} (hF : CallFix p m c cL_law 15 s #[Value.ref b] wsL_law RL) (hX : p_E0 G Z s) {k : Nat} (hk : k < 110) (hnext : lg_W p l e s m below meth c b G xa xb Z Q (3000 + 6000 * (k + 1)) (20000 + 30000 * (k + 1)) ((k + 1)) (fun _ => True) (fun _ => [(0, .ref b), (1, .ref xa), (2, .ref xb), (3, .int 1), (4, .int (nI (k + 1)))]) 44) : lg_W p l e s m below meth c b G xa xb Z Q (3000 + 6000 * k + 2000) (20000 + 30000 * k + 12000) (k + 1) (fun _ => True) (fun _ => [(0, .ref b), (1, .ref xa), (2, .ref xb), (3, .int 1), (4, .int (nI k))]) 495 := by
  intro mm H locs ls hL hK hP0 hI hS hl
  have hx := hF.1
  have hb := hF.2.1
  have hK1 : sp_K mm < 512 := by omega
  refine lv_iload_n hx hb dL_law_495 rfl (lv_at hl 3 rfl) ?_
  refine lv_if_eq (tgt := 537) hx hb dL_law_496 (by decide) (fun c496 => ?_) (fun c496 => ?_)
  · skip
    exact absurd c496 (by decide)
  · skip
    refine lv_iload hx hb dL_law_499 (lv_at hl 4 rfl) ?_
    refine lv_iconst (v := 5) hx hb dL_law_501 (by decide) ?_
    refine lv_irem hx hb dL_law_502 (by decide) ?_
    refine lv_if_gt (tgt := 518) hx hb dL_law_503 (by decide) (fun c503 => ?_) (fun c503 => ?_)
    · skip
      refine lv_iload hx hb dL_law_518 (lv_at hl 4 rfl) ?_
      refine lv_bipush (v := 25) hx hb dL_law_520 (by decide) ?_
      refine lv_irem hx hb dL_law_522 (by decide) ?_
      refine lv_if_gt (tgt := 533) hx hb dL_law_523 (by decide) (fun c523 => ?_) (fun c523 => ?_)
      · skip
        refine lv_iconst (v := 1) hx hb dL_law_533 (by decide) ?_
        refine lv_goto (tgt := 538) hx hb dL_law_534 (by decide) ?_
        refine lv_istore_n (lv' := [(3, .int 1), (0, .ref b), (1, .ref xa), (2, .ref xb), (4, .int (nI k))]) hx hb dL_law_538 rfl hl (by decide) rfl (fun ls hl => ?_)
        refine lv_iinc (v := (nI (k + 1))) (lv' := [(4, .int (nI (k + 1))), (3, .int 1), (0, .ref b), (1, .ref xa), (2, .ref xb)]) hx hb dL_law_539 hl (k := 4) rfl (nI_add k 1) (by decide) rfl (fun ls hl => ?_)
        refine lv_goto (tgt := 44) hx hb dL_law_542 (by decide) ?_
        refine W.widen (k := 3000 + 6000 * (k + 1)) (n := 20000 + 30000 * (k + 1)) (by first | decide | omega | (dsimp only; omega)) (by first | decide | omega | (dsimp only; omega)) ?_
        exact hnext mm H locs ls hL hK trivial hI hS (lv_sub hl [2, 3, 4, 1, 0] rfl)
      · skip
        refine lv_aload_n hx hb dL_law_526 rfl (lv_at hl 1 rfl) ?_
        refine p_iSk (mc1 := 1490) (ms1 := 9070) (fr := 13) (lo := 265) (n := 1) (As := [.ref xa]) (rest := []) hF (m_refused l hflag G xa mm hL hK1) p_Em.l ke_L_refused wd_l_L_162 (by decide) hI hX hS rfl hl.1 rfl (Nat.le_of_ble_eq_true rfl) dL_law_527 (by show _ ≤ 694672 ∧ _ ≤ 7017683; omega) (fun H locs hI hS => ?_)
        replace hI : p_J G xa xb Z (mm, mm) H := hI
        refine lv_if_eq (tgt := 537) hx hb dL_law_530 (by decide) (fun c530 => ?_) (fun c530 => ?_)
        · skip
          exact absurd c530 (by decide)
        · skip
          refine lv_iconst (v := 1) hx hb dL_law_533 (by decide) ?_
          refine lv_goto (tgt := 538) hx hb dL_law_534 (by decide) ?_
          refine lv_istore_n (lv' := [(3, .int 1), (0, .ref b), (1, .ref xa), (2, .ref xb), (4, .int (nI k))]) hx hb dL_law_538 rfl hl (by decide) rfl (fun ls hl => ?_)
          refine lv_iinc (v := (nI (k + 1))) (lv' := [(4, .int (nI (k + 1))), (3, .int 1), (0, .ref b), (1, .ref xa), (2, .ref xb)]) hx hb dL_law_539 hl (k := 4) rfl (nI_add k 1) (by decide) rfl (fun ls hl => ?_)
          refine lv_goto (tgt := 44) hx hb dL_law_542 (by decide) ?_
          refine W.widen (k := 3000 + 6000 * (k + 1)) (n := 20000 + 30000 * (k + 1)) (by first | decide | omega | (dsimp only; omega)) (by first | decide | omega | (dsimp only; omega)) ?_
          exact hnext mm H locs ls hL hK trivial hI hS (lv_sub hl [2, 3, 4, 1, 0] rfl)
    · skip
      refine lv_aload_n hx hb dL_law_506 rfl (lv_at hl 1 rfl) ?_
      refine p_lSk (mc1 := 460) (ms1 := 2760) (fr := 12) (lo := 240) (n := 1) (As := [.ref xa]) (rest := []) hF (m_all l hflag G xa mm hL) p_Em.l ke_L_all wd_l_L_151 (by decide) hI hX hS rfl hl.1 rfl (Nat.le_of_ble_eq_true rfl) dL_law_507 (by show _ ≤ 694672 ∧ _ ≤ 7017683; omega) (fun H locs hI hS => ?_)
      replace hI : p_J G xa xb Z (mm, mm) H := hI
      refine lv_aload_n hx hb dL_law_510 rfl (lv_at hl 2 rfl) ?_
      refine p_lSk (mc1 := 460) (ms1 := 2760) (fr := 12) (lo := 240) (n := 1) (As := [.ref xb]) (rest := [.long (al mm)]) hF (m_all l hflag G xb mm hL) p_Em.r ke_L_all wd_l_L_151 (by decide) hI hX hS rfl hl.1 rfl (Nat.le_of_ble_eq_true rfl) dL_law_511 (by show _ ≤ 694672 ∧ _ ≤ 7017683; omega) (fun H locs hI hS => ?_)
      replace hI : p_J G xa xb Z (mm, mm) H := hI
      refine W.lcmp hx hb dL_law_514 ?_
      refine bo_to (v := 0) (by simp [lg_cmp]) ?_
      refine lv_if_ne (tgt := 537) hx hb dL_law_515 (by decide) (fun c515 => ?_) (fun c515 => ?_)
      · skip
        exact absurd c515 (by decide)
      · skip
        refine lv_iload hx hb dL_law_518 (lv_at hl 4 rfl) ?_
        refine lv_bipush (v := 25) hx hb dL_law_520 (by decide) ?_
        refine lv_irem hx hb dL_law_522 (by decide) ?_
        refine lv_if_gt (tgt := 533) hx hb dL_law_523 (by decide) (fun c523 => ?_) (fun c523 => ?_)
        · skip
          refine lv_iconst (v := 1) hx hb dL_law_533 (by decide) ?_
          refine lv_goto (tgt := 538) hx hb dL_law_534 (by decide) ?_
          refine lv_istore_n (lv' := [(3, .int 1), (0, .ref b), (1, .ref xa), (2, .ref xb), (4, .int (nI k))]) hx hb dL_law_538 rfl hl (by decide) rfl (fun ls hl => ?_)
          refine lv_iinc (v := (nI (k + 1))) (lv' := [(4, .int (nI (k + 1))), (3, .int 1), (0, .ref b), (1, .ref xa), (2, .ref xb)]) hx hb dL_law_539 hl (k := 4) rfl (nI_add k 1) (by decide) rfl (fun ls hl => ?_)
          refine lv_goto (tgt := 44) hx hb dL_law_542 (by decide) ?_
          refine W.widen (k := 3000 + 6000 * (k + 1)) (n := 20000 + 30000 * (k + 1)) (by first | decide | omega | (dsimp only; omega)) (by first | decide | omega | (dsimp only; omega)) ?_
          exact hnext mm H locs ls hL hK trivial hI hS (lv_sub hl [2, 3, 4, 1, 0] rfl)
        · skip
          refine lv_aload_n hx hb dL_law_526 rfl (lv_at hl 1 rfl) ?_
          refine p_iSk (mc1 := 1490) (ms1 := 9070) (fr := 13) (lo := 265) (n := 1) (As := [.ref xa]) (rest := []) hF (m_refused l hflag G xa mm hL hK1) p_Em.l ke_L_refused wd_l_L_162 (by decide) hI hX hS rfl hl.1 rfl (Nat.le_of_ble_eq_true rfl) dL_law_527 (by show _ ≤ 694672 ∧ _ ≤ 7017683; omega) (fun H locs hI hS => ?_)
          replace hI : p_J G xa xb Z (mm, mm) H := hI
          refine lv_if_eq (tgt := 537) hx hb dL_law_530 (by decide) (fun c530 => ?_) (fun c530 => ?_)
          · skip
            exact absurd c530 (by decide)
          · skip
            refine lv_iconst (v := 1) hx hb dL_law_533 (by decide) ?_
            refine lv_goto (tgt := 538) hx hb dL_law_534 (by decide) ?_
            refine lv_istore_n (lv' := [(3, .int 1), (0, .ref b), (1, .ref xa), (2, .ref xb), (4, .int (nI k))]) hx hb dL_law_538 rfl hl (by decide) rfl (fun ls hl => ?_)
            refine lv_iinc (v := (nI (k + 1))) (lv' := [(4, .int (nI (k + 1))), (3, .int 1), (0, .ref b), (1, .ref xa), (2, .ref xb)]) hx hb dL_law_539 hl (k := 4) rfl (nI_add k 1) (by decide) rfl (fun ls hl => ?_)
            refine lv_goto (tgt := 44) hx hb dL_law_542 (by decide) ?_
            refine W.widen (k := 3000 + 6000 * (k + 1)) (n := 20000 + 30000 * (k + 1)) (by first | decide | omega | (dsimp only; omega)) (by first | decide | omega | (dsimp only; omega)) ?_
            exact hnext mm H locs ls hL hK trivial hI hS (lv_sub hl [2, 3, 4, 1, 0] rfl)
set_option maxHeartbeats 1000000 in
set_option maxRecDepth 100000 in
theorem lg_rest {p : Program} (l : Launch) (hflag : l.stackTraces = false) {e : Env} {s : State} {m : MethodId} {below : List Frame} {meth : Method} {c : Code} {b : Nat} {G : k_G} {xa xb : Nat} {Z : Nat → Prop} {Q : State → Prop} (hF : CallFix p m c cL_law 15 s #[Value.ref b] wsL_law RL) (hX : p_E0 G Z s) {k : Nat} (hk : k < 110) {x5 x6 : Int32} {how : Nat} (hhow : how < 20) (htail : lg_W p l e s m below meth c b G xa xb Z Q (3000 + 6000 * k + 2000) (20000 + 30000 * k + 12000) (k + 1) (fun _ => True) (fun _ => [(0, .ref b), (1, .ref xa), (2, .ref xb), (3, .int 1), (4, .int (nI k))]) 495) : lg_W p l e s m below meth c b G xa xb Z Q (3000 + 6000 * k) (20000 + 30000 * k) (k) (fun mm => 0 < sp_W mm) (fun mm => [(0, .ref b), (1, .ref xa), (2, .ref xb), (3, .int 1), (4, .int (nI k)), (5, .int x5), (6, .int x6), (7, .int (nI how)), (8, .int (nI (sp_W mm)))]) 310 := by
  intro mm H locs ls hL hK hP0 hI hS hl
  have hx := hF.1
  have hb := hF.2.1
  have hK1 : sp_K mm < 512 := by omega
  have hW0 : 0 < sp_W mm := hP0
  have hW40 := hL.1.W40
  refine lv_iload hx hb dL_law_310 (lv_at hl 7 rfl) ?_
  refine lv_bipush (v := 7) hx hb dL_law_312 (by decide) ?_
  refine lv_icmp_ge (tgt := 328) hx hb dL_law_314 (by decide) (fun c314 => ?_) (fun c314 => ?_)
  · skip
    refine lv_iload hx hb dL_law_328 (lv_at hl 7 rfl) ?_
    refine lv_bipush (v := 9) hx hb dL_law_330 (by decide) ?_
    refine lv_icmp_ge (tgt := 346) hx hb dL_law_332 (by decide) (fun c332 => ?_) (fun c332 => ?_)
    · skip
      refine lv_iload hx hb dL_law_346 (lv_at hl 7 rfl) ?_
      refine lv_bipush (v := 10) hx hb dL_law_348 (by decide) ?_
      refine lv_icmp_ge (tgt := 364) hx hb dL_law_350 (by decide) (fun c350 => ?_) (fun c350 => ?_)
      · skip
        refine lv_iload hx hb dL_law_364 (lv_at hl 7 rfl) ?_
        refine lv_bipush (v := 12) hx hb dL_law_366 (by decide) ?_
        refine lv_icmp_ge (tgt := 433) hx hb dL_law_368 (by decide) (fun c368 => ?_) (fun c368 => ?_)
        · skip
          refine lv_iload hx hb dL_law_433 (lv_at hl 7 rfl) ?_
          refine lv_bipush (v := 14) hx hb dL_law_435 (by decide) ?_
          refine lv_icmp_ge (tgt := 471) hx hb dL_law_437 (by decide) (fun c437 => ?_) (fun c437 => ?_)
          · skip
            refine lv_iload hx hb dL_law_471 (lv_at hl 7 rfl) ?_
            refine lv_bipush (v := 15) hx hb dL_law_473 (by decide) ?_
            refine lv_icmp_ge (tgt := 487) hx hb dL_law_475 (by decide) (fun c475 => ?_) (fun c475 => ?_)
            · skip
              refine lv_aload_n hx hb dL_law_487 rfl (lv_at hl 1 rfl) ?_
              refine lv_aload_n hx hb dL_law_488 rfl (lv_at hl 2 rfl) ?_
              refine lv_iload hx hb dL_law_489 (lv_at hl 6 rfl) ?_
              refine p_iS (mc1 := 100) (ms1 := 600) (fr := 13) (lo := 275) (n := 3) (As := [.ref xa, .ref xb, .int x6]) (rest := []) hF (m_sees l hflag G xa xb mm x6 hL hK1 hW0) p_Em.id ke_L_sees wd_l_L_187 (by decide) hI hX hS rfl hl.1 rfl (Nat.le_of_ble_eq_true rfl) dL_law_491 (by show _ ≤ 694672 ∧ _ ≤ 7017683; omega) (fun r v H locs hq hI hS => ?_)
              obtain ⟨rfl, m2, hm2, hRD⟩ := hq
              subst hm2
              replace hI : p_J G xa xb Z (m2, m2) H := hI
              refine lv_istore_n (lv' := [(3, .int 1), (0, .ref b), (1, .ref xa), (2, .ref xb), (4, .int (nI k)), (5, .int x5), (6, .int x6), (7, .int (nI how)), (8, .int (nI (sp_W mm)))]) hx hb dL_law_494 rfl hl (by decide) rfl (fun ls hl => ?_)
              refine W.widen (k := 3000 + 6000 * k + 2000) (n := 20000 + 30000 * k + 12000) (by first | decide | omega | (dsimp only; omega)) (by first | decide | omega | (dsimp only; omega)) ?_
              exact htail m2 H locs ls hRD.1 (by have := hRD.2; omega) trivial hI hS (lv_sub hl [1, 2, 3, 0, 4] rfl)
            · skip
              refine lv_aload_n hx hb dL_law_478 rfl (lv_at hl 1 rfl) ?_
              refine lv_aload_n hx hb dL_law_479 rfl (lv_at hl 2 rfl) ?_
              refine p_iS (mc1 := 20) (ms1 := 120) (fr := 9) (lo := 150) (n := 2) (As := [.ref xa, .ref xb]) (rest := []) hF (m_refreshes l hflag G xa xb mm  hL) p_Em.id ke_L_refreshes wd_l_L_183 (by decide) hI hX hS rfl hl.1 rfl (Nat.le_of_ble_eq_true rfl) dL_law_480 (by show _ ≤ 694672 ∧ _ ≤ 7017683; omega) (fun r v H locs hq hI hS => ?_)
              obtain ⟨rfl, m2, hm2, hRD⟩ := hq
              subst hm2
              replace hI : p_J G xa xb Z (m2, m2) H := hI
              refine lv_istore_n (lv' := [(3, .int 1), (0, .ref b), (1, .ref xa), (2, .ref xb), (4, .int (nI k)), (5, .int x5), (6, .int x6), (7, .int (nI how)), (8, .int (nI (sp_W mm)))]) hx hb dL_law_483 rfl hl (by decide) rfl (fun ls hl => ?_)
              refine lv_goto (tgt := 495) hx hb dL_law_484 (by decide) ?_
              refine W.widen (k := 3000 + 6000 * k + 2000) (n := 20000 + 30000 * k + 12000) (by first | decide | omega | (dsimp only; omega)) (by first | decide | omega | (dsimp only; omega)) ?_
              exact htail m2 H locs ls hRD.1 (by have := hRD.2; omega) trivial hI hS (lv_sub hl [1, 2, 3, 0, 4] rfl)
          · skip
            refine lv_iload hx hb dL_law_440 (lv_at hl 6 rfl) ?_
            refine lv_bipush (v := 9) hx hb dL_law_442 (by decide) ?_
            refine lv_ishr hx hb dL_law_444 ?_
            refine lv_iconst (v := 2) hx hb dL_law_445 (by decide) ?_
            refine bo_to (v := (nI 2)) (rfl) ?_
            refine rc_S (fr := 0) (lo := 0) (n := 2) (As := [.int (x6 >>> (9 &&& 31)), .int (nI 2)]) (rest := []) hF (m_some l (x6 >>> (9 &&& 31)) 2 (by decide) (by decide)) ke_L_some wd_l_L_137 (by decide) bl_true (fun _ _ _ => trivial) rfl hl.1 rfl (Nat.le_of_ble_eq_true rfl) dL_law_446 (by show _ ≤ 694672 ∧ _ ≤ 7017683; omega) (fun r hq => ?_)
            obtain ⟨j0, hj0, rfl⟩ := hq
            refine lv_if_eq (tgt := 462) hx hb dL_law_449 (by decide) (fun c449 => ?_) (fun c449 => ?_)
            · skip
              refine lv_iconst (v := 1) hx hb dL_law_462 (by decide) ?_
              refine lv_goto (tgt := 467) hx hb dL_law_463 (by decide) ?_
              refine lv_istore_n (lv' := [(3, .int 1), (0, .ref b), (1, .ref xa), (2, .ref xb), (4, .int (nI k)), (5, .int x5), (6, .int x6), (7, .int (nI how)), (8, .int (nI (sp_W mm)))]) hx hb dL_law_467 rfl hl (by decide) rfl (fun ls hl => ?_)
              refine lv_goto (tgt := 495) hx hb dL_law_468 (by decide) ?_
              refine W.widen (k := 3000 + 6000 * k + 2000) (n := 20000 + 30000 * k + 12000) (by first | decide | omega | (dsimp only; omega)) (by first | decide | omega | (dsimp only; omega)) ?_
              exact htail mm H locs ls hL (by omega) trivial hI hS (lv_sub hl [1, 2, 3, 0, 4] rfl)
            · skip
              refine lv_aload_n hx hb dL_law_452 rfl (lv_at hl 1 rfl) ?_
              refine lv_aload_n hx hb dL_law_453 rfl (lv_at hl 2 rfl) ?_
              refine lv_iload hx hb dL_law_454 (lv_at hl 6 rfl) ?_
              refine p_iS (mc1 := 1920) (ms1 := 11600) (fr := 13) (lo := 275) (n := 3) (As := [.ref xa, .ref xb, .int x6]) (rest := []) hF (m_draws l hflag G xa xb mm x6 hL) p_Em.id ke_L_draws wd_l_L_180 (by decide) hI hX hS rfl hl.1 rfl (Nat.le_of_ble_eq_true rfl) dL_law_456 (by show _ ≤ 694672 ∧ _ ≤ 7017683; omega) (fun r v H locs hq hI hS => ?_)
              obtain ⟨rfl, m2, hm2, hRD⟩ := hq
              subst hm2
              replace hI : p_J G xa xb Z (m2, m2) H := hI
              refine lv_if_eq (tgt := 466) hx hb dL_law_459 (by decide) (fun c459 => ?_) (fun c459 => ?_)
              · skip
                exact absurd c459 (by decide)
              · skip
                refine lv_iconst (v := 1) hx hb dL_law_462 (by decide) ?_
                refine lv_goto (tgt := 467) hx hb dL_law_463 (by decide) ?_
                refine lv_istore_n (lv' := [(3, .int 1), (0, .ref b), (1, .ref xa), (2, .ref xb), (4, .int (nI k)), (5, .int x5), (6, .int x6), (7, .int (nI how)), (8, .int (nI (sp_W mm)))]) hx hb dL_law_467 rfl hl (by decide) rfl (fun ls hl => ?_)
                refine lv_goto (tgt := 495) hx hb dL_law_468 (by decide) ?_
                refine W.widen (k := 3000 + 6000 * k + 2000) (n := 20000 + 30000 * k + 12000) (by first | decide | omega | (dsimp only; omega)) (by first | decide | omega | (dsimp only; omega)) ?_
                exact htail m2 H locs ls hRD.1 (by have := hRD.2; omega) trivial hI hS (lv_sub hl [1, 2, 3, 0, 4] rfl)
        · skip
          refine lv_iload hx hb dL_law_371 (lv_at hl 6 rfl) ?_
          refine lv_iload hx hb dL_law_373 (lv_at hl 8 rfl) ?_
          refine rc_S (fr := 0) (lo := 0) (n := 2) (As := [.int x6, .int (nI (sp_W mm))]) (rest := []) hF (m_some l x6 (sp_W mm) hW0 (by omega)) ke_L_some wd_l_L_137 (by decide) bl_true (fun _ _ _ => trivial) rfl hl.1 rfl (Nat.le_of_ble_eq_true rfl) dL_law_375 (by show _ ≤ 694672 ∧ _ ≤ 7017683; omega) (fun r hq => ?_)
          obtain ⟨w, hw, rfl⟩ := hq
          refine lv_istore (lv' := [(9, .int (nI w)), (0, .ref b), (1, .ref xa), (2, .ref xb), (3, .int 1), (4, .int (nI k)), (5, .int x5), (6, .int x6), (7, .int (nI how)), (8, .int (nI (sp_W mm)))]) hx hb dL_law_378 hl (by decide) rfl (fun ls hl => ?_)
          refine lv_bipush (v := 30) hx hb dL_law_380 (by decide) ?_
          refine lv_iload hx hb dL_law_382 (lv_at hl 7 rfl) ?_
          refine lv_iconst (v := 4) hx hb dL_law_384 (by decide) ?_
          refine lv_ishr hx hb dL_law_385 ?_
          refine lv_bipush (v := 50) hx hb dL_law_386 (by decide) ?_
          refine bo_to (v := (nI 50)) (rfl) ?_
          refine rc_S (fr := 0) (lo := 0) (n := 2) (As := [.int (x6 >>> (4 &&& 31)), .int (nI 50)]) (rest := [.int 30]) hF (m_some l (x6 >>> (4 &&& 31)) 50 (by decide) (by decide)) ke_L_some wd_l_L_137 (by decide) bl_true (fun _ _ _ => trivial) rfl hl.1 rfl (Nat.le_of_ble_eq_true rfl) dL_law_388 (by show _ ≤ 694672 ∧ _ ≤ 7017683; omega) (fun r hq => ?_)
          obtain ⟨g0, hg0, rfl⟩ := hq
          refine lv_iadd hx hb dL_law_391 ?_
          refine bo_to (v := (nI (30 + g0))) (nI_add 30 g0) ?_
          refine lv_istore (lv' := [(10, .int (nI (30 + g0))), (9, .int (nI w)), (0, .ref b), (1, .ref xa), (2, .ref xb), (3, .int 1), (4, .int (nI k)), (5, .int x5), (6, .int x6), (7, .int (nI how)), (8, .int (nI (sp_W mm)))]) hx hb dL_law_392 hl (by decide) rfl (fun ls hl => ?_)
          have hM := gd_LI hL hw (y := 30 + g0) (by omega)
          have hMK : sp_K (up2 mm 6 w (nI (30 + g0))) = sp_K mm := rfl
          obtain ⟨gg, hgg, eg⟩ := hL.2.2.1 w hw
          refine lv_aload_n hx hb dL_law_394 rfl (lv_at hl 3 rfl) ?_
          refine lv_aload_n hx hb dL_law_395 rfl (lv_at hl 4 rfl) ?_
          refine lv_iconst (v := 4) hx hb dL_law_396 (by decide) ?_
          refine lv_iload hx hb dL_law_397 (lv_at hl 1 rfl) ?_
          refine lv_iload hx hb dL_law_399 (lv_at hl 0 rfl) ?_
          refine lv_iconst (v := 0) hx hb dL_law_401 (by decide) ?_
          refine p_iSk (mc1 := 4) (ms1 := 24) (fr := 12) (lo := 239) (n := 6) (As := [.ref xa, .ref xb, .int 4, .int (nI w), .int (nI (30 + g0)), .int 0]) (rest := []) hF (m_both (mc := 2) (ms := 12) (p_cv (nm := k_n3) (sp := sp_guard mm (nI w) (nI (30 + g0))) (cl_ok (gd_m hL hw (by omega)) (hM.2.1)) (m_call (fun Z ad h => by rw [← h]; exact m_does_4 l hflag G Z ad mm (nI w) (nI (30 + g0)) 0 hL.1) (Or.inl rfl))) (p_cv (nm := k_n3) (sp := sp_guard mm (nI w) (nI (30 + g0))) (cl_ok (gd_m hL hw (by omega)) (hM.2.1)) (m_call (fun Z ad h => by rw [← h]; exact m_does_4 l hflag G Z ad mm (nI w) (nI (30 + g0)) 0 hL.1) (Or.inl rfl)))) p_Em.id ke_L_both wd_l_L_147 (by decide) hI hX hS rfl hl.1 rfl (Nat.le_of_ble_eq_true rfl) dL_law_402 (by show _ ≤ 694672 ∧ _ ≤ 7017683; omega) (fun H locs hI hS => ?_)
          replace hI : p_J G xa xb Z ((up2 mm 6 w (nI (30 + g0))), (up2 mm 6 w (nI (30 + g0)))) H := hI
          refine lv_if_lt (tgt := 428) hx hb dL_law_405 (by decide) (fun c405 => ?_) (fun c405 => ?_)
          · skip
            exact absurd c405 (by rw [eg]; exact nI_pos (by omega))
          · skip
            refine lv_aload_n hx hb dL_law_408 rfl (lv_at hl 3 rfl) ?_
            refine lv_aload_n hx hb dL_law_409 rfl (lv_at hl 4 rfl) ?_
            refine lv_iconst (v := 4) hx hb dL_law_410 (by decide) ?_
            refine lv_iload hx hb dL_law_411 (lv_at hl 1 rfl) ?_
            refine lv_iload hx hb dL_law_413 (lv_at hl 0 rfl) ?_
            refine lv_iconst (v := 0) hx hb dL_law_415 (by decide) ?_
            refine p_iSk (mc1 := 4) (ms1 := 24) (fr := 12) (lo := 239) (n := 6) (As := [.ref xa, .ref xb, .int 4, .int (nI w), .int (nI (30 + g0)), .int 0]) (rest := []) hF (m_both (mc := 2) (ms := 12) (p_cv (nm := k_n3) (sp := sp_guard (up2 mm 6 w (nI (30 + g0))) (nI w) (nI (30 + g0))) (cl_ok ((by rw [gd_m hM hw (by omega), up2_s, up2_twice])) (hM.2.1)) (m_call (fun Z ad h => by rw [← h]; exact m_does_4 l hflag G Z ad (up2 mm 6 w (nI (30 + g0))) (nI w) (nI (30 + g0)) 0 hM.1) (Or.inl rfl))) (p_cv (nm := k_n3) (sp := sp_guard (up2 mm 6 w (nI (30 + g0))) (nI w) (nI (30 + g0))) (cl_ok ((by rw [gd_m hM hw (by omega), up2_s, up2_twice])) (hM.2.1)) (m_call (fun Z ad h => by rw [← h]; exact m_does_4 l hflag G Z ad (up2 mm 6 w (nI (30 + g0))) (nI w) (nI (30 + g0)) 0 hM.1) (Or.inl rfl)))) p_Em.id ke_L_both wd_l_L_147 (by decide) hI hX hS rfl hl.1 rfl (Nat.le_of_ble_eq_true rfl) dL_law_416 (by show _ ≤ 694672 ∧ _ ≤ 7017683; omega) (fun H locs hI hS => ?_)
            replace hI : p_J G xa xb Z ((up2 mm 6 w (nI (30 + g0))), (up2 mm 6 w (nI (30 + g0)))) H := hI
            refine lv_iload hx hb dL_law_419 (lv_at hl 0 rfl) ?_
            refine lv_icmp_ne (tgt := 428) hx hb dL_law_421 (by decide) (fun c421 => ?_) (fun c421 => ?_)
            · skip
              exact absurd rfl c421
            · skip
              refine lv_iconst (v := 1) hx hb dL_law_424 (by decide) ?_
              refine lv_goto (tgt := 429) hx hb dL_law_425 (by decide) ?_
              refine lv_istore_n (lv' := [(3, .int 1), (10, .int (nI (30 + g0))), (9, .int (nI w)), (0, .ref b), (1, .ref xa), (2, .ref xb), (4, .int (nI k)), (5, .int x5), (6, .int x6), (7, .int (nI how)), (8, .int (nI (sp_W mm)))]) hx hb dL_law_429 rfl hl (by decide) rfl (fun ls hl => ?_)
              refine lv_goto (tgt := 495) hx hb dL_law_430 (by decide) ?_
              refine W.widen (k := 3000 + 6000 * k + 2000) (n := 20000 + 30000 * k + 12000) (by first | decide | omega | (dsimp only; omega)) (by first | decide | omega | (dsimp only; omega)) ?_
              exact htail (up2 mm 6 w (nI (30 + g0))) H locs ls hM (by have := hMK; omega) trivial hI hS (lv_sub hl [3, 4, 5, 0, 6] rfl)
      · skip
        refine lv_aload_n hx hb dL_law_353 rfl (lv_at hl 1 rfl) ?_
        refine lv_aload_n hx hb dL_law_354 rfl (lv_at hl 2 rfl) ?_
        refine lv_iload hx hb dL_law_355 (lv_at hl 6 rfl) ?_
        refine p_iS (mc1 := 1000) (ms1 := 6000) (fr := 13) (lo := 275) (n := 3) (As := [.ref xa, .ref xb, .int x6]) (rest := []) hF (m_reverts l hflag G xa xb mm x6 hL hK1 hW0) p_Em.id ke_L_reverts wd_l_L_177 (by decide) hI hX hS rfl hl.1 rfl (Nat.le_of_ble_eq_true rfl) dL_law_357 (by show _ ≤ 694672 ∧ _ ≤ 7017683; omega) (fun r v H locs hq hI hS => ?_)
        obtain ⟨rfl, m2, hm2, hRD⟩ := hq
        subst hm2
        replace hI : p_J G xa xb Z (m2, m2) H := hI
        refine lv_istore_n (lv' := [(3, .int 1), (0, .ref b), (1, .ref xa), (2, .ref xb), (4, .int (nI k)), (5, .int x5), (6, .int x6), (7, .int (nI how)), (8, .int (nI (sp_W mm)))]) hx hb dL_law_360 rfl hl (by decide) rfl (fun ls hl => ?_)
        refine lv_goto (tgt := 495) hx hb dL_law_361 (by decide) ?_
        refine W.widen (k := 3000 + 6000 * k + 2000) (n := 20000 + 30000 * k + 12000) (by first | decide | omega | (dsimp only; omega)) (by first | decide | omega | (dsimp only; omega)) ?_
        exact htail m2 H locs ls hRD.1 (by have := hRD.2; omega) trivial hI hS (lv_sub hl [1, 2, 3, 0, 4] rfl)
    · skip
      refine lv_aload_n hx hb dL_law_335 rfl (lv_at hl 1 rfl) ?_
      refine lv_aload_n hx hb dL_law_336 rfl (lv_at hl 2 rfl) ?_
      refine lv_iload hx hb dL_law_337 (lv_at hl 6 rfl) ?_
      refine p_iS (mc1 := 1000) (ms1 := 6000) (fr := 13) (lo := 275) (n := 3) (As := [.ref xa, .ref xb, .int x6]) (rest := []) hF (m_judges l hflag G xa xb mm x6 hL hK1 hW0) p_Em.id ke_L_judges wd_l_L_174 (by decide) hI hX hS rfl hl.1 rfl (Nat.le_of_ble_eq_true rfl) dL_law_339 (by show _ ≤ 694672 ∧ _ ≤ 7017683; omega) (fun r v H locs hq hI hS => ?_)
      obtain ⟨rfl, m2, hm2, hRD⟩ := hq
      subst hm2
      replace hI : p_J G xa xb Z (m2, m2) H := hI
      refine lv_istore_n (lv' := [(3, .int 1), (0, .ref b), (1, .ref xa), (2, .ref xb), (4, .int (nI k)), (5, .int x5), (6, .int x6), (7, .int (nI how)), (8, .int (nI (sp_W mm)))]) hx hb dL_law_342 rfl hl (by decide) rfl (fun ls hl => ?_)
      refine lv_goto (tgt := 495) hx hb dL_law_343 (by decide) ?_
      refine W.widen (k := 3000 + 6000 * k + 2000) (n := 20000 + 30000 * k + 12000) (by first | decide | omega | (dsimp only; omega)) (by first | decide | omega | (dsimp only; omega)) ?_
      exact htail m2 H locs ls hRD.1 (by have := hRD.2; omega) trivial hI hS (lv_sub hl [1, 2, 3, 0, 4] rfl)
  · skip
    refine lv_aload_n hx hb dL_law_317 rfl (lv_at hl 1 rfl) ?_
    refine lv_aload_n hx hb dL_law_318 rfl (lv_at hl 2 rfl) ?_
    refine lv_iload hx hb dL_law_319 (lv_at hl 6 rfl) ?_
    refine p_iS (mc1 := 1000) (ms1 := 6000) (fr := 13) (lo := 270) (n := 3) (As := [.ref xa, .ref xb, .int x6]) (rest := []) hF (m_edits l hflag G xa xb mm x6 hL hK1 hW0) p_Em.id ke_L_edits wd_l_L_170 (by decide) hI hX hS rfl hl.1 rfl (Nat.le_of_ble_eq_true rfl) dL_law_321 (by show _ ≤ 694672 ∧ _ ≤ 7017683; omega) (fun r v H locs hq hI hS => ?_)
    obtain ⟨rfl, m2, hm2, hRD⟩ := hq
    subst hm2
    replace hI : p_J G xa xb Z (m2, m2) H := hI
    refine lv_istore_n (lv' := [(3, .int 1), (0, .ref b), (1, .ref xa), (2, .ref xb), (4, .int (nI k)), (5, .int x5), (6, .int x6), (7, .int (nI how)), (8, .int (nI (sp_W mm)))]) hx hb dL_law_324 rfl hl (by decide) rfl (fun ls hl => ?_)
    refine lv_goto (tgt := 495) hx hb dL_law_325 (by decide) ?_
    refine W.widen (k := 3000 + 6000 * k + 2000) (n := 20000 + 30000 * k + 12000) (by first | decide | omega | (dsimp only; omega)) (by first | decide | omega | (dsimp only; omega)) ?_
    exact htail m2 H locs ls hRD.1 (by have := hRD.2; omega) trivial hI hS (lv_sub hl [1, 2, 3, 0, 4] rfl)
set_option maxHeartbeats 1000000 in
set_option maxRecDepth 100000 in
theorem lg_add {p : Program} (l : Launch) (hflag : l.stackTraces = false) {e : Env} {s : State} {m : MethodId} {below : List Frame} {meth : Method} {c : Code} {b : Nat} {G : k_G} {xa xb : Nat} {Z : Nat → Prop} {Q : State → Prop} (hF : CallFix p m c cL_law 15 s #[Value.ref b] wsL_law RL) (hX : p_E0 G Z s) {k : Nat} (hk : k < 110) {x5 x6 : Int32} {how : Nat} (htail : lg_W p l e s m below meth c b G xa xb Z Q (3000 + 6000 * k + 2000) (20000 + 30000 * k + 12000) (k + 1) (fun _ => True) (fun _ => [(0, .ref b), (1, .ref xa), (2, .ref xb), (3, .int 1), (4, .int (nI k))]) 495) : lg_W p l e s m below meth c b G xa xb Z Q (3000 + 6000 * k) (20000 + 30000 * k) (k) (fun mm => sp_W mm < 40) (fun mm => [(0, .ref b), (1, .ref xa), (2, .ref xb), (3, .int 1), (4, .int (nI k)), (5, .int x5), (6, .int x6), (7, .int (nI how)), (8, .int (nI (sp_W mm)))]) 111 := by
  intro mm H locs ls hL hK hP0 hI hS hl
  have hx := hF.1
  have hb := hF.2.1
  have hK1 : sp_K mm < 512 := by omega
  refine lv_aload_n hx hb dL_law_111 rfl (lv_at hl 1 rfl) ?_
  refine p_iVk (fr := 0) (lo := 0) (mc1 := 0) (ms1 := 0) (n := 0) (As := []) (rest := []) hF (pv_clock l G xa mm) p_Em.l ke_X4_clock wd_l_L_102 (by decide) hI hX hS rfl hl.1 rfl (Nat.le_of_ble_eq_true rfl) dL_law_112 (by show _ ≤ 694672 ∧ _ ≤ 7017683; omega) (fun H locs hI hS => ?_)
  replace hI : p_J G xa xb Z (mm, mm) H := hI
  refine lv_istore (lv' := [(9, .int (mm 10 0)), (0, .ref b), (1, .ref xa), (2, .ref xb), (3, .int 1), (4, .int (nI k)), (5, .int x5), (6, .int x6), (7, .int (nI how)), (8, .int (nI (sp_W mm)))]) hx hb dL_law_115 hl (by decide) rfl (fun ls hl => ?_)
  refine lv_iload hx hb dL_law_117 (lv_at hl 7 rfl) ?_
  refine lv_bipush (v := 13) hx hb dL_law_119 (by decide) ?_
  refine bo_to (v := (nI 13)) (rfl) ?_
  refine rc_S (fr := 0) (lo := 0) (n := 2) (As := [.int x6, .int (nI 13)]) (rest := []) hF (m_some l x6 13 (by decide) (by decide)) ke_L_some wd_l_L_137 (by decide) bl_true (fun _ _ _ => trivial) rfl hl.1 rfl (Nat.le_of_ble_eq_true rfl) dL_law_121 (by show _ ≤ 694672 ∧ _ ≤ 7017683; omega) (fun r hq => ?_)
  obtain ⟨ax, hax, rfl⟩ := hq
  refine lv_istore (lv' := [(10, .int (nI ax)), (9, .int (mm 10 0)), (0, .ref b), (1, .ref xa), (2, .ref xb), (3, .int 1), (4, .int (nI k)), (5, .int x5), (6, .int x6), (7, .int (nI how)), (8, .int (nI (sp_W mm)))]) hx hb dL_law_124 hl (by decide) rfl (fun ls hl => ?_)
  refine lv_iload hx hb dL_law_126 (lv_at hl 8 rfl) ?_
  refine lv_iconst (v := 4) hx hb dL_law_128 (by decide) ?_
  refine lv_ishr hx hb dL_law_129 ?_
  refine lv_bipush (v := 13) hx hb dL_law_130 (by decide) ?_
  refine bo_to (v := (nI 13)) (rfl) ?_
  refine rc_S (fr := 0) (lo := 0) (n := 2) (As := [.int (x6 >>> (4 &&& 31)), .int (nI 13)]) (rest := []) hF (m_some l (x6 >>> (4 &&& 31)) 13 (by decide) (by decide)) ke_L_some wd_l_L_137 (by decide) bl_true (fun _ _ _ => trivial) rfl hl.1 rfl (Nat.le_of_ble_eq_true rfl) dL_law_132 (by show _ ≤ 694672 ∧ _ ≤ 7017683; omega) (fun r hq => ?_)
  obtain ⟨dn, hdn, rfl⟩ := hq
  refine lv_istore (lv' := [(11, .int (nI dn)), (10, .int (nI ax)), (9, .int (mm 10 0)), (0, .ref b), (1, .ref xa), (2, .ref xb), (3, .int 1), (4, .int (nI k)), (5, .int x5), (6, .int x6), (7, .int (nI how)), (8, .int (nI (sp_W mm)))]) hx hb dL_law_135 hl (by decide) rfl (fun ls hl => ?_)
  refine lv_iconst (v := 1) hx hb dL_law_137 (by decide) ?_
  refine lv_iload hx hb dL_law_138 (lv_at hl 9 rfl) ?_
  refine lv_bipush (v := 8) hx hb dL_law_140 (by decide) ?_
  refine lv_ishr hx hb dL_law_142 ?_
  refine lv_iconst (v := 4) hx hb dL_law_143 (by decide) ?_
  refine bo_to (v := (nI 4)) (rfl) ?_
  refine rc_S (fr := 0) (lo := 0) (n := 2) (As := [.int (x6 >>> (8 &&& 31)), .int (nI 4)]) (rest := [.int 1]) hF (m_some l (x6 >>> (8 &&& 31)) 4 (by decide) (by decide)) ke_L_some wd_l_L_137 (by decide) bl_true (fun _ _ _ => trivial) rfl hl.1 rfl (Nat.le_of_ble_eq_true rfl) dL_law_144 (by show _ ≤ 694672 ∧ _ ≤ 7017683; omega) (fun r hq => ?_)
  obtain ⟨l0, hl0, rfl⟩ := hq
  refine lv_iadd hx hb dL_law_147 ?_
  refine bo_to (v := (nI (1 + l0))) (nI_add 1 l0) ?_
  refine lv_iload hx hb dL_law_148 (lv_at hl 9 rfl) ?_
  refine lv_bipush (v := 10) hx hb dL_law_150 (by decide) ?_
  refine lv_ishr hx hb dL_law_152 ?_
  refine lv_iconst (v := 2) hx hb dL_law_153 (by decide) ?_
  refine bo_to (v := (nI 2)) (rfl) ?_
  refine rc_S (fr := 0) (lo := 0) (n := 2) (As := [.int (x6 >>> (10 &&& 31)), .int (nI 2)]) (rest := [.int (nI (1 + l0))]) hF (m_some l (x6 >>> (10 &&& 31)) 2 (by decide) (by decide)) ke_L_some wd_l_L_137 (by decide) bl_true (fun _ _ _ => trivial) rfl hl.1 rfl (Nat.le_of_ble_eq_true rfl) dL_law_154 (by show _ ≤ 694672 ∧ _ ≤ 7017683; omega) (fun r hq => ?_)
  obtain ⟨s0, hs0, rfl⟩ := hq
  refine lv_if_ne (tgt := 164) hx hb dL_law_157 (by decide) (fun c157 => ?_) (fun c157 => ?_)
  · skip
    refine lv_iconst (v := (-1)) hx hb dL_law_164 (by decide) ?_
    refine lv_imul hx hb dL_law_165 ?_
    refine bo_to (v := (-nI (1 + l0))) (by rw [Int32.mul_neg, Int32.mul_one]) ?_
    refine lv_istore (lv' := [(12, .int (-nI (1 + l0))), (11, .int (nI dn)), (10, .int (nI ax)), (9, .int (mm 10 0)), (0, .ref b), (1, .ref xa), (2, .ref xb), (3, .int 1), (4, .int (nI k)), (5, .int x5), (6, .int x6), (7, .int (nI how)), (8, .int (nI (sp_W mm)))]) hx hb dL_law_166 hl (by decide) rfl (fun ls hl => ?_)
    refine lv_iload hx hb dL_law_168 (lv_at hl 10 rfl) ?_
    refine lv_bipush (v := 11) hx hb dL_law_170 (by decide) ?_
    refine lv_ishr hx hb dL_law_172 ?_
    refine lv_iconst (v := 4) hx hb dL_law_173 (by decide) ?_
    refine bo_to (v := (nI 4)) (rfl) ?_
    refine rc_S (fr := 0) (lo := 0) (n := 2) (As := [.int (x6 >>> (11 &&& 31)), .int (nI 4)]) (rest := []) hF (m_some l (x6 >>> (11 &&& 31)) 4 (by decide) (by decide)) ke_L_some wd_l_L_137 (by decide) bl_true (fun _ _ _ => trivial) rfl hl.1 rfl (Nat.le_of_ble_eq_true rfl) dL_law_174 (by show _ ≤ 694672 ∧ _ ≤ 7017683; omega) (fun r hq => ?_)
    obtain ⟨kk, hkk, rfl⟩ := hq
    refine lv_istore (lv' := [(13, .int (nI kk)), (12, .int (-nI (1 + l0))), (11, .int (nI dn)), (10, .int (nI ax)), (9, .int (mm 10 0)), (0, .ref b), (1, .ref xa), (2, .ref xb), (3, .int 1), (4, .int (nI k)), (5, .int x5), (6, .int x6), (7, .int (nI how)), (8, .int (nI (sp_W mm)))]) hx hb dL_law_177 hl (by decide) rfl (fun ls hl => ?_)
    refine lv_aload_n hx hb dL_law_179 rfl (lv_at hl 6 rfl) ?_
    refine lv_aload_n hx hb dL_law_180 rfl (lv_at hl 7 rfl) ?_
    refine lv_iconst (v := 0) hx hb dL_law_181 (by decide) ?_
    refine lv_iload hx hb dL_law_182 (lv_at hl 10 rfl) ?_
    refine lv_iconst (v := 5) hx hb dL_law_184 (by decide) ?_
    refine lv_ishr hx hb dL_law_185 ?_
    refine lv_bipush (v := 6) hx hb dL_law_186 (by decide) ?_
    refine bo_to (v := (nI 6)) (rfl) ?_
    refine rc_S (fr := 0) (lo := 0) (n := 2) (As := [.int (x5 >>> (5 &&& 31)), .int (nI 6)]) (rest := [.int 0, .ref xb, .ref xa]) hF (m_some l (x5 >>> (5 &&& 31)) 6 (by decide) (by decide)) ke_L_some wd_l_L_137 (by decide) bl_true (fun _ _ _ => trivial) rfl hl.1 rfl (Nat.le_of_ble_eq_true rfl) dL_law_188 (by show _ ≤ 694672 ∧ _ ≤ 7017683; omega) (fun r hq => ?_)
    obtain ⟨f, hf, rfl⟩ := hq
    refine lv_bipush (v := 32) hx hb dL_law_191 (by decide) ?_
    refine lv_iload hx hb dL_law_193 (lv_at hl 3 rfl) ?_
    refine lv_bipush (v := 8) hx hb dL_law_195 (by decide) ?_
    refine lv_iadd hx hb dL_law_197 ?_
    refine bo_to (v := (nI (ax + 8))) (nI_add ax 8) ?_
    refine lv_imul hx hb dL_law_198 ?_
    refine bo_to (v := (nI (32 * (ax + 8)))) (pk_mul 32 (ax + 8)) ?_
    refine lv_iload hx hb dL_law_199 (lv_at hl 2 rfl) ?_
    refine lv_iadd hx hb dL_law_201 ?_
    refine bo_to (v := (nI (32 * (ax + 8) + dn))) (nI_add _ _) ?_
    refine lv_bipush (v := 8) hx hb dL_law_202 (by decide) ?_
    refine lv_iadd hx hb dL_law_204 ?_
    refine bo_to (v := (nI (32 * (ax + 8) + dn + 8))) (nI_add _ 8) ?_
    refine lv_bipush (v := 16) hx hb dL_law_205 (by decide) ?_
    refine lv_iload hx hb dL_law_207 (lv_at hl 1 rfl) ?_
    refine lv_bipush (v := 40) hx hb dL_law_209 (by decide) ?_
    refine lv_iadd hx hb dL_law_211 ?_
    refine bo_to (v := (nI (40 - (1 + l0)))) (ad_40 (by omega)) ?_
    refine lv_imul hx hb dL_law_212 ?_
    refine bo_to (v := (nI (16 * (40 - (1 + l0))))) (pk_mul 16 _) ?_
    refine lv_iload hx hb dL_law_213 (lv_at hl 0 rfl) ?_
    refine lv_iadd hx hb dL_law_215 ?_
    refine bo_to (v := (nI (16 * (40 - (1 + l0)) + kk))) (nI_add _ _) ?_
    refine lv_iconst (v := 2) hx hb dL_law_216 (by decide) ?_
    refine lv_iadd hx hb dL_law_217 ?_
    have ea1 : nI (32 * (ax + 8) + dn + 8) / 32 - 8 = nI ax := by
      rw [show (32 : Int32) = nI 32 from rfl, pk_div (by omega) (by decide) (by decide), show (8 : Int32) = nI 8 from rfl, pk_sub (by omega)]; congr 1; omega
    have ea2 : nI (32 * (ax + 8) + dn + 8) - nI (32 * (ax + 8) + dn + 8) / 32 * 32 - 8 = nI dn := by
      rw [show (32 : Int32) = nI 32 from rfl, pk_rem (by omega) (by decide) (by decide), show (8 : Int32) = nI 8 from rfl, pk_sub (by omega)]; congr 1; omega
    have ea3 : nI (16 * (40 - (1 + l0)) + kk + 2) / 16 - 40 = -nI (1 + l0) := by
      rw [show (16 : Int32) = nI 16 from rfl, pk_div (by omega) (by decide) (by decide), show (16 * (40 - (1 + l0)) + kk + 2) / 16 = (40 - (1 + l0)) by omega]
      exact ad_40b (by omega)
    have ea4 : nI (16 * (40 - (1 + l0)) + kk + 2) - nI (16 * (40 - (1 + l0)) + kk + 2) / 16 * 16 - 2 = nI kk := by
      rw [show (16 : Int32) = nI 16 from rfl, pk_rem (by omega) (by decide) (by decide), show (2 : Int32) = nI 2 from rfl, pk_sub (by omega)]; congr 1; omega
    obtain ⟨M, hMe, hM, hMK, hMW, m1, m2, m3, m4, m5, m6, m7⟩ := ad_facts hL hP0 hK1 (x := ax) (y := dn) (tx := ax) (ty := (dn + (1 + l0))) (k := kk) (f := f) (by omega) (by omega) (by omega) (by omega) (by omega) (by omega) hkk hf
    have hMw : sp_W mm < sp_W M := by rw [hMW]; exact Nat.lt_succ_self _
    refine bo_to (v := (nI (16 * (40 - (1 + l0)) + kk + 2))) (nI_add _ 2) ?_
    refine p_iSk (mc1 := 18) (ms1 := 200) (fr := 12) (lo := 239) (n := 6) (As := [.ref xa, .ref xb, .int 0, .int (nI f), .int (nI (32 * (ax + 8) + dn + 8)), .int (nI (16 * (40 - (1 + l0)) + kk + 2))]) (rest := []) hF (m_both (mc := 9) (ms := 100) (p_cv (nm := k_n3) (sp := sp_add mm (nI f) ((nI (32 * (ax + 8) + dn + 8)) / 32 - 8) (((nI (32 * (ax + 8) + dn + 8)) - (nI (32 * (ax + 8) + dn + 8)) / 32 * 32) - 8) ((nI (16 * (40 - (1 + l0)) + kk + 2)) / 16 - 40) (((nI (16 * (40 - (1 + l0)) + kk + 2)) - (nI (16 * (40 - (1 + l0)) + kk + 2)) / 16 * 16) - 2)) (cl_ok ((by rw [ea1, ea2, ea3, ea4, ad_d hL hP0 (by omega) (by omega) (by omega) (by omega) hkk hf, hMe])) (hM.2.1)) (m_call (fun Z ad h => by rw [← h]; exact m_does_0 l hflag G Z ad mm (nI f) (nI (32 * (ax + 8) + dn + 8)) (nI (16 * (40 - (1 + l0)) + kk + 2)) hL.1 hK1) (Or.inl rfl))) (p_cv (nm := k_n3) (sp := sp_add mm (nI f) ((nI (32 * (ax + 8) + dn + 8)) / 32 - 8) (((nI (32 * (ax + 8) + dn + 8)) - (nI (32 * (ax + 8) + dn + 8)) / 32 * 32) - 8) ((nI (16 * (40 - (1 + l0)) + kk + 2)) / 16 - 40) (((nI (16 * (40 - (1 + l0)) + kk + 2)) - (nI (16 * (40 - (1 + l0)) + kk + 2)) / 16 * 16) - 2)) (cl_ok ((by rw [ea1, ea2, ea3, ea4, ad_d hL hP0 (by omega) (by omega) (by omega) (by omega) hkk hf, hMe])) (hM.2.1)) (m_call (fun Z ad h => by rw [← h]; exact m_does_0 l hflag G Z ad mm (nI f) (nI (32 * (ax + 8) + dn + 8)) (nI (16 * (40 - (1 + l0)) + kk + 2)) hL.1 hK1) (Or.inl rfl)))) p_Em.id ke_L_both wd_l_L_147 (by decide) hI hX hS rfl hl.1 rfl (Nat.le_of_ble_eq_true rfl) dL_law_218 (by show _ ≤ 694672 ∧ _ ≤ 7017683; omega) (fun H locs hI hS => ?_)
    replace hI : p_J G xa xb Z (M, M) H := hI
    refine lv_istore (lv' := [(14, .int (nI (sp_W mm))), (13, .int (nI kk)), (12, .int (-nI (1 + l0))), (11, .int (nI dn)), (10, .int (nI ax)), (9, .int (mm 10 0)), (0, .ref b), (1, .ref xa), (2, .ref xb), (3, .int 1), (4, .int (nI k)), (5, .int x5), (6, .int x6), (7, .int (nI how)), (8, .int (nI (sp_W mm)))]) hx hb dL_law_221 hl (by decide) rfl (fun ls hl => ?_)
    refine lv_iload hx hb dL_law_223 (lv_at hl 0 rfl) ?_
    refine lv_iload hx hb dL_law_225 (lv_at hl 14 rfl) ?_
    refine lv_icmp_ne (tgt := 305) hx hb dL_law_227 (by decide) (fun c227 => ?_) (fun c227 => ?_)
    · skip
      exact absurd rfl c227
    · skip
      refine lv_aload_n hx hb dL_law_230 rfl (lv_at hl 7 rfl) ?_
      refine p_iVk (fr := 1) (lo := 20) (mc1 := 0) (ms1 := 0) (n := 0) (As := []) (rest := []) hF (pv_ways l G xa M) p_Em.l ke_X4_ways wd_l_L_108 (by decide) hI hX hS rfl hl.1 rfl (Nat.le_of_ble_eq_true rfl) dL_law_231 (by show _ ≤ 694672 ∧ _ ≤ 7017683; omega) (fun H locs hI hS => ?_)
      replace hI : p_J G xa xb Z (M, M) H := hI
      refine lv_iload hx hb dL_law_234 (lv_at hl 14 rfl) ?_
      refine lv_iconst (v := 1) hx hb dL_law_236 (by decide) ?_
      refine lv_iadd hx hb dL_law_237 ?_
      refine lv_icmp_ne (tgt := 305) hx hb dL_law_238 (by decide) (fun c238 => ?_) (fun c238 => ?_)
      · skip
        exact absurd m1 c238
      · skip
        refine lv_aload_n hx hb dL_law_241 rfl (lv_at hl 7 rfl) ?_
        refine p_iVk (fr := 0) (lo := 0) (mc1 := 0) (ms1 := 0) (n := 0) (As := []) (rest := []) hF (pv_clock l G xa M) p_Em.l ke_X4_clock wd_l_L_102 (by decide) hI hX hS rfl hl.1 rfl (Nat.le_of_ble_eq_true rfl) dL_law_242 (by show _ ≤ 694672 ∧ _ ≤ 7017683; omega) (fun H locs hI hS => ?_)
        replace hI : p_J G xa xb Z (M, M) H := hI
        refine lv_iload hx hb dL_law_245 (lv_at hl 5 rfl) ?_
        refine lv_iconst (v := 1) hx hb dL_law_247 (by decide) ?_
        refine lv_iadd hx hb dL_law_248 ?_
        refine lv_icmp_ne (tgt := 305) hx hb dL_law_249 (by decide) (fun c249 => ?_) (fun c249 => ?_)
        · skip
          exact absurd m2 c249
        · skip
          refine lv_aload_n hx hb dL_law_252 rfl (lv_at hl 7 rfl) ?_
          refine lv_iload hx hb dL_law_253 (lv_at hl 0 rfl) ?_
          refine p_iSk (mc1 := 3) (ms1 := 18) (fr := 8) (lo := 140) (n := 2) (As := [.ref xa, .int (nI (sp_W mm))]) (rest := []) hF (m_kind l hflag G xa M (sp_W mm) hM hMw) p_Em.l ke_L_kind wd_l_L_140 (by decide) hI hX hS rfl hl.1 rfl (Nat.le_of_ble_eq_true rfl) dL_law_255 (by show _ ≤ 694672 ∧ _ ≤ 7017683; omega) (fun H locs hI hS => ?_)
          replace hI : p_J G xa xb Z (M, M) H := hI
          refine lv_iload hx hb dL_law_258 (lv_at hl 1 rfl) ?_
          refine lv_icmp_ne (tgt := 305) hx hb dL_law_260 (by decide) (fun c260 => ?_) (fun c260 => ?_)
          · skip
            exact absurd m3 c260
          · skip
            refine lv_aload_n hx hb dL_law_263 rfl (lv_at hl 7 rfl) ?_
            refine lv_iload hx hb dL_law_264 (lv_at hl 0 rfl) ?_
            refine p_iSk (mc1 := 3) (ms1 := 18) (fr := 8) (lo := 140) (n := 2) (As := [.ref xa, .int (nI (sp_W mm))]) (rest := []) hF (m_turn l hflag G xa M (sp_W mm) hM hMw) p_Em.l ke_L_turn wd_l_L_144 (by decide) hI hX hS rfl hl.1 rfl (Nat.le_of_ble_eq_true rfl) dL_law_266 (by show _ ≤ 694672 ∧ _ ≤ 7017683; omega) (fun H locs hI hS => ?_)
            replace hI : p_J G xa xb Z (M, M) H := hI
            refine lv_if_ne (tgt := 305) hx hb dL_law_269 (by decide) (fun c269 => ?_) (fun c269 => ?_)
            · skip
              exact absurd m4 c269
            · skip
              refine lv_aload_n hx hb dL_law_272 rfl (lv_at hl 7 rfl) ?_
              refine lv_iload hx hb dL_law_273 (lv_at hl 0 rfl) ?_
              refine p_iVk (fr := 7) (lo := 111) (mc1 := 1) (ms1 := 6) (n := 1) (As := [.int (nI (sp_W mm))]) (rest := []) hF (pv_versions l hflag G xa M (nI (sp_W mm)) hM.1 (r0 := (M 7 (sp_W mm))) (m0 := M) (v_of hM hMw) (hM.2.1)) p_Em.l ke_X4_versions wd_l_L_49 (by decide) hI hX hS rfl hl.1 rfl (Nat.le_of_ble_eq_true rfl) dL_law_275 (by show _ ≤ 694672 ∧ _ ≤ 7017683; omega) (fun H locs hI hS => ?_)
              replace hI : p_J G xa xb Z (M, M) H := hI
              refine lv_iconst (v := 1) hx hb dL_law_278 (by decide) ?_
              refine lv_icmp_ne (tgt := 305) hx hb dL_law_279 (by decide) (fun c279 => ?_) (fun c279 => ?_)
              · skip
                exact absurd m5 c279
              · skip
                refine lv_aload_n hx hb dL_law_282 rfl (lv_at hl 7 rfl) ?_
                refine lv_iload hx hb dL_law_283 (lv_at hl 0 rfl) ?_
                refine p_iVk (fr := 7) (lo := 111) (mc1 := 1) (ms1 := 6) (n := 1) (As := [.int (nI (sp_W mm))]) (rest := []) hF (pv_sightings l hflag G xa M (nI (sp_W mm)) hM.1 (r0 := (sp_dc M (sp_W mm))) (m0 := M) (v_sgt hM hMw) (hM.2.1)) p_Em.l ke_X4_sightings wd_l_L_87 (by decide) hI hX hS rfl hl.1 rfl (Nat.le_of_ble_eq_true rfl) dL_law_285 (by show _ ≤ 694672 ∧ _ ≤ 7017683; omega) (fun H locs hI hS => ?_)
                replace hI : p_J G xa xb Z (M, M) H := hI
                refine lv_if_ne (tgt := 305) hx hb dL_law_288 (by decide) (fun c288 => ?_) (fun c288 => ?_)
                · skip
                  exact absurd m6 c288
                · skip
                  refine lv_aload_n hx hb dL_law_291 rfl (lv_at hl 7 rfl) ?_
                  refine lv_iload hx hb dL_law_292 (lv_at hl 0 rfl) ?_
                  refine p_iVk (fr := 7) (lo := 111) (mc1 := 1) (ms1 := 6) (n := 1) (As := [.int (nI (sp_W mm))]) (rest := []) hF (pv_waiting l hflag G xa M (nI (sp_W mm)) hM.1 (r0 := (M 9 (sp_W mm))) (m0 := M) (v_of hM hMw) (hM.2.1)) p_Em.l ke_X4_waiting wd_l_L_58 (by decide) hI hX hS rfl hl.1 rfl (Nat.le_of_ble_eq_true rfl) dL_law_294 (by show _ ≤ 694672 ∧ _ ≤ 7017683; omega) (fun H locs hI hS => ?_)
                  replace hI : p_J G xa xb Z (M, M) H := hI
                  refine lv_iconst (v := (-1)) hx hb dL_law_297 (by decide) ?_
                  refine lv_icmp_ne (tgt := 305) hx hb dL_law_298 (by decide) (fun c298 => ?_) (fun c298 => ?_)
                  · skip
                    exact absurd m7 c298
                  · skip
                    refine lv_iconst (v := 1) hx hb dL_law_301 (by decide) ?_
                    refine lv_goto (tgt := 306) hx hb dL_law_302 (by decide) ?_
                    refine lv_istore_n (lv' := [(3, .int 1), (14, .int (nI (sp_W mm))), (13, .int (nI kk)), (12, .int (-nI (1 + l0))), (11, .int (nI dn)), (10, .int (nI ax)), (9, .int (mm 10 0)), (0, .ref b), (1, .ref xa), (2, .ref xb), (4, .int (nI k)), (5, .int x5), (6, .int x6), (7, .int (nI how)), (8, .int (nI (sp_W mm)))]) hx hb dL_law_306 rfl hl (by decide) rfl (fun ls hl => ?_)
                    refine lv_goto (tgt := 495) hx hb dL_law_307 (by decide) ?_
                    refine W.widen (k := 3000 + 6000 * k + 2000) (n := 20000 + 30000 * k + 12000) (by first | decide | omega | (dsimp only; omega)) (by first | decide | omega | (dsimp only; omega)) ?_
                    exact htail M H locs ls hM (by have := hMK; omega) trivial hI hS (lv_sub hl [7, 8, 9, 0, 10] rfl)
  · skip
    refine lv_iconst (v := 1) hx hb dL_law_160 (by decide) ?_
    refine lv_goto (tgt := 165) hx hb dL_law_161 (by decide) ?_
    refine lv_imul hx hb dL_law_165 ?_
    refine bo_to (v := (nI (1 + l0))) (Int32.mul_one _) ?_
    refine lv_istore (lv' := [(12, .int (nI (1 + l0))), (11, .int (nI dn)), (10, .int (nI ax)), (9, .int (mm 10 0)), (0, .ref b), (1, .ref xa), (2, .ref xb), (3, .int 1), (4, .int (nI k)), (5, .int x5), (6, .int x6), (7, .int (nI how)), (8, .int (nI (sp_W mm)))]) hx hb dL_law_166 hl (by decide) rfl (fun ls hl => ?_)
    refine lv_iload hx hb dL_law_168 (lv_at hl 10 rfl) ?_
    refine lv_bipush (v := 11) hx hb dL_law_170 (by decide) ?_
    refine lv_ishr hx hb dL_law_172 ?_
    refine lv_iconst (v := 4) hx hb dL_law_173 (by decide) ?_
    refine bo_to (v := (nI 4)) (rfl) ?_
    refine rc_S (fr := 0) (lo := 0) (n := 2) (As := [.int (x6 >>> (11 &&& 31)), .int (nI 4)]) (rest := []) hF (m_some l (x6 >>> (11 &&& 31)) 4 (by decide) (by decide)) ke_L_some wd_l_L_137 (by decide) bl_true (fun _ _ _ => trivial) rfl hl.1 rfl (Nat.le_of_ble_eq_true rfl) dL_law_174 (by show _ ≤ 694672 ∧ _ ≤ 7017683; omega) (fun r hq => ?_)
    obtain ⟨kk, hkk, rfl⟩ := hq
    refine lv_istore (lv' := [(13, .int (nI kk)), (12, .int (nI (1 + l0))), (11, .int (nI dn)), (10, .int (nI ax)), (9, .int (mm 10 0)), (0, .ref b), (1, .ref xa), (2, .ref xb), (3, .int 1), (4, .int (nI k)), (5, .int x5), (6, .int x6), (7, .int (nI how)), (8, .int (nI (sp_W mm)))]) hx hb dL_law_177 hl (by decide) rfl (fun ls hl => ?_)
    refine lv_aload_n hx hb dL_law_179 rfl (lv_at hl 6 rfl) ?_
    refine lv_aload_n hx hb dL_law_180 rfl (lv_at hl 7 rfl) ?_
    refine lv_iconst (v := 0) hx hb dL_law_181 (by decide) ?_
    refine lv_iload hx hb dL_law_182 (lv_at hl 10 rfl) ?_
    refine lv_iconst (v := 5) hx hb dL_law_184 (by decide) ?_
    refine lv_ishr hx hb dL_law_185 ?_
    refine lv_bipush (v := 6) hx hb dL_law_186 (by decide) ?_
    refine bo_to (v := (nI 6)) (rfl) ?_
    refine rc_S (fr := 0) (lo := 0) (n := 2) (As := [.int (x5 >>> (5 &&& 31)), .int (nI 6)]) (rest := [.int 0, .ref xb, .ref xa]) hF (m_some l (x5 >>> (5 &&& 31)) 6 (by decide) (by decide)) ke_L_some wd_l_L_137 (by decide) bl_true (fun _ _ _ => trivial) rfl hl.1 rfl (Nat.le_of_ble_eq_true rfl) dL_law_188 (by show _ ≤ 694672 ∧ _ ≤ 7017683; omega) (fun r hq => ?_)
    obtain ⟨f, hf, rfl⟩ := hq
    refine lv_bipush (v := 32) hx hb dL_law_191 (by decide) ?_
    refine lv_iload hx hb dL_law_193 (lv_at hl 3 rfl) ?_
    refine lv_bipush (v := 8) hx hb dL_law_195 (by decide) ?_
    refine lv_iadd hx hb dL_law_197 ?_
    refine bo_to (v := (nI (ax + 8))) (nI_add ax 8) ?_
    refine lv_imul hx hb dL_law_198 ?_
    refine bo_to (v := (nI (32 * (ax + 8)))) (pk_mul 32 (ax + 8)) ?_
    refine lv_iload hx hb dL_law_199 (lv_at hl 2 rfl) ?_
    refine lv_iadd hx hb dL_law_201 ?_
    refine bo_to (v := (nI (32 * (ax + 8) + dn))) (nI_add _ _) ?_
    refine lv_bipush (v := 8) hx hb dL_law_202 (by decide) ?_
    refine lv_iadd hx hb dL_law_204 ?_
    refine bo_to (v := (nI (32 * (ax + 8) + dn + 8))) (nI_add _ 8) ?_
    refine lv_bipush (v := 16) hx hb dL_law_205 (by decide) ?_
    refine lv_iload hx hb dL_law_207 (lv_at hl 1 rfl) ?_
    refine lv_bipush (v := 40) hx hb dL_law_209 (by decide) ?_
    refine lv_iadd hx hb dL_law_211 ?_
    refine bo_to (v := (nI (1 + l0 + 40))) (nI_add _ 40) ?_
    refine lv_imul hx hb dL_law_212 ?_
    refine bo_to (v := (nI (16 * (1 + l0 + 40)))) (pk_mul 16 _) ?_
    refine lv_iload hx hb dL_law_213 (lv_at hl 0 rfl) ?_
    refine lv_iadd hx hb dL_law_215 ?_
    refine bo_to (v := (nI (16 * (1 + l0 + 40) + kk))) (nI_add _ _) ?_
    refine lv_iconst (v := 2) hx hb dL_law_216 (by decide) ?_
    refine lv_iadd hx hb dL_law_217 ?_
    have ea1 : nI (32 * (ax + 8) + dn + 8) / 32 - 8 = nI ax := by
      rw [show (32 : Int32) = nI 32 from rfl, pk_div (by omega) (by decide) (by decide), show (8 : Int32) = nI 8 from rfl, pk_sub (by omega)]; congr 1; omega
    have ea2 : nI (32 * (ax + 8) + dn + 8) - nI (32 * (ax + 8) + dn + 8) / 32 * 32 - 8 = nI dn := by
      rw [show (32 : Int32) = nI 32 from rfl, pk_rem (by omega) (by decide) (by decide), show (8 : Int32) = nI 8 from rfl, pk_sub (by omega)]; congr 1; omega
    have ea3 : nI (16 * (1 + l0 + 40) + kk + 2) / 16 - 40 = nI (1 + l0) := by
      rw [show (16 : Int32) = nI 16 from rfl, pk_div (by omega) (by decide) (by decide), show (16 * (1 + l0 + 40) + kk + 2) / 16 = (1 + l0 + 40) by omega]
      exact i40 _
    have ea4 : nI (16 * (1 + l0 + 40) + kk + 2) - nI (16 * (1 + l0 + 40) + kk + 2) / 16 * 16 - 2 = nI kk := by
      rw [show (16 : Int32) = nI 16 from rfl, pk_rem (by omega) (by decide) (by decide), show (2 : Int32) = nI 2 from rfl, pk_sub (by omega)]; congr 1; omega
    obtain ⟨M, hMe, hM, hMK, hMW, m1, m2, m3, m4, m5, m6, m7⟩ := ad_facts hL hP0 hK1 (x := ax) (y := dn) (tx := (ax + (1 + l0))) (ty := dn) (k := kk) (f := f) (by omega) (by omega) (by omega) (by omega) (by omega) (by omega) hkk hf
    have hMw : sp_W mm < sp_W M := by rw [hMW]; exact Nat.lt_succ_self _
    refine bo_to (v := (nI (16 * (1 + l0 + 40) + kk + 2))) (nI_add _ 2) ?_
    refine p_iSk (mc1 := 18) (ms1 := 200) (fr := 12) (lo := 239) (n := 6) (As := [.ref xa, .ref xb, .int 0, .int (nI f), .int (nI (32 * (ax + 8) + dn + 8)), .int (nI (16 * (1 + l0 + 40) + kk + 2))]) (rest := []) hF (m_both (mc := 9) (ms := 100) (p_cv (nm := k_n3) (sp := sp_add mm (nI f) ((nI (32 * (ax + 8) + dn + 8)) / 32 - 8) (((nI (32 * (ax + 8) + dn + 8)) - (nI (32 * (ax + 8) + dn + 8)) / 32 * 32) - 8) ((nI (16 * (1 + l0 + 40) + kk + 2)) / 16 - 40) (((nI (16 * (1 + l0 + 40) + kk + 2)) - (nI (16 * (1 + l0 + 40) + kk + 2)) / 16 * 16) - 2)) (cl_ok ((by rw [ea1, ea2, ea3, ea4, ad_r hL hP0 (by omega) (by omega) (by omega) (by omega) hkk hf, hMe])) (hM.2.1)) (m_call (fun Z ad h => by rw [← h]; exact m_does_0 l hflag G Z ad mm (nI f) (nI (32 * (ax + 8) + dn + 8)) (nI (16 * (1 + l0 + 40) + kk + 2)) hL.1 hK1) (Or.inl rfl))) (p_cv (nm := k_n3) (sp := sp_add mm (nI f) ((nI (32 * (ax + 8) + dn + 8)) / 32 - 8) (((nI (32 * (ax + 8) + dn + 8)) - (nI (32 * (ax + 8) + dn + 8)) / 32 * 32) - 8) ((nI (16 * (1 + l0 + 40) + kk + 2)) / 16 - 40) (((nI (16 * (1 + l0 + 40) + kk + 2)) - (nI (16 * (1 + l0 + 40) + kk + 2)) / 16 * 16) - 2)) (cl_ok ((by rw [ea1, ea2, ea3, ea4, ad_r hL hP0 (by omega) (by omega) (by omega) (by omega) hkk hf, hMe])) (hM.2.1)) (m_call (fun Z ad h => by rw [← h]; exact m_does_0 l hflag G Z ad mm (nI f) (nI (32 * (ax + 8) + dn + 8)) (nI (16 * (1 + l0 + 40) + kk + 2)) hL.1 hK1) (Or.inl rfl)))) p_Em.id ke_L_both wd_l_L_147 (by decide) hI hX hS rfl hl.1 rfl (Nat.le_of_ble_eq_true rfl) dL_law_218 (by show _ ≤ 694672 ∧ _ ≤ 7017683; omega) (fun H locs hI hS => ?_)
    replace hI : p_J G xa xb Z (M, M) H := hI
    refine lv_istore (lv' := [(14, .int (nI (sp_W mm))), (13, .int (nI kk)), (12, .int (nI (1 + l0))), (11, .int (nI dn)), (10, .int (nI ax)), (9, .int (mm 10 0)), (0, .ref b), (1, .ref xa), (2, .ref xb), (3, .int 1), (4, .int (nI k)), (5, .int x5), (6, .int x6), (7, .int (nI how)), (8, .int (nI (sp_W mm)))]) hx hb dL_law_221 hl (by decide) rfl (fun ls hl => ?_)
    refine lv_iload hx hb dL_law_223 (lv_at hl 0 rfl) ?_
    refine lv_iload hx hb dL_law_225 (lv_at hl 14 rfl) ?_
    refine lv_icmp_ne (tgt := 305) hx hb dL_law_227 (by decide) (fun c227 => ?_) (fun c227 => ?_)
    · skip
      exact absurd rfl c227
    · skip
      refine lv_aload_n hx hb dL_law_230 rfl (lv_at hl 7 rfl) ?_
      refine p_iVk (fr := 1) (lo := 20) (mc1 := 0) (ms1 := 0) (n := 0) (As := []) (rest := []) hF (pv_ways l G xa M) p_Em.l ke_X4_ways wd_l_L_108 (by decide) hI hX hS rfl hl.1 rfl (Nat.le_of_ble_eq_true rfl) dL_law_231 (by show _ ≤ 694672 ∧ _ ≤ 7017683; omega) (fun H locs hI hS => ?_)
      replace hI : p_J G xa xb Z (M, M) H := hI
      refine lv_iload hx hb dL_law_234 (lv_at hl 14 rfl) ?_
      refine lv_iconst (v := 1) hx hb dL_law_236 (by decide) ?_
      refine lv_iadd hx hb dL_law_237 ?_
      refine lv_icmp_ne (tgt := 305) hx hb dL_law_238 (by decide) (fun c238 => ?_) (fun c238 => ?_)
      · skip
        exact absurd m1 c238
      · skip
        refine lv_aload_n hx hb dL_law_241 rfl (lv_at hl 7 rfl) ?_
        refine p_iVk (fr := 0) (lo := 0) (mc1 := 0) (ms1 := 0) (n := 0) (As := []) (rest := []) hF (pv_clock l G xa M) p_Em.l ke_X4_clock wd_l_L_102 (by decide) hI hX hS rfl hl.1 rfl (Nat.le_of_ble_eq_true rfl) dL_law_242 (by show _ ≤ 694672 ∧ _ ≤ 7017683; omega) (fun H locs hI hS => ?_)
        replace hI : p_J G xa xb Z (M, M) H := hI
        refine lv_iload hx hb dL_law_245 (lv_at hl 5 rfl) ?_
        refine lv_iconst (v := 1) hx hb dL_law_247 (by decide) ?_
        refine lv_iadd hx hb dL_law_248 ?_
        refine lv_icmp_ne (tgt := 305) hx hb dL_law_249 (by decide) (fun c249 => ?_) (fun c249 => ?_)
        · skip
          exact absurd m2 c249
        · skip
          refine lv_aload_n hx hb dL_law_252 rfl (lv_at hl 7 rfl) ?_
          refine lv_iload hx hb dL_law_253 (lv_at hl 0 rfl) ?_
          refine p_iSk (mc1 := 3) (ms1 := 18) (fr := 8) (lo := 140) (n := 2) (As := [.ref xa, .int (nI (sp_W mm))]) (rest := []) hF (m_kind l hflag G xa M (sp_W mm) hM hMw) p_Em.l ke_L_kind wd_l_L_140 (by decide) hI hX hS rfl hl.1 rfl (Nat.le_of_ble_eq_true rfl) dL_law_255 (by show _ ≤ 694672 ∧ _ ≤ 7017683; omega) (fun H locs hI hS => ?_)
          replace hI : p_J G xa xb Z (M, M) H := hI
          refine lv_iload hx hb dL_law_258 (lv_at hl 1 rfl) ?_
          refine lv_icmp_ne (tgt := 305) hx hb dL_law_260 (by decide) (fun c260 => ?_) (fun c260 => ?_)
          · skip
            exact absurd m3 c260
          · skip
            refine lv_aload_n hx hb dL_law_263 rfl (lv_at hl 7 rfl) ?_
            refine lv_iload hx hb dL_law_264 (lv_at hl 0 rfl) ?_
            refine p_iSk (mc1 := 3) (ms1 := 18) (fr := 8) (lo := 140) (n := 2) (As := [.ref xa, .int (nI (sp_W mm))]) (rest := []) hF (m_turn l hflag G xa M (sp_W mm) hM hMw) p_Em.l ke_L_turn wd_l_L_144 (by decide) hI hX hS rfl hl.1 rfl (Nat.le_of_ble_eq_true rfl) dL_law_266 (by show _ ≤ 694672 ∧ _ ≤ 7017683; omega) (fun H locs hI hS => ?_)
            replace hI : p_J G xa xb Z (M, M) H := hI
            refine lv_if_ne (tgt := 305) hx hb dL_law_269 (by decide) (fun c269 => ?_) (fun c269 => ?_)
            · skip
              exact absurd m4 c269
            · skip
              refine lv_aload_n hx hb dL_law_272 rfl (lv_at hl 7 rfl) ?_
              refine lv_iload hx hb dL_law_273 (lv_at hl 0 rfl) ?_
              refine p_iVk (fr := 7) (lo := 111) (mc1 := 1) (ms1 := 6) (n := 1) (As := [.int (nI (sp_W mm))]) (rest := []) hF (pv_versions l hflag G xa M (nI (sp_W mm)) hM.1 (r0 := (M 7 (sp_W mm))) (m0 := M) (v_of hM hMw) (hM.2.1)) p_Em.l ke_X4_versions wd_l_L_49 (by decide) hI hX hS rfl hl.1 rfl (Nat.le_of_ble_eq_true rfl) dL_law_275 (by show _ ≤ 694672 ∧ _ ≤ 7017683; omega) (fun H locs hI hS => ?_)
              replace hI : p_J G xa xb Z (M, M) H := hI
              refine lv_iconst (v := 1) hx hb dL_law_278 (by decide) ?_
              refine lv_icmp_ne (tgt := 305) hx hb dL_law_279 (by decide) (fun c279 => ?_) (fun c279 => ?_)
              · skip
                exact absurd m5 c279
              · skip
                refine lv_aload_n hx hb dL_law_282 rfl (lv_at hl 7 rfl) ?_
                refine lv_iload hx hb dL_law_283 (lv_at hl 0 rfl) ?_
                refine p_iVk (fr := 7) (lo := 111) (mc1 := 1) (ms1 := 6) (n := 1) (As := [.int (nI (sp_W mm))]) (rest := []) hF (pv_sightings l hflag G xa M (nI (sp_W mm)) hM.1 (r0 := (sp_dc M (sp_W mm))) (m0 := M) (v_sgt hM hMw) (hM.2.1)) p_Em.l ke_X4_sightings wd_l_L_87 (by decide) hI hX hS rfl hl.1 rfl (Nat.le_of_ble_eq_true rfl) dL_law_285 (by show _ ≤ 694672 ∧ _ ≤ 7017683; omega) (fun H locs hI hS => ?_)
                replace hI : p_J G xa xb Z (M, M) H := hI
                refine lv_if_ne (tgt := 305) hx hb dL_law_288 (by decide) (fun c288 => ?_) (fun c288 => ?_)
                · skip
                  exact absurd m6 c288
                · skip
                  refine lv_aload_n hx hb dL_law_291 rfl (lv_at hl 7 rfl) ?_
                  refine lv_iload hx hb dL_law_292 (lv_at hl 0 rfl) ?_
                  refine p_iVk (fr := 7) (lo := 111) (mc1 := 1) (ms1 := 6) (n := 1) (As := [.int (nI (sp_W mm))]) (rest := []) hF (pv_waiting l hflag G xa M (nI (sp_W mm)) hM.1 (r0 := (M 9 (sp_W mm))) (m0 := M) (v_of hM hMw) (hM.2.1)) p_Em.l ke_X4_waiting wd_l_L_58 (by decide) hI hX hS rfl hl.1 rfl (Nat.le_of_ble_eq_true rfl) dL_law_294 (by show _ ≤ 694672 ∧ _ ≤ 7017683; omega) (fun H locs hI hS => ?_)
                  replace hI : p_J G xa xb Z (M, M) H := hI
                  refine lv_iconst (v := (-1)) hx hb dL_law_297 (by decide) ?_
                  refine lv_icmp_ne (tgt := 305) hx hb dL_law_298 (by decide) (fun c298 => ?_) (fun c298 => ?_)
                  · skip
                    exact absurd m7 c298
                  · skip
                    refine lv_iconst (v := 1) hx hb dL_law_301 (by decide) ?_
                    refine lv_goto (tgt := 306) hx hb dL_law_302 (by decide) ?_
                    refine lv_istore_n (lv' := [(3, .int 1), (14, .int (nI (sp_W mm))), (13, .int (nI kk)), (12, .int (nI (1 + l0))), (11, .int (nI dn)), (10, .int (nI ax)), (9, .int (mm 10 0)), (0, .ref b), (1, .ref xa), (2, .ref xb), (4, .int (nI k)), (5, .int x5), (6, .int x6), (7, .int (nI how)), (8, .int (nI (sp_W mm)))]) hx hb dL_law_306 rfl hl (by decide) rfl (fun ls hl => ?_)
                    refine lv_goto (tgt := 495) hx hb dL_law_307 (by decide) ?_
                    refine W.widen (k := 3000 + 6000 * k + 2000) (n := 20000 + 30000 * k + 12000) (by first | decide | omega | (dsimp only; omega)) (by first | decide | omega | (dsimp only; omega)) ?_
                    exact htail M H locs ls hM (by have := hMK; omega) trivial hI hS (lv_sub hl [7, 8, 9, 0, 10] rfl)
set_option maxHeartbeats 1000000 in
set_option maxRecDepth 100000 in
theorem lg_round {p : Program} (l : Launch) (hflag : l.stackTraces = false) {e : Env} {s : State} {m : MethodId} {below : List Frame} {meth : Method} {c : Code} {b : Nat} {G : k_G} {xa xb : Nat} {Z : Nat → Prop} {Q : State → Prop} (hF : CallFix p m c cL_law 15 s #[Value.ref b] wsL_law RL) (hX : p_E0 G Z s) {k : Nat} (hk : k < 110) {L : Nat} {xs : Nat → Int32} (hSc : va_X b L xs s s.heap) (hbl : b < s.heap.size) (hbZ : ¬ Z b) (hLn : L ≤ 260) (hnext : lg_W p l e s m below meth c b G xa xb Z Q (3000 + 6000 * (k + 1)) (20000 + 30000 * (k + 1)) ((k + 1)) (fun _ => True) (fun _ => [(0, .ref b), (1, .ref xa), (2, .ref xb), (3, .int 1), (4, .int (nI (k + 1)))]) 44) : lg_W p l e s m below meth c b G xa xb Z Q (3000 + 6000 * k) (20000 + 30000 * k) (k) (fun _ => True) (fun _ => [(0, .ref b), (1, .ref xa), (2, .ref xb), (3, .int 1), (4, .int (nI k))]) 44 := by
  intro mm H locs ls hL hK hP0 hI hS hl
  have hx := hF.1
  have hb := hF.2.1
  have hK1 : sp_K mm < 512 := by omega
  have htail := lg_tail l hflag hF hX hk hnext
  refine lv_iload hx hb dL_law_44 (lv_at hl 4 rfl) ?_
  refine lv_bipush (v := 110) hx hb dL_law_46 (by decide) ?_
  refine lv_icmp_ge (tgt := 545) hx hb dL_law_48 (by decide) (fun c48 => ?_) (fun c48 => ?_)
  · skip
    exact absurd c48 (nI_ge (b := 110) hk (by decide))
  · skip
    refine lv_iload_n hx hb dL_law_51 rfl (lv_at hl 3 rfl) ?_
    refine lv_if_eq (tgt := 545) hx hb dL_law_52 (by decide) (fun c52 => ?_) (fun c52 => ?_)
    · skip
      exact absurd c52 (by decide)
    · skip
      refine lv_aload_n hx hb dL_law_55 rfl (lv_at hl 0 rfl) ?_
      refine lv_iconst (v := 2) hx hb dL_law_56 (by decide) ?_
      refine lv_iload hx hb dL_law_57 (lv_at hl 4 rfl) ?_
      refine lv_imul hx hb dL_law_59 ?_
      refine bo_to (v := (nI (2 * k))) (pk_mul 2 k) ?_
      refine rc_S (fr := 0) (lo := 0) (n := 2) (As := [.ref b, .int (nI (2 * k))]) (rest := []) hF (m_cell l b L xs (2 * k) (by omega) (by omega)) ke_L_cell wd_l_L_166 (by decide) m_cell_bl (fun U hU hv => ⟨by rw [hU]; exact (hSc.kept (hS.2.1 b hbl hbZ)).moved hv, by rw [hU]; exact Nat.lt_of_lt_of_le hbl hS.1⟩) rfl hl.1 rfl (Nat.le_of_ble_eq_true rfl) dL_law_60 (by show _ ≤ 694672 ∧ _ ≤ 7017683; omega) (fun x5 _ => ?_)
      refine lv_istore (lv' := [(5, .int x5), (0, .ref b), (1, .ref xa), (2, .ref xb), (3, .int 1), (4, .int (nI k))]) hx hb dL_law_63 hl (by decide) rfl (fun ls hl => ?_)
      refine lv_aload_n hx hb dL_law_65 rfl (lv_at hl 1 rfl) ?_
      refine lv_iconst (v := 2) hx hb dL_law_66 (by decide) ?_
      refine lv_iload hx hb dL_law_67 (lv_at hl 5 rfl) ?_
      refine lv_imul hx hb dL_law_69 ?_
      refine bo_to (v := (nI (2 * k))) (pk_mul 2 k) ?_
      refine lv_iconst (v := 1) hx hb dL_law_70 (by decide) ?_
      refine lv_iadd hx hb dL_law_71 ?_
      refine bo_to (v := (nI (2 * k + 1))) (nI_add _ 1) ?_
      refine rc_S (fr := 0) (lo := 0) (n := 2) (As := [.ref b, .int (nI (2 * k + 1))]) (rest := []) hF (m_cell l b L xs (2 * k + 1) (by omega) (by omega)) ke_L_cell wd_l_L_166 (by decide) m_cell_bl (fun U hU hv => ⟨by rw [hU]; exact (hSc.kept (hS.2.1 b hbl hbZ)).moved hv, by rw [hU]; exact Nat.lt_of_lt_of_le hbl hS.1⟩) rfl hl.1 rfl (Nat.le_of_ble_eq_true rfl) dL_law_72 (by show _ ≤ 694672 ∧ _ ≤ 7017683; omega) (fun x6 _ => ?_)
      refine lv_istore (lv' := [(6, .int x6), (5, .int x5), (0, .ref b), (1, .ref xa), (2, .ref xb), (3, .int 1), (4, .int (nI k))]) hx hb dL_law_75 hl (by decide) rfl (fun ls hl => ?_)
      refine lv_iload hx hb dL_law_77 (lv_at hl 1 rfl) ?_
      refine lv_bipush (v := 20) hx hb dL_law_79 (by decide) ?_
      refine bo_to (v := (nI 20)) (rfl) ?_
      refine rc_S (fr := 0) (lo := 0) (n := 2) (As := [.int x5, .int (nI 20)]) (rest := []) hF (m_some l x5 20 (by decide) (by decide)) ke_L_some wd_l_L_137 (by decide) bl_true (fun _ _ _ => trivial) rfl hl.1 rfl (Nat.le_of_ble_eq_true rfl) dL_law_81 (by show _ ≤ 694672 ∧ _ ≤ 7017683; omega) (fun r hq => ?_)
      obtain ⟨how, hhow, rfl⟩ := hq
      refine lv_istore (lv' := [(7, .int (nI how)), (6, .int x6), (5, .int x5), (0, .ref b), (1, .ref xa), (2, .ref xb), (3, .int 1), (4, .int (nI k))]) hx hb dL_law_84 hl (by decide) rfl (fun ls hl => ?_)
      refine lv_aload_n hx hb dL_law_86 rfl (lv_at hl 4 rfl) ?_
      refine p_iVk (fr := 1) (lo := 20) (mc1 := 0) (ms1 := 0) (n := 0) (As := []) (rest := []) hF (pv_ways l G xa mm) p_Em.l ke_X4_ways wd_l_L_108 (by decide) hI hX hS rfl hl.1 rfl (Nat.le_of_ble_eq_true rfl) dL_law_87 (by show _ ≤ 694672 ∧ _ ≤ 7017683; omega) (fun H locs hI hS => ?_)
      replace hI : p_J G xa xb Z (mm, mm) H := hI
      refine bo_to (v := (nI (sp_W mm))) (hL.1.W) ?_
      refine lv_istore (lv' := [(8, .int (nI (sp_W mm))), (7, .int (nI how)), (6, .int x6), (5, .int x5), (0, .ref b), (1, .ref xa), (2, .ref xb), (3, .int 1), (4, .int (nI k))]) hx hb dL_law_90 hl (by decide) rfl (fun ls hl => ?_)
      refine lv_iload hx hb dL_law_92 (lv_at hl 0 rfl) ?_
      refine lv_iconst (v := 3) hx hb dL_law_94 (by decide) ?_
      refine lv_icmp_lt (tgt := 111) hx hb dL_law_95 (by decide) (fun c95 => ?_) (fun c95 => ?_)
      · skip
        refine W.widen (k := 3000 + 6000 * k) (n := 20000 + 30000 * k) (by first | decide | omega | (dsimp only; omega)) (by first | decide | omega | (dsimp only; omega)) ?_
        exact lg_add l hflag hF hX hk htail mm H locs ls hL hK (lt_3 hL c95) hI hS (lv_sub hl [4, 5, 6, 7, 8, 3, 2, 1, 0] rfl)
      · skip
        refine lv_iload hx hb dL_law_98 (lv_at hl 1 rfl) ?_
        refine lv_iconst (v := 2) hx hb dL_law_100 (by decide) ?_
        refine lv_icmp_ge (tgt := 310) hx hb dL_law_101 (by decide) (fun c101 => ?_) (fun c101 => ?_)
        · skip
          refine W.widen (k := 3000 + 6000 * k) (n := 20000 + 30000 * k) (by first | decide | omega | (dsimp only; omega)) (by first | decide | omega | (dsimp only; omega)) ?_
          exact lg_rest l hflag hF hX hk hhow htail mm H locs ls hL hK (ge_3 hL c95) hI hS (lv_sub hl [4, 5, 6, 7, 8, 3, 2, 1, 0] rfl)
        · skip
          refine lv_iload hx hb dL_law_104 (lv_at hl 0 rfl) ?_
          refine lv_bipush (v := 12) hx hb dL_law_106 (by decide) ?_
          refine lv_icmp_ge (tgt := 310) hx hb dL_law_108 (by decide) (fun c108 => ?_) (fun c108 => ?_)
          · skip
            refine W.widen (k := 3000 + 6000 * k) (n := 20000 + 30000 * k) (by first | decide | omega | (dsimp only; omega)) (by first | decide | omega | (dsimp only; omega)) ?_
            exact lg_rest l hflag hF hX hk hhow htail mm H locs ls hL hK (ge_3 hL c95) hI hS (lv_sub hl [4, 5, 6, 7, 8, 3, 2, 1, 0] rfl)
          · skip
            refine W.widen (k := 3000 + 6000 * k) (n := 20000 + 30000 * k) (by first | decide | omega | (dsimp only; omega)) (by first | decide | omega | (dsimp only; omega)) ?_
            exact lg_add l hflag hF hX hk htail mm H locs ls hL hK (lt_12 hL c108) hI hS (lv_sub hl [4, 5, 6, 7, 8, 3, 2, 1, 0] rfl)
