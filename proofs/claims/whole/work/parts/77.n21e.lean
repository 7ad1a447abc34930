theorem dL_law_160 : decode cL_law 160 = .ok (.aload_n 1, 1) := by decide +kernel
theorem dL_law_161 : decode cL_law 161 = .ok (.aload_n 0, 1) := by decide +kernel
theorem dL_law_162 : decode cL_law 162 = .ok (.iload 4, 2) := by decide +kernel
theorem dL_law_164 : decode cL_law 164 = .ok (.iconst 1, 1) := by decide +kernel
theorem dL_law_165 : decode cL_law 165 = .ok (.iadd, 1) := by decide +kernel
theorem dL_law_166 : decode cL_law 166 = .ok (.iaload, 1) := by decide +kernel
theorem dL_law_167 : decode cL_law 167 = .ok (.aload_n 0, 1) := by decide +kernel
theorem dL_law_168 : decode cL_law 168 = .ok (.iload 4, 2) := by decide +kernel
theorem dL_law_170 : decode cL_law 170 = .ok (.iconst 2, 1) := by decide +kernel
theorem dL_law_171 : decode cL_law 171 = .ok (.iadd, 1) := by decide +kernel
theorem dL_law_172 : decode cL_law 172 = .ok (.iaload, 1) := by decide +kernel
theorem dL_law_173 : decode cL_law 173 = .ok (.aload_n 0, 1) := by decide +kernel
theorem dL_law_174 : decode cL_law 174 = .ok (.iload 4, 2) := by decide +kernel
theorem dL_law_176 : decode cL_law 176 = .ok (.iconst 3, 1) := by decide +kernel
theorem dL_law_177 : decode cL_law 177 = .ok (.iadd, 1) := by decide +kernel
theorem dL_law_178 : decode cL_law 178 = .ok (.iaload, 1) := by decide +kernel
theorem dL_law_179 : decode cL_law 179 = .ok (.aload_n 0, 1) := by decide +kernel
theorem dL_law_180 : decode cL_law 180 = .ok (.iload 4, 2) := by decide +kernel
theorem dL_law_182 : decode cL_law 182 = .ok (.iconst 4, 1) := by decide +kernel
theorem dL_law_183 : decode cL_law 183 = .ok (.iadd, 1) := by decide +kernel
theorem dL_law_184 : decode cL_law 184 = .ok (.iaload, 1) := by decide +kernel
theorem dL_law_185 : decode cL_law 185 = .ok (.aload_n 0, 1) := by decide +kernel
theorem dL_law_186 : decode cL_law 186 = .ok (.iload 4, 2) := by decide +kernel
theorem dL_law_188 : decode cL_law 188 = .ok (.iconst 5, 1) := by decide +kernel
theorem dL_law_189 : decode cL_law 189 = .ok (.iadd, 1) := by decide +kernel
theorem dL_law_190 : decode cL_law 190 = .ok (.iaload, 1) := by decide +kernel
theorem dL_law_191 : decode cL_law 191 = .ok (.aload_n 3, 1) := by decide +kernel
theorem dL_law_192 : decode cL_law 192 = .ok (.invokestatic 95, 3) := by decide +kernel
theorem dL_law_195 : decode cL_law 195 = .ok (.istore 5, 2) := by decide +kernel
theorem dL_law_197 : decode cL_law 197 = .ok (.aload_n 2, 1) := by decide +kernel
theorem dL_law_198 : decode cL_law 198 = .ok (.aload_n 0, 1) := by decide +kernel
theorem dL_law_199 : decode cL_law 199 = .ok (.iload 4, 2) := by decide +kernel
theorem dL_law_201 : decode cL_law 201 = .ok (.iconst 1, 1) := by decide +kernel
theorem dL_law_202 : decode cL_law 202 = .ok (.iadd, 1) := by decide +kernel
theorem dL_law_203 : decode cL_law 203 = .ok (.iaload, 1) := by decide +kernel
theorem dL_law_204 : decode cL_law 204 = .ok (.aload_n 0, 1) := by decide +kernel
theorem dL_law_205 : decode cL_law 205 = .ok (.iload 4, 2) := by decide +kernel
theorem dL_law_207 : decode cL_law 207 = .ok (.iconst 2, 1) := by decide +kernel
theorem dL_law_208 : decode cL_law 208 = .ok (.iadd, 1) := by decide +kernel
theorem dL_law_209 : decode cL_law 209 = .ok (.iaload, 1) := by decide +kernel
theorem dL_law_210 : decode cL_law 210 = .ok (.aload_n 0, 1) := by decide +kernel
theorem dL_law_211 : decode cL_law 211 = .ok (.iload 4, 2) := by decide +kernel
theorem dL_law_213 : decode cL_law 213 = .ok (.iconst 3, 1) := by decide +kernel
theorem dL_law_214 : decode cL_law 214 = .ok (.iadd, 1) := by decide +kernel
theorem dL_law_215 : decode cL_law 215 = .ok (.iaload, 1) := by decide +kernel
theorem dL_law_216 : decode cL_law 216 = .ok (.aload_n 0, 1) := by decide +kernel
theorem dL_law_217 : decode cL_law 217 = .ok (.iload 4, 2) := by decide +kernel
theorem dL_law_219 : decode cL_law 219 = .ok (.iconst 4, 1) := by decide +kernel
theorem dL_law_220 : decode cL_law 220 = .ok (.iadd, 1) := by decide +kernel
theorem dL_law_221 : decode cL_law 221 = .ok (.iaload, 1) := by decide +kernel
theorem dL_law_222 : decode cL_law 222 = .ok (.aload_n 0, 1) := by decide +kernel
theorem dL_law_223 : decode cL_law 223 = .ok (.iload 4, 2) := by decide +kernel
theorem dL_law_225 : decode cL_law 225 = .ok (.iconst 5, 1) := by decide +kernel
theorem dL_law_226 : decode cL_law 226 = .ok (.iadd, 1) := by decide +kernel
theorem dL_law_227 : decode cL_law 227 = .ok (.iaload, 1) := by decide +kernel
theorem dL_law_228 : decode cL_law 228 = .ok (.invokevirtual 100, 3) := by decide +kernel
theorem dL_law_231 : decode cL_law 231 = .ok (.istore 6, 2) := by decide +kernel
theorem dL_law_233 : decode cL_law 233 = .ok (.aload_n 2, 1) := by decide +kernel
theorem dL_law_234 : decode cL_law 234 = .ok (.invokevirtual 101, 3) := by decide +kernel
theorem dL_law_237 : decode cL_law 237 = .ok (.iload 5, 2) := by decide +kernel
theorem dL_law_239 : decode cL_law 239 = .ok (.if_icmp .eq 5, 3) := by decide +kernel
theorem dL_law_244 : decode cL_law 244 = .ok (.iload 5, 2) := by decide +kernel
theorem dL_law_246 : decode cL_law 246 = .ok (.ifCond .ne 15, 3) := by decide +kernel
theorem dL_law_249 : decode cL_law 249 = .ok (.aload_n 3, 1) := by decide +kernel
theorem dL_law_250 : decode cL_law 250 = .ok (.iconst 0, 1) := by decide +kernel
theorem dL_law_251 : decode cL_law 251 = .ok (.laload, 1) := by decide +kernel
theorem dL_law_252 : decode cL_law 252 = .ok (.iload 6, 2) := by decide +kernel
theorem dL_law_254 : decode cL_law 254 = .ok (.i2l, 1) := by decide +kernel
theorem dL_law_255 : decode cL_law 255 = .ok (.lcmp, 1) := by decide +kernel
theorem dL_law_256 : decode cL_law 256 = .ok (.ifCond .eq 5, 3) := by decide +kernel
theorem dL_law_261 : decode cL_law 261 = .ok (.goto 1599, 3) := by decide +kernel
theorem dL_law_264 : decode cL_law 264 = .ok (.aload_n 1, 1) := by decide +kernel
theorem dL_law_265 : decode cL_law 265 = .ok (.aload_n 0, 1) := by decide +kernel
theorem dL_law_266 : decode cL_law 266 = .ok (.iload 4, 2) := by decide +kernel
theorem dL_law_268 : decode cL_law 268 = .ok (.iconst 1, 1) := by decide +kernel
theorem dL_law_269 : decode cL_law 269 = .ok (.iadd, 1) := by decide +kernel
theorem dL_law_270 : decode cL_law 270 = .ok (.iaload, 1) := by decide +kernel
theorem dL_law_271 : decode cL_law 271 = .ok (.aload_n 0, 1) := by decide +kernel
theorem dL_law_272 : decode cL_law 272 = .ok (.iload 4, 2) := by decide +kernel
theorem dL_law_274 : decode cL_law 274 = .ok (.iconst 2, 1) := by decide +kernel
theorem dL_law_275 : decode cL_law 275 = .ok (.iadd, 1) := by decide +kernel
theorem dL_law_276 : decode cL_law 276 = .ok (.iaload, 1) := by decide +kernel
theorem dL_law_277 : decode cL_law 277 = .ok (.aload_n 0, 1) := by decide +kernel
theorem dL_law_278 : decode cL_law 278 = .ok (.iload 4, 2) := by decide +kernel
theorem dL_law_280 : decode cL_law 280 = .ok (.iconst 3, 1) := by decide +kernel
theorem dL_law_281 : decode cL_law 281 = .ok (.iadd, 1) := by decide +kernel
theorem dL_law_282 : decode cL_law 282 = .ok (.iaload, 1) := by decide +kernel
theorem dL_law_283 : decode cL_law 283 = .ok (.aload_n 0, 1) := by decide +kernel
theorem dL_law_284 : decode cL_law 284 = .ok (.iload 4, 2) := by decide +kernel
theorem dL_law_286 : decode cL_law 286 = .ok (.iconst 4, 1) := by decide +kernel
theorem dL_law_287 : decode cL_law 287 = .ok (.iadd, 1) := by decide +kernel
theorem dL_law_288 : decode cL_law 288 = .ok (.iaload, 1) := by decide +kernel
theorem dL_law_289 : decode cL_law 289 = .ok (.aload_n 3, 1) := by decide +kernel
theorem dL_law_290 : decode cL_law 290 = .ok (.invokestatic 105, 3) := by decide +kernel
theorem dL_law_293 : decode cL_law 293 = .ok (.istore 5, 2) := by decide +kernel
theorem dL_law_295 : decode cL_law 295 = .ok (.aload_n 2, 1) := by decide +kernel
theorem dL_law_296 : decode cL_law 296 = .ok (.aload_n 0, 1) := by decide +kernel
theorem dL_law_297 : decode cL_law 297 = .ok (.iload 4, 2) := by decide +kernel
theorem dL_law_299 : decode cL_law 299 = .ok (.iconst 1, 1) := by decide +kernel
theorem dL_law_300 : decode cL_law 300 = .ok (.iadd, 1) := by decide +kernel
theorem dL_law_301 : decode cL_law 301 = .ok (.iaload, 1) := by decide +kernel
theorem dL_law_302 : decode cL_law 302 = .ok (.aload_n 0, 1) := by decide +kernel
theorem dL_law_303 : decode cL_law 303 = .ok (.iload 4, 2) := by decide +kernel
theorem dL_law_305 : decode cL_law 305 = .ok (.iconst 2, 1) := by decide +kernel
theorem dL_law_306 : decode cL_law 306 = .ok (.iadd, 1) := by decide +kernel
theorem dL_law_307 : decode cL_law 307 = .ok (.iaload, 1) := by decide +kernel
theorem dL_law_308 : decode cL_law 308 = .ok (.aload_n 0, 1) := by decide +kernel
theorem dL_law_309 : decode cL_law 309 = .ok (.iload 4, 2) := by decide +kernel
theorem dL_law_311 : decode cL_law 311 = .ok (.iconst 3, 1) := by decide +kernel
theorem dL_law_312 : decode cL_law 312 = .ok (.iadd, 1) := by decide +kernel
theorem dL_law_313 : decode cL_law 313 = .ok (.iaload, 1) := by decide +kernel
theorem dL_law_314 : decode cL_law 314 = .ok (.aload_n 0, 1) := by decide +kernel
theorem dL_law_315 : decode cL_law 315 = .ok (.iload 4, 2) := by decide +kernel
theorem dL_law_317 : decode cL_law 317 = .ok (.iconst 4, 1) := by decide +kernel
theorem dL_law_318 : decode cL_law 318 = .ok (.iadd, 1) := by decide +kernel
theorem dL_law_319 : decode cL_law 319 = .ok (.iaload, 1) := by decide +kernel
theorem dL_law_320 : decode cL_law 320 = .ok (.invokevirtual 108, 3) := by decide +kernel
theorem dL_law_323 : decode cL_law 323 = .ok (.istore 6, 2) := by decide +kernel
theorem dL_law_325 : decode cL_law 325 = .ok (.aload_n 2, 1) := by decide +kernel
theorem dL_law_326 : decode cL_law 326 = .ok (.invokevirtual 101, 3) := by decide +kernel
theorem dL_law_329 : decode cL_law 329 = .ok (.iload 5, 2) := by decide +kernel
theorem dL_law_331 : decode cL_law 331 = .ok (.if_icmp .eq 5, 3) := by decide +kernel
theorem dL_law_336 : decode cL_law 336 = .ok (.iload 5, 2) := by decide +kernel
theorem dL_law_338 : decode cL_law 338 = .ok (.ifCond .ne 22, 3) := by decide +kernel
theorem dL_law_341 : decode cL_law 341 = .ok (.aload_n 3, 1) := by decide +kernel
theorem dL_law_342 : decode cL_law 342 = .ok (.iconst 0, 1) := by decide +kernel
theorem dL_law_343 : decode cL_law 343 = .ok (.laload, 1) := by decide +kernel
theorem dL_law_344 : decode cL_law 344 = .ok (.iload 6, 2) := by decide +kernel
theorem dL_law_346 : decode cL_law 346 = .ok (.ifCond .eq 7, 3) := by decide +kernel
theorem dL_law_349 : decode cL_law 349 = .ok (.lconst 1, 1) := by decide +kernel
theorem dL_law_350 : decode cL_law 350 = .ok (.goto 4, 3) := by decide +kernel
theorem dL_law_353 : decode cL_law 353 = .ok (.lconst 0, 1) := by decide +kernel
theorem dL_law_354 : decode cL_law 354 = .ok (.lcmp, 1) := by decide +kernel
theorem dL_law_355 : decode cL_law 355 = .ok (.ifCond .eq 5, 3) := by decide +kernel
theorem dL_law_360 : decode cL_law 360 = .ok (.goto 1500, 3) := by decide +kernel
theorem dL_law_651 : decode cL_law 651 = .ok (.aload_n 1, 1) := by decide +kernel
theorem dL_law_652 : decode cL_law 652 = .ok (.invokevirtual 124, 3) := by decide +kernel
theorem dL_law_655 : decode cL_law 655 = .ok (.aload_n 2, 1) := by decide +kernel
theorem dL_law_656 : decode cL_law 656 = .ok (.invokevirtual 127, 3) := by decide +kernel
theorem dL_law_659 : decode cL_law 659 = .ok (.if_icmp .eq 1201, 3) := by decide +kernel
theorem dL_law_912 : decode cL_law 912 = .ok (.aload_n 1, 1) := by decide +kernel
theorem dL_law_913 : decode cL_law 913 = .ok (.invokevirtual 140, 3) := by decide +kernel
theorem dL_law_916 : decode cL_law 916 = .ok (.aload_n 2, 1) := by decide +kernel
theorem dL_law_917 : decode cL_law 917 = .ok (.invokevirtual 143, 3) := by decide +kernel
theorem dL_law_920 : decode cL_law 920 = .ok (.if_icmp .eq 940, 3) := by decide +kernel
theorem dL_law_1481 : decode cL_law 1481 = .ok (.aload_n 1, 1) := by decide +kernel
theorem dL_law_1482 : decode cL_law 1482 = .ok (.aload_n 0, 1) := by decide +kernel
theorem dL_law_1483 : decode cL_law 1483 = .ok (.iload 4, 2) := by decide +kernel
theorem dL_law_1485 : decode cL_law 1485 = .ok (.iconst 1, 1) := by decide +kernel
theorem dL_law_1486 : decode cL_law 1486 = .ok (.iadd, 1) := by decide +kernel
theorem dL_law_1487 : decode cL_law 1487 = .ok (.iaload, 1) := by decide +kernel
theorem dL_law_1488 : decode cL_law 1488 = .ok (.aload_n 0, 1) := by decide +kernel
theorem dL_law_1489 : decode cL_law 1489 = .ok (.iload 4, 2) := by decide +kernel
theorem dL_law_1491 : decode cL_law 1491 = .ok (.iconst 2, 1) := by decide +kernel
theorem dL_law_1492 : decode cL_law 1492 = .ok (.iadd, 1) := by decide +kernel
theorem dL_law_1493 : decode cL_law 1493 = .ok (.iaload, 1) := by decide +kernel
theorem dL_law_1494 : decode cL_law 1494 = .ok (.aload_n 0, 1) := by decide +kernel
theorem dL_law_1495 : decode cL_law 1495 = .ok (.iload 4, 2) := by decide +kernel
theorem dL_law_1497 : decode cL_law 1497 = .ok (.iconst 3, 1) := by decide +kernel
theorem dL_law_1498 : decode cL_law 1498 = .ok (.iadd, 1) := by decide +kernel
theorem dL_law_1499 : decode cL_law 1499 = .ok (.iaload, 1) := by decide +kernel
theorem dL_law_1500 : decode cL_law 1500 = .ok (.aload_n 0, 1) := by decide +kernel
theorem dL_law_1501 : decode cL_law 1501 = .ok (.iload 4, 2) := by decide +kernel
theorem dL_law_1503 : decode cL_law 1503 = .ok (.iconst 4, 1) := by decide +kernel
theorem dL_law_1504 : decode cL_law 1504 = .ok (.iadd, 1) := by decide +kernel
theorem dL_law_1505 : decode cL_law 1505 = .ok (.iaload, 1) := by decide +kernel
theorem dL_law_1506 : decode cL_law 1506 = .ok (.aload_n 3, 1) := by decide +kernel
theorem dL_law_1507 : decode cL_law 1507 = .ok (.invokestatic 170, 3) := by decide +kernel
theorem dL_law_1510 : decode cL_law 1510 = .ok (.istore 5, 2) := by decide +kernel
theorem dL_law_1512 : decode cL_law 1512 = .ok (.aload_n 2, 1) := by decide +kernel
theorem dL_law_1513 : decode cL_law 1513 = .ok (.aload_n 0, 1) := by decide +kernel
theorem dL_law_1514 : decode cL_law 1514 = .ok (.iload 4, 2) := by decide +kernel
theorem dL_law_1516 : decode cL_law 1516 = .ok (.iconst 1, 1) := by decide +kernel
theorem dL_law_1517 : decode cL_law 1517 = .ok (.iadd, 1) := by decide +kernel
theorem dL_law_1518 : decode cL_law 1518 = .ok (.iaload, 1) := by decide +kernel
theorem dL_law_1519 : decode cL_law 1519 = .ok (.aload_n 0, 1) := by decide +kernel
theorem dL_law_1520 : decode cL_law 1520 = .ok (.iload 4, 2) := by decide +kernel
theorem dL_law_1522 : decode cL_law 1522 = .ok (.iconst 2, 1) := by decide +kernel
theorem dL_law_1523 : decode cL_law 1523 = .ok (.iadd, 1) := by decide +kernel
theorem dL_law_1524 : decode cL_law 1524 = .ok (.iaload, 1) := by decide +kernel
theorem dL_law_1525 : decode cL_law 1525 = .ok (.aload_n 0, 1) := by decide +kernel
theorem dL_law_1526 : decode cL_law 1526 = .ok (.iload 4, 2) := by decide +kernel
theorem dL_law_1528 : decode cL_law 1528 = .ok (.iconst 3, 1) := by decide +kernel
theorem dL_law_1529 : decode cL_law 1529 = .ok (.iadd, 1) := by decide +kernel
theorem dL_law_1530 : decode cL_law 1530 = .ok (.iaload, 1) := by decide +kernel
theorem dL_law_1531 : decode cL_law 1531 = .ok (.aload_n 0, 1) := by decide +kernel
theorem dL_law_1532 : decode cL_law 1532 = .ok (.iload 4, 2) := by decide +kernel
theorem dL_law_1534 : decode cL_law 1534 = .ok (.iconst 4, 1) := by decide +kernel
theorem dL_law_1535 : decode cL_law 1535 = .ok (.iadd, 1) := by decide +kernel
theorem dL_law_1536 : decode cL_law 1536 = .ok (.iaload, 1) := by decide +kernel
theorem dL_law_1537 : decode cL_law 1537 = .ok (.invokevirtual 172, 3) := by decide +kernel
theorem dL_law_1540 : decode cL_law 1540 = .ok (.istore 6, 2) := by decide +kernel
theorem dL_law_1542 : decode cL_law 1542 = .ok (.aload_n 2, 1) := by decide +kernel
theorem dL_law_1543 : decode cL_law 1543 = .ok (.invokevirtual 101, 3) := by decide +kernel
theorem dL_law_1546 : decode cL_law 1546 = .ok (.iload 5, 2) := by decide +kernel
theorem dL_law_1548 : decode cL_law 1548 = .ok (.if_icmp .eq 5, 3) := by decide +kernel
theorem dL_law_1553 : decode cL_law 1553 = .ok (.iload 5, 2) := by decide +kernel
theorem dL_law_1555 : decode cL_law 1555 = .ok (.ifCond .ne 22, 3) := by decide +kernel
theorem dL_law_1558 : decode cL_law 1558 = .ok (.aload_n 3, 1) := by decide +kernel
theorem dL_law_1559 : decode cL_law 1559 = .ok (.iconst 0, 1) := by decide +kernel
theorem dL_law_1560 : decode cL_law 1560 = .ok (.laload, 1) := by decide +kernel
theorem dL_law_1561 : decode cL_law 1561 = .ok (.iload 6, 2) := by decide +kernel
theorem dL_law_1563 : decode cL_law 1563 = .ok (.ifCond .eq 7, 3) := by decide +kernel
theorem dL_law_1566 : decode cL_law 1566 = .ok (.lconst 1, 1) := by decide +kernel
theorem dL_law_1567 : decode cL_law 1567 = .ok (.goto 4, 3) := by decide +kernel
theorem dL_law_1570 : decode cL_law 1570 = .ok (.lconst 0, 1) := by decide +kernel
theorem dL_law_1571 : decode cL_law 1571 = .ok (.lcmp, 1) := by decide +kernel
theorem dL_law_1572 : decode cL_law 1572 = .ok (.ifCond .eq 5, 3) := by decide +kernel
theorem dL_law_1577 : decode cL_law 1577 = .ok (.goto 283, 3) := by decide +kernel
theorem kl_edit : wl_SW yL_edit cL_edit 7 [(0, 21, 24, 13), (0, 21, 28, 15), (0, 21, 32, 17)] 6 := ⟨wd_c_L_edit, wd_t_L_edit, wd_n_L, by decide, by decide +kernel⟩
set_option maxHeartbeats 4000000 in
set_option maxRecDepth 100000 in
theorem lc_edit {p : Program} {l : Launch} {e : Env} {s : State} {m : MethodId} {below : List Frame} {meth : Method} {c : Code} {b L : Nat} {xs : Nat → Int32} {G : k_G} {o : Nat} {a : Nat → Nat} {w : Nat} {cJ : ClassId} {xa : Nat} {Q : State → Prop} {t : Nat} (hF : CallFix p m c cL_law 7 s #[Value.ref b] wsL_law RL) (hX : ll_F l G o a w cJ s) (hSc : va_X b L xs s s.heap) (hbl : b < s.heap.size) (hL : L ≤ 3072) (ht : 6 * t + 6 ≤ L) (hnext : ll_W p l e s m below meth c b G o a w cJ xa Q (t + 1) t 1860) : ll_W p l e s m below meth c b G o a w cJ xa Q t t 264 := by
  intro mm ad f0 H locs ls hI hN hK h00 hA hS hl
  subst h00
  have hx := hF.1
  have hb := hF.2.1
  have hK1 : sp_K mm < 512 := by omega
  have hbA : ¬ ll_0 s.heap.size b := Nat.not_le.mpr hbl
  refine lv_aload_n hx hb dL_law_264 rfl (lv_at hl 1 rfl) ?_
  refine lv_aload_n hx hb dL_law_265 rfl (lv_at hl 0 rfl) ?_
  refine lv_iload hx hb dL_law_266 (lv_at hl 4 rfl) ?_
  refine lv_iconst (v := 1) hx hb dL_law_268 (by decide) ?_
  refine lv_iadd hx hb dL_law_269 ?_
  refine bo_to (v := nI (6 * t + 1)) (nI_add (6 * t) 1) ?_
  refine va_sld hF.1 hF.2.1 hSc hbl hbA hS (vp_in_nI (by omega) (by omega)) dL_law_270 ?_
  refine bo_to (v := xs (6 * t + 1)) (by rw [nI_clamp (by omega)]) ?_
  refine lv_aload_n hx hb dL_law_271 rfl (lv_at hl 0 rfl) ?_
  refine lv_iload hx hb dL_law_272 (lv_at hl 4 rfl) ?_
  refine lv_iconst (v := 2) hx hb dL_law_274 (by decide) ?_
  refine lv_iadd hx hb dL_law_275 ?_
  refine bo_to (v := nI (6 * t + 2)) (nI_add (6 * t) 2) ?_
  refine va_sld hF.1 hF.2.1 hSc hbl hbA hS (vp_in_nI (by omega) (by omega)) dL_law_276 ?_
  refine bo_to (v := xs (6 * t + 2)) (by rw [nI_clamp (by omega)]) ?_
  refine lv_aload_n hx hb dL_law_277 rfl (lv_at hl 0 rfl) ?_
  refine lv_iload hx hb dL_law_278 (lv_at hl 4 rfl) ?_
  refine lv_iconst (v := 3) hx hb dL_law_280 (by decide) ?_
  refine lv_iadd hx hb dL_law_281 ?_
  refine bo_to (v := nI (6 * t + 3)) (nI_add (6 * t) 3) ?_
  refine va_sld hF.1 hF.2.1 hSc hbl hbA hS (vp_in_nI (by omega) (by omega)) dL_law_282 ?_
  refine bo_to (v := xs (6 * t + 3)) (by rw [nI_clamp (by omega)]) ?_
  refine lv_aload_n hx hb dL_law_283 rfl (lv_at hl 0 rfl) ?_
  refine lv_iload hx hb dL_law_284 (lv_at hl 4 rfl) ?_
  refine lv_iconst (v := 4) hx hb dL_law_286 (by decide) ?_
  refine lv_iadd hx hb dL_law_287 ?_
  refine bo_to (v := nI (6 * t + 4)) (nI_add (6 * t) 4) ?_
  refine va_sld hF.1 hF.2.1 hSc hbl hbA hS (vp_in_nI (by omega) (by omega)) dL_law_288 ?_
  refine bo_to (v := xs (6 * t + 4)) (by rw [nI_clamp (by omega)]) ?_
  refine lv_aload_n hx hb dL_law_289 rfl (lv_at hl 3 rfl) ?_
  refine ll_L (fr := 8) (lo := 137) (mc := 4) (ms := 19) (n := 6) (As := [.ref (ad 0 0), .int (xs (6 * t + 1)), .int (xs (6 * t + 2)), .int (xs (6 * t + 3)), .int (xs (6 * t + 4)), .ref w]) (rest := []) hF (m_L_edit l hX.1 G _ w cJ ad mm f0 (xs (6 * t + 1)) (xs (6 * t + 2)) (xs (6 * t + 3)) (xs (6 * t + 4)) hI hK1) kl_edit wd_l_L_105 (by decide) hX hA hS rfl hl.1 rfl (Nat.le_of_ble_eq_true rfl) dL_law_290 (by show 30 + 10 * t + 4 ≤ 601024 ∧ 20000 + 100 * t + 19 ≤ 7293034; omega) (fun r ad1 ct1 f1 H locs hr hA hS => ?_)
  obtain ⟨hr19, hct, h01, hf1⟩ := hr
  replace hct : ct1 = k_C G ad1 (sp_edit mm (xs (6 * t + 1)) (xs (6 * t + 2)) (xs (6 * t + 3)) (xs (6 * t + 4))).2 := hct
  subst hct
  replace h01 : ad1 0 0 = ad 0 0 := h01
  replace hr19 : r = (sp_edit mm (xs (6 * t + 1)) (xs (6 * t + 2)) (xs (6 * t + 3)) (xs (6 * t + 4))).2 19 0 := hr19
  replace hf1 : r = 0 → f1 0 = if (sp_edit mm (xs (6 * t + 1)) (xs (6 * t + 2)) (xs (6 * t + 3)) (xs (6 * t + 4))).1 = 0 then (0 : Int64) else 1 := hf1
  refine lv_istore (lv' := [(5, .int r), (0, .ref b), (1, .ref (ad 0 0)), (2, .ref o), (3, .ref w), (4, .int (nI (6 * t)))]) hx hb dL_law_293 hl (by decide) rfl (fun ls hl => ?_)
  refine lv_aload_n hx hb dL_law_295 rfl (lv_at hl 3 rfl) ?_
  refine lv_aload_n hx hb dL_law_296 rfl (lv_at hl 1 rfl) ?_
  refine lv_iload hx hb dL_law_297 (lv_at hl 5 rfl) ?_
  refine lv_iconst (v := 1) hx hb dL_law_299 (by decide) ?_
  refine lv_iadd hx hb dL_law_300 ?_
  refine bo_to (v := nI (6 * t + 1)) (nI_add (6 * t) 1) ?_
  refine va_sld hF.1 hF.2.1 hSc hbl hbA hS (vp_in_nI (by omega) (by omega)) dL_law_301 ?_
  refine bo_to (v := xs (6 * t + 1)) (by rw [nI_clamp (by omega)]) ?_
  refine lv_aload_n hx hb dL_law_302 rfl (lv_at hl 1 rfl) ?_
  refine lv_iload hx hb dL_law_303 (lv_at hl 5 rfl) ?_
  refine lv_iconst (v := 2) hx hb dL_law_305 (by decide) ?_
  refine lv_iadd hx hb dL_law_306 ?_
  refine bo_to (v := nI (6 * t + 2)) (nI_add (6 * t) 2) ?_
  refine va_sld hF.1 hF.2.1 hSc hbl hbA hS (vp_in_nI (by omega) (by omega)) dL_law_307 ?_
  refine bo_to (v := xs (6 * t + 2)) (by rw [nI_clamp (by omega)]) ?_
  refine lv_aload_n hx hb dL_law_308 rfl (lv_at hl 1 rfl) ?_
  refine lv_iload hx hb dL_law_309 (lv_at hl 5 rfl) ?_
  refine lv_iconst (v := 3) hx hb dL_law_311 (by decide) ?_
  refine lv_iadd hx hb dL_law_312 ?_
  refine bo_to (v := nI (6 * t + 3)) (nI_add (6 * t) 3) ?_
  refine va_sld hF.1 hF.2.1 hSc hbl hbA hS (vp_in_nI (by omega) (by omega)) dL_law_313 ?_
  refine bo_to (v := xs (6 * t + 3)) (by rw [nI_clamp (by omega)]) ?_
  refine lv_aload_n hx hb dL_law_314 rfl (lv_at hl 1 rfl) ?_
  refine lv_iload hx hb dL_law_315 (lv_at hl 5 rfl) ?_
  refine lv_iconst (v := 4) hx hb dL_law_317 (by decide) ?_
  refine lv_iadd hx hb dL_law_318 ?_
  refine bo_to (v := nI (6 * t + 4)) (nI_add (6 * t) 4) ?_
  refine va_sld hF.1 hF.2.1 hSc hbl hbA hS (vp_in_nI (by omega) (by omega)) dL_law_319 ?_
  refine bo_to (v := xs (6 * t + 4)) (by rw [nI_clamp (by omega)]) ?_
  refine ll_R (fr := 1) (lo := 24) (n := 4) (As := [.int (xs (6 * t + 1)), .int (xs (6 * t + 2)), .int (xs (6 * t + 3)), .int (xs (6 * t + 4))]) (rest := []) hF (m_X5_edit l G.1 G.2.1 o a mm hX.2.2.2.2.2.2.1 (xs (6 * t + 1)) (xs (6 * t + 2)) (xs (6 * t + 3)) (xs (6 * t + 4)) hI) ke_X5_edit wd_l_L_108 (by decide) hX hA hS rfl hl.1 rfl (Nat.le_of_ble_eq_true rfl) dL_law_320 (by show 30 + 10 * t + 4 ≤ 601024 ∧ 20000 + 100 * t + 19 ≤ 7293034; omega) (fun r2 m2 H locs hr2 hA hS => ?_)
  have e1 : r2 = (sp_edit mm (xs (6 * t + 1)) (xs (6 * t + 2)) (xs (6 * t + 3)) (xs (6 * t + 4))).1 := congrArg Prod.fst hr2
  have e2 : m2 = (sp_edit mm (xs (6 * t + 1)) (xs (6 * t + 2)) (xs (6 * t + 3)) (xs (6 * t + 4))).2 := congrArg Prod.snd hr2
  have ex : eqx m2 (sp_edit mm (xs (6 * t + 1)) (xs (6 * t + 2)) (xs (6 * t + 3)) (xs (6 * t + 4))).2 := by rw [e2]; exact eqx.rf _
  have hN2 : ∀ v, v < 40 → sp_N m2 v := fun v hv => by rw [e2]; exact (NS.edit).N (hN v hv)
  have hIK : IK mm (sp_edit mm (xs (6 * t + 1)) (xs (6 * t + 2)) (xs (6 * t + 3)) (xs (6 * t + 4))).2 := IK_edit hI hK1
  have hK2 : sp_K m2 ≤ t + 1 := by
    have h8 := hIK.2
    have h9 : sp_K m2 = sp_K (sp_edit mm (xs (6 * t + 1)) (xs (6 * t + 2)) (xs (6 * t + 3)) (xs (6 * t + 4))).2 := by unfold sp_K; rw [ex 10 (by decide) (by decide)]
    omega
  refine lv_istore (lv' := [(6, .int r2), (5, .int r), (0, .ref b), (1, .ref (ad 0 0)), (2, .ref o), (3, .ref w), (4, .int (nI (6 * t)))]) hx hb dL_law_323 hl (by decide) rfl (fun ls hl => ?_)
  refine lv_aload_n hx hb dL_law_325 rfl (lv_at hl 4 rfl) ?_
  refine ll_T hF wd_l_L_101 (by decide) hX hA hl.1 (Nat.le_of_ble_eq_true rfl) dL_law_326 (by show 30 + 10 * t + 4 ≤ 601024 ∧ 20000 + 100 * t + 19 ≤ 7293034; omega) ?_
  have h9 : m2 19 0 = r := by rw [hr19, ex 19 (by decide) (by decide)]
  refine lv_iload hx hb dL_law_329 (lv_at hl 1 rfl) ?_
  refine lv_icmp_eq (tgt := 336) hx hb dL_law_331 (by decide) (fun c331 => ?_) (fun c331 => ?_)
  · skip
    refine lv_iload hx hb dL_law_336 (lv_at hl 1 rfl) ?_
    refine lv_if_ne (tgt := 360) hx hb dL_law_338 (by decide) (fun cN => ?_) (fun cN => ?_)
    · skip
      refine lv_goto (tgt := 1860) hx hb dL_law_360 (by decide) ?_
      refine W.widen (k := 30 + 10 * (t + 1)) (n := 20000 + 100 * (t + 1)) (by omega) (by omega) ?_
      exact hnext m2 ad1 f1 H locs ls (Inv_ext ex.sm hIK.1) hN2 hK2 h01 (by rw [kC_x ex]; exact hA) hS (lv_sub hl [2, 3, 4, 5, 6] rfl)
    · skip
      refine lv_aload_n hx hb dL_law_341 rfl (lv_at hl 5 rfl) ?_
      refine lv_iconst (v := 0) hx hb dL_law_342 (by decide) ?_
      refine va_lald hF.1 hF.2.1 hX.2.2.2.1 (mo_one hA.2.2.2) 0 0 rfl rfl (show vp_in (nI 0) 1 from vp_in_nI (by decide) (by decide)) dL_law_343 ?_
      refine bo_toV (v := .long (if r2 = 0 then (0 : Int64) else 1)) (by rw [e1]; exact congrArg Value.long (hf1 cN)) ?_
      refine lv_iload hx hb dL_law_344 (lv_at hl 0 rfl) ?_
      refine lv_if_eq (tgt := 353) hx hb dL_law_346 (by decide) (fun cB => ?_) (fun cB => ?_)
      · skip
        refine lv_lconst (v := 0) hx hb dL_law_353 rfl ?_
        refine W.lcmp hx hb dL_law_354 ?_
        refine bo_to (v := 0) (by rw [if_pos cB]; simp [lg_cmp]) ?_
        refine lv_if_eq (tgt := 360) hx hb dL_law_355 (by decide) (fun cE => ?_) (fun cE => ?_)
        · skip
          refine lv_goto (tgt := 1860) hx hb dL_law_360 (by decide) ?_
          refine W.widen (k := 30 + 10 * (t + 1)) (n := 20000 + 100 * (t + 1)) (by omega) (by omega) ?_
          exact hnext m2 ad1 f1 H locs ls (Inv_ext ex.sm hIK.1) hN2 hK2 h01 (by rw [kC_x ex]; exact hA) hS (lv_sub hl [2, 3, 4, 5, 6] rfl)
        · skip
          exact absurd rfl cE
      · skip
        refine lv_lconst (v := 1) hx hb dL_law_349 rfl ?_
        refine lv_goto (tgt := 354) hx hb dL_law_350 (by decide) ?_
        refine W.lcmp hx hb dL_law_354 ?_
        refine bo_to (v := 0) (by rw [if_neg cB]; simp [lg_cmp]) ?_
        refine lv_if_eq (tgt := 360) hx hb dL_law_355 (by decide) (fun cE => ?_) (fun cE => ?_)
        · skip
          refine lv_goto (tgt := 1860) hx hb dL_law_360 (by decide) ?_
          refine W.widen (k := 30 + 10 * (t + 1)) (n := 20000 + 100 * (t + 1)) (by omega) (by omega) ?_
          exact hnext m2 ad1 f1 H locs ls (Inv_ext ex.sm hIK.1) hN2 hK2 h01 (by rw [kC_x ex]; exact hA) hS (lv_sub hl [2, 3, 4, 5, 6] rfl)
        · skip
          exact absurd rfl cE
  · skip
    exact absurd h9 c331
theorem kl_see : wl_SW yL_see cL_see 7 [(0, 21, 24, 13), (0, 21, 28, 15), (0, 21, 32, 17)] 6 := ⟨wd_c_L_see, wd_t_L_see, wd_n_L, by decide, by decide +kernel⟩
set_option maxHeartbeats 4000000 in
set_option maxRecDepth 100000 in
theorem lc_see {p : Program} {l : Launch} {e : Env} {s : State} {m : MethodId} {below : List Frame} {meth : Method} {c : Code} {b L : Nat} {xs : Nat → Int32} {G : k_G} {o : Nat} {a : Nat → Nat} {w : Nat} {cJ : ClassId} {xa : Nat} {Q : State → Prop} {t : Nat} (hF : CallFix p m c cL_law 7 s #[Value.ref b] wsL_law RL) (hX : ll_F l G o a w cJ s) (hSc : va_X b L xs s s.heap) (hbl : b < s.heap.size) (hL : L ≤ 3072) (ht : 6 * t + 6 ≤ L) (hnext : ll_W p l e s m below meth c b G o a w cJ xa Q (t + 1) t 1860) : ll_W p l e s m below meth c b G o a w cJ xa Q t t 1481 := by
  intro mm ad f0 H locs ls hI hN hK h00 hA hS hl
  subst h00
  have hx := hF.1
  have hb := hF.2.1
  have hK1 : sp_K mm < 512 := by omega
  have hbA : ¬ ll_0 s.heap.size b := Nat.not_le.mpr hbl
  refine lv_aload_n hx hb dL_law_1481 rfl (lv_at hl 1 rfl) ?_
  refine lv_aload_n hx hb dL_law_1482 rfl (lv_at hl 0 rfl) ?_
  refine lv_iload hx hb dL_law_1483 (lv_at hl 4 rfl) ?_
  refine lv_iconst (v := 1) hx hb dL_law_1485 (by decide) ?_
  refine lv_iadd hx hb dL_law_1486 ?_
  refine bo_to (v := nI (6 * t + 1)) (nI_add (6 * t) 1) ?_
  refine va_sld hF.1 hF.2.1 hSc hbl hbA hS (vp_in_nI (by omega) (by omega)) dL_law_1487 ?_
  refine bo_to (v := xs (6 * t + 1)) (by rw [nI_clamp (by omega)]) ?_
  refine lv_aload_n hx hb dL_law_1488 rfl (lv_at hl 0 rfl) ?_
  refine lv_iload hx hb dL_law_1489 (lv_at hl 4 rfl) ?_
  refine lv_iconst (v := 2) hx hb dL_law_1491 (by decide) ?_
  refine lv_iadd hx hb dL_law_1492 ?_
  refine bo_to (v := nI (6 * t + 2)) (nI_add (6 * t) 2) ?_
  refine va_sld hF.1 hF.2.1 hSc hbl hbA hS (vp_in_nI (by omega) (by omega)) dL_law_1493 ?_
  refine bo_to (v := xs (6 * t + 2)) (by rw [nI_clamp (by omega)]) ?_
  refine lv_aload_n hx hb dL_law_1494 rfl (lv_at hl 0 rfl) ?_
  refine lv_iload hx hb dL_law_1495 (lv_at hl 4 rfl) ?_
  refine lv_iconst (v := 3) hx hb dL_law_1497 (by decide) ?_
  refine lv_iadd hx hb dL_law_1498 ?_
  refine bo_to (v := nI (6 * t + 3)) (nI_add (6 * t) 3) ?_
  refine va_sld hF.1 hF.2.1 hSc hbl hbA hS (vp_in_nI (by omega) (by omega)) dL_law_1499 ?_
  refine bo_to (v := xs (6 * t + 3)) (by rw [nI_clamp (by omega)]) ?_
  refine lv_aload_n hx hb dL_law_1500 rfl (lv_at hl 0 rfl) ?_
  refine lv_iload hx hb dL_law_1501 (lv_at hl 4 rfl) ?_
  refine lv_iconst (v := 4) hx hb dL_law_1503 (by decide) ?_
  refine lv_iadd hx hb dL_law_1504 ?_
  refine bo_to (v := nI (6 * t + 4)) (nI_add (6 * t) 4) ?_
  refine va_sld hF.1 hF.2.1 hSc hbl hbA hS (vp_in_nI (by omega) (by omega)) dL_law_1505 ?_
  refine bo_to (v := xs (6 * t + 4)) (by rw [nI_clamp (by omega)]) ?_
  refine lv_aload_n hx hb dL_law_1506 rfl (lv_at hl 3 rfl) ?_
  refine ll_L (fr := 8) (lo := 136) (mc := 4) (ms := 19) (n := 6) (As := [.ref (ad 0 0), .int (xs (6 * t + 1)), .int (xs (6 * t + 2)), .int (xs (6 * t + 3)), .int (xs (6 * t + 4)), .ref w]) (rest := []) hF (m_L_see l hX.1 G _ w cJ ad mm f0 (xs (6 * t + 1)) (xs (6 * t + 2)) (xs (6 * t + 3)) (xs (6 * t + 4)) hI hK1) kl_see wd_l_L_170 (by decide) hX hA hS rfl hl.1 rfl (Nat.le_of_ble_eq_true rfl) dL_law_1507 (by show 30 + 10 * t + 4 ≤ 601024 ∧ 20000 + 100 * t + 19 ≤ 7293034; omega) (fun r ad1 ct1 f1 H locs hr hA hS => ?_)
  obtain ⟨hr19, hct, h01, hf1⟩ := hr
  replace hct : ct1 = k_C G ad1 (sp_see mm (xs (6 * t + 1)) (xs (6 * t + 2)) (xs (6 * t + 3)) (xs (6 * t + 4))).2 := hct
  subst hct
  replace h01 : ad1 0 0 = ad 0 0 := h01
  replace hr19 : r = (sp_see mm (xs (6 * t + 1)) (xs (6 * t + 2)) (xs (6 * t + 3)) (xs (6 * t + 4))).2 19 0 := hr19
  replace hf1 : r = 0 → f1 0 = if (sp_see mm (xs (6 * t + 1)) (xs (6 * t + 2)) (xs (6 * t + 3)) (xs (6 * t + 4))).1 = 0 then (0 : Int64) else 1 := hf1
  refine lv_istore (lv' := [(5, .int r), (0, .ref b), (1, .ref (ad 0 0)), (2, .ref o), (3, .ref w), (4, .int (nI (6 * t)))]) hx hb dL_law_1510 hl (by decide) rfl (fun ls hl => ?_)
  refine lv_aload_n hx hb dL_law_1512 rfl (lv_at hl 3 rfl) ?_
  refine lv_aload_n hx hb dL_law_1513 rfl (lv_at hl 1 rfl) ?_
  refine lv_iload hx hb dL_law_1514 (lv_at hl 5 rfl) ?_
  refine lv_iconst (v := 1) hx hb dL_law_1516 (by decide) ?_
  refine lv_iadd hx hb dL_law_1517 ?_
  refine bo_to (v := nI (6 * t + 1)) (nI_add (6 * t) 1) ?_
  refine va_sld hF.1 hF.2.1 hSc hbl hbA hS (vp_in_nI (by omega) (by omega)) dL_law_1518 ?_
  refine bo_to (v := xs (6 * t + 1)) (by rw [nI_clamp (by omega)]) ?_
  refine lv_aload_n hx hb dL_law_1519 rfl (lv_at hl 1 rfl) ?_
  refine lv_iload hx hb dL_law_1520 (lv_at hl 5 rfl) ?_
  refine lv_iconst (v := 2) hx hb dL_law_1522 (by decide) ?_
  refine lv_iadd hx hb dL_law_1523 ?_
  refine bo_to (v := nI (6 * t + 2)) (nI_add (6 * t) 2) ?_
  refine va_sld hF.1 hF.2.1 hSc hbl hbA hS (vp_in_nI (by omega) (by omega)) dL_law_1524 ?_
  refine bo_to (v := xs (6 * t + 2)) (by rw [nI_clamp (by omega)]) ?_
  refine lv_aload_n hx hb dL_law_1525 rfl (lv_at hl 1 rfl) ?_
  refine lv_iload hx hb dL_law_1526 (lv_at hl 5 rfl) ?_
  refine lv_iconst (v := 3) hx hb dL_law_1528 (by decide) ?_
  refine lv_iadd hx hb dL_law_1529 ?_
  refine bo_to (v := nI (6 * t + 3)) (nI_add (6 * t) 3) ?_
  refine va_sld hF.1 hF.2.1 hSc hbl hbA hS (vp_in_nI (by omega) (by omega)) dL_law_1530 ?_
  refine bo_to (v := xs (6 * t + 3)) (by rw [nI_clamp (by omega)]) ?_
  refine lv_aload_n hx hb dL_law_1531 rfl (lv_at hl 1 rfl) ?_
  refine lv_iload hx hb dL_law_1532 (lv_at hl 5 rfl) ?_
  refine lv_iconst (v := 4) hx hb dL_law_1534 (by decide) ?_
  refine lv_iadd hx hb dL_law_1535 ?_
  refine bo_to (v := nI (6 * t + 4)) (nI_add (6 * t) 4) ?_
  refine va_sld hF.1 hF.2.1 hSc hbl hbA hS (vp_in_nI (by omega) (by omega)) dL_law_1536 ?_
  refine bo_to (v := xs (6 * t + 4)) (by rw [nI_clamp (by omega)]) ?_
  refine ll_R (fr := 1) (lo := 29) (n := 4) (As := [.int (xs (6 * t + 1)), .int (xs (6 * t + 2)), .int (xs (6 * t + 3)), .int (xs (6 * t + 4))]) (rest := []) hF (m_X5_see l G.1 G.2.1 o a mm hX.2.2.2.2.2.2.1 (xs (6 * t + 1)) (xs (6 * t + 2)) (xs (6 * t + 3)) (xs (6 * t + 4)) hI hN) ke_X5_see wd_l_L_172 (by decide) hX hA hS rfl hl.1 rfl (Nat.le_of_ble_eq_true rfl) dL_law_1537 (by show 30 + 10 * t + 4 ≤ 601024 ∧ 20000 + 100 * t + 19 ≤ 7293034; omega) (fun r2 m2 H locs hr2 hA hS => ?_)
  obtain ⟨e1, ex, hN2⟩ := hr2
  have hIK : IK mm (sp_see mm (xs (6 * t + 1)) (xs (6 * t + 2)) (xs (6 * t + 3)) (xs (6 * t + 4))).2 := IK_see hI hK1
  have hK2 : sp_K m2 ≤ t + 1 := by
    have h8 := hIK.2
    have h9 : sp_K m2 = sp_K (sp_see mm (xs (6 * t + 1)) (xs (6 * t + 2)) (xs (6 * t + 3)) (xs (6 * t + 4))).2 := by unfold sp_K; rw [ex 10 (by decide) (by decide)]
    omega
  refine lv_istore (lv' := [(6, .int r2), (5, .int r), (0, .ref b), (1, .ref (ad 0 0)), (2, .ref o), (3, .ref w), (4, .int (nI (6 * t)))]) hx hb dL_law_1540 hl (by decide) rfl (fun ls hl => ?_)
  refine lv_aload_n hx hb dL_law_1542 rfl (lv_at hl 4 rfl) ?_
  refine ll_T hF wd_l_L_101 (by decide) hX hA hl.1 (Nat.le_of_ble_eq_true rfl) dL_law_1543 (by show 30 + 10 * t + 4 ≤ 601024 ∧ 20000 + 100 * t + 19 ≤ 7293034; omega) ?_
  have h9 : m2 19 0 = r := by rw [hr19, ex 19 (by decide) (by decide)]
  refine lv_iload hx hb dL_law_1546 (lv_at hl 1 rfl) ?_
  refine lv_icmp_eq (tgt := 1553) hx hb dL_law_1548 (by decide) (fun c1548 => ?_) (fun c1548 => ?_)
  · skip
    refine lv_iload hx hb dL_law_1553 (lv_at hl 1 rfl) ?_
    refine lv_if_ne (tgt := 1577) hx hb dL_law_1555 (by decide) (fun cN => ?_) (fun cN => ?_)
    · skip
      refine lv_goto (tgt := 1860) hx hb dL_law_1577 (by decide) ?_
      refine W.widen (k := 30 + 10 * (t + 1)) (n := 20000 + 100 * (t + 1)) (by omega) (by omega) ?_
      exact hnext m2 ad1 f1 H locs ls (Inv_ext ex.sm hIK.1) hN2 hK2 h01 (by rw [kC_x ex]; exact hA) hS (lv_sub hl [2, 3, 4, 5, 6] rfl)
    · skip
      refine lv_aload_n hx hb dL_law_1558 rfl (lv_at hl 5 rfl) ?_
      refine lv_iconst (v := 0) hx hb dL_law_1559 (by decide) ?_
      refine va_lald hF.1 hF.2.1 hX.2.2.2.1 (mo_one hA.2.2.2) 0 0 rfl rfl (show vp_in (nI 0) 1 from vp_in_nI (by decide) (by decide)) dL_law_1560 ?_
      refine bo_toV (v := .long (if r2 = 0 then (0 : Int64) else 1)) (by rw [e1]; exact congrArg Value.long (hf1 cN)) ?_
      refine lv_iload hx hb dL_law_1561 (lv_at hl 0 rfl) ?_
      refine lv_if_eq (tgt := 1570) hx hb dL_law_1563 (by decide) (fun cB => ?_) (fun cB => ?_)
      · skip
        refine lv_lconst (v := 0) hx hb dL_law_1570 rfl ?_
        refine W.lcmp hx hb dL_law_1571 ?_
        refine bo_to (v := 0) (by rw [if_pos cB]; simp [lg_cmp]) ?_
        refine lv_if_eq (tgt := 1577) hx hb dL_law_1572 (by decide) (fun cE => ?_) (fun cE => ?_)
        · skip
          refine lv_goto (tgt := 1860) hx hb dL_law_1577 (by decide) ?_
          refine W.widen (k := 30 + 10 * (t + 1)) (n := 20000 + 100 * (t + 1)) (by omega) (by omega) ?_
          exact hnext m2 ad1 f1 H locs ls (Inv_ext ex.sm hIK.1) hN2 hK2 h01 (by rw [kC_x ex]; exact hA) hS (lv_sub hl [2, 3, 4, 5, 6] rfl)
        · skip
          exact absurd rfl cE
      · skip
        refine lv_lconst (v := 1) hx hb dL_law_1566 rfl ?_
        refine lv_goto (tgt := 1571) hx hb dL_law_1567 (by decide) ?_
        refine W.lcmp hx hb dL_law_1571 ?_
        refine bo_to (v := 0) (by rw [if_neg cB]; simp [lg_cmp]) ?_
        refine lv_if_eq (tgt := 1577) hx hb dL_law_1572 (by decide) (fun cE => ?_) (fun cE => ?_)
        · skip
          refine lv_goto (tgt := 1860) hx hb dL_law_1577 (by decide) ?_
          refine W.widen (k := 30 + 10 * (t + 1)) (n := 20000 + 100 * (t + 1)) (by omega) (by omega) ?_
          exact hnext m2 ad1 f1 H locs ls (Inv_ext ex.sm hIK.1) hN2 hK2 h01 (by rw [kC_x ex]; exact hA) hS (lv_sub hl [2, 3, 4, 5, 6] rfl)
        · skip
          exact absurd rfl cE
  · skip
    exact absurd h9 c1548
theorem kl_addWay : wl_SW yL_addWay cL_addWay 8 [(0, 16, 19, 13), (0, 16, 23, 15), (0, 16, 27, 17)] 7 := ⟨wd_c_L_addWay, wd_t_L_addWay, wd_n_L, by decide, by decide +kernel⟩
set_option maxHeartbeats 4000000 in
set_option maxRecDepth 100000 in
theorem lc_addWay {p : Program} {l : Launch} {e : Env} {s : State} {m : MethodId} {below : List Frame} {meth : Method} {c : Code} {b L : Nat} {xs : Nat → Int32} {G : k_G} {o : Nat} {a : Nat → Nat} {w : Nat} {cJ : ClassId} {xa : Nat} {Q : State → Prop} {t : Nat} (hF : CallFix p m c cL_law 7 s #[Value.ref b] wsL_law RL) (hX : ll_F l G o a w cJ s) (hSc : va_X b L xs s s.heap) (hbl : b < s.heap.size) (hL : L ≤ 3072) (ht : 6 * t + 6 ≤ L) (hnext : ll_W p l e s m below meth c b G o a w cJ xa Q (t + 1) t 1860) : ll_W p l e s m below meth c b G o a w cJ xa Q t t 160 := by
  intro mm ad f0 H locs ls hI hN hK h00 hA hS hl
  subst h00
  have hx := hF.1
  have hb := hF.2.1
  have hK1 : sp_K mm < 512 := by omega
  have hbA : ¬ ll_0 s.heap.size b := Nat.not_le.mpr hbl
  refine lv_aload_n hx hb dL_law_160 rfl (lv_at hl 1 rfl) ?_
  refine lv_aload_n hx hb dL_law_161 rfl (lv_at hl 0 rfl) ?_
  refine lv_iload hx hb dL_law_162 (lv_at hl 4 rfl) ?_
  refine lv_iconst (v := 1) hx hb dL_law_164 (by decide) ?_
  refine lv_iadd hx hb dL_law_165 ?_
  refine bo_to (v := nI (6 * t + 1)) (nI_add (6 * t) 1) ?_
  refine va_sld hF.1 hF.2.1 hSc hbl hbA hS (vp_in_nI (by omega) (by omega)) dL_law_166 ?_
  refine bo_to (v := xs (6 * t + 1)) (by rw [nI_clamp (by omega)]) ?_
  refine lv_aload_n hx hb dL_law_167 rfl (lv_at hl 0 rfl) ?_
  refine lv_iload hx hb dL_law_168 (lv_at hl 4 rfl) ?_
  refine lv_iconst (v := 2) hx hb dL_law_170 (by decide) ?_
  refine lv_iadd hx hb dL_law_171 ?_
  refine bo_to (v := nI (6 * t + 2)) (nI_add (6 * t) 2) ?_
  refine va_sld hF.1 hF.2.1 hSc hbl hbA hS (vp_in_nI (by omega) (by omega)) dL_law_172 ?_
  refine bo_to (v := xs (6 * t + 2)) (by rw [nI_clamp (by omega)]) ?_
  refine lv_aload_n hx hb dL_law_173 rfl (lv_at hl 0 rfl) ?_
  refine lv_iload hx hb dL_law_174 (lv_at hl 4 rfl) ?_
  refine lv_iconst (v := 3) hx hb dL_law_176 (by decide) ?_
  refine lv_iadd hx hb dL_law_177 ?_
  refine bo_to (v := nI (6 * t + 3)) (nI_add (6 * t) 3) ?_
  refine va_sld hF.1 hF.2.1 hSc hbl hbA hS (vp_in_nI (by omega) (by omega)) dL_law_178 ?_
  refine bo_to (v := xs (6 * t + 3)) (by rw [nI_clamp (by omega)]) ?_
  refine lv_aload_n hx hb dL_law_179 rfl (lv_at hl 0 rfl) ?_
  refine lv_iload hx hb dL_law_180 (lv_at hl 4 rfl) ?_
  refine lv_iconst (v := 4) hx hb dL_law_182 (by decide) ?_
  refine lv_iadd hx hb dL_law_183 ?_
  refine bo_to (v := nI (6 * t + 4)) (nI_add (6 * t) 4) ?_
  refine va_sld hF.1 hF.2.1 hSc hbl hbA hS (vp_in_nI (by omega) (by omega)) dL_law_184 ?_
  refine bo_to (v := xs (6 * t + 4)) (by rw [nI_clamp (by omega)]) ?_
  refine lv_aload_n hx hb dL_law_185 rfl (lv_at hl 0 rfl) ?_
  refine lv_iload hx hb dL_law_186 (lv_at hl 4 rfl) ?_
  refine lv_iconst (v := 5) hx hb dL_law_188 (by decide) ?_
  refine lv_iadd hx hb dL_law_189 ?_
  refine bo_to (v := nI (6 * t + 5)) (nI_add (6 * t) 5) ?_
  refine va_sld hF.1 hF.2.1 hSc hbl hbA hS (vp_in_nI (by omega) (by omega)) dL_law_190 ?_
  refine bo_to (v := xs (6 * t + 5)) (by rw [nI_clamp (by omega)]) ?_
  refine lv_aload_n hx hb dL_law_191 rfl (lv_at hl 3 rfl) ?_
  refine ll_L (fr := 8) (lo := 183) (mc := 9) (ms := 100) (n := 7) (As := [.ref (ad 0 0), .int (xs (6 * t + 1)), .int (xs (6 * t + 2)), .int (xs (6 * t + 3)), .int (xs (6 * t + 4)), .int (xs (6 * t + 5)), .ref w]) (rest := []) hF (m_L_addWay l hX.1 G _ w cJ ad mm f0 (xs (6 * t + 1)) (xs (6 * t + 2)) (xs (6 * t + 3)) (xs (6 * t + 4)) (xs (6 * t + 5)) hI hK1) kl_addWay wd_l_L_95 (by decide) hX hA hS rfl hl.1 rfl (Nat.le_of_ble_eq_true rfl) dL_law_192 (by show 30 + 10 * t + 9 ≤ 601024 ∧ 20000 + 100 * t + 100 ≤ 7293034; omega) (fun r ad1 ct1 f1 H locs hr hA hS => ?_)
  obtain ⟨hr19, hct, h01, hf1⟩ := hr
  replace hct : ct1 = k_C G ad1 (sp_add mm (xs (6 * t + 1)) (xs (6 * t + 2)) (xs (6 * t + 3)) (xs (6 * t + 4)) (xs (6 * t + 5))).2 := hct
  subst hct
  replace h01 : ad1 0 0 = ad 0 0 := h01
  replace hr19 : r = (sp_add mm (xs (6 * t + 1)) (xs (6 * t + 2)) (xs (6 * t + 3)) (xs (6 * t + 4)) (xs (6 * t + 5))).2 19 0 := hr19
  replace hf1 : r = 0 → f1 0 = Int32.toInt64 (sp_add mm (xs (6 * t + 1)) (xs (6 * t + 2)) (xs (6 * t + 3)) (xs (6 * t + 4)) (xs (6 * t + 5))).1 := hf1
  refine lv_istore (lv' := [(5, .int r), (0, .ref b), (1, .ref (ad 0 0)), (2, .ref o), (3, .ref w), (4, .int (nI (6 * t)))]) hx hb dL_law_195 hl (by decide) rfl (fun ls hl => ?_)
  refine lv_aload_n hx hb dL_law_197 rfl (lv_at hl 3 rfl) ?_
  refine lv_aload_n hx hb dL_law_198 rfl (lv_at hl 1 rfl) ?_
  refine lv_iload hx hb dL_law_199 (lv_at hl 5 rfl) ?_
  refine lv_iconst (v := 1) hx hb dL_law_201 (by decide) ?_
  refine lv_iadd hx hb dL_law_202 ?_
  refine bo_to (v := nI (6 * t + 1)) (nI_add (6 * t) 1) ?_
  refine va_sld hF.1 hF.2.1 hSc hbl hbA hS (vp_in_nI (by omega) (by omega)) dL_law_203 ?_
  refine bo_to (v := xs (6 * t + 1)) (by rw [nI_clamp (by omega)]) ?_
  refine lv_aload_n hx hb dL_law_204 rfl (lv_at hl 1 rfl) ?_
  refine lv_iload hx hb dL_law_205 (lv_at hl 5 rfl) ?_
  refine lv_iconst (v := 2) hx hb dL_law_207 (by decide) ?_
  refine lv_iadd hx hb dL_law_208 ?_
  refine bo_to (v := nI (6 * t + 2)) (nI_add (6 * t) 2) ?_
  refine va_sld hF.1 hF.2.1 hSc hbl hbA hS (vp_in_nI (by omega) (by omega)) dL_law_209 ?_
  refine bo_to (v := xs (6 * t + 2)) (by rw [nI_clamp (by omega)]) ?_
  refine lv_aload_n hx hb dL_law_210 rfl (lv_at hl 1 rfl) ?_
  refine lv_iload hx hb dL_law_211 (lv_at hl 5 rfl) ?_
  refine lv_iconst (v := 3) hx hb dL_law_213 (by decide) ?_
  refine lv_iadd hx hb dL_law_214 ?_
  refine bo_to (v := nI (6 * t + 3)) (nI_add (6 * t) 3) ?_
  refine va_sld hF.1 hF.2.1 hSc hbl hbA hS (vp_in_nI (by omega) (by omega)) dL_law_215 ?_
  refine bo_to (v := xs (6 * t + 3)) (by rw [nI_clamp (by omega)]) ?_
  refine lv_aload_n hx hb dL_law_216 rfl (lv_at hl 1 rfl) ?_
  refine lv_iload hx hb dL_law_217 (lv_at hl 5 rfl) ?_
  refine lv_iconst (v := 4) hx hb dL_law_219 (by decide) ?_
  refine lv_iadd hx hb dL_law_220 ?_
  refine bo_to (v := nI (6 * t + 4)) (nI_add (6 * t) 4) ?_
  refine va_sld hF.1 hF.2.1 hSc hbl hbA hS (vp_in_nI (by omega) (by omega)) dL_law_221 ?_
  refine bo_to (v := xs (6 * t + 4)) (by rw [nI_clamp (by omega)]) ?_
  refine lv_aload_n hx hb dL_law_222 rfl (lv_at hl 1 rfl) ?_
  refine lv_iload hx hb dL_law_223 (lv_at hl 5 rfl) ?_
  refine lv_iconst (v := 5) hx hb dL_law_225 (by decide) ?_
  refine lv_iadd hx hb dL_law_226 ?_
  refine bo_to (v := nI (6 * t + 5)) (nI_add (6 * t) 5) ?_
  refine va_sld hF.1 hF.2.1 hSc hbl hbA hS (vp_in_nI (by omega) (by omega)) dL_law_227 ?_
  refine bo_to (v := xs (6 * t + 5)) (by rw [nI_clamp (by omega)]) ?_
  refine ll_R (fr := 2) (lo := 43) (n := 5) (As := [.int (xs (6 * t + 1)), .int (xs (6 * t + 2)), .int (xs (6 * t + 3)), .int (xs (6 * t + 4)), .int (xs (6 * t + 5))]) (rest := []) hF (m_X5_addWay l G.1 G.2.1 o a mm hX.2.2.2.2.2.2.1 (xs (6 * t + 1)) (xs (6 * t + 2)) (xs (6 * t + 3)) (xs (6 * t + 4)) (xs (6 * t + 5)) hI) ke_X5_addWay wd_l_L_100 (by decide) hX hA hS rfl hl.1 rfl (Nat.le_of_ble_eq_true rfl) dL_law_228 (by show 30 + 10 * t + 9 ≤ 601024 ∧ 20000 + 100 * t + 100 ≤ 7293034; omega) (fun r2 m2 H locs hr2 hA hS => ?_)
  have e1 : r2 = (sp_add mm (xs (6 * t + 1)) (xs (6 * t + 2)) (xs (6 * t + 3)) (xs (6 * t + 4)) (xs (6 * t + 5))).1 := congrArg Prod.fst hr2
  have e2 : m2 = (sp_add mm (xs (6 * t + 1)) (xs (6 * t + 2)) (xs (6 * t + 3)) (xs (6 * t + 4)) (xs (6 * t + 5))).2 := congrArg Prod.snd hr2
  have ex : eqx m2 (sp_add mm (xs (6 * t + 1)) (xs (6 * t + 2)) (xs (6 * t + 3)) (xs (6 * t + 4)) (xs (6 * t + 5))).2 := by rw [e2]; exact eqx.rf _
  have hN2 : ∀ v, v < 40 → sp_N m2 v := fun v hv => by rw [e2]; exact (NS.add).N (hN v hv)
  have hIK : IK mm (sp_add mm (xs (6 * t + 1)) (xs (6 * t + 2)) (xs (6 * t + 3)) (xs (6 * t + 4)) (xs (6 * t + 5))).2 := IK_add hI hK1
  have hK2 : sp_K m2 ≤ t + 1 := by
    have h8 := hIK.2
    have h9 : sp_K m2 = sp_K (sp_add mm (xs (6 * t + 1)) (xs (6 * t + 2)) (xs (6 * t + 3)) (xs (6 * t + 4)) (xs (6 * t + 5))).2 := by unfold sp_K; rw [ex 10 (by decide) (by decide)]
    omega
  refine lv_istore (lv' := [(6, .int r2), (5, .int r), (0, .ref b), (1, .ref (ad 0 0)), (2, .ref o), (3, .ref w), (4, .int (nI (6 * t)))]) hx hb dL_law_231 hl (by decide) rfl (fun ls hl => ?_)
  refine lv_aload_n hx hb dL_law_233 rfl (lv_at hl 4 rfl) ?_
  refine ll_T hF wd_l_L_101 (by decide) hX hA hl.1 (Nat.le_of_ble_eq_true rfl) dL_law_234 (by show 30 + 10 * t + 9 ≤ 601024 ∧ 20000 + 100 * t + 100 ≤ 7293034; omega) ?_
  have h9 : m2 19 0 = r := by rw [hr19, ex 19 (by decide) (by decide)]
  refine lv_iload hx hb dL_law_237 (lv_at hl 1 rfl) ?_
  refine lv_icmp_eq (tgt := 244) hx hb dL_law_239 (by decide) (fun c239 => ?_) (fun c239 => ?_)
  · skip
    refine lv_iload hx hb dL_law_244 (lv_at hl 1 rfl) ?_
    refine lv_if_ne (tgt := 261) hx hb dL_law_246 (by decide) (fun cN => ?_) (fun cN => ?_)
    · skip
      refine lv_goto (tgt := 1860) hx hb dL_law_261 (by decide) ?_
      refine W.widen (k := 30 + 10 * (t + 1)) (n := 20000 + 100 * (t + 1)) (by omega) (by omega) ?_
      exact hnext m2 ad1 f1 H locs ls (Inv_ext ex.sm hIK.1) hN2 hK2 h01 (by rw [kC_x ex]; exact hA) hS (lv_sub hl [2, 3, 4, 5, 6] rfl)
    · skip
      refine lv_aload_n hx hb dL_law_249 rfl (lv_at hl 5 rfl) ?_
      refine lv_iconst (v := 0) hx hb dL_law_250 (by decide) ?_
      refine va_lald hF.1 hF.2.1 hX.2.2.2.1 (mo_one hA.2.2.2) 0 0 rfl rfl (show vp_in (nI 0) 1 from vp_in_nI (by decide) (by decide)) dL_law_251 ?_
      refine bo_toV (v := .long (Int32.toInt64 r2)) (by rw [e1]; exact congrArg Value.long (hf1 cN)) ?_
      refine lv_iload hx hb dL_law_252 (lv_at hl 0 rfl) ?_
      refine lv_i2l (v := Int32.toInt64 r2) hx hb dL_law_254 rfl ?_
      refine W.lcmp hx hb dL_law_255 ?_
      refine bo_to (v := 0) (by simp [lg_cmp]) ?_
      refine lv_if_eq (tgt := 261) hx hb dL_law_256 (by decide) (fun cE => ?_) (fun cE => ?_)
      · skip
        refine lv_goto (tgt := 1860) hx hb dL_law_261 (by decide) ?_
        refine W.widen (k := 30 + 10 * (t + 1)) (n := 20000 + 100 * (t + 1)) (by omega) (by omega) ?_
        exact hnext m2 ad1 f1 H locs ls (Inv_ext ex.sm hIK.1) hN2 hK2 h01 (by rw [kC_x ex]; exact hA) hS (lv_sub hl [2, 3, 4, 5, 6] rfl)
      · skip
        exact absurd rfl cE
  · skip
    exact absurd h9 c239
set_option maxHeartbeats 4000000 in
set_option maxRecDepth 100000 in
theorem lc_ways {p : Program} {l : Launch} {e : Env} {s : State} {m : MethodId} {below : List Frame} {meth : Method} {c : Code} {b L : Nat} {xs : Nat → Int32} {G : k_G} {o : Nat} {a : Nat → Nat} {w : Nat} {cJ : ClassId} {xa : Nat} {Q : State → Prop} {t : Nat} (hF : CallFix p m c cL_law 7 s #[Value.ref b] wsL_law RL) (hX : ll_F l G o a w cJ s) (hSc : va_X b L xs s s.heap) (hbl : b < s.heap.size) (hL : L ≤ 3072) (ht : 6 * t + 6 ≤ L) (hnext : ll_W p l e s m below meth c b G o a w cJ xa Q (t + 1) t 1860) : ll_W p l e s m below meth c b G o a w cJ xa Q t t 651 := by
  intro mm ad f0 H locs ls hI hN hK h00 hA hS hl
  subst h00
  have hx := hF.1
  have hb := hF.2.1
  have hK1 : sp_K mm < 512 := by omega
  refine lv_aload_n hx hb dL_law_651 rfl (lv_at hl 1 rfl) ?_
  refine ll_V (mm := mm) (fr := 1) (lo := 20) (n := 0) (As := []) (rest := []) hF (m_X4_ways l G _ ad mm) ke_X4_ways wd_l_L_124 (by decide) hX hA hS (g_recv hX.2.1 (hA.1 0 0 _ rfl) rfl) rfl hl.1 rfl (Nat.le_of_ble_eq_true rfl) dL_law_652 (by show 30 + 10 * t + 0 ≤ 601024 ∧ 20000 + 100 * t + 0 ≤ 7293034; omega) (fun r hr => ?_)
  refine lv_aload_n hx hb dL_law_655 rfl (lv_at hl 2 rfl) ?_
  refine ll_R (fr := 0) (lo := 0) (n := 0) (As := []) (rest := [.int r]) hF (m_X5_ways l G.1 G.2.1 o a mm hX.2.2.2.2.2.2.1) ke_X5_ways wd_l_L_127 (by decide) hX hA hS rfl hl.1 rfl (Nat.le_of_ble_eq_true rfl) dL_law_656 (by show 30 + 10 * t + 0 ≤ 601024 ∧ 20000 + 100 * t + 0 ≤ 7293034; omega) (fun r2 m2 H locs hr2 hA hS => ?_)
  obtain ⟨e1, e2⟩ := hr2
  have h9 : r = r2 := hr.trans e1.symm
  subst e2
  have hIK : IK mm (up2 mm 19 0 0) := IK_19 hI
  have hN2 : ∀ v, v < 40 → sp_N (up2 mm 19 0 0) v := fun v hv => NS.s.N (hN v hv)
  have hK2 : sp_K (up2 mm 19 0 0) ≤ t + 1 := by have h8 := hIK.2; omega
  refine lv_icmp_eq (tgt := 1860) hx hb dL_law_659 (by decide) (fun c659 => ?_) (fun c659 => ?_)
  · skip
    refine W.widen (k := 30 + 10 * (t + 1)) (n := 20000 + 100 * (t + 1)) (by omega) (by omega) ?_
    exact hnext (up2 mm 19 0 0) ad f0 H locs ls hIK.1 hN2 hK2 rfl hA hS (lv_sub hl [0, 1, 2, 3, 4] rfl)
  · skip
    exact absurd h9 c659
set_option maxHeartbeats 4000000 in
set_option maxRecDepth 100000 in
theorem lc_clock {p : Program} {l : Launch} {e : Env} {s : State} {m : MethodId} {below : List Frame} {meth : Method} {c : Code} {b L : Nat} {xs : Nat → Int32} {G : k_G} {o : Nat} {a : Nat → Nat} {w : Nat} {cJ : ClassId} {xa : Nat} {Q : State → Prop} {t : Nat} (hF : CallFix p m c cL_law 7 s #[Value.ref b] wsL_law RL) (hX : ll_F l G o a w cJ s) (hSc : va_X b L xs s s.heap) (hbl : b < s.heap.size) (hL : L ≤ 3072) (ht : 6 * t + 6 ≤ L) (hnext : ll_W p l e s m below meth c b G o a w cJ xa Q (t + 1) t 1860) : ll_W p l e s m below meth c b G o a w cJ xa Q t t 912 := by
  intro mm ad f0 H locs ls hI hN hK h00 hA hS hl
  subst h00
  have hx := hF.1
  have hb := hF.2.1
  have hK1 : sp_K mm < 512 := by omega
  refine lv_aload_n hx hb dL_law_912 rfl (lv_at hl 1 rfl) ?_
  refine ll_V (mm := mm) (fr := 0) (lo := 0) (n := 0) (As := []) (rest := []) hF (m_X4_clock l G _ ad mm) ke_X4_clock wd_l_L_140 (by decide) hX hA hS (g_recv hX.2.1 (hA.1 0 0 _ rfl) rfl) rfl hl.1 rfl (Nat.le_of_ble_eq_true rfl) dL_law_913 (by show 30 + 10 * t + 0 ≤ 601024 ∧ 20000 + 100 * t + 0 ≤ 7293034; omega) (fun r hr => ?_)
  refine lv_aload_n hx hb dL_law_916 rfl (lv_at hl 2 rfl) ?_
  refine ll_R (fr := 0) (lo := 0) (n := 0) (As := []) (rest := [.int r]) hF (m_X5_clock l G.1 G.2.1 o a mm hX.2.2.2.2.2.2.1) ke_X5_clock wd_l_L_143 (by decide) hX hA hS rfl hl.1 rfl (Nat.le_of_ble_eq_true rfl) dL_law_917 (by show 30 + 10 * t + 0 ≤ 601024 ∧ 20000 + 100 * t + 0 ≤ 7293034; omega) (fun r2 m2 H locs hr2 hA hS => ?_)
  obtain ⟨e1, e2⟩ := hr2
  have h9 : r = r2 := hr.trans e1.symm
  subst e2
  have hIK : IK mm (up2 mm 19 0 0) := IK_19 hI
  have hN2 : ∀ v, v < 40 → sp_N (up2 mm 19 0 0) v := fun v hv => NS.s.N (hN v hv)
  have hK2 : sp_K (up2 mm 19 0 0) ≤ t + 1 := by have h8 := hIK.2; omega
  refine lv_icmp_eq (tgt := 1860) hx hb dL_law_920 (by decide) (fun c920 => ?_) (fun c920 => ?_)
  · skip
    refine W.widen (k := 30 + 10 * (t + 1)) (n := 20000 + 100 * (t + 1)) (by omega) (by omega) ?_
    exact hnext (up2 mm 19 0 0) ad f0 H locs ls hIK.1 hN2 hK2 rfl hA hS (lv_sub hl [0, 1, 2, 3, 4] rfl)
  · skip
    exact absurd h9 c920
