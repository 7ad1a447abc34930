theorem dL_law_363 : decode cL_law 363 = .ok (.aload_n 1, 1) := by decide +kernel
theorem dL_law_364 : decode cL_law 364 = .ok (.aload_n 0, 1) := by decide +kernel
theorem dL_law_365 : decode cL_law 365 = .ok (.iload 4, 2) := by decide +kernel
theorem dL_law_367 : decode cL_law 367 = .ok (.iconst 1, 1) := by decide +kernel
theorem dL_law_368 : decode cL_law 368 = .ok (.iadd, 1) := by decide +kernel
theorem dL_law_369 : decode cL_law 369 = .ok (.iaload, 1) := by decide +kernel
theorem dL_law_370 : decode cL_law 370 = .ok (.aload_n 0, 1) := by decide +kernel
theorem dL_law_371 : decode cL_law 371 = .ok (.iload 4, 2) := by decide +kernel
theorem dL_law_373 : decode cL_law 373 = .ok (.iconst 2, 1) := by decide +kernel
theorem dL_law_374 : decode cL_law 374 = .ok (.iadd, 1) := by decide +kernel
theorem dL_law_375 : decode cL_law 375 = .ok (.iaload, 1) := by decide +kernel
theorem dL_law_376 : decode cL_law 376 = .ok (.aload_n 0, 1) := by decide +kernel
theorem dL_law_377 : decode cL_law 377 = .ok (.iload 4, 2) := by decide +kernel
theorem dL_law_379 : decode cL_law 379 = .ok (.iconst 3, 1) := by decide +kernel
theorem dL_law_380 : decode cL_law 380 = .ok (.iadd, 1) := by decide +kernel
theorem dL_law_381 : decode cL_law 381 = .ok (.iaload, 1) := by decide +kernel
theorem dL_law_382 : decode cL_law 382 = .ok (.ifCond .eq 7, 3) := by decide +kernel
theorem dL_law_385 : decode cL_law 385 = .ok (.iconst 1, 1) := by decide +kernel
theorem dL_law_386 : decode cL_law 386 = .ok (.goto 4, 3) := by decide +kernel
theorem dL_law_389 : decode cL_law 389 = .ok (.iconst 0, 1) := by decide +kernel
theorem dL_law_390 : decode cL_law 390 = .ok (.aload_n 3, 1) := by decide +kernel
theorem dL_law_391 : decode cL_law 391 = .ok (.invokestatic 109, 3) := by decide +kernel
theorem dL_law_394 : decode cL_law 394 = .ok (.istore 5, 2) := by decide +kernel
theorem dL_law_396 : decode cL_law 396 = .ok (.aload_n 2, 1) := by decide +kernel
theorem dL_law_397 : decode cL_law 397 = .ok (.aload_n 0, 1) := by decide +kernel
theorem dL_law_398 : decode cL_law 398 = .ok (.iload 4, 2) := by decide +kernel
theorem dL_law_400 : decode cL_law 400 = .ok (.iconst 1, 1) := by decide +kernel
theorem dL_law_401 : decode cL_law 401 = .ok (.iadd, 1) := by decide +kernel
theorem dL_law_402 : decode cL_law 402 = .ok (.iaload, 1) := by decide +kernel
theorem dL_law_403 : decode cL_law 403 = .ok (.aload_n 0, 1) := by decide +kernel
theorem dL_law_404 : decode cL_law 404 = .ok (.iload 4, 2) := by decide +kernel
theorem dL_law_406 : decode cL_law 406 = .ok (.iconst 2, 1) := by decide +kernel
theorem dL_law_407 : decode cL_law 407 = .ok (.iadd, 1) := by decide +kernel
theorem dL_law_408 : decode cL_law 408 = .ok (.iaload, 1) := by decide +kernel
theorem dL_law_409 : decode cL_law 409 = .ok (.aload_n 0, 1) := by decide +kernel
theorem dL_law_410 : decode cL_law 410 = .ok (.iload 4, 2) := by decide +kernel
theorem dL_law_412 : decode cL_law 412 = .ok (.iconst 3, 1) := by decide +kernel
theorem dL_law_413 : decode cL_law 413 = .ok (.iadd, 1) := by decide +kernel
theorem dL_law_414 : decode cL_law 414 = .ok (.iaload, 1) := by decide +kernel
theorem dL_law_415 : decode cL_law 415 = .ok (.ifCond .eq 7, 3) := by decide +kernel
theorem dL_law_418 : decode cL_law 418 = .ok (.iconst 1, 1) := by decide +kernel
theorem dL_law_419 : decode cL_law 419 = .ok (.goto 4, 3) := by decide +kernel
theorem dL_law_422 : decode cL_law 422 = .ok (.iconst 0, 1) := by decide +kernel
theorem dL_law_423 : decode cL_law 423 = .ok (.invokevirtual 112, 3) := by decide +kernel
theorem dL_law_426 : decode cL_law 426 = .ok (.istore 6, 2) := by decide +kernel
theorem dL_law_428 : decode cL_law 428 = .ok (.aload_n 2, 1) := by decide +kernel
theorem dL_law_429 : decode cL_law 429 = .ok (.invokevirtual 101, 3) := by decide +kernel
theorem dL_law_432 : decode cL_law 432 = .ok (.iload 5, 2) := by decide +kernel
theorem dL_law_434 : decode cL_law 434 = .ok (.if_icmp .eq 5, 3) := by decide +kernel
theorem dL_law_439 : decode cL_law 439 = .ok (.iload 5, 2) := by decide +kernel
theorem dL_law_441 : decode cL_law 441 = .ok (.ifCond .ne 15, 3) := by decide +kernel
theorem dL_law_444 : decode cL_law 444 = .ok (.aload_n 3, 1) := by decide +kernel
theorem dL_law_445 : decode cL_law 445 = .ok (.iconst 0, 1) := by decide +kernel
theorem dL_law_446 : decode cL_law 446 = .ok (.laload, 1) := by decide +kernel
theorem dL_law_447 : decode cL_law 447 = .ok (.iload 6, 2) := by decide +kernel
theorem dL_law_449 : decode cL_law 449 = .ok (.i2l, 1) := by decide +kernel
theorem dL_law_450 : decode cL_law 450 = .ok (.lcmp, 1) := by decide +kernel
theorem dL_law_451 : decode cL_law 451 = .ok (.ifCond .eq 5, 3) := by decide +kernel
theorem dL_law_456 : decode cL_law 456 = .ok (.goto 1404, 3) := by decide +kernel
theorem dL_law_1245 : decode cL_law 1245 = .ok (.aload_n 1, 1) := by decide +kernel
theorem dL_law_1246 : decode cL_law 1246 = .ok (.aload_n 0, 1) := by decide +kernel
theorem dL_law_1247 : decode cL_law 1247 = .ok (.iload 4, 2) := by decide +kernel
theorem dL_law_1249 : decode cL_law 1249 = .ok (.iconst 1, 1) := by decide +kernel
theorem dL_law_1250 : decode cL_law 1250 = .ok (.iadd, 1) := by decide +kernel
theorem dL_law_1251 : decode cL_law 1251 = .ok (.iaload, 1) := by decide +kernel
theorem dL_law_1252 : decode cL_law 1252 = .ok (.aload_n 0, 1) := by decide +kernel
theorem dL_law_1253 : decode cL_law 1253 = .ok (.iload 4, 2) := by decide +kernel
theorem dL_law_1255 : decode cL_law 1255 = .ok (.iconst 2, 1) := by decide +kernel
theorem dL_law_1256 : decode cL_law 1256 = .ok (.iadd, 1) := by decide +kernel
theorem dL_law_1257 : decode cL_law 1257 = .ok (.iaload, 1) := by decide +kernel
theorem dL_law_1258 : decode cL_law 1258 = .ok (.aload_n 0, 1) := by decide +kernel
theorem dL_law_1259 : decode cL_law 1259 = .ok (.iload 4, 2) := by decide +kernel
theorem dL_law_1261 : decode cL_law 1261 = .ok (.iconst 3, 1) := by decide +kernel
theorem dL_law_1262 : decode cL_law 1262 = .ok (.iadd, 1) := by decide +kernel
theorem dL_law_1263 : decode cL_law 1263 = .ok (.iaload, 1) := by decide +kernel
theorem dL_law_1264 : decode cL_law 1264 = .ok (.aload_n 3, 1) := by decide +kernel
theorem dL_law_1265 : decode cL_law 1265 = .ok (.invokestatic 157, 3) := by decide +kernel
theorem dL_law_1268 : decode cL_law 1268 = .ok (.istore 5, 2) := by decide +kernel
theorem dL_law_1270 : decode cL_law 1270 = .ok (.aload_n 2, 1) := by decide +kernel
theorem dL_law_1271 : decode cL_law 1271 = .ok (.aload_n 0, 1) := by decide +kernel
theorem dL_law_1272 : decode cL_law 1272 = .ok (.iload 4, 2) := by decide +kernel
theorem dL_law_1274 : decode cL_law 1274 = .ok (.iconst 1, 1) := by decide +kernel
theorem dL_law_1275 : decode cL_law 1275 = .ok (.iadd, 1) := by decide +kernel
theorem dL_law_1276 : decode cL_law 1276 = .ok (.iaload, 1) := by decide +kernel
theorem dL_law_1277 : decode cL_law 1277 = .ok (.aload_n 0, 1) := by decide +kernel
theorem dL_law_1278 : decode cL_law 1278 = .ok (.iload 4, 2) := by decide +kernel
theorem dL_law_1280 : decode cL_law 1280 = .ok (.iconst 2, 1) := by decide +kernel
theorem dL_law_1281 : decode cL_law 1281 = .ok (.iadd, 1) := by decide +kernel
theorem dL_law_1282 : decode cL_law 1282 = .ok (.iaload, 1) := by decide +kernel
theorem dL_law_1283 : decode cL_law 1283 = .ok (.aload_n 0, 1) := by decide +kernel
theorem dL_law_1284 : decode cL_law 1284 = .ok (.iload 4, 2) := by decide +kernel
theorem dL_law_1286 : decode cL_law 1286 = .ok (.iconst 3, 1) := by decide +kernel
theorem dL_law_1287 : decode cL_law 1287 = .ok (.iadd, 1) := by decide +kernel
theorem dL_law_1288 : decode cL_law 1288 = .ok (.iaload, 1) := by decide +kernel
theorem dL_law_1289 : decode cL_law 1289 = .ok (.invokevirtual 159, 3) := by decide +kernel
theorem dL_law_1292 : decode cL_law 1292 = .ok (.istore 6, 2) := by decide +kernel
theorem dL_law_1294 : decode cL_law 1294 = .ok (.aload_n 2, 1) := by decide +kernel
theorem dL_law_1295 : decode cL_law 1295 = .ok (.invokevirtual 101, 3) := by decide +kernel
theorem dL_law_1298 : decode cL_law 1298 = .ok (.iload 5, 2) := by decide +kernel
theorem dL_law_1300 : decode cL_law 1300 = .ok (.if_icmp .eq 5, 3) := by decide +kernel
theorem dL_law_1305 : decode cL_law 1305 = .ok (.iload 5, 2) := by decide +kernel
theorem dL_law_1307 : decode cL_law 1307 = .ok (.ifCond .ne 22, 3) := by decide +kernel
theorem dL_law_1310 : decode cL_law 1310 = .ok (.aload_n 3, 1) := by decide +kernel
theorem dL_law_1311 : decode cL_law 1311 = .ok (.iconst 0, 1) := by decide +kernel
theorem dL_law_1312 : decode cL_law 1312 = .ok (.laload, 1) := by decide +kernel
theorem dL_law_1313 : decode cL_law 1313 = .ok (.iload 6, 2) := by decide +kernel
theorem dL_law_1315 : decode cL_law 1315 = .ok (.ifCond .eq 7, 3) := by decide +kernel
theorem dL_law_1318 : decode cL_law 1318 = .ok (.lconst 1, 1) := by decide +kernel
theorem dL_law_1319 : decode cL_law 1319 = .ok (.goto 4, 3) := by decide +kernel
theorem dL_law_1322 : decode cL_law 1322 = .ok (.lconst 0, 1) := by decide +kernel
theorem dL_law_1323 : decode cL_law 1323 = .ok (.lcmp, 1) := by decide +kernel
theorem dL_law_1324 : decode cL_law 1324 = .ok (.ifCond .eq 5, 3) := by decide +kernel
theorem dL_law_1329 : decode cL_law 1329 = .ok (.goto 531, 3) := by decide +kernel
theorem dL_law_1401 : decode cL_law 1401 = .ok (.aload_n 1, 1) := by decide +kernel
theorem dL_law_1402 : decode cL_law 1402 = .ok (.aload_n 0, 1) := by decide +kernel
theorem dL_law_1403 : decode cL_law 1403 = .ok (.iload 4, 2) := by decide +kernel
theorem dL_law_1405 : decode cL_law 1405 = .ok (.iconst 1, 1) := by decide +kernel
theorem dL_law_1406 : decode cL_law 1406 = .ok (.iadd, 1) := by decide +kernel
theorem dL_law_1407 : decode cL_law 1407 = .ok (.iaload, 1) := by decide +kernel
theorem dL_law_1408 : decode cL_law 1408 = .ok (.aload_n 0, 1) := by decide +kernel
theorem dL_law_1409 : decode cL_law 1409 = .ok (.iload 4, 2) := by decide +kernel
theorem dL_law_1411 : decode cL_law 1411 = .ok (.iconst 2, 1) := by decide +kernel
theorem dL_law_1412 : decode cL_law 1412 = .ok (.iadd, 1) := by decide +kernel
theorem dL_law_1413 : decode cL_law 1413 = .ok (.iaload, 1) := by decide +kernel
theorem dL_law_1414 : decode cL_law 1414 = .ok (.aload_n 0, 1) := by decide +kernel
theorem dL_law_1415 : decode cL_law 1415 = .ok (.iload 4, 2) := by decide +kernel
theorem dL_law_1417 : decode cL_law 1417 = .ok (.iconst 3, 1) := by decide +kernel
theorem dL_law_1418 : decode cL_law 1418 = .ok (.iadd, 1) := by decide +kernel
theorem dL_law_1419 : decode cL_law 1419 = .ok (.iaload, 1) := by decide +kernel
theorem dL_law_1420 : decode cL_law 1420 = .ok (.aload_n 3, 1) := by decide +kernel
theorem dL_law_1421 : decode cL_law 1421 = .ok (.invokestatic 167, 3) := by decide +kernel
theorem dL_law_1424 : decode cL_law 1424 = .ok (.istore 5, 2) := by decide +kernel
theorem dL_law_1426 : decode cL_law 1426 = .ok (.aload_n 2, 1) := by decide +kernel
theorem dL_law_1427 : decode cL_law 1427 = .ok (.aload_n 0, 1) := by decide +kernel
theorem dL_law_1428 : decode cL_law 1428 = .ok (.iload 4, 2) := by decide +kernel
theorem dL_law_1430 : decode cL_law 1430 = .ok (.iconst 1, 1) := by decide +kernel
theorem dL_law_1431 : decode cL_law 1431 = .ok (.iadd, 1) := by decide +kernel
theorem dL_law_1432 : decode cL_law 1432 = .ok (.iaload, 1) := by decide +kernel
theorem dL_law_1433 : decode cL_law 1433 = .ok (.aload_n 0, 1) := by decide +kernel
theorem dL_law_1434 : decode cL_law 1434 = .ok (.iload 4, 2) := by decide +kernel
theorem dL_law_1436 : decode cL_law 1436 = .ok (.iconst 2, 1) := by decide +kernel
theorem dL_law_1437 : decode cL_law 1437 = .ok (.iadd, 1) := by decide +kernel
theorem dL_law_1438 : decode cL_law 1438 = .ok (.iaload, 1) := by decide +kernel
theorem dL_law_1439 : decode cL_law 1439 = .ok (.aload_n 0, 1) := by decide +kernel
theorem dL_law_1440 : decode cL_law 1440 = .ok (.iload 4, 2) := by decide +kernel
theorem dL_law_1442 : decode cL_law 1442 = .ok (.iconst 3, 1) := by decide +kernel
theorem dL_law_1443 : decode cL_law 1443 = .ok (.iadd, 1) := by decide +kernel
theorem dL_law_1444 : decode cL_law 1444 = .ok (.iaload, 1) := by decide +kernel
theorem dL_law_1445 : decode cL_law 1445 = .ok (.invokevirtual 169, 3) := by decide +kernel
theorem dL_law_1448 : decode cL_law 1448 = .ok (.istore 6, 2) := by decide +kernel
theorem dL_law_1450 : decode cL_law 1450 = .ok (.aload_n 2, 1) := by decide +kernel
theorem dL_law_1451 : decode cL_law 1451 = .ok (.invokevirtual 101, 3) := by decide +kernel
theorem dL_law_1454 : decode cL_law 1454 = .ok (.iload 5, 2) := by decide +kernel
theorem dL_law_1456 : decode cL_law 1456 = .ok (.if_icmp .eq 5, 3) := by decide +kernel
theorem dL_law_1461 : decode cL_law 1461 = .ok (.iload 5, 2) := by decide +kernel
theorem dL_law_1463 : decode cL_law 1463 = .ok (.ifCond .ne 15, 3) := by decide +kernel
theorem dL_law_1466 : decode cL_law 1466 = .ok (.aload_n 3, 1) := by decide +kernel
theorem dL_law_1467 : decode cL_law 1467 = .ok (.iconst 0, 1) := by decide +kernel
theorem dL_law_1468 : decode cL_law 1468 = .ok (.laload, 1) := by decide +kernel
theorem dL_law_1469 : decode cL_law 1469 = .ok (.iload 6, 2) := by decide +kernel
theorem dL_law_1471 : decode cL_law 1471 = .ok (.i2l, 1) := by decide +kernel
theorem dL_law_1472 : decode cL_law 1472 = .ok (.lcmp, 1) := by decide +kernel
theorem dL_law_1473 : decode cL_law 1473 = .ok (.ifCond .eq 5, 3) := by decide +kernel
theorem dL_law_1478 : decode cL_law 1478 = .ok (.goto 382, 3) := by decide +kernel
theorem kl_isStale : wl_SW yL_isStale cL_isStale 6 [(0, 19, 22, 13)] 5 := ⟨wd_c_L_isStale, wd_t_L_isStale, wd_n_L, by decide, by decide +kernel⟩
set_option maxHeartbeats 4000000 in
set_option maxRecDepth 100000 in
theorem lc_isStale {p : Program} {l : Launch} {e : Env} {s : State} {m : MethodId} {below : List Frame} {meth : Method} {c : Code} {b L : Nat} {xs : Nat → Int32} {G : k_G} {o : Nat} {a : Nat → Nat} {w : Nat} {cJ : ClassId} {xa : Nat} {Q : State → Prop} {t : Nat} (hF : CallFix p m c cL_law 7 s #[Value.ref b] wsL_law RL) (hX : ll_F l G o a w cJ s) (hSc : va_X b L xs s s.heap) (hbl : b < s.heap.size) (hL : L ≤ 3072) (ht : 6 * t + 6 ≤ L) (hnext : ll_W p l e s m below meth c b G o a w cJ xa Q (t + 1) t 1860) : ll_W p l e s m below meth c b G o a w cJ xa Q t t 1245 := by
  intro mm ad f0 H locs ls hI hN hK h00 hA hS hl
  subst h00
  have hx := hF.1
  have hb := hF.2.1
  have hK1 : sp_K mm < 512 := by omega
  have hbA : ¬ ll_0 s.heap.size b := Nat.not_le.mpr hbl
  refine lv_aload_n hx hb dL_law_1245 rfl (lv_at hl 1 rfl) ?_
  refine lv_aload_n hx hb dL_law_1246 rfl (lv_at hl 0 rfl) ?_
  refine lv_iload hx hb dL_law_1247 (lv_at hl 4 rfl) ?_
  refine lv_iconst (v := 1) hx hb dL_law_1249 (by decide) ?_
  refine lv_iadd hx hb dL_law_1250 ?_
  refine bo_to (v := nI (6 * t + 1)) (nI_add (6 * t) 1) ?_
  refine va_sld hF.1 hF.2.1 hSc hbl hbA hS (vp_in_nI (by omega) (by omega)) dL_law_1251 ?_
  refine bo_to (v := xs (6 * t + 1)) (by rw [nI_clamp (by omega)]) ?_
  refine lv_aload_n hx hb dL_law_1252 rfl (lv_at hl 0 rfl) ?_
  refine lv_iload hx hb dL_law_1253 (lv_at hl 4 rfl) ?_
  refine lv_iconst (v := 2) hx hb dL_law_1255 (by decide) ?_
  refine lv_iadd hx hb dL_law_1256 ?_
  refine bo_to (v := nI (6 * t + 2)) (nI_add (6 * t) 2) ?_
  refine va_sld hF.1 hF.2.1 hSc hbl hbA hS (vp_in_nI (by omega) (by omega)) dL_law_1257 ?_
  refine bo_to (v := xs (6 * t + 2)) (by rw [nI_clamp (by omega)]) ?_
  refine lv_aload_n hx hb dL_law_1258 rfl (lv_at hl 0 rfl) ?_
  refine lv_iload hx hb dL_law_1259 (lv_at hl 4 rfl) ?_
  refine lv_iconst (v := 3) hx hb dL_law_1261 (by decide) ?_
  refine lv_iadd hx hb dL_law_1262 ?_
  refine bo_to (v := nI (6 * t + 3)) (nI_add (6 * t) 3) ?_
  refine va_sld hF.1 hF.2.1 hSc hbl hbA hS (vp_in_nI (by omega) (by omega)) dL_law_1263 ?_
  refine bo_to (v := xs (6 * t + 3)) (by rw [nI_clamp (by omega)]) ?_
  refine lv_aload_n hx hb dL_law_1264 rfl (lv_at hl 3 rfl) ?_
  refine ll_L (fr := 9) (lo := 156) (mc := 3) (ms := 18) (n := 5) (As := [.ref (ad 0 0), .int (xs (6 * t + 1)), .int (xs (6 * t + 2)), .int (xs (6 * t + 3)), .ref w]) (rest := []) hF (m_L_isStale l hX.1 G _ w cJ ad mm f0 (xs (6 * t + 1)) (xs (6 * t + 2)) (xs (6 * t + 3)) hI) kl_isStale wd_l_L_157 (by decide) hX hA hS rfl hl.1 rfl (Nat.le_of_ble_eq_true rfl) dL_law_1265 (by show 30 + 10 * t + 3 ≤ 601024 ∧ 20000 + 100 * t + 18 ≤ 7293034; omega) (fun r ad1 ct1 f1 H locs hr hA hS => ?_)
  obtain ⟨hr19, hct, h01, hf1⟩ := hr
  replace hct : ct1 = k_C G ad1 (sp_isst mm (xs (6 * t + 1)) (xs (6 * t + 2)) (xs (6 * t + 3))).2 := hct
  subst hct
  replace h01 : ad1 0 0 = ad 0 0 := h01
  replace hr19 : r = (sp_isst mm (xs (6 * t + 1)) (xs (6 * t + 2)) (xs (6 * t + 3))).2 19 0 := hr19
  replace hf1 : r = 0 → f1 0 = if (sp_isst mm (xs (6 * t + 1)) (xs (6 * t + 2)) (xs (6 * t + 3))).1 = 0 then (0 : Int64) else 1 := hf1
  refine lv_istore (lv' := [(5, .int r), (0, .ref b), (1, .ref (ad 0 0)), (2, .ref o), (3, .ref w), (4, .int (nI (6 * t)))]) hx hb dL_law_1268 hl (by decide) rfl (fun ls hl => ?_)
  refine lv_aload_n hx hb dL_law_1270 rfl (lv_at hl 3 rfl) ?_
  refine lv_aload_n hx hb dL_law_1271 rfl (lv_at hl 1 rfl) ?_
  refine lv_iload hx hb dL_law_1272 (lv_at hl 5 rfl) ?_
  refine lv_iconst (v := 1) hx hb dL_law_1274 (by decide) ?_
  refine lv_iadd hx hb dL_law_1275 ?_
  refine bo_to (v := nI (6 * t + 1)) (nI_add (6 * t) 1) ?_
  refine va_sld hF.1 hF.2.1 hSc hbl hbA hS (vp_in_nI (by omega) (by omega)) dL_law_1276 ?_
  refine bo_to (v := xs (6 * t + 1)) (by rw [nI_clamp (by omega)]) ?_
  refine lv_aload_n hx hb dL_law_1277 rfl (lv_at hl 1 rfl) ?_
  refine lv_iload hx hb dL_law_1278 (lv_at hl 5 rfl) ?_
  refine lv_iconst (v := 2) hx hb dL_law_1280 (by decide) ?_
  refine lv_iadd hx hb dL_law_1281 ?_
  refine bo_to (v := nI (6 * t + 2)) (nI_add (6 * t) 2) ?_
  refine va_sld hF.1 hF.2.1 hSc hbl hbA hS (vp_in_nI (by omega) (by omega)) dL_law_1282 ?_
  refine bo_to (v := xs (6 * t + 2)) (by rw [nI_clamp (by omega)]) ?_
  refine lv_aload_n hx hb dL_law_1283 rfl (lv_at hl 1 rfl) ?_
  refine lv_iload hx hb dL_law_1284 (lv_at hl 5 rfl) ?_
  refine lv_iconst (v := 3) hx hb dL_law_1286 (by decide) ?_
  refine lv_iadd hx hb dL_law_1287 ?_
  refine bo_to (v := nI (6 * t + 3)) (nI_add (6 * t) 3) ?_
  refine va_sld hF.1 hF.2.1 hSc hbl hbA hS (vp_in_nI (by omega) (by omega)) dL_law_1288 ?_
  refine bo_to (v := xs (6 * t + 3)) (by rw [nI_clamp (by omega)]) ?_
  refine ll_R (fr := 2) (lo := 52) (n := 3) (As := [.int (xs (6 * t + 1)), .int (xs (6 * t + 2)), .int (xs (6 * t + 3))]) (rest := []) hF (m_X5_isStale l G.1 G.2.1 o a mm hX.2.2.2.2.2.2.1 (xs (6 * t + 1)) (xs (6 * t + 2)) (xs (6 * t + 3)) hI) ke_X5_isStale wd_l_L_159 (by decide) hX hA hS rfl hl.1 rfl (Nat.le_of_ble_eq_true rfl) dL_law_1289 (by show 30 + 10 * t + 3 ≤ 601024 ∧ 20000 + 100 * t + 18 ≤ 7293034; omega) (fun r2 m2 H locs hr2 hA hS => ?_)
  have e1 : r2 = (sp_isst mm (xs (6 * t + 1)) (xs (6 * t + 2)) (xs (6 * t + 3))).1 := congrArg Prod.fst hr2
  have e2 : m2 = (sp_isst mm (xs (6 * t + 1)) (xs (6 * t + 2)) (xs (6 * t + 3))).2 := congrArg Prod.snd hr2
  have ex : eqx m2 (sp_isst mm (xs (6 * t + 1)) (xs (6 * t + 2)) (xs (6 * t + 3))).2 := by rw [e2]; exact eqx.rf _
  have hN2 : ∀ v, v < 40 → sp_N m2 v := fun v hv => by rw [e2]; exact (NS.isst).N (hN v hv)
  have hIK : IK mm (sp_isst mm (xs (6 * t + 1)) (xs (6 * t + 2)) (xs (6 * t + 3))).2 := IK_isst hI
  have hK2 : sp_K m2 ≤ t + 1 := by
    have h8 := hIK.2
    have h9 : sp_K m2 = sp_K (sp_isst mm (xs (6 * t + 1)) (xs (6 * t + 2)) (xs (6 * t + 3))).2 := by unfold sp_K; rw [ex 10 (by decide) (by decide)]
    omega
  refine lv_istore (lv' := [(6, .int r2), (5, .int r), (0, .ref b), (1, .ref (ad 0 0)), (2, .ref o), (3, .ref w), (4, .int (nI (6 * t)))]) hx hb dL_law_1292 hl (by decide) rfl (fun ls hl => ?_)
  refine lv_aload_n hx hb dL_law_1294 rfl (lv_at hl 4 rfl) ?_
  refine ll_T hF wd_l_L_101 (by decide) hX hA hl.1 (Nat.le_of_ble_eq_true rfl) dL_law_1295 (by show 30 + 10 * t + 3 ≤ 601024 ∧ 20000 + 100 * t + 18 ≤ 7293034; omega) ?_
  have h9 : m2 19 0 = r := by rw [hr19, ex 19 (by decide) (by decide)]
  refine lv_iload hx hb dL_law_1298 (lv_at hl 1 rfl) ?_
  refine lv_icmp_eq (tgt := 1305) hx hb dL_law_1300 (by decide) (fun c1300 => ?_) (fun c1300 => ?_)
  · skip
    refine lv_iload hx hb dL_law_1305 (lv_at hl 1 rfl) ?_
    refine lv_if_ne (tgt := 1329) hx hb dL_law_1307 (by decide) (fun cN => ?_) (fun cN => ?_)
    · skip
      refine lv_goto (tgt := 1860) hx hb dL_law_1329 (by decide) ?_
      refine W.widen (k := 30 + 10 * (t + 1)) (n := 20000 + 100 * (t + 1)) (by omega) (by omega) ?_
      exact hnext m2 ad1 f1 H locs ls (Inv_ext ex.sm hIK.1) hN2 hK2 h01 (by rw [kC_x ex]; exact hA) hS (lv_sub hl [2, 3, 4, 5, 6] rfl)
    · skip
      refine lv_aload_n hx hb dL_law_1310 rfl (lv_at hl 5 rfl) ?_
      refine lv_iconst (v := 0) hx hb dL_law_1311 (by decide) ?_
      refine va_lald hF.1 hF.2.1 hX.2.2.2.1 (mo_one hA.2.2.2) 0 0 rfl rfl (show vp_in (nI 0) 1 from vp_in_nI (by decide) (by decide)) dL_law_1312 ?_
      refine bo_toV (v := .long (if r2 = 0 then (0 : Int64) else 1)) (by rw [e1]; exact congrArg Value.long (hf1 cN)) ?_
      refine lv_iload hx hb dL_law_1313 (lv_at hl 0 rfl) ?_
      refine lv_if_eq (tgt := 1322) hx hb dL_law_1315 (by decide) (fun cB => ?_) (fun cB => ?_)
      · skip
        refine lv_lconst (v := 0) hx hb dL_law_1322 rfl ?_
        refine W.lcmp hx hb dL_law_1323 ?_
        refine bo_to (v := 0) (by rw [if_pos cB]; simp [lg_cmp]) ?_
        refine lv_if_eq (tgt := 1329) hx hb dL_law_1324 (by decide) (fun cE => ?_) (fun cE => ?_)
        · skip
          refine lv_goto (tgt := 1860) hx hb dL_law_1329 (by decide) ?_
          refine W.widen (k := 30 + 10 * (t + 1)) (n := 20000 + 100 * (t + 1)) (by omega) (by omega) ?_
          exact hnext m2 ad1 f1 H locs ls (Inv_ext ex.sm hIK.1) hN2 hK2 h01 (by rw [kC_x ex]; exact hA) hS (lv_sub hl [2, 3, 4, 5, 6] rfl)
        · skip
          exact absurd rfl cE
      · skip
        refine lv_lconst (v := 1) hx hb dL_law_1318 rfl ?_
        refine lv_goto (tgt := 1323) hx hb dL_law_1319 (by decide) ?_
        refine W.lcmp hx hb dL_law_1323 ?_
        refine bo_to (v := 0) (by rw [if_neg cB]; simp [lg_cmp]) ?_
        refine lv_if_eq (tgt := 1329) hx hb dL_law_1324 (by decide) (fun cE => ?_) (fun cE => ?_)
        · skip
          refine lv_goto (tgt := 1860) hx hb dL_law_1329 (by decide) ?_
          refine W.widen (k := 30 + 10 * (t + 1)) (n := 20000 + 100 * (t + 1)) (by omega) (by omega) ?_
          exact hnext m2 ad1 f1 H locs ls (Inv_ext ex.sm hIK.1) hN2 hK2 h01 (by rw [kC_x ex]; exact hA) hS (lv_sub hl [2, 3, 4, 5, 6] rfl)
        · skip
          exact absurd rfl cE
  · skip
    exact absurd h9 c1300
theorem kl_drive : wl_SW yL_drive cL_drive 6 [(0, 12, 15, 13)] 5 := ⟨wd_c_L_drive, wd_t_L_drive, wd_n_L, by decide, by decide +kernel⟩
set_option maxHeartbeats 4000000 in
set_option maxRecDepth 100000 in
theorem lc_drive {p : Program} {l : Launch} {e : Env} {s : State} {m : MethodId} {below : List Frame} {meth : Method} {c : Code} {b L : Nat} {xs : Nat → Int32} {G : k_G} {o : Nat} {a : Nat → Nat} {w : Nat} {cJ : ClassId} {xa : Nat} {Q : State → Prop} {t : Nat} (hF : CallFix p m c cL_law 7 s #[Value.ref b] wsL_law RL) (hX : ll_F l G o a w cJ s) (hSc : va_X b L xs s s.heap) (hbl : b < s.heap.size) (hL : L ≤ 3072) (ht : 6 * t + 6 ≤ L) (hnext : ll_W p l e s m below meth c b G o a w cJ xa Q (t + 1) t 1860) : ll_W p l e s m below meth c b G o a w cJ xa Q t t 1401 := by
  intro mm ad f0 H locs ls hI hN hK h00 hA hS hl
  subst h00
  have hx := hF.1
  have hb := hF.2.1
  have hK1 : sp_K mm < 512 := by omega
  have hbA : ¬ ll_0 s.heap.size b := Nat.not_le.mpr hbl
  refine lv_aload_n hx hb dL_law_1401 rfl (lv_at hl 1 rfl) ?_
  refine lv_aload_n hx hb dL_law_1402 rfl (lv_at hl 0 rfl) ?_
  refine lv_iload hx hb dL_law_1403 (lv_at hl 4 rfl) ?_
  refine lv_iconst (v := 1) hx hb dL_law_1405 (by decide) ?_
  refine lv_iadd hx hb dL_law_1406 ?_
  refine bo_to (v := nI (6 * t + 1)) (nI_add (6 * t) 1) ?_
  refine va_sld hF.1 hF.2.1 hSc hbl hbA hS (vp_in_nI (by omega) (by omega)) dL_law_1407 ?_
  refine bo_to (v := xs (6 * t + 1)) (by rw [nI_clamp (by omega)]) ?_
  refine lv_aload_n hx hb dL_law_1408 rfl (lv_at hl 0 rfl) ?_
  refine lv_iload hx hb dL_law_1409 (lv_at hl 4 rfl) ?_
  refine lv_iconst (v := 2) hx hb dL_law_1411 (by decide) ?_
  refine lv_iadd hx hb dL_law_1412 ?_
  refine bo_to (v := nI (6 * t + 2)) (nI_add (6 * t) 2) ?_
  refine va_sld hF.1 hF.2.1 hSc hbl hbA hS (vp_in_nI (by omega) (by omega)) dL_law_1413 ?_
  refine bo_to (v := xs (6 * t + 2)) (by rw [nI_clamp (by omega)]) ?_
  refine lv_aload_n hx hb dL_law_1414 rfl (lv_at hl 0 rfl) ?_
  refine lv_iload hx hb dL_law_1415 (lv_at hl 4 rfl) ?_
  refine lv_iconst (v := 3) hx hb dL_law_1417 (by decide) ?_
  refine lv_iadd hx hb dL_law_1418 ?_
  refine bo_to (v := nI (6 * t + 3)) (nI_add (6 * t) 3) ?_
  refine va_sld hF.1 hF.2.1 hSc hbl hbA hS (vp_in_nI (by omega) (by omega)) dL_law_1419 ?_
  refine bo_to (v := xs (6 * t + 3)) (by rw [nI_clamp (by omega)]) ?_
  refine lv_aload_n hx hb dL_law_1420 rfl (lv_at hl 3 rfl) ?_
  refine ll_L (fr := 8) (lo := 135) (mc := 2) (ms := 12) (n := 5) (As := [.ref (ad 0 0), .int (xs (6 * t + 1)), .int (xs (6 * t + 2)), .int (xs (6 * t + 3)), .ref w]) (rest := []) hF (m_L_drive l hX.1 G _ w cJ ad mm f0 (xs (6 * t + 1)) (xs (6 * t + 2)) (xs (6 * t + 3)) hI) kl_drive wd_l_L_167 (by decide) hX hA hS rfl hl.1 rfl (Nat.le_of_ble_eq_true rfl) dL_law_1421 (by show 30 + 10 * t + 2 ≤ 601024 ∧ 20000 + 100 * t + 12 ≤ 7293034; omega) (fun r ad1 ct1 f1 H locs hr hA hS => ?_)
  obtain ⟨hr19, hct, h01, hf1⟩ := hr
  replace hct : ct1 = k_C G ad1 (sp_drive mm (xs (6 * t + 1)) (xs (6 * t + 2)) (xs (6 * t + 3))).2 := hct
  subst hct
  replace h01 : ad1 0 0 = ad 0 0 := h01
  replace hr19 : r = (sp_drive mm (xs (6 * t + 1)) (xs (6 * t + 2)) (xs (6 * t + 3))).2 19 0 := hr19
  replace hf1 : r = 0 → f1 0 = Int32.toInt64 (sp_drive mm (xs (6 * t + 1)) (xs (6 * t + 2)) (xs (6 * t + 3))).1 := hf1
  refine lv_istore (lv' := [(5, .int r), (0, .ref b), (1, .ref (ad 0 0)), (2, .ref o), (3, .ref w), (4, .int (nI (6 * t)))]) hx hb dL_law_1424 hl (by decide) rfl (fun ls hl => ?_)
  refine lv_aload_n hx hb dL_law_1426 rfl (lv_at hl 3 rfl) ?_
  refine lv_aload_n hx hb dL_law_1427 rfl (lv_at hl 1 rfl) ?_
  refine lv_iload hx hb dL_law_1428 (lv_at hl 5 rfl) ?_
  refine lv_iconst (v := 1) hx hb dL_law_1430 (by decide) ?_
  refine lv_iadd hx hb dL_law_1431 ?_
  refine bo_to (v := nI (6 * t + 1)) (nI_add (6 * t) 1) ?_
  refine va_sld hF.1 hF.2.1 hSc hbl hbA hS (vp_in_nI (by omega) (by omega)) dL_law_1432 ?_
  refine bo_to (v := xs (6 * t + 1)) (by rw [nI_clamp (by omega)]) ?_
  refine lv_aload_n hx hb dL_law_1433 rfl (lv_at hl 1 rfl) ?_
  refine lv_iload hx hb dL_law_1434 (lv_at hl 5 rfl) ?_
  refine lv_iconst (v := 2) hx hb dL_law_1436 (by decide) ?_
  refine lv_iadd hx hb dL_law_1437 ?_
  refine bo_to (v := nI (6 * t + 2)) (nI_add (6 * t) 2) ?_
  refine va_sld hF.1 hF.2.1 hSc hbl hbA hS (vp_in_nI (by omega) (by omega)) dL_law_1438 ?_
  refine bo_to (v := xs (6 * t + 2)) (by rw [nI_clamp (by omega)]) ?_
  refine lv_aload_n hx hb dL_law_1439 rfl (lv_at hl 1 rfl) ?_
  refine lv_iload hx hb dL_law_1440 (lv_at hl 5 rfl) ?_
  refine lv_iconst (v := 3) hx hb dL_law_1442 (by decide) ?_
  refine lv_iadd hx hb dL_law_1443 ?_
  refine bo_to (v := nI (6 * t + 3)) (nI_add (6 * t) 3) ?_
  refine va_sld hF.1 hF.2.1 hSc hbl hbA hS (vp_in_nI (by omega) (by omega)) dL_law_1444 ?_
  refine bo_to (v := xs (6 * t + 3)) (by rw [nI_clamp (by omega)]) ?_
  refine ll_R (fr := 2) (lo := 49) (n := 3) (As := [.int (xs (6 * t + 1)), .int (xs (6 * t + 2)), .int (xs (6 * t + 3))]) (rest := []) hF (m_X5_drive l G.1 G.2.1 o a mm hX.2.2.2.2.2.2.1 (xs (6 * t + 1)) (xs (6 * t + 2)) (xs (6 * t + 3))) ke_X5_drive wd_l_L_169 (by decide) hX hA hS rfl hl.1 rfl (Nat.le_of_ble_eq_true rfl) dL_law_1445 (by show 30 + 10 * t + 2 ≤ 601024 ∧ 20000 + 100 * t + 12 ≤ 7293034; omega) (fun r2 m2 H locs hr2 hA hS => ?_)
  have e1 : r2 = (sp_drive mm (xs (6 * t + 1)) (xs (6 * t + 2)) (xs (6 * t + 3))).1 := congrArg Prod.fst hr2
  have e2 : m2 = (sp_drive mm (xs (6 * t + 1)) (xs (6 * t + 2)) (xs (6 * t + 3))).2 := congrArg Prod.snd hr2
  have ex : eqx m2 (sp_drive mm (xs (6 * t + 1)) (xs (6 * t + 2)) (xs (6 * t + 3))).2 := by rw [e2]; exact eqx.rf _
  have hN2 : ∀ v, v < 40 → sp_N m2 v := fun v hv => by rw [e2]; exact (NS.drive).N (hN v hv)
  have hIK : IK mm (sp_drive mm (xs (6 * t + 1)) (xs (6 * t + 2)) (xs (6 * t + 3))).2 := IK_drive hI
  have hK2 : sp_K m2 ≤ t + 1 := by
    have h8 := hIK.2
    have h9 : sp_K m2 = sp_K (sp_drive mm (xs (6 * t + 1)) (xs (6 * t + 2)) (xs (6 * t + 3))).2 := by unfold sp_K; rw [ex 10 (by decide) (by decide)]
    omega
  refine lv_istore (lv' := [(6, .int r2), (5, .int r), (0, .ref b), (1, .ref (ad 0 0)), (2, .ref o), (3, .ref w), (4, .int (nI (6 * t)))]) hx hb dL_law_1448 hl (by decide) rfl (fun ls hl => ?_)
  refine lv_aload_n hx hb dL_law_1450 rfl (lv_at hl 4 rfl) ?_
  refine ll_T hF wd_l_L_101 (by decide) hX hA hl.1 (Nat.le_of_ble_eq_true rfl) dL_law_1451 (by show 30 + 10 * t + 2 ≤ 601024 ∧ 20000 + 100 * t + 12 ≤ 7293034; omega) ?_
  have h9 : m2 19 0 = r := by rw [hr19, ex 19 (by decide) (by decide)]
  refine lv_iload hx hb dL_law_1454 (lv_at hl 1 rfl) ?_
  refine lv_icmp_eq (tgt := 1461) hx hb dL_law_1456 (by decide) (fun c1456 => ?_) (fun c1456 => ?_)
  · skip
    refine lv_iload hx hb dL_law_1461 (lv_at hl 1 rfl) ?_
    refine lv_if_ne (tgt := 1478) hx hb dL_law_1463 (by decide) (fun cN => ?_) (fun cN => ?_)
    · skip
      refine lv_goto (tgt := 1860) hx hb dL_law_1478 (by decide) ?_
      refine W.widen (k := 30 + 10 * (t + 1)) (n := 20000 + 100 * (t + 1)) (by omega) (by omega) ?_
      exact hnext m2 ad1 f1 H locs ls (Inv_ext ex.sm hIK.1) hN2 hK2 h01 (by rw [kC_x ex]; exact hA) hS (lv_sub hl [2, 3, 4, 5, 6] rfl)
    · skip
      refine lv_aload_n hx hb dL_law_1466 rfl (lv_at hl 5 rfl) ?_
      refine lv_iconst (v := 0) hx hb dL_law_1467 (by decide) ?_
      refine va_lald hF.1 hF.2.1 hX.2.2.2.1 (mo_one hA.2.2.2) 0 0 rfl rfl (show vp_in (nI 0) 1 from vp_in_nI (by decide) (by decide)) dL_law_1468 ?_
      refine bo_toV (v := .long (Int32.toInt64 r2)) (by rw [e1]; exact congrArg Value.long (hf1 cN)) ?_
      refine lv_iload hx hb dL_law_1469 (lv_at hl 0 rfl) ?_
      refine lv_i2l (v := Int32.toInt64 r2) hx hb dL_law_1471 rfl ?_
      refine W.lcmp hx hb dL_law_1472 ?_
      refine bo_to (v := 0) (by simp [lg_cmp]) ?_
      refine lv_if_eq (tgt := 1478) hx hb dL_law_1473 (by decide) (fun cE => ?_) (fun cE => ?_)
      · skip
        refine lv_goto (tgt := 1860) hx hb dL_law_1478 (by decide) ?_
        refine W.widen (k := 30 + 10 * (t + 1)) (n := 20000 + 100 * (t + 1)) (by omega) (by omega) ?_
        exact hnext m2 ad1 f1 H locs ls (Inv_ext ex.sm hIK.1) hN2 hK2 h01 (by rw [kC_x ex]; exact hA) hS (lv_sub hl [2, 3, 4, 5, 6] rfl)
      · skip
        exact absurd rfl cE
  · skip
    exact absurd h9 c1456
theorem kl_judge : wl_SW yL_judge cL_judge 6 [(0, 12, 15, 13), (0, 12, 19, 17)] 5 := ⟨wd_c_L_judge, wd_t_L_judge, wd_n_L, by decide, by decide +kernel⟩
set_option maxHeartbeats 4000000 in
set_option maxRecDepth 100000 in
theorem lc_judge {p : Program} {l : Launch} {e : Env} {s : State} {m : MethodId} {below : List Frame} {meth : Method} {c : Code} {b L : Nat} {xs : Nat → Int32} {G : k_G} {o : Nat} {a : Nat → Nat} {w : Nat} {cJ : ClassId} {xa : Nat} {Q : State → Prop} {t : Nat} (hF : CallFix p m c cL_law 7 s #[Value.ref b] wsL_law RL) (hX : ll_F l G o a w cJ s) (hSc : va_X b L xs s s.heap) (hbl : b < s.heap.size) (hL : L ≤ 3072) (ht : 6 * t + 6 ≤ L) (hnext : ll_W p l e s m below meth c b G o a w cJ xa Q (t + 1) t 1860) : ll_W p l e s m below meth c b G o a w cJ xa Q t t 363 := by
  intro mm ad f0 H locs ls hI hN hK h00 hA hS hl
  subst h00
  have hx := hF.1
  have hb := hF.2.1
  have hK1 : sp_K mm < 512 := by omega
  have hbA : ¬ ll_0 s.heap.size b := Nat.not_le.mpr hbl
  by_cases hz : (xs (6 * t + 3)) = 0
  · skip
    refine lv_aload_n hx hb dL_law_363 rfl (lv_at hl 1 rfl) ?_
    refine lv_aload_n hx hb dL_law_364 rfl (lv_at hl 0 rfl) ?_
    refine lv_iload hx hb dL_law_365 (lv_at hl 4 rfl) ?_
    refine lv_iconst (v := 1) hx hb dL_law_367 (by decide) ?_
    refine lv_iadd hx hb dL_law_368 ?_
    refine bo_to (v := nI (6 * t + 1)) (nI_add (6 * t) 1) ?_
    refine va_sld hF.1 hF.2.1 hSc hbl hbA hS (vp_in_nI (by omega) (by omega)) dL_law_369 ?_
    refine bo_to (v := xs (6 * t + 1)) (by rw [nI_clamp (by omega)]) ?_
    refine lv_aload_n hx hb dL_law_370 rfl (lv_at hl 0 rfl) ?_
    refine lv_iload hx hb dL_law_371 (lv_at hl 4 rfl) ?_
    refine lv_iconst (v := 2) hx hb dL_law_373 (by decide) ?_
    refine lv_iadd hx hb dL_law_374 ?_
    refine bo_to (v := nI (6 * t + 2)) (nI_add (6 * t) 2) ?_
    refine va_sld hF.1 hF.2.1 hSc hbl hbA hS (vp_in_nI (by omega) (by omega)) dL_law_375 ?_
    refine bo_to (v := xs (6 * t + 2)) (by rw [nI_clamp (by omega)]) ?_
    refine lv_aload_n hx hb dL_law_376 rfl (lv_at hl 0 rfl) ?_
    refine lv_iload hx hb dL_law_377 (lv_at hl 4 rfl) ?_
    refine lv_iconst (v := 3) hx hb dL_law_379 (by decide) ?_
    refine lv_iadd hx hb dL_law_380 ?_
    refine bo_to (v := nI (6 * t + 3)) (nI_add (6 * t) 3) ?_
    refine va_sld hF.1 hF.2.1 hSc hbl hbA hS (vp_in_nI (by omega) (by omega)) dL_law_381 ?_
    refine bo_to (v := xs (6 * t + 3)) (by rw [nI_clamp (by omega)]) ?_
    refine lv_if_eq (tgt := 389) hx hb dL_law_382 (by decide) (fun c382 => ?_) (fun c382 => ?_)
    · skip
      refine lv_iconst (v := 0) hx hb dL_law_389 (by decide) ?_
      refine lv_aload_n hx hb dL_law_390 rfl (lv_at hl 3 rfl) ?_
      refine ll_L (fr := 8) (lo := 136) (mc := 4) (ms := 19) (n := 5) (As := [.ref (ad 0 0), .int (xs (6 * t + 1)), .int (xs (6 * t + 2)), .int 0, .ref w]) (rest := []) hF (m_L_judge l hX.1 G _ w cJ ad mm f0 (xs (6 * t + 1)) (xs (6 * t + 2)) 0 (¬ (xs (6 * t + 3)) = 0) (if_neg (fun q => q hz)).symm hI hK1) kl_judge wd_l_L_109 (by decide) hX hA hS rfl hl.1 rfl (Nat.le_of_ble_eq_true rfl) dL_law_391 (by show 30 + 10 * t + 4 ≤ 601024 ∧ 20000 + 100 * t + 19 ≤ 7293034; omega) (fun r ad1 ct1 f1 H locs hr hA hS => ?_)
      obtain ⟨hr19, hct, h01, hf1⟩ := hr
      replace hct : ct1 = k_C G ad1 (sp_judge mm (xs (6 * t + 1)) (xs (6 * t + 2)) (¬ (xs (6 * t + 3)) = 0)).2 := hct
      subst hct
      replace h01 : ad1 0 0 = ad 0 0 := h01
      replace hr19 : r = (sp_judge mm (xs (6 * t + 1)) (xs (6 * t + 2)) (¬ (xs (6 * t + 3)) = 0)).2 19 0 := hr19
      replace hf1 : r = 0 → f1 0 = Int32.toInt64 (sp_judge mm (xs (6 * t + 1)) (xs (6 * t + 2)) (¬ (xs (6 * t + 3)) = 0)).1 := hf1
      refine lv_istore (lv' := [(5, .int r), (0, .ref b), (1, .ref (ad 0 0)), (2, .ref o), (3, .ref w), (4, .int (nI (6 * t)))]) hx hb dL_law_394 hl (by decide) rfl (fun ls hl => ?_)
      refine lv_aload_n hx hb dL_law_396 rfl (lv_at hl 3 rfl) ?_
      refine lv_aload_n hx hb dL_law_397 rfl (lv_at hl 1 rfl) ?_
      refine lv_iload hx hb dL_law_398 (lv_at hl 5 rfl) ?_
      refine lv_iconst (v := 1) hx hb dL_law_400 (by decide) ?_
      refine lv_iadd hx hb dL_law_401 ?_
      refine bo_to (v := nI (6 * t + 1)) (nI_add (6 * t) 1) ?_
      refine va_sld hF.1 hF.2.1 hSc hbl hbA hS (vp_in_nI (by omega) (by omega)) dL_law_402 ?_
      refine bo_to (v := xs (6 * t + 1)) (by rw [nI_clamp (by omega)]) ?_
      refine lv_aload_n hx hb dL_law_403 rfl (lv_at hl 1 rfl) ?_
      refine lv_iload hx hb dL_law_404 (lv_at hl 5 rfl) ?_
      refine lv_iconst (v := 2) hx hb dL_law_406 (by decide) ?_
      refine lv_iadd hx hb dL_law_407 ?_
      refine bo_to (v := nI (6 * t + 2)) (nI_add (6 * t) 2) ?_
      refine va_sld hF.1 hF.2.1 hSc hbl hbA hS (vp_in_nI (by omega) (by omega)) dL_law_408 ?_
      refine bo_to (v := xs (6 * t + 2)) (by rw [nI_clamp (by omega)]) ?_
      refine lv_aload_n hx hb dL_law_409 rfl (lv_at hl 1 rfl) ?_
      refine lv_iload hx hb dL_law_410 (lv_at hl 5 rfl) ?_
      refine lv_iconst (v := 3) hx hb dL_law_412 (by decide) ?_
      refine lv_iadd hx hb dL_law_413 ?_
      refine bo_to (v := nI (6 * t + 3)) (nI_add (6 * t) 3) ?_
      refine va_sld hF.1 hF.2.1 hSc hbl hbA hS (vp_in_nI (by omega) (by omega)) dL_law_414 ?_
      refine bo_to (v := xs (6 * t + 3)) (by rw [nI_clamp (by omega)]) ?_
      refine lv_if_eq (tgt := 422) hx hb dL_law_415 (by decide) (fun c415 => ?_) (fun c415 => ?_)
      · skip
        refine lv_iconst (v := 0) hx hb dL_law_422 (by decide) ?_
        refine ll_R (fr := 1) (lo := 24) (n := 3) (As := [.int (xs (6 * t + 1)), .int (xs (6 * t + 2)), .int 0]) (rest := []) hF (m_X5_judge l G.1 G.2.1 o a mm hX.2.2.2.2.2.2.1 (xs (6 * t + 1)) (xs (6 * t + 2)) 0 (¬ (xs (6 * t + 3)) = 0) (if_neg (fun q => q hz)).symm hI) ke_X5_judge wd_l_L_112 (by decide) hX hA hS rfl hl.1 rfl (Nat.le_of_ble_eq_true rfl) dL_law_423 (by show 30 + 10 * t + 4 ≤ 601024 ∧ 20000 + 100 * t + 19 ≤ 7293034; omega) (fun r2 m2 H locs hr2 hA hS => ?_)
        have e1 : r2 = (sp_judge mm (xs (6 * t + 1)) (xs (6 * t + 2)) (¬ (xs (6 * t + 3)) = 0)).1 := congrArg Prod.fst hr2
        have e2 : m2 = (sp_judge mm (xs (6 * t + 1)) (xs (6 * t + 2)) (¬ (xs (6 * t + 3)) = 0)).2 := congrArg Prod.snd hr2
        have ex : eqx m2 (sp_judge mm (xs (6 * t + 1)) (xs (6 * t + 2)) (¬ (xs (6 * t + 3)) = 0)).2 := by rw [e2]; exact eqx.rf _
        have hN2 : ∀ v, v < 40 → sp_N m2 v := fun v hv => by rw [e2]; exact (NS.judge).N (hN v hv)
        have hIK : IK mm (sp_judge mm (xs (6 * t + 1)) (xs (6 * t + 2)) (¬ (xs (6 * t + 3)) = 0)).2 := IK_judge hI hK1
        have hK2 : sp_K m2 ≤ t + 1 := by
          have h8 := hIK.2
          have h9 : sp_K m2 = sp_K (sp_judge mm (xs (6 * t + 1)) (xs (6 * t + 2)) (¬ (xs (6 * t + 3)) = 0)).2 := by unfold sp_K; rw [ex 10 (by decide) (by decide)]
          omega
        refine lv_istore (lv' := [(6, .int r2), (5, .int r), (0, .ref b), (1, .ref (ad 0 0)), (2, .ref o), (3, .ref w), (4, .int (nI (6 * t)))]) hx hb dL_law_426 hl (by decide) rfl (fun ls hl => ?_)
        refine lv_aload_n hx hb dL_law_428 rfl (lv_at hl 4 rfl) ?_
        refine ll_T hF wd_l_L_101 (by decide) hX hA hl.1 (Nat.le_of_ble_eq_true rfl) dL_law_429 (by show 30 + 10 * t + 4 ≤ 601024 ∧ 20000 + 100 * t + 19 ≤ 7293034; omega) ?_
        have h9 : m2 19 0 = r := by rw [hr19, ex 19 (by decide) (by decide)]
        refine lv_iload hx hb dL_law_432 (lv_at hl 1 rfl) ?_
        refine lv_icmp_eq (tgt := 439) hx hb dL_law_434 (by decide) (fun c434 => ?_) (fun c434 => ?_)
        · skip
          refine lv_iload hx hb dL_law_439 (lv_at hl 1 rfl) ?_
          refine lv_if_ne (tgt := 456) hx hb dL_law_441 (by decide) (fun cN => ?_) (fun cN => ?_)
          · skip
            refine lv_goto (tgt := 1860) hx hb dL_law_456 (by decide) ?_
            refine W.widen (k := 30 + 10 * (t + 1)) (n := 20000 + 100 * (t + 1)) (by omega) (by omega) ?_
            exact hnext m2 ad1 f1 H locs ls (Inv_ext ex.sm hIK.1) hN2 hK2 h01 (by rw [kC_x ex]; exact hA) hS (lv_sub hl [2, 3, 4, 5, 6] rfl)
          · skip
            refine lv_aload_n hx hb dL_law_444 rfl (lv_at hl 5 rfl) ?_
            refine lv_iconst (v := 0) hx hb dL_law_445 (by decide) ?_
            refine va_lald hF.1 hF.2.1 hX.2.2.2.1 (mo_one hA.2.2.2) 0 0 rfl rfl (show vp_in (nI 0) 1 from vp_in_nI (by decide) (by decide)) dL_law_446 ?_
            refine bo_toV (v := .long (Int32.toInt64 r2)) (by rw [e1]; exact congrArg Value.long (hf1 cN)) ?_
            refine lv_iload hx hb dL_law_447 (lv_at hl 0 rfl) ?_
            refine lv_i2l (v := Int32.toInt64 r2) hx hb dL_law_449 rfl ?_
            refine W.lcmp hx hb dL_law_450 ?_
            refine bo_to (v := 0) (by simp [lg_cmp]) ?_
            refine lv_if_eq (tgt := 456) hx hb dL_law_451 (by decide) (fun cE => ?_) (fun cE => ?_)
            · skip
              refine lv_goto (tgt := 1860) hx hb dL_law_456 (by decide) ?_
              refine W.widen (k := 30 + 10 * (t + 1)) (n := 20000 + 100 * (t + 1)) (by omega) (by omega) ?_
              exact hnext m2 ad1 f1 H locs ls (Inv_ext ex.sm hIK.1) hN2 hK2 h01 (by rw [kC_x ex]; exact hA) hS (lv_sub hl [2, 3, 4, 5, 6] rfl)
            · skip
              exact absurd rfl cE
        · skip
          exact absurd h9 c434
      · skip
        exact absurd hz c415
    · skip
      exact absurd hz c382
  · skip
    refine lv_aload_n hx hb dL_law_363 rfl (lv_at hl 1 rfl) ?_
    refine lv_aload_n hx hb dL_law_364 rfl (lv_at hl 0 rfl) ?_
    refine lv_iload hx hb dL_law_365 (lv_at hl 4 rfl) ?_
    refine lv_iconst (v := 1) hx hb dL_law_367 (by decide) ?_
    refine lv_iadd hx hb dL_law_368 ?_
    refine bo_to (v := nI (6 * t + 1)) (nI_add (6 * t) 1) ?_
    refine va_sld hF.1 hF.2.1 hSc hbl hbA hS (vp_in_nI (by omega) (by omega)) dL_law_369 ?_
    refine bo_to (v := xs (6 * t + 1)) (by rw [nI_clamp (by omega)]) ?_
    refine lv_aload_n hx hb dL_law_370 rfl (lv_at hl 0 rfl) ?_
    refine lv_iload hx hb dL_law_371 (lv_at hl 4 rfl) ?_
    refine lv_iconst (v := 2) hx hb dL_law_373 (by decide) ?_
    refine lv_iadd hx hb dL_law_374 ?_
    refine bo_to (v := nI (6 * t + 2)) (nI_add (6 * t) 2) ?_
    refine va_sld hF.1 hF.2.1 hSc hbl hbA hS (vp_in_nI (by omega) (by omega)) dL_law_375 ?_
    refine bo_to (v := xs (6 * t + 2)) (by rw [nI_clamp (by omega)]) ?_
    refine lv_aload_n hx hb dL_law_376 rfl (lv_at hl 0 rfl) ?_
    refine lv_iload hx hb dL_law_377 (lv_at hl 4 rfl) ?_
    refine lv_iconst (v := 3) hx hb dL_law_379 (by decide) ?_
    refine lv_iadd hx hb dL_law_380 ?_
    refine bo_to (v := nI (6 * t + 3)) (nI_add (6 * t) 3) ?_
    refine va_sld hF.1 hF.2.1 hSc hbl hbA hS (vp_in_nI (by omega) (by omega)) dL_law_381 ?_
    refine bo_to (v := xs (6 * t + 3)) (by rw [nI_clamp (by omega)]) ?_
    refine lv_if_eq (tgt := 389) hx hb dL_law_382 (by decide) (fun c382 => ?_) (fun c382 => ?_)
    · skip
      exact absurd c382 hz
    · skip
      refine lv_iconst (v := 1) hx hb dL_law_385 (by decide) ?_
      refine lv_goto (tgt := 390) hx hb dL_law_386 (by decide) ?_
      refine lv_aload_n hx hb dL_law_390 rfl (lv_at hl 3 rfl) ?_
      refine ll_L (fr := 8) (lo := 136) (mc := 4) (ms := 19) (n := 5) (As := [.ref (ad 0 0), .int (xs (6 * t + 1)), .int (xs (6 * t + 2)), .int 1, .ref w]) (rest := []) hF (m_L_judge l hX.1 G _ w cJ ad mm f0 (xs (6 * t + 1)) (xs (6 * t + 2)) 1 (¬ (xs (6 * t + 3)) = 0) (if_pos hz).symm hI hK1) kl_judge wd_l_L_109 (by decide) hX hA hS rfl hl.1 rfl (Nat.le_of_ble_eq_true rfl) dL_law_391 (by show 30 + 10 * t + 4 ≤ 601024 ∧ 20000 + 100 * t + 19 ≤ 7293034; omega) (fun r ad1 ct1 f1 H locs hr hA hS => ?_)
      obtain ⟨hr19, hct, h01, hf1⟩ := hr
      replace hct : ct1 = k_C G ad1 (sp_judge mm (xs (6 * t + 1)) (xs (6 * t + 2)) (¬ (xs (6 * t + 3)) = 0)).2 := hct
      subst hct
      replace h01 : ad1 0 0 = ad 0 0 := h01
      replace hr19 : r = (sp_judge mm (xs (6 * t + 1)) (xs (6 * t + 2)) (¬ (xs (6 * t + 3)) = 0)).2 19 0 := hr19
      replace hf1 : r = 0 → f1 0 = Int32.toInt64 (sp_judge mm (xs (6 * t + 1)) (xs (6 * t + 2)) (¬ (xs (6 * t + 3)) = 0)).1 := hf1
      refine lv_istore (lv' := [(5, .int r), (0, .ref b), (1, .ref (ad 0 0)), (2, .ref o), (3, .ref w), (4, .int (nI (6 * t)))]) hx hb dL_law_394 hl (by decide) rfl (fun ls hl => ?_)
      refine lv_aload_n hx hb dL_law_396 rfl (lv_at hl 3 rfl) ?_
      refine lv_aload_n hx hb dL_law_397 rfl (lv_at hl 1 rfl) ?_
      refine lv_iload hx hb dL_law_398 (lv_at hl 5 rfl) ?_
      refine lv_iconst (v := 1) hx hb dL_law_400 (by decide) ?_
      refine lv_iadd hx hb dL_law_401 ?_
      refine bo_to (v := nI (6 * t + 1)) (nI_add (6 * t) 1) ?_
      refine va_sld hF.1 hF.2.1 hSc hbl hbA hS (vp_in_nI (by omega) (by omega)) dL_law_402 ?_
      refine bo_to (v := xs (6 * t + 1)) (by rw [nI_clamp (by omega)]) ?_
      refine lv_aload_n hx hb dL_law_403 rfl (lv_at hl 1 rfl) ?_
      refine lv_iload hx hb dL_law_404 (lv_at hl 5 rfl) ?_
      refine lv_iconst (v := 2) hx hb dL_law_406 (by decide) ?_
      refine lv_iadd hx hb dL_law_407 ?_
      refine bo_to (v := nI (6 * t + 2)) (nI_add (6 * t) 2) ?_
      refine va_sld hF.1 hF.2.1 hSc hbl hbA hS (vp_in_nI (by omega) (by omega)) dL_law_408 ?_
      refine bo_to (v := xs (6 * t + 2)) (by rw [nI_clamp (by omega)]) ?_
      refine lv_aload_n hx hb dL_law_409 rfl (lv_at hl 1 rfl) ?_
      refine lv_iload hx hb dL_law_410 (lv_at hl 5 rfl) ?_
      refine lv_iconst (v := 3) hx hb dL_law_412 (by decide) ?_
      refine lv_iadd hx hb dL_law_413 ?_
      refine bo_to (v := nI (6 * t + 3)) (nI_add (6 * t) 3) ?_
      refine va_sld hF.1 hF.2.1 hSc hbl hbA hS (vp_in_nI (by omega) (by omega)) dL_law_414 ?_
      refine bo_to (v := xs (6 * t + 3)) (by rw [nI_clamp (by omega)]) ?_
      refine lv_if_eq (tgt := 422) hx hb dL_law_415 (by decide) (fun c415 => ?_) (fun c415 => ?_)
      · skip
        exact absurd c415 hz
      · skip
        refine lv_iconst (v := 1) hx hb dL_law_418 (by decide) ?_
        refine lv_goto (tgt := 423) hx hb dL_law_419 (by decide) ?_
        refine ll_R (fr := 1) (lo := 24) (n := 3) (As := [.int (xs (6 * t + 1)), .int (xs (6 * t + 2)), .int 1]) (rest := []) hF (m_X5_judge l G.1 G.2.1 o a mm hX.2.2.2.2.2.2.1 (xs (6 * t + 1)) (xs (6 * t + 2)) 1 (¬ (xs (6 * t + 3)) = 0) (if_pos hz).symm hI) ke_X5_judge wd_l_L_112 (by decide) hX hA hS rfl hl.1 rfl (Nat.le_of_ble_eq_true rfl) dL_law_423 (by show 30 + 10 * t + 4 ≤ 601024 ∧ 20000 + 100 * t + 19 ≤ 7293034; omega) (fun r2 m2 H locs hr2 hA hS => ?_)
        have e1 : r2 = (sp_judge mm (xs (6 * t + 1)) (xs (6 * t + 2)) (¬ (xs (6 * t + 3)) = 0)).1 := congrArg Prod.fst hr2
        have e2 : m2 = (sp_judge mm (xs (6 * t + 1)) (xs (6 * t + 2)) (¬ (xs (6 * t + 3)) = 0)).2 := congrArg Prod.snd hr2
        have ex : eqx m2 (sp_judge mm (xs (6 * t + 1)) (xs (6 * t + 2)) (¬ (xs (6 * t + 3)) = 0)).2 := by rw [e2]; exact eqx.rf _
        have hN2 : ∀ v, v < 40 → sp_N m2 v := fun v hv => by rw [e2]; exact (NS.judge).N (hN v hv)
        have hIK : IK mm (sp_judge mm (xs (6 * t + 1)) (xs (6 * t + 2)) (¬ (xs (6 * t + 3)) = 0)).2 := IK_judge hI hK1
        have hK2 : sp_K m2 ≤ t + 1 := by
          have h8 := hIK.2
          have h9 : sp_K m2 = sp_K (sp_judge mm (xs (6 * t + 1)) (xs (6 * t + 2)) (¬ (xs (6 * t + 3)) = 0)).2 := by unfold sp_K; rw [ex 10 (by decide) (by decide)]
          omega
        refine lv_istore (lv' := [(6, .int r2), (5, .int r), (0, .ref b), (1, .ref (ad 0 0)), (2, .ref o), (3, .ref w), (4, .int (nI (6 * t)))]) hx hb dL_law_426 hl (by decide) rfl (fun ls hl => ?_)
        refine lv_aload_n hx hb dL_law_428 rfl (lv_at hl 4 rfl) ?_
        refine ll_T hF wd_l_L_101 (by decide) hX hA hl.1 (Nat.le_of_ble_eq_true rfl) dL_law_429 (by show 30 + 10 * t + 4 ≤ 601024 ∧ 20000 + 100 * t + 19 ≤ 7293034; omega) ?_
        have h9 : m2 19 0 = r := by rw [hr19, ex 19 (by decide) (by decide)]
        refine lv_iload hx hb dL_law_432 (lv_at hl 1 rfl) ?_
        refine lv_icmp_eq (tgt := 439) hx hb dL_law_434 (by decide) (fun c434 => ?_) (fun c434 => ?_)
        · skip
          refine lv_iload hx hb dL_law_439 (lv_at hl 1 rfl) ?_
          refine lv_if_ne (tgt := 456) hx hb dL_law_441 (by decide) (fun cN => ?_) (fun cN => ?_)
          · skip
            refine lv_goto (tgt := 1860) hx hb dL_law_456 (by decide) ?_
            refine W.widen (k := 30 + 10 * (t + 1)) (n := 20000 + 100 * (t + 1)) (by omega) (by omega) ?_
            exact hnext m2 ad1 f1 H locs ls (Inv_ext ex.sm hIK.1) hN2 hK2 h01 (by rw [kC_x ex]; exact hA) hS (lv_sub hl [2, 3, 4, 5, 6] rfl)
          · skip
            refine lv_aload_n hx hb dL_law_444 rfl (lv_at hl 5 rfl) ?_
            refine lv_iconst (v := 0) hx hb dL_law_445 (by decide) ?_
            refine va_lald hF.1 hF.2.1 hX.2.2.2.1 (mo_one hA.2.2.2) 0 0 rfl rfl (show vp_in (nI 0) 1 from vp_in_nI (by decide) (by decide)) dL_law_446 ?_
            refine bo_toV (v := .long (Int32.toInt64 r2)) (by rw [e1]; exact congrArg Value.long (hf1 cN)) ?_
            refine lv_iload hx hb dL_law_447 (lv_at hl 0 rfl) ?_
            refine lv_i2l (v := Int32.toInt64 r2) hx hb dL_law_449 rfl ?_
            refine W.lcmp hx hb dL_law_450 ?_
            refine bo_to (v := 0) (by simp [lg_cmp]) ?_
            refine lv_if_eq (tgt := 456) hx hb dL_law_451 (by decide) (fun cE => ?_) (fun cE => ?_)
            · skip
              refine lv_goto (tgt := 1860) hx hb dL_law_456 (by decide) ?_
              refine W.widen (k := 30 + 10 * (t + 1)) (n := 20000 + 100 * (t + 1)) (by omega) (by omega) ?_
              exact hnext m2 ad1 f1 H locs ls (Inv_ext ex.sm hIK.1) hN2 hK2 h01 (by rw [kC_x ex]; exact hA) hS (lv_sub hl [2, 3, 4, 5, 6] rfl)
            · skip
              exact absurd rfl cE
        · skip
          exact absurd h9 c434
