theorem dW_law_1296 : decode code 1296 = .ok (.aload_n 1, 1) := by decide +kernel
theorem dW_law_1297 : decode code 1297 = .ok (.aload_n 0, 1) := by decide +kernel
theorem dW_law_1298 : decode code 1298 = .ok (.iload 4, 2) := by decide +kernel
theorem dW_law_1300 : decode code 1300 = .ok (.iconst 1, 1) := by decide +kernel
theorem dW_law_1301 : decode code 1301 = .ok (.iadd, 1) := by decide +kernel
theorem dW_law_1302 : decode code 1302 = .ok (.iaload, 1) := by decide +kernel
theorem dW_law_1303 : decode code 1303 = .ok (.aload_n 0, 1) := by decide +kernel
theorem dW_law_1304 : decode code 1304 = .ok (.iload 4, 2) := by decide +kernel
theorem dW_law_1306 : decode code 1306 = .ok (.iconst 2, 1) := by decide +kernel
theorem dW_law_1307 : decode code 1307 = .ok (.iadd, 1) := by decide +kernel
theorem dW_law_1308 : decode code 1308 = .ok (.iaload, 1) := by decide +kernel
theorem dW_law_1309 : decode code 1309 = .ok (.invokevirtual 158, 3) := by decide +kernel
theorem dW_law_1312 : decode code 1312 = .ok (.aload_n 2, 1) := by decide +kernel
theorem dW_law_1313 : decode code 1313 = .ok (.aload_n 0, 1) := by decide +kernel
theorem dW_law_1314 : decode code 1314 = .ok (.iload 4, 2) := by decide +kernel
theorem dW_law_1316 : decode code 1316 = .ok (.iconst 1, 1) := by decide +kernel
theorem dW_law_1317 : decode code 1317 = .ok (.iadd, 1) := by decide +kernel
theorem dW_law_1318 : decode code 1318 = .ok (.iaload, 1) := by decide +kernel
theorem dW_law_1319 : decode code 1319 = .ok (.aload_n 0, 1) := by decide +kernel
theorem dW_law_1320 : decode code 1320 = .ok (.iload 4, 2) := by decide +kernel
theorem dW_law_1322 : decode code 1322 = .ok (.iconst 2, 1) := by decide +kernel
theorem dW_law_1323 : decode code 1323 = .ok (.iadd, 1) := by decide +kernel
theorem dW_law_1324 : decode code 1324 = .ok (.iaload, 1) := by decide +kernel
theorem dW_law_1325 : decode code 1325 = .ok (.invokevirtual 161, 3) := by decide +kernel
theorem dW_law_1328 : decode code 1328 = .ok (.if_icmp .eq 324, 3) := by decide +kernel
theorem dW_law_1331 : decode code 1331 = .ok (.iconst 0, 1) := by decide +kernel
theorem dW_law_1332 : decode code 1332 = .ok (.ireturn, 1) := by decide +kernel
theorem dW_law_1333 : decode code 1333 = .ok (.aload_n 1, 1) := by decide +kernel
theorem dW_law_1334 : decode code 1334 = .ok (.aload_n 0, 1) := by decide +kernel
theorem dW_law_1335 : decode code 1335 = .ok (.iload 4, 2) := by decide +kernel
theorem dW_law_1337 : decode code 1337 = .ok (.iconst 1, 1) := by decide +kernel
theorem dW_law_1338 : decode code 1338 = .ok (.iadd, 1) := by decide +kernel
theorem dW_law_1339 : decode code 1339 = .ok (.iaload, 1) := by decide +kernel
theorem dW_law_1340 : decode code 1340 = .ok (.aload_n 0, 1) := by decide +kernel
theorem dW_law_1341 : decode code 1341 = .ok (.iload 4, 2) := by decide +kernel
theorem dW_law_1343 : decode code 1343 = .ok (.iconst 2, 1) := by decide +kernel
theorem dW_law_1344 : decode code 1344 = .ok (.iadd, 1) := by decide +kernel
theorem dW_law_1345 : decode code 1345 = .ok (.iaload, 1) := by decide +kernel
theorem dW_law_1346 : decode code 1346 = .ok (.invokevirtual 162, 3) := by decide +kernel
theorem dW_law_1349 : decode code 1349 = .ok (.aload_n 2, 1) := by decide +kernel
theorem dW_law_1350 : decode code 1350 = .ok (.aload_n 0, 1) := by decide +kernel
theorem dW_law_1351 : decode code 1351 = .ok (.iload 4, 2) := by decide +kernel
theorem dW_law_1353 : decode code 1353 = .ok (.iconst 1, 1) := by decide +kernel
theorem dW_law_1354 : decode code 1354 = .ok (.iadd, 1) := by decide +kernel
theorem dW_law_1355 : decode code 1355 = .ok (.iaload, 1) := by decide +kernel
theorem dW_law_1356 : decode code 1356 = .ok (.aload_n 0, 1) := by decide +kernel
theorem dW_law_1357 : decode code 1357 = .ok (.iload 4, 2) := by decide +kernel
theorem dW_law_1359 : decode code 1359 = .ok (.iconst 2, 1) := by decide +kernel
theorem dW_law_1360 : decode code 1360 = .ok (.iadd, 1) := by decide +kernel
theorem dW_law_1361 : decode code 1361 = .ok (.iaload, 1) := by decide +kernel
theorem dW_law_1362 : decode code 1362 = .ok (.invokevirtual 165, 3) := by decide +kernel
theorem dW_law_1365 : decode code 1365 = .ok (.if_icmp .eq 287, 3) := by decide +kernel
theorem dW_law_1368 : decode code 1368 = .ok (.iconst 0, 1) := by decide +kernel
theorem dW_law_1369 : decode code 1369 = .ok (.ireturn, 1) := by decide +kernel
theorem dW_law_1370 : decode code 1370 = .ok (.aload_n 1, 1) := by decide +kernel
theorem dW_law_1371 : decode code 1371 = .ok (.aload_n 0, 1) := by decide +kernel
theorem dW_law_1372 : decode code 1372 = .ok (.iload 4, 2) := by decide +kernel
theorem dW_law_1374 : decode code 1374 = .ok (.iconst 1, 1) := by decide +kernel
theorem dW_law_1375 : decode code 1375 = .ok (.iadd, 1) := by decide +kernel
theorem dW_law_1376 : decode code 1376 = .ok (.iaload, 1) := by decide +kernel
theorem dW_law_1377 : decode code 1377 = .ok (.invokevirtual 166, 3) := by decide +kernel
theorem dW_law_1380 : decode code 1380 = .ok (.aload_n 2, 1) := by decide +kernel
theorem dW_law_1381 : decode code 1381 = .ok (.aload_n 0, 1) := by decide +kernel
theorem dW_law_1382 : decode code 1382 = .ok (.iload 4, 2) := by decide +kernel
theorem dW_law_1384 : decode code 1384 = .ok (.iconst 1, 1) := by decide +kernel
theorem dW_law_1385 : decode code 1385 = .ok (.iadd, 1) := by decide +kernel
theorem dW_law_1386 : decode code 1386 = .ok (.iaload, 1) := by decide +kernel
theorem dW_law_1387 : decode code 1387 = .ok (.invokevirtual 169, 3) := by decide +kernel
theorem dW_law_1390 : decode code 1390 = .ok (.if_icmp .eq 262, 3) := by decide +kernel
theorem dW_law_1393 : decode code 1393 = .ok (.iconst 0, 1) := by decide +kernel
theorem dW_law_1394 : decode code 1394 = .ok (.ireturn, 1) := by decide +kernel
theorem dW_law_1395 : decode code 1395 = .ok (.aload_n 1, 1) := by decide +kernel
theorem dW_law_1396 : decode code 1396 = .ok (.aload_n 0, 1) := by decide +kernel
theorem dW_law_1397 : decode code 1397 = .ok (.iload 4, 2) := by decide +kernel
theorem dW_law_1399 : decode code 1399 = .ok (.iconst 1, 1) := by decide +kernel
theorem dW_law_1400 : decode code 1400 = .ok (.iadd, 1) := by decide +kernel
theorem dW_law_1401 : decode code 1401 = .ok (.iaload, 1) := by decide +kernel
theorem dW_law_1402 : decode code 1402 = .ok (.invokevirtual 170, 3) := by decide +kernel
theorem dW_law_1405 : decode code 1405 = .ok (.aload_n 2, 1) := by decide +kernel
theorem dW_law_1406 : decode code 1406 = .ok (.aload_n 0, 1) := by decide +kernel
theorem dW_law_1407 : decode code 1407 = .ok (.iload 4, 2) := by decide +kernel
theorem dW_law_1409 : decode code 1409 = .ok (.iconst 1, 1) := by decide +kernel
theorem dW_law_1410 : decode code 1410 = .ok (.iadd, 1) := by decide +kernel
theorem dW_law_1411 : decode code 1411 = .ok (.iaload, 1) := by decide +kernel
theorem dW_law_1412 : decode code 1412 = .ok (.invokevirtual 174, 3) := by decide +kernel
theorem dW_law_1415 : decode code 1415 = .ok (.if_icmp .eq 237, 3) := by decide +kernel
theorem dW_law_1418 : decode code 1418 = .ok (.iconst 0, 1) := by decide +kernel
theorem dW_law_1419 : decode code 1419 = .ok (.ireturn, 1) := by decide +kernel
theorem dW_law_1420 : decode code 1420 = .ok (.aload_n 1, 1) := by decide +kernel
theorem dW_law_1421 : decode code 1421 = .ok (.aload_n 0, 1) := by decide +kernel
theorem dW_law_1422 : decode code 1422 = .ok (.iload 4, 2) := by decide +kernel
theorem dW_law_1424 : decode code 1424 = .ok (.iconst 1, 1) := by decide +kernel
theorem dW_law_1425 : decode code 1425 = .ok (.iadd, 1) := by decide +kernel
theorem dW_law_1426 : decode code 1426 = .ok (.iaload, 1) := by decide +kernel
theorem dW_law_1427 : decode code 1427 = .ok (.aload_n 0, 1) := by decide +kernel
theorem dW_law_1428 : decode code 1428 = .ok (.iload 4, 2) := by decide +kernel
theorem dW_law_1430 : decode code 1430 = .ok (.iconst 2, 1) := by decide +kernel
theorem dW_law_1431 : decode code 1431 = .ok (.iadd, 1) := by decide +kernel
theorem dW_law_1432 : decode code 1432 = .ok (.iaload, 1) := by decide +kernel
theorem dW_law_1433 : decode code 1433 = .ok (.invokevirtual 175, 3) := by decide +kernel
theorem dW_law_1436 : decode code 1436 = .ok (.aload_n 2, 1) := by decide +kernel
theorem dW_law_1437 : decode code 1437 = .ok (.aload_n 0, 1) := by decide +kernel
theorem dW_law_1438 : decode code 1438 = .ok (.iload 4, 2) := by decide +kernel
theorem dW_law_1440 : decode code 1440 = .ok (.iconst 1, 1) := by decide +kernel
theorem dW_law_1441 : decode code 1441 = .ok (.iadd, 1) := by decide +kernel
theorem dW_law_1442 : decode code 1442 = .ok (.iaload, 1) := by decide +kernel
theorem dW_law_1443 : decode code 1443 = .ok (.aload_n 0, 1) := by decide +kernel
theorem dW_law_1444 : decode code 1444 = .ok (.iload 4, 2) := by decide +kernel
theorem dW_law_1446 : decode code 1446 = .ok (.iconst 2, 1) := by decide +kernel
theorem dW_law_1447 : decode code 1447 = .ok (.iadd, 1) := by decide +kernel
theorem dW_law_1448 : decode code 1448 = .ok (.iaload, 1) := by decide +kernel
theorem dW_law_1449 : decode code 1449 = .ok (.invokevirtual 178, 3) := by decide +kernel
theorem dW_law_1452 : decode code 1452 = .ok (.if_icmp .eq 200, 3) := by decide +kernel
theorem dW_law_1455 : decode code 1455 = .ok (.iconst 0, 1) := by decide +kernel
theorem dW_law_1456 : decode code 1456 = .ok (.ireturn, 1) := by decide +kernel
theorem dW_law_1457 : decode code 1457 = .ok (.aload_n 1, 1) := by decide +kernel
theorem dW_law_1458 : decode code 1458 = .ok (.aload_n 0, 1) := by decide +kernel
theorem dW_law_1459 : decode code 1459 = .ok (.iload 4, 2) := by decide +kernel
theorem dW_law_1461 : decode code 1461 = .ok (.iconst 1, 1) := by decide +kernel
theorem dW_law_1462 : decode code 1462 = .ok (.iadd, 1) := by decide +kernel
theorem dW_law_1463 : decode code 1463 = .ok (.iaload, 1) := by decide +kernel
theorem dW_law_1464 : decode code 1464 = .ok (.invokevirtual 179, 3) := by decide +kernel
theorem dW_law_1467 : decode code 1467 = .ok (.aload_n 2, 1) := by decide +kernel
theorem dW_law_1468 : decode code 1468 = .ok (.aload_n 0, 1) := by decide +kernel
theorem dW_law_1469 : decode code 1469 = .ok (.iload 4, 2) := by decide +kernel
theorem dW_law_1471 : decode code 1471 = .ok (.iconst 1, 1) := by decide +kernel
theorem dW_law_1472 : decode code 1472 = .ok (.iadd, 1) := by decide +kernel
theorem dW_law_1473 : decode code 1473 = .ok (.iaload, 1) := by decide +kernel
theorem dW_law_1474 : decode code 1474 = .ok (.invokevirtual 182, 3) := by decide +kernel
theorem dW_law_1477 : decode code 1477 = .ok (.if_icmp .eq 175, 3) := by decide +kernel
theorem dW_law_1480 : decode code 1480 = .ok (.iconst 0, 1) := by decide +kernel
theorem dW_law_1481 : decode code 1481 = .ok (.ireturn, 1) := by decide +kernel
section Casex
variable {X : CT} {b L : Nat} {xs : Nat → Int32} {V : Nat → Nat → Int} {σ : Shp} {ow : Nat → Nat} {y : Dy} {l : Nat} {S : PS} {kn : Bool} {k n c : Nat} {i : Int}
theorem ca_drafts {nm : String} (hX : CX X nm b L xs) (hP : PX V σ ow y l S kn k n c i L) (nx : NX X i c) : AW X 1296 [some (vR (BG + 39)), some (vR 1), some (vR 53), some (vR 64), some (vI i), none, none] [] (V, σ) k n := by
  obtain ⟨F, hm, HS, hA, hL⟩ := hX
  obtain ⟨h, hk, hn, hc, h0, hi⟩ := hP
  have hBG : BG = 1000000000 := rfl
  have hcr : crd kn ≤ 95000 := crd_le kn
  have h1 := h.o1
  refine aw_sz hA (fun hz => ?_)
  have hz : sX σ ≤ k + 1 := hz
  refine aw_aload_1 (q := 1297) F dW_law_1296 rfl ?_
  refine aw_aload_0 (q := 1298) F dW_law_1297 rfl ?_
  refine aw_iload_4 (q := 1300) F dW_law_1298 rfl ?_
  refine aw_iconst (q := 1301) F dW_law_1300 rfl (by decide) ?_
  refine aw_iadd (q := 1302) F dW_law_1301 rfl (by constructor <;> omega) ?_
  refine aw_sld (q := 1303) F HS dW_law_1302 rfl (by omega) (by omega) ?_
  refine aw_aload_0 (q := 1304) F dW_law_1303 rfl ?_
  refine aw_iload_4 (q := 1306) F dW_law_1304 rfl ?_
  refine aw_iconst (q := 1307) F dW_law_1306 rfl (by decide) ?_
  refine aw_iadd (q := 1308) F dW_law_1307 rfl (by constructor <;> omega) ?_
  refine aw_sld (q := 1309) F HS dW_law_1308 rfl (by omega) (by omega) ?_
  refine av_callV2 (q := 1312) (ci := 7) F hm mL_drafts_i mL_drafts_n lW_158 dW_law_1309 rfl rfl rfl (by first | exact h1 | exact hM.mo.o) (by decide) (by omega) (by omega) (Nat.le_of_ble_eq_true rfl) (wL_drafts h.cw (fun v1309 sg1309 w1309 y1309 d1309 f1309 => ?_))
  have hM := h.m1 f1309
  refine aw_aload_2 (q := 1313) F dW_law_1312 rfl ?_
  refine aw_aload_0 (q := 1314) F dW_law_1313 rfl ?_
  refine aw_iload_4 (q := 1316) F dW_law_1314 rfl ?_
  refine aw_iconst (q := 1317) F dW_law_1316 rfl (by decide) ?_
  refine aw_iadd (q := 1318) F dW_law_1317 rfl (by constructor <;> omega) ?_
  refine aw_sld (q := 1319) F HS dW_law_1318 rfl (by omega) (by omega) ?_
  refine aw_aload_0 (q := 1320) F dW_law_1319 rfl ?_
  refine aw_iload_4 (q := 1322) F dW_law_1320 rfl ?_
  refine aw_iconst (q := 1323) F dW_law_1322 rfl (by decide) ?_
  refine aw_iadd (q := 1324) F dW_law_1323 rfl (by constructor <;> omega) ?_
  refine aw_sld (q := 1325) F HS dW_law_1324 rfl (by omega) (by omega) ?_
  refine av_callV2 (q := 1328) (ci := 9) F hm mM_drafts_i mM_drafts_n lW_161 dW_law_1325 rfl rfl rfl (by first | exact h1 | exact hM.mo.o) (by decide) (by omega) (by omega) (Nat.le_of_ble_eq_true rfl) (wM_drafts hM (fun v1325 m1325 r1325 => ?_))
  refine aw_icmp_eq (q := 1331) (t := 1652) F dW_law_1328 rfl (by decide) (fun c1328 => ?_) (fun c1328 => by exact absurd rfl c1328)
  exact nx _ _ _ _ _ _ _ _ _ (h.st d1309 f1309 m1325 r1325) (by omega) (by omega)
theorem ca_stillAt {nm : String} (hX : CX X nm b L xs) (hP : PX V σ ow y l S kn k n c i L) (nx : NX X i c) : AW X 1333 [some (vR (BG + 39)), some (vR 1), some (vR 53), some (vR 64), some (vI i), none, none] [] (V, σ) k n := by
  obtain ⟨F, hm, HS, hA, hL⟩ := hX
  obtain ⟨h, hk, hn, hc, h0, hi⟩ := hP
  have hBG : BG = 1000000000 := rfl
  have hcr : crd kn ≤ 95000 := crd_le kn
  have h1 := h.o1
  refine aw_sz hA (fun hz => ?_)
  have hz : sX σ ≤ k + 1 := hz
  refine aw_aload_1 (q := 1334) F dW_law_1333 rfl ?_
  refine aw_aload_0 (q := 1335) F dW_law_1334 rfl ?_
  refine aw_iload_4 (q := 1337) F dW_law_1335 rfl ?_
  refine aw_iconst (q := 1338) F dW_law_1337 rfl (by decide) ?_
  refine aw_iadd (q := 1339) F dW_law_1338 rfl (by constructor <;> omega) ?_
  refine aw_sld (q := 1340) F HS dW_law_1339 rfl (by omega) (by omega) ?_
  refine aw_aload_0 (q := 1341) F dW_law_1340 rfl ?_
  refine aw_iload_4 (q := 1343) F dW_law_1341 rfl ?_
  refine aw_iconst (q := 1344) F dW_law_1343 rfl (by decide) ?_
  refine aw_iadd (q := 1345) F dW_law_1344 rfl (by constructor <;> omega) ?_
  refine aw_sld (q := 1346) F HS dW_law_1345 rfl (by omega) (by omega) ?_
  refine av_callV2 (q := 1349) (ci := 7) F hm mL_stillAt_i mL_stillAt_n lW_162 dW_law_1346 rfl rfl rfl (by first | exact h1 | exact hM.mo.o) (by decide) (by omega) (by omega) (Nat.le_of_ble_eq_true rfl) (wL_stillAt h.cw (fun v1346 sg1346 w1346 y1346 d1346 f1346 => ?_))
  have hM := h.m1 f1346
  refine aw_aload_2 (q := 1350) F dW_law_1349 rfl ?_
  refine aw_aload_0 (q := 1351) F dW_law_1350 rfl ?_
  refine aw_iload_4 (q := 1353) F dW_law_1351 rfl ?_
  refine aw_iconst (q := 1354) F dW_law_1353 rfl (by decide) ?_
  refine aw_iadd (q := 1355) F dW_law_1354 rfl (by constructor <;> omega) ?_
  refine aw_sld (q := 1356) F HS dW_law_1355 rfl (by omega) (by omega) ?_
  refine aw_aload_0 (q := 1357) F dW_law_1356 rfl ?_
  refine aw_iload_4 (q := 1359) F dW_law_1357 rfl ?_
  refine aw_iconst (q := 1360) F dW_law_1359 rfl (by decide) ?_
  refine aw_iadd (q := 1361) F dW_law_1360 rfl (by constructor <;> omega) ?_
  refine aw_sld (q := 1362) F HS dW_law_1361 rfl (by omega) (by omega) ?_
  refine av_callV2 (q := 1365) (ci := 9) F hm mM_stillAt_i mM_stillAt_n lW_165 dW_law_1362 rfl rfl rfl (by first | exact h1 | exact hM.mo.o) (by decide) (by omega) (by omega) (Nat.le_of_ble_eq_true rfl) (wM_stillAt hM (fun v1362 m1362 r1362 => ?_))
  refine aw_icmp_eq (q := 1368) (t := 1652) F dW_law_1365 rfl (by decide) (fun c1365 => ?_) (fun c1365 => by exact absurd rfl c1365)
  exact nx _ _ _ _ _ _ _ _ _ (h.st d1346 f1346 m1362 r1362) (by omega) (by omega)
theorem ca_open {nm : String} (hX : CX X nm b L xs) (hP : PX V σ ow y l S kn k n c i L) (nx : NX X i c) : AW X 1370 [some (vR (BG + 39)), some (vR 1), some (vR 53), some (vR 64), some (vI i), none, none] [] (V, σ) k n := by
  obtain ⟨F, hm, HS, hA, hL⟩ := hX
  obtain ⟨h, hk, hn, hc, h0, hi⟩ := hP
  have hBG : BG = 1000000000 := rfl
  have hcr : crd kn ≤ 95000 := crd_le kn
  have h1 := h.o1
  refine aw_sz hA (fun hz => ?_)
  have hz : sX σ ≤ k + 1 := hz
  refine aw_aload_1 (q := 1371) F dW_law_1370 rfl ?_
  refine aw_aload_0 (q := 1372) F dW_law_1371 rfl ?_
  refine aw_iload_4 (q := 1374) F dW_law_1372 rfl ?_
  refine aw_iconst (q := 1375) F dW_law_1374 rfl (by decide) ?_
  refine aw_iadd (q := 1376) F dW_law_1375 rfl (by constructor <;> omega) ?_
  refine aw_sld (q := 1377) F HS dW_law_1376 rfl (by omega) (by omega) ?_
  refine av_callV1 (q := 1380) (ci := 7) F hm mL_open_i mL_open_n lW_166 dW_law_1377 rfl rfl rfl (by first | exact h1 | exact hM.mo.o) (by decide) (by omega) (by omega) (Nat.le_of_ble_eq_true rfl) (wL_open h.cw (fun v1377 sg1377 w1377 y1377 d1377 f1377 => ?_))
  have hM := h.m1 f1377
  refine aw_aload_2 (q := 1381) F dW_law_1380 rfl ?_
  refine aw_aload_0 (q := 1382) F dW_law_1381 rfl ?_
  refine aw_iload_4 (q := 1384) F dW_law_1382 rfl ?_
  refine aw_iconst (q := 1385) F dW_law_1384 rfl (by decide) ?_
  refine aw_iadd (q := 1386) F dW_law_1385 rfl (by constructor <;> omega) ?_
  refine aw_sld (q := 1387) F HS dW_law_1386 rfl (by omega) (by omega) ?_
  refine av_callV1 (q := 1390) (ci := 9) F hm mM_open_i mM_open_n lW_169 dW_law_1387 rfl rfl rfl (by first | exact h1 | exact hM.mo.o) (by decide) (by omega) (by omega) (Nat.le_of_ble_eq_true rfl) (wM_open hM d1377.ok (fun v1387 m1387 r1387 => ?_))
  refine aw_icmp_eq (q := 1393) (t := 1652) F dW_law_1390 rfl (by decide) (fun c1390 => ?_) (fun c1390 => by exact absurd rfl c1390)
  exact nx _ _ _ _ _ _ _ _ _ (h.st d1377 f1377 m1387 r1387) (by omega) (by omega)
theorem ca_shut {nm : String} (hX : CX X nm b L xs) (hP : PX V σ ow y l S kn k n c i L) (nx : NX X i c) : AW X 1395 [some (vR (BG + 39)), some (vR 1), some (vR 53), some (vR 64), some (vI i), none, none] [] (V, σ) k n := by
  obtain ⟨F, hm, HS, hA, hL⟩ := hX
  obtain ⟨h, hk, hn, hc, h0, hi⟩ := hP
  have hBG : BG = 1000000000 := rfl
  have hcr : crd kn ≤ 95000 := crd_le kn
  have h1 := h.o1
  refine aw_sz hA (fun hz => ?_)
  have hz : sX σ ≤ k + 1 := hz
  refine aw_aload_1 (q := 1396) F dW_law_1395 rfl ?_
  refine aw_aload_0 (q := 1397) F dW_law_1396 rfl ?_
  refine aw_iload_4 (q := 1399) F dW_law_1397 rfl ?_
  refine aw_iconst (q := 1400) F dW_law_1399 rfl (by decide) ?_
  refine aw_iadd (q := 1401) F dW_law_1400 rfl (by constructor <;> omega) ?_
  refine aw_sld (q := 1402) F HS dW_law_1401 rfl (by omega) (by omega) ?_
  refine av_callV1 (q := 1405) (ci := 7) F hm mL_shut_i mL_shut_n lW_170 dW_law_1402 rfl rfl rfl (by first | exact h1 | exact hM.mo.o) (by decide) (by omega) (by omega) (Nat.le_of_ble_eq_true rfl) (wL_shut h.cw (fun v1402 sg1402 w1402 y1402 d1402 f1402 => ?_))
  have hM := h.m1 f1402
  refine aw_aload_2 (q := 1406) F dW_law_1405 rfl ?_
  refine aw_aload_0 (q := 1407) F dW_law_1406 rfl ?_
  refine aw_iload_4 (q := 1409) F dW_law_1407 rfl ?_
  refine aw_iconst (q := 1410) F dW_law_1409 rfl (by decide) ?_
  refine aw_iadd (q := 1411) F dW_law_1410 rfl (by constructor <;> omega) ?_
  refine aw_sld (q := 1412) F HS dW_law_1411 rfl (by omega) (by omega) ?_
  refine av_callV1 (q := 1415) (ci := 9) F hm mM_shut_i mM_shut_n lW_174 dW_law_1412 rfl rfl rfl (by first | exact h1 | exact hM.mo.o) (by decide) (by omega) (by omega) (Nat.le_of_ble_eq_true rfl) (wM_shut hM d1402.ok (fun v1412 m1412 r1412 => ?_))
  refine aw_icmp_eq (q := 1418) (t := 1652) F dW_law_1415 rfl (by decide) (fun c1415 => ?_) (fun c1415 => by exact absurd rfl c1415)
  exact nx _ _ _ _ _ _ _ _ _ (h.st d1402 f1402 m1412 r1412) (by omega) (by omega)
theorem ca_go {nm : String} (hX : CX X nm b L xs) (hP : PX V σ ow y l S kn k n c i L) (nx : NX X i c) : AW X 1420 [some (vR (BG + 39)), some (vR 1), some (vR 53), some (vR 64), some (vI i), none, none] [] (V, σ) k n := by
  obtain ⟨F, hm, HS, hA, hL⟩ := hX
  obtain ⟨h, hk, hn, hc, h0, hi⟩ := hP
  have hBG : BG = 1000000000 := rfl
  have hcr : crd kn ≤ 95000 := crd_le kn
  have h1 := h.o1
  refine aw_sz hA (fun hz => ?_)
  have hz : sX σ ≤ k + 1 := hz
  refine aw_aload_1 (q := 1421) F dW_law_1420 rfl ?_
  refine aw_aload_0 (q := 1422) F dW_law_1421 rfl ?_
  refine aw_iload_4 (q := 1424) F dW_law_1422 rfl ?_
  refine aw_iconst (q := 1425) F dW_law_1424 rfl (by decide) ?_
  refine aw_iadd (q := 1426) F dW_law_1425 rfl (by constructor <;> omega) ?_
  refine aw_sld (q := 1427) F HS dW_law_1426 rfl (by omega) (by omega) ?_
  refine aw_aload_0 (q := 1428) F dW_law_1427 rfl ?_
  refine aw_iload_4 (q := 1430) F dW_law_1428 rfl ?_
  refine aw_iconst (q := 1431) F dW_law_1430 rfl (by decide) ?_
  refine aw_iadd (q := 1432) F dW_law_1431 rfl (by constructor <;> omega) ?_
  refine aw_sld (q := 1433) F HS dW_law_1432 rfl (by omega) (by omega) ?_
  refine av_callV2 (q := 1436) (ci := 7) F hm mL_go_i mL_go_n lW_175 dW_law_1433 rfl rfl rfl (by first | exact h1 | exact hM.mo.o) (by decide) (by omega) (by omega) (Nat.le_of_ble_eq_true rfl) (wL_go h.cw (fun v1433 sg1433 w1433 y1433 d1433 f1433 => ?_))
  have hM := h.m1 f1433
  refine aw_aload_2 (q := 1437) F dW_law_1436 rfl ?_
  refine aw_aload_0 (q := 1438) F dW_law_1437 rfl ?_
  refine aw_iload_4 (q := 1440) F dW_law_1438 rfl ?_
  refine aw_iconst (q := 1441) F dW_law_1440 rfl (by decide) ?_
  refine aw_iadd (q := 1442) F dW_law_1441 rfl (by constructor <;> omega) ?_
  refine aw_sld (q := 1443) F HS dW_law_1442 rfl (by omega) (by omega) ?_
  refine aw_aload_0 (q := 1444) F dW_law_1443 rfl ?_
  refine aw_iload_4 (q := 1446) F dW_law_1444 rfl ?_
  refine aw_iconst (q := 1447) F dW_law_1446 rfl (by decide) ?_
  refine aw_iadd (q := 1448) F dW_law_1447 rfl (by constructor <;> omega) ?_
  refine aw_sld (q := 1449) F HS dW_law_1448 rfl (by omega) (by omega) ?_
  refine av_callV2 (q := 1452) (ci := 9) F hm mM_go_i mM_go_n lW_178 dW_law_1449 rfl rfl rfl (by first | exact h1 | exact hM.mo.o) (by decide) (by omega) (by omega) (Nat.le_of_ble_eq_true rfl) (wM_go hM d1433.ok (fun v1449 m1449 r1449 => ?_))
  refine aw_icmp_eq (q := 1455) (t := 1652) F dW_law_1452 rfl (by decide) (fun c1452 => ?_) (fun c1452 => by exact absurd rfl c1452)
  exact nx _ _ _ _ _ _ _ _ _ (h.st d1433 f1433 m1449 r1449) (by omega) (by omega)
theorem ca_nail {nm : String} (hX : CX X nm b L xs) (hP : PX V σ ow y l S kn k n c i L) (nx : NX X i c) : AW X 1457 [some (vR (BG + 39)), some (vR 1), some (vR 53), some (vR 64), some (vI i), none, none] [] (V, σ) k n := by
  obtain ⟨F, hm, HS, hA, hL⟩ := hX
  obtain ⟨h, hk, hn, hc, h0, hi⟩ := hP
  have hBG : BG = 1000000000 := rfl
  have hcr : crd kn ≤ 95000 := crd_le kn
  have h1 := h.o1
  refine aw_sz hA (fun hz => ?_)
  have hz : sX σ ≤ k + 1 := hz
  refine aw_aload_1 (q := 1458) F dW_law_1457 rfl ?_
  refine aw_aload_0 (q := 1459) F dW_law_1458 rfl ?_
  refine aw_iload_4 (q := 1461) F dW_law_1459 rfl ?_
  refine aw_iconst (q := 1462) F dW_law_1461 rfl (by decide) ?_
  refine aw_iadd (q := 1463) F dW_law_1462 rfl (by constructor <;> omega) ?_
  refine aw_sld (q := 1464) F HS dW_law_1463 rfl (by omega) (by omega) ?_
  refine av_callV1 (q := 1467) (ci := 7) F hm mL_nail_i mL_nail_n lW_179 dW_law_1464 rfl rfl rfl (by first | exact h1 | exact hM.mo.o) (by decide) (by omega) (by omega) (Nat.le_of_ble_eq_true rfl) (wL_nail h.cw (fun v1464 sg1464 w1464 y1464 d1464 f1464 => ?_))
  have hM := h.m1 f1464
  refine aw_aload_2 (q := 1468) F dW_law_1467 rfl ?_
  refine aw_aload_0 (q := 1469) F dW_law_1468 rfl ?_
  refine aw_iload_4 (q := 1471) F dW_law_1469 rfl ?_
  refine aw_iconst (q := 1472) F dW_law_1471 rfl (by decide) ?_
  refine aw_iadd (q := 1473) F dW_law_1472 rfl (by constructor <;> omega) ?_
  refine aw_sld (q := 1474) F HS dW_law_1473 rfl (by omega) (by omega) ?_
  refine av_callV1 (q := 1477) (ci := 9) F hm mM_nail_i mM_nail_n lW_182 dW_law_1474 rfl rfl rfl (by first | exact h1 | exact hM.mo.o) (by decide) (by omega) (by omega) (Nat.le_of_ble_eq_true rfl) (wM_nail hM d1464.ok (fun v1474 m1474 r1474 => ?_))
  refine aw_icmp_eq (q := 1480) (t := 1652) F dW_law_1477 rfl (by decide) (fun c1477 => ?_) (fun c1477 => by exact absurd rfl c1477)
  exact nx _ _ _ _ _ _ _ _ _ (h.st d1464 f1464 m1474 r1474) (by omega) (by omega)
end Casex
