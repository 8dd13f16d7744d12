/-! the law: its cases -/
/-- 34: apart -/
theorem cs_34 {p : Program} {l : Launch} {e : Env} {s : State} {m : MethodId} {below : List Frame} {meth : Method} {c : Code} {b L : Nat} {xs : Nat → Int32} {D : va_G} {cA : Nat → ClassId} (C : LC p s m meth c b L xs D cA) {n : Nat} {h : JH} (hn : n + 7 ≤ L) (I : Inv h) (kk : ∀ h', Inv h' → LAt p l e s m below meth c b D cA n 1709 [] h') : LAt p l e s m below meth c b D cA n 1292 [] h := by
  refine l_x1 C (q := 1293) dL_law_1292 rfl ?_
  refine l_arg C (k := 1) (q := 1298) hn (by decide) rfl dL_law_1293 dL_law_1294 dL_law_1295 dL_law_1296 dL_law_1297 rfl ?_
  refine l_arg C (k := 2) (q := 1303) hn (by decide) rfl dL_law_1298 dL_law_1299 dL_law_1300 dL_law_1301 dL_law_1302 rfl ?_
  refine l_call C (q := 1306) (a := 0) dL_law_1303 rfl ml_L_156 mv_X11_apart rfl rfl (Nat.le_of_ble_eq_true rfl) (Or.inl ⟨rfl, rfl⟩) (pr_apart (d := 20) I) (fun r h1 z1 => ?_)
  obtain ⟨v1, rfl, R1⟩ := z1
  refine l_x2 C (q := 1307) dL_law_1306 rfl ?_
  refine l_arg C (k := 1) (q := 1312) hn (by decide) rfl dL_law_1307 dL_law_1308 dL_law_1309 dL_law_1310 dL_law_1311 rfl ?_
  refine l_arg C (k := 2) (q := 1317) hn (by decide) rfl dL_law_1312 dL_law_1313 dL_law_1314 dL_law_1315 dL_law_1316 rfl ?_
  refine l_call C (q := 1320) (a := 117) dL_law_1317 rfl ml_L_159 mv_X12_apart rfl rfl (Nat.le_of_ble_eq_true rfl) (Or.inr ⟨rfl, rfl⟩) R1 (fun r h2 z2 => ?_)
  obtain ⟨v2, rfl, e2, I2⟩ := z2
  exact l_eq C dL_law_1320 (by decide) e2 (kk _ I2)

/-- 35: leastApart -/
theorem cs_35 {p : Program} {l : Launch} {e : Env} {s : State} {m : MethodId} {below : List Frame} {meth : Method} {c : Code} {b L : Nat} {xs : Nat → Int32} {D : va_G} {cA : Nat → ClassId} (C : LC p s m meth c b L xs D cA) {n : Nat} {h : JH} (hn : n + 7 ≤ L) (I : Inv h) (kk : ∀ h', Inv h' → LAt p l e s m below meth c b D cA n 1709 [] h') : LAt p l e s m below meth c b D cA n 1325 [] h := by
  refine l_x1 C (q := 1326) dL_law_1325 rfl ?_
  refine l_call C (q := 1329) (a := 0) dL_law_1326 rfl ml_L_160 mv_X11_leastApart rfl rfl (Nat.le_of_ble_eq_true rfl) (Or.inl ⟨rfl, rfl⟩) (pr_leastApart (d := 20) I) (fun r h1 z1 => ?_)
  obtain ⟨v1, rfl, R1⟩ := z1
  refine l_x2 C (q := 1330) dL_law_1329 rfl ?_
  refine l_call C (q := 1333) (a := 117) dL_law_1330 rfl ml_L_163 mv_X12_leastApart rfl rfl (Nat.le_of_ble_eq_true rfl) (Or.inr ⟨rfl, rfl⟩) R1 (fun r h2 z2 => ?_)
  obtain ⟨v2, rfl, e2, I2⟩ := z2
  exact l_eq C dL_law_1333 (by decide) e2 (kk _ I2)

/-- 36: matters -/
theorem cs_36 {p : Program} {l : Launch} {e : Env} {s : State} {m : MethodId} {below : List Frame} {meth : Method} {c : Code} {b L : Nat} {xs : Nat → Int32} {D : va_G} {cA : Nat → ClassId} (C : LC p s m meth c b L xs D cA) {n : Nat} {h : JH} (hn : n + 7 ≤ L) (I : Inv h) (kk : ∀ h', Inv h' → LAt p l e s m below meth c b D cA n 1709 [] h') : LAt p l e s m below meth c b D cA n 1338 [] h := by
  refine l_x1 C (q := 1339) dL_law_1338 rfl ?_
  refine l_arg C (k := 1) (q := 1344) hn (by decide) rfl dL_law_1339 dL_law_1340 dL_law_1341 dL_law_1342 dL_law_1343 rfl ?_
  refine l_call C (q := 1347) (a := 0) dL_law_1344 rfl ml_L_164 mv_X11_matters rfl rfl (Nat.le_of_ble_eq_true rfl) (Or.inl ⟨rfl, rfl⟩) (pr_matters (d := 19) I) (fun r h1 z1 => ?_)
  obtain ⟨v1, rfl, R1⟩ := z1
  refine l_x2 C (q := 1348) dL_law_1347 rfl ?_
  refine l_arg C (k := 1) (q := 1353) hn (by decide) rfl dL_law_1348 dL_law_1349 dL_law_1350 dL_law_1351 dL_law_1352 rfl ?_
  refine l_call C (q := 1356) (a := 117) dL_law_1353 rfl ml_L_167 mv_X12_matters rfl rfl (Nat.le_of_ble_eq_true rfl) (Or.inr ⟨rfl, rfl⟩) R1 (fun r h2 z2 => ?_)
  obtain ⟨v2, rfl, e2, I2⟩ := z2
  exact l_eq C dL_law_1356 (by decide) e2 (kk _ I2)

/-- 37: moment -/
theorem cs_37 {p : Program} {l : Launch} {e : Env} {s : State} {m : MethodId} {below : List Frame} {meth : Method} {c : Code} {b L : Nat} {xs : Nat → Int32} {D : va_G} {cA : Nat → ClassId} (C : LC p s m meth c b L xs D cA) {n : Nat} {h : JH} (hn : n + 7 ≤ L) (I : Inv h) (kk : ∀ h', Inv h' → LAt p l e s m below meth c b D cA n 1709 [] h') : LAt p l e s m below meth c b D cA n 1361 [] h := by
  refine l_x1 C (q := 1362) dL_law_1361 rfl ?_
  refine l_arg C (k := 1) (q := 1367) hn (by decide) rfl dL_law_1362 dL_law_1363 dL_law_1364 dL_law_1365 dL_law_1366 rfl ?_
  refine l_arg C (k := 2) (q := 1372) hn (by decide) rfl dL_law_1367 dL_law_1368 dL_law_1369 dL_law_1370 dL_law_1371 rfl ?_
  refine l_arg C (k := 3) (q := 1377) hn (by decide) rfl dL_law_1372 dL_law_1373 dL_law_1374 dL_law_1375 dL_law_1376 rfl ?_
  refine l_arg C (k := 4) (q := 1382) hn (by decide) rfl dL_law_1377 dL_law_1378 dL_law_1379 dL_law_1380 dL_law_1381 rfl ?_
  refine l_arg C (k := 5) (q := 1387) hn (by decide) rfl dL_law_1382 dL_law_1383 dL_law_1384 dL_law_1385 dL_law_1386 rfl ?_
  refine l_call C (q := 1390) (a := 0) dL_law_1387 rfl ml_L_168 mv_X11_moment rfl rfl (Nat.le_of_ble_eq_true rfl) (Or.inl ⟨rfl, rfl⟩) (pr_moment (d := 20) I) (fun r h1 z1 => ?_)
  obtain ⟨v1, rfl, R1⟩ := z1
  refine l_x2 C (q := 1391) dL_law_1390 rfl ?_
  refine l_arg C (k := 1) (q := 1396) hn (by decide) rfl dL_law_1391 dL_law_1392 dL_law_1393 dL_law_1394 dL_law_1395 rfl ?_
  refine l_arg C (k := 2) (q := 1401) hn (by decide) rfl dL_law_1396 dL_law_1397 dL_law_1398 dL_law_1399 dL_law_1400 rfl ?_
  refine l_arg C (k := 3) (q := 1406) hn (by decide) rfl dL_law_1401 dL_law_1402 dL_law_1403 dL_law_1404 dL_law_1405 rfl ?_
  refine l_arg C (k := 4) (q := 1411) hn (by decide) rfl dL_law_1406 dL_law_1407 dL_law_1408 dL_law_1409 dL_law_1410 rfl ?_
  refine l_arg C (k := 5) (q := 1416) hn (by decide) rfl dL_law_1411 dL_law_1412 dL_law_1413 dL_law_1414 dL_law_1415 rfl ?_
  refine l_call C (q := 1419) (a := 117) dL_law_1416 rfl ml_L_171 mv_X12_moment rfl rfl (Nat.le_of_ble_eq_true rfl) (Or.inr ⟨rfl, rfl⟩) R1 (fun r h2 z2 => ?_)
  obtain ⟨v2, rfl, e2, I2⟩ := z2
  exact l_eq C dL_law_1419 (by decide) e2 (kk _ I2)

/-- 38: told -/
theorem cs_38 {p : Program} {l : Launch} {e : Env} {s : State} {m : MethodId} {below : List Frame} {meth : Method} {c : Code} {b L : Nat} {xs : Nat → Int32} {D : va_G} {cA : Nat → ClassId} (C : LC p s m meth c b L xs D cA) {n : Nat} {h : JH} (hn : n + 7 ≤ L) (I : Inv h) (kk : ∀ h', Inv h' → LAt p l e s m below meth c b D cA n 1709 [] h') : LAt p l e s m below meth c b D cA n 1424 [] h := by
  refine l_x1 C (q := 1425) dL_law_1424 rfl ?_
  refine l_arg C (k := 1) (q := 1430) hn (by decide) rfl dL_law_1425 dL_law_1426 dL_law_1427 dL_law_1428 dL_law_1429 rfl ?_
  refine l_arg C (k := 2) (q := 1435) hn (by decide) rfl dL_law_1430 dL_law_1431 dL_law_1432 dL_law_1433 dL_law_1434 rfl ?_
  refine l_call C (q := 1438) (a := 0) dL_law_1435 rfl ml_L_172 mv_X11_told rfl rfl (Nat.le_of_ble_eq_true rfl) (Or.inl ⟨rfl, rfl⟩) (pr_told (d := 20) I) (fun r h1 z1 => ?_)
  obtain ⟨v1, rfl, R1⟩ := z1
  refine l_x2 C (q := 1439) dL_law_1438 rfl ?_
  refine l_arg C (k := 1) (q := 1444) hn (by decide) rfl dL_law_1439 dL_law_1440 dL_law_1441 dL_law_1442 dL_law_1443 rfl ?_
  refine l_arg C (k := 2) (q := 1449) hn (by decide) rfl dL_law_1444 dL_law_1445 dL_law_1446 dL_law_1447 dL_law_1448 rfl ?_
  refine l_call C (q := 1452) (a := 117) dL_law_1449 rfl ml_L_175 mv_X12_told rfl rfl (Nat.le_of_ble_eq_true rfl) (Or.inr ⟨rfl, rfl⟩) R1 (fun r h2 z2 => ?_)
  obtain ⟨v2, rfl, e2, I2⟩ := z2
  exact l_eq C dL_law_1452 (by decide) e2 (kk _ I2)

/-- 39: mark -/
theorem cs_39 {p : Program} {l : Launch} {e : Env} {s : State} {m : MethodId} {below : List Frame} {meth : Method} {c : Code} {b L : Nat} {xs : Nat → Int32} {D : va_G} {cA : Nat → ClassId} (C : LC p s m meth c b L xs D cA) {n : Nat} {h : JH} (hn : n + 7 ≤ L) (I : Inv h) (kk : ∀ h', Inv h' → LAt p l e s m below meth c b D cA n 1709 [] h') : LAt p l e s m below meth c b D cA n 1457 [] h := by
  refine l_x1 C (q := 1458) dL_law_1457 rfl ?_
  refine l_arg C (k := 1) (q := 1463) hn (by decide) rfl dL_law_1458 dL_law_1459 dL_law_1460 dL_law_1461 dL_law_1462 rfl ?_
  refine l_arg C (k := 2) (q := 1468) hn (by decide) rfl dL_law_1463 dL_law_1464 dL_law_1465 dL_law_1466 dL_law_1467 rfl ?_
  refine l_call C (q := 1471) (a := 0) dL_law_1468 rfl ml_L_176 mv_X11_mark rfl rfl (Nat.le_of_ble_eq_true rfl) (Or.inl ⟨rfl, rfl⟩) (pr_mark (d := 20) I) (fun r h1 z1 => ?_)
  obtain ⟨v1, rfl, R1⟩ := z1
  refine l_x2 C (q := 1472) dL_law_1471 rfl ?_
  refine l_arg C (k := 1) (q := 1477) hn (by decide) rfl dL_law_1472 dL_law_1473 dL_law_1474 dL_law_1475 dL_law_1476 rfl ?_
  refine l_arg C (k := 2) (q := 1482) hn (by decide) rfl dL_law_1477 dL_law_1478 dL_law_1479 dL_law_1480 dL_law_1481 rfl ?_
  refine l_call C (q := 1485) (a := 117) dL_law_1482 rfl ml_L_179 mv_X12_mark rfl rfl (Nat.le_of_ble_eq_true rfl) (Or.inr ⟨rfl, rfl⟩) R1 (fun r h2 z2 => ?_)
  obtain ⟨v2, rfl, e2, I2⟩ := z2
  exact l_eq C dL_law_1485 (by decide) e2 (kk _ I2)

/-- 40: seen -/
theorem cs_40 {p : Program} {l : Launch} {e : Env} {s : State} {m : MethodId} {below : List Frame} {meth : Method} {c : Code} {b L : Nat} {xs : Nat → Int32} {D : va_G} {cA : Nat → ClassId} (C : LC p s m meth c b L xs D cA) {n : Nat} {h : JH} (hn : n + 7 ≤ L) (I : Inv h) (kk : ∀ h', Inv h' → LAt p l e s m below meth c b D cA n 1709 [] h') : LAt p l e s m below meth c b D cA n 1490 [] h := by
  refine l_x1 C (q := 1491) dL_law_1490 rfl ?_
  refine l_arg C (k := 1) (q := 1496) hn (by decide) rfl dL_law_1491 dL_law_1492 dL_law_1493 dL_law_1494 dL_law_1495 rfl ?_
  refine l_arg C (k := 2) (q := 1501) hn (by decide) rfl dL_law_1496 dL_law_1497 dL_law_1498 dL_law_1499 dL_law_1500 rfl ?_
  refine l_ne0 C (q := 1509) dL_law_1501 dL_law_1504 dL_law_1505 dL_law_1508 rfl rfl rfl ?_
  refine l_call C (q := 1512) (a := 0) dL_law_1509 rfl ml_L_180 mv_X11_seen rfl rfl (Nat.le_of_ble_eq_true rfl) (Or.inl ⟨rfl, rfl⟩) (pr_seen (d := 20) I) (fun r h1 z1 => ?_)
  obtain ⟨v1, rfl, R1⟩ := z1
  refine l_x2 C (q := 1513) dL_law_1512 rfl ?_
  refine l_arg C (k := 1) (q := 1518) hn (by decide) rfl dL_law_1513 dL_law_1514 dL_law_1515 dL_law_1516 dL_law_1517 rfl ?_
  refine l_arg C (k := 2) (q := 1523) hn (by decide) rfl dL_law_1518 dL_law_1519 dL_law_1520 dL_law_1521 dL_law_1522 rfl ?_
  refine l_ne0 C (q := 1531) dL_law_1523 dL_law_1526 dL_law_1527 dL_law_1530 rfl rfl rfl ?_
  refine l_call C (q := 1534) (a := 117) dL_law_1531 rfl ml_L_184 mv_X12_seen rfl rfl (Nat.le_of_ble_eq_true rfl) (Or.inr ⟨rfl, rfl⟩) R1 (fun r h2 z2 => ?_)
  obtain ⟨v2, rfl, e2, I2⟩ := z2
  exact l_eq C dL_law_1534 (by decide) e2 (kk _ I2)

/-- 41: broken -/
theorem cs_41 {p : Program} {l : Launch} {e : Env} {s : State} {m : MethodId} {below : List Frame} {meth : Method} {c : Code} {b L : Nat} {xs : Nat → Int32} {D : va_G} {cA : Nat → ClassId} (C : LC p s m meth c b L xs D cA) {n : Nat} {h : JH} (hn : n + 7 ≤ L) (I : Inv h) (kk : ∀ h', Inv h' → LAt p l e s m below meth c b D cA n 1709 [] h') : LAt p l e s m below meth c b D cA n 1539 [] h := by
  refine l_x1 C (q := 1540) dL_law_1539 rfl ?_
  refine l_arg C (k := 1) (q := 1545) hn (by decide) rfl dL_law_1540 dL_law_1541 dL_law_1542 dL_law_1543 dL_law_1544 rfl ?_
  refine l_arg C (k := 2) (q := 1550) hn (by decide) rfl dL_law_1545 dL_law_1546 dL_law_1547 dL_law_1548 dL_law_1549 rfl ?_
  refine l_arg C (k := 3) (q := 1555) hn (by decide) rfl dL_law_1550 dL_law_1551 dL_law_1552 dL_law_1553 dL_law_1554 rfl ?_
  refine l_call C (q := 1558) (a := 0) dL_law_1555 rfl ml_L_185 mv_X11_broken rfl rfl (Nat.le_of_ble_eq_true rfl) (Or.inl ⟨rfl, rfl⟩) (pr_broken (d := 20) I) (fun r h1 z1 => ?_)
  obtain ⟨v1, rfl, R1⟩ := z1
  refine l_x2 C (q := 1559) dL_law_1558 rfl ?_
  refine l_arg C (k := 1) (q := 1564) hn (by decide) rfl dL_law_1559 dL_law_1560 dL_law_1561 dL_law_1562 dL_law_1563 rfl ?_
  refine l_arg C (k := 2) (q := 1569) hn (by decide) rfl dL_law_1564 dL_law_1565 dL_law_1566 dL_law_1567 dL_law_1568 rfl ?_
  refine l_arg C (k := 3) (q := 1574) hn (by decide) rfl dL_law_1569 dL_law_1570 dL_law_1571 dL_law_1572 dL_law_1573 rfl ?_
  refine l_call C (q := 1577) (a := 117) dL_law_1574 rfl ml_L_188 mv_X12_broken rfl rfl (Nat.le_of_ble_eq_true rfl) (Or.inr ⟨rfl, rfl⟩) R1 (fun r h2 z2 => ?_)
  obtain ⟨v2, rfl, e2, I2⟩ := z2
  exact l_eq C dL_law_1577 (by decide) e2 (kk _ I2)

/-- 42: mistaken -/
theorem cs_42 {p : Program} {l : Launch} {e : Env} {s : State} {m : MethodId} {below : List Frame} {meth : Method} {c : Code} {b L : Nat} {xs : Nat → Int32} {D : va_G} {cA : Nat → ClassId} (C : LC p s m meth c b L xs D cA) {n : Nat} {h : JH} (hn : n + 7 ≤ L) (I : Inv h) (kk : ∀ h', Inv h' → LAt p l e s m below meth c b D cA n 1709 [] h') : LAt p l e s m below meth c b D cA n 1582 [] h := by
  refine l_x1 C (q := 1583) dL_law_1582 rfl ?_
  refine l_call C (q := 1586) (a := 0) dL_law_1583 rfl ml_L_189 mv_X11_mistaken rfl rfl (Nat.le_of_ble_eq_true rfl) (Or.inl ⟨rfl, rfl⟩) (pr_mistaken (d := 20) I) (fun r h1 z1 => ?_)
  obtain ⟨v1, rfl, R1⟩ := z1
  refine l_x2 C (q := 1587) dL_law_1586 rfl ?_
  refine l_call C (q := 1590) (a := 117) dL_law_1587 rfl ml_L_192 mv_X12_mistaken rfl rfl (Nat.le_of_ble_eq_true rfl) (Or.inr ⟨rfl, rfl⟩) R1 (fun r h2 z2 => ?_)
  obtain ⟨v2, rfl, e2, I2⟩ := z2
  exact l_eq C dL_law_1590 (by decide) e2 (kk _ I2)

/-- 43: asked -/
theorem cs_43 {p : Program} {l : Launch} {e : Env} {s : State} {m : MethodId} {below : List Frame} {meth : Method} {c : Code} {b L : Nat} {xs : Nat → Int32} {D : va_G} {cA : Nat → ClassId} (C : LC p s m meth c b L xs D cA) {n : Nat} {h : JH} (hn : n + 7 ≤ L) (I : Inv h) (kk : ∀ h', Inv h' → LAt p l e s m below meth c b D cA n 1709 [] h') : LAt p l e s m below meth c b D cA n 1595 [] h := by
  refine l_x1 C (q := 1596) dL_law_1595 rfl ?_
  refine l_call C (q := 1599) (a := 0) dL_law_1596 rfl ml_L_193 mv_X11_asked rfl rfl (Nat.le_of_ble_eq_true rfl) (Or.inl ⟨rfl, rfl⟩) (pr_asked (d := 20) I) (fun r h1 z1 => ?_)
  obtain ⟨v1, rfl, R1⟩ := z1
  refine l_x2 C (q := 1600) dL_law_1599 rfl ?_
  refine l_call C (q := 1603) (a := 117) dL_law_1600 rfl ml_L_196 mv_X12_asked rfl rfl (Nat.le_of_ble_eq_true rfl) (Or.inr ⟨rfl, rfl⟩) R1 (fun r h2 z2 => ?_)
  obtain ⟨v2, rfl, e2, I2⟩ := z2
  exact l_eq C dL_law_1603 (by decide) e2 (kk _ I2)

/-- 44: upper -/
theorem cs_44 {p : Program} {l : Launch} {e : Env} {s : State} {m : MethodId} {below : List Frame} {meth : Method} {c : Code} {b L : Nat} {xs : Nat → Int32} {D : va_G} {cA : Nat → ClassId} (C : LC p s m meth c b L xs D cA) {n : Nat} {h : JH} (hn : n + 7 ≤ L) (I : Inv h) (kk : ∀ h', Inv h' → LAt p l e s m below meth c b D cA n 1709 [] h') : LAt p l e s m below meth c b D cA n 1608 [] h := by
  refine l_x1 C (q := 1609) dL_law_1608 rfl ?_
  refine l_call C (q := 1612) (a := 0) dL_law_1609 rfl ml_L_197 mv_X11_upper rfl rfl (Nat.le_of_ble_eq_true rfl) (Or.inl ⟨rfl, rfl⟩) (pr_upper (d := 20) I) (fun r h1 z1 => ?_)
  obtain ⟨v1, rfl, R1⟩ := z1
  refine l_x2 C (q := 1613) dL_law_1612 rfl ?_
  refine l_call C (q := 1616) (a := 117) dL_law_1613 rfl ml_L_201 mv_X12_upper rfl rfl (Nat.le_of_ble_eq_true rfl) (Or.inr ⟨rfl, rfl⟩) R1 (fun r h2 z2 => ?_)
  obtain ⟨v2, rfl, e2, I2⟩ := z2
  exact l_leq C dL_law_1616 dL_law_1617 (by decide) e2 (kk _ I2)

/-- 45: lower -/
theorem cs_45 {p : Program} {l : Launch} {e : Env} {s : State} {m : MethodId} {below : List Frame} {meth : Method} {c : Code} {b L : Nat} {xs : Nat → Int32} {D : va_G} {cA : Nat → ClassId} (C : LC p s m meth c b L xs D cA) {n : Nat} {h : JH} (hn : n + 7 ≤ L) (I : Inv h) (kk : ∀ h', Inv h' → LAt p l e s m below meth c b D cA n 1709 [] h') : LAt p l e s m below meth c b D cA n 1622 [] h := by
  refine l_x1 C (q := 1623) dL_law_1622 rfl ?_
  refine l_call C (q := 1626) (a := 0) dL_law_1623 rfl ml_L_202 mv_X11_lower rfl rfl (Nat.le_of_ble_eq_true rfl) (Or.inl ⟨rfl, rfl⟩) (pr_lower (d := 20) I) (fun r h1 z1 => ?_)
  obtain ⟨v1, rfl, R1⟩ := z1
  refine l_x2 C (q := 1627) dL_law_1626 rfl ?_
  refine l_call C (q := 1630) (a := 117) dL_law_1627 rfl ml_L_205 mv_X12_lower rfl rfl (Nat.le_of_ble_eq_true rfl) (Or.inr ⟨rfl, rfl⟩) R1 (fun r h2 z2 => ?_)
  obtain ⟨v2, rfl, e2, I2⟩ := z2
  exact l_leq C dL_law_1630 dL_law_1631 (by decide) e2 (kk _ I2)

/-- 46: count -/
theorem cs_46 {p : Program} {l : Launch} {e : Env} {s : State} {m : MethodId} {below : List Frame} {meth : Method} {c : Code} {b L : Nat} {xs : Nat → Int32} {D : va_G} {cA : Nat → ClassId} (C : LC p s m meth c b L xs D cA) {n : Nat} {h : JH} (hn : n + 7 ≤ L) (I : Inv h) (kk : ∀ h', Inv h' → LAt p l e s m below meth c b D cA n 1709 [] h') : LAt p l e s m below meth c b D cA n 1636 [] h := by
  refine l_x1 C (q := 1637) dL_law_1636 rfl ?_
  refine l_arg C (k := 1) (q := 1642) hn (by decide) rfl dL_law_1637 dL_law_1638 dL_law_1639 dL_law_1640 dL_law_1641 rfl ?_
  refine l_call C (q := 1645) (a := 0) dL_law_1642 rfl ml_L_206 mv_X11_count rfl rfl (Nat.le_of_ble_eq_true rfl) (Or.inl ⟨rfl, rfl⟩) (pr_count (d := 20) I) (fun r h1 z1 => ?_)
  obtain ⟨v1, rfl, R1⟩ := z1
  refine l_x2 C (q := 1646) dL_law_1645 rfl ?_
  refine l_arg C (k := 1) (q := 1651) hn (by decide) rfl dL_law_1646 dL_law_1647 dL_law_1648 dL_law_1649 dL_law_1650 rfl ?_
  refine l_call C (q := 1654) (a := 117) dL_law_1651 rfl ml_L_209 mv_X12_count rfl rfl (Nat.le_of_ble_eq_true rfl) (Or.inr ⟨rfl, rfl⟩) R1 (fun r h2 z2 => ?_)
  obtain ⟨v2, rfl, e2, I2⟩ := z2
  exact l_eq C dL_law_1654 (by decide) e2 (kk _ I2)

/-- 47: finding -/
theorem cs_47 {p : Program} {l : Launch} {e : Env} {s : State} {m : MethodId} {below : List Frame} {meth : Method} {c : Code} {b L : Nat} {xs : Nat → Int32} {D : va_G} {cA : Nat → ClassId} (C : LC p s m meth c b L xs D cA) {n : Nat} {h : JH} (hn : n + 7 ≤ L) (I : Inv h) (kk : ∀ h', Inv h' → LAt p l e s m below meth c b D cA n 1709 [] h') : LAt p l e s m below meth c b D cA n 1659 [] h := by
  refine l_x1 C (q := 1660) dL_law_1659 rfl ?_
  refine l_call C (q := 1663) (a := 0) dL_law_1660 rfl ml_L_210 mv_X11_finding rfl rfl (Nat.le_of_ble_eq_true rfl) (Or.inl ⟨rfl, rfl⟩) (pr_finding (d := 20) I) (fun r h1 z1 => ?_)
  obtain ⟨v1, rfl, R1⟩ := z1
  refine l_x2 C (q := 1664) dL_law_1663 rfl ?_
  refine l_call C (q := 1667) (a := 117) dL_law_1664 rfl ml_L_213 mv_X12_finding rfl rfl (Nat.le_of_ble_eq_true rfl) (Or.inr ⟨rfl, rfl⟩) R1 (fun r h2 z2 => ?_)
  obtain ⟨v2, rfl, e2, I2⟩ := z2
  exact l_eq C dL_law_1667 (by decide) e2 (kk _ I2)

/-- 48: findings -/
theorem cs_48 {p : Program} {l : Launch} {e : Env} {s : State} {m : MethodId} {below : List Frame} {meth : Method} {c : Code} {b L : Nat} {xs : Nat → Int32} {D : va_G} {cA : Nat → ClassId} (C : LC p s m meth c b L xs D cA) {n : Nat} {h : JH} (hn : n + 7 ≤ L) (I : Inv h) (kk : ∀ h', Inv h' → LAt p l e s m below meth c b D cA n 1709 [] h') : LAt p l e s m below meth c b D cA n 1672 [] h := by
  refine l_x1 C (q := 1673) dL_law_1672 rfl ?_
  refine l_arg C (k := 1) (q := 1678) hn (by decide) rfl dL_law_1673 dL_law_1674 dL_law_1675 dL_law_1676 dL_law_1677 rfl ?_
  refine l_call C (q := 1681) (a := 0) dL_law_1678 rfl ml_L_214 mv_X11_findings rfl rfl (Nat.le_of_ble_eq_true rfl) (Or.inl ⟨rfl, rfl⟩) (pr_findings (d := 20) I) (fun r h1 z1 => ?_)
  obtain ⟨v1, rfl, R1⟩ := z1
  refine l_x2 C (q := 1682) dL_law_1681 rfl ?_
  refine l_arg C (k := 1) (q := 1687) hn (by decide) rfl dL_law_1682 dL_law_1683 dL_law_1684 dL_law_1685 dL_law_1686 rfl ?_
  refine l_call C (q := 1690) (a := 117) dL_law_1687 rfl ml_L_217 mv_X12_findings rfl rfl (Nat.le_of_ble_eq_true rfl) (Or.inr ⟨rfl, rfl⟩) R1 (fun r h2 z2 => ?_)
  obtain ⟨v2, rfl, e2, I2⟩ := z2
  exact l_eq C dL_law_1690 (by decide) e2 (kk _ I2)

/-- 49: digest -/
theorem cs_49 {p : Program} {l : Launch} {e : Env} {s : State} {m : MethodId} {below : List Frame} {meth : Method} {c : Code} {b L : Nat} {xs : Nat → Int32} {D : va_G} {cA : Nat → ClassId} (C : LC p s m meth c b L xs D cA) {n : Nat} {h : JH} (hn : n + 7 ≤ L) (I : Inv h) (kk : ∀ h', Inv h' → LAt p l e s m below meth c b D cA n 1709 [] h') : LAt p l e s m below meth c b D cA n 1695 [] h := by
  refine l_x1 C (q := 1696) dL_law_1695 rfl ?_
  refine l_call C (q := 1699) (a := 0) dL_law_1696 rfl ml_L_218 mv_X11_digest rfl rfl (Nat.le_of_ble_eq_true rfl) (Or.inl ⟨rfl, rfl⟩) (pr_digest (d := 20) I) (fun r h1 z1 => ?_)
  obtain ⟨v1, rfl, R1⟩ := z1
  refine l_x2 C (q := 1700) dL_law_1699 rfl ?_
  refine l_call C (q := 1703) (a := 117) dL_law_1700 rfl ml_L_221 mv_X12_digest rfl rfl (Nat.le_of_ble_eq_true rfl) (Or.inr ⟨rfl, rfl⟩) R1 (fun r h2 z2 => ?_)
  obtain ⟨v2, rfl, e2, I2⟩ := z2
  exact l_leq C dL_law_1703 dL_law_1704 (by decide) e2 (kk _ I2)
