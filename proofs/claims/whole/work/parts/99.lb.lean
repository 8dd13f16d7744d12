/-! the law: its cases -/
/-- 0: row -/
theorem cs_0 {p : Program} {l : Launch} {e : Env} {s : State} {m : MethodId} {below : List Frame} {meth : Method} {c : Code} {b L : Nat} {xs : Nat → Int32} {D : va_G} {cA : Nat → ClassId} (C : LC p s m meth c b L xs D cA) {n : Nat} {h : JH} (hn : n + 7 ≤ L) (I : Inv h) (kk : ∀ h', Inv h' → LAt p l e s m below meth c b D cA n 1709 [] h') : LAt p l e s m below meth c b D cA n 248 [] h := by
  refine l_x1 C (q := 249) dL_law_248 rfl ?_
  refine l_arg C (k := 1) (q := 254) hn (by decide) rfl dL_law_249 dL_law_250 dL_law_251 dL_law_252 dL_law_253 rfl ?_
  refine l_arg C (k := 2) (q := 259) hn (by decide) rfl dL_law_254 dL_law_255 dL_law_256 dL_law_257 dL_law_258 rfl ?_
  refine l_call C (q := 262) (a := 0) dL_law_259 rfl ml_L_13 mv_X11_row rfl rfl (Nat.le_of_ble_eq_true rfl) (Or.inl ⟨rfl, rfl⟩) (pr_row (d := 20) I) (fun r h1 z1 => ?_)
  obtain ⟨v1, rfl, R1⟩ := z1
  refine l_x2 C (q := 263) dL_law_262 rfl ?_
  refine l_arg C (k := 1) (q := 268) hn (by decide) rfl dL_law_263 dL_law_264 dL_law_265 dL_law_266 dL_law_267 rfl ?_
  refine l_arg C (k := 2) (q := 273) hn (by decide) rfl dL_law_268 dL_law_269 dL_law_270 dL_law_271 dL_law_272 rfl ?_
  refine l_call C (q := 276) (a := 117) dL_law_273 rfl ml_L_17 mv_X12_row rfl rfl (Nat.le_of_ble_eq_true rfl) (Or.inr ⟨rfl, rfl⟩) R1 (fun r h2 z2 => ?_)
  obtain ⟨v2, rfl, e2, I2⟩ := z2
  exact l_eq C dL_law_276 (by decide) e2 (kk _ I2)

/-- 1: lay -/
theorem cs_1 {p : Program} {l : Launch} {e : Env} {s : State} {m : MethodId} {below : List Frame} {meth : Method} {c : Code} {b L : Nat} {xs : Nat → Int32} {D : va_G} {cA : Nat → ClassId} (C : LC p s m meth c b L xs D cA) {n : Nat} {h : JH} (hn : n + 7 ≤ L) (I : Inv h) (kk : ∀ h', Inv h' → LAt p l e s m below meth c b D cA n 1709 [] h') : LAt p l e s m below meth c b D cA n 281 [] h := by
  refine l_x1 C (q := 282) dL_law_281 rfl ?_
  refine l_arg C (k := 1) (q := 287) hn (by decide) rfl dL_law_282 dL_law_283 dL_law_284 dL_law_285 dL_law_286 rfl ?_
  refine l_arg C (k := 2) (q := 292) hn (by decide) rfl dL_law_287 dL_law_288 dL_law_289 dL_law_290 dL_law_291 rfl ?_
  refine l_arg C (k := 3) (q := 297) hn (by decide) rfl dL_law_292 dL_law_293 dL_law_294 dL_law_295 dL_law_296 rfl ?_
  refine l_call C (q := 300) (a := 0) dL_law_297 rfl ml_L_18 mv_X11_lay rfl rfl (Nat.le_of_ble_eq_true rfl) (Or.inl ⟨rfl, rfl⟩) (pr_lay (d := 20) I) (fun r h1 z1 => ?_)
  obtain ⟨v1, rfl, R1⟩ := z1
  refine l_x2 C (q := 301) dL_law_300 rfl ?_
  refine l_arg C (k := 1) (q := 306) hn (by decide) rfl dL_law_301 dL_law_302 dL_law_303 dL_law_304 dL_law_305 rfl ?_
  refine l_arg C (k := 2) (q := 311) hn (by decide) rfl dL_law_306 dL_law_307 dL_law_308 dL_law_309 dL_law_310 rfl ?_
  refine l_arg C (k := 3) (q := 316) hn (by decide) rfl dL_law_311 dL_law_312 dL_law_313 dL_law_314 dL_law_315 rfl ?_
  refine l_call C (q := 319) (a := 117) dL_law_316 rfl ml_L_22 mv_X12_lay rfl rfl (Nat.le_of_ble_eq_true rfl) (Or.inr ⟨rfl, rfl⟩) R1 (fun r h2 z2 => ?_)
  obtain ⟨v2, rfl, e2, I2⟩ := z2
  exact l_eq C dL_law_319 (by decide) e2 (kk _ I2)

/-- 2: at -/
theorem cs_2 {p : Program} {l : Launch} {e : Env} {s : State} {m : MethodId} {below : List Frame} {meth : Method} {c : Code} {b L : Nat} {xs : Nat → Int32} {D : va_G} {cA : Nat → ClassId} (C : LC p s m meth c b L xs D cA) {n : Nat} {h : JH} (hn : n + 7 ≤ L) (I : Inv h) (kk : ∀ h', Inv h' → LAt p l e s m below meth c b D cA n 1709 [] h') : LAt p l e s m below meth c b D cA n 324 [] h := by
  refine l_x1 C (q := 325) dL_law_324 rfl ?_
  refine l_arg C (k := 1) (q := 330) hn (by decide) rfl dL_law_325 dL_law_326 dL_law_327 dL_law_328 dL_law_329 rfl ?_
  refine l_arg C (k := 2) (q := 335) hn (by decide) rfl dL_law_330 dL_law_331 dL_law_332 dL_law_333 dL_law_334 rfl ?_
  refine l_call C (q := 338) (a := 0) dL_law_335 rfl ml_L_23 mv_X11_at rfl rfl (Nat.le_of_ble_eq_true rfl) (Or.inl ⟨rfl, rfl⟩) (pr_at (d := 20) I) (fun r h1 z1 => ?_)
  obtain ⟨v1, rfl, R1⟩ := z1
  refine l_x2 C (q := 339) dL_law_338 rfl ?_
  refine l_arg C (k := 1) (q := 344) hn (by decide) rfl dL_law_339 dL_law_340 dL_law_341 dL_law_342 dL_law_343 rfl ?_
  refine l_arg C (k := 2) (q := 349) hn (by decide) rfl dL_law_344 dL_law_345 dL_law_346 dL_law_347 dL_law_348 rfl ?_
  refine l_call C (q := 352) (a := 117) dL_law_349 rfl ml_L_26 mv_X12_at rfl rfl (Nat.le_of_ble_eq_true rfl) (Or.inr ⟨rfl, rfl⟩) R1 (fun r h2 z2 => ?_)
  obtain ⟨v2, rfl, e2, I2⟩ := z2
  exact l_eq C dL_law_352 (by decide) e2 (kk _ I2)

/-- 3: tear -/
theorem cs_3 {p : Program} {l : Launch} {e : Env} {s : State} {m : MethodId} {below : List Frame} {meth : Method} {c : Code} {b L : Nat} {xs : Nat → Int32} {D : va_G} {cA : Nat → ClassId} (C : LC p s m meth c b L xs D cA) {n : Nat} {h : JH} (hn : n + 7 ≤ L) (I : Inv h) (kk : ∀ h', Inv h' → LAt p l e s m below meth c b D cA n 1709 [] h') : LAt p l e s m below meth c b D cA n 357 [] h := by
  refine l_x1 C (q := 358) dL_law_357 rfl ?_
  refine l_arg C (k := 1) (q := 363) hn (by decide) rfl dL_law_358 dL_law_359 dL_law_360 dL_law_361 dL_law_362 rfl ?_
  refine l_call C (q := 366) (a := 0) dL_law_363 rfl ml_L_27 mv_X11_tear rfl rfl (Nat.le_of_ble_eq_true rfl) (Or.inl ⟨rfl, rfl⟩) (pr_tear (d := 20) I) (fun r h1 z1 => ?_)
  obtain ⟨v1, rfl, R1⟩ := z1
  refine l_x2 C (q := 367) dL_law_366 rfl ?_
  refine l_arg C (k := 1) (q := 372) hn (by decide) rfl dL_law_367 dL_law_368 dL_law_369 dL_law_370 dL_law_371 rfl ?_
  refine l_call C (q := 375) (a := 117) dL_law_372 rfl ml_L_31 mv_X12_tear rfl rfl (Nat.le_of_ble_eq_true rfl) (Or.inr ⟨rfl, rfl⟩) R1 (fun r h2 z2 => ?_)
  obtain ⟨v2, rfl, e2, I2⟩ := z2
  exact l_eq C dL_law_375 (by decide) e2 (kk _ I2)

/-- 4: copy -/
theorem cs_4 {p : Program} {l : Launch} {e : Env} {s : State} {m : MethodId} {below : List Frame} {meth : Method} {c : Code} {b L : Nat} {xs : Nat → Int32} {D : va_G} {cA : Nat → ClassId} (C : LC p s m meth c b L xs D cA) {n : Nat} {h : JH} (hn : n + 7 ≤ L) (I : Inv h) (kk : ∀ h', Inv h' → LAt p l e s m below meth c b D cA n 1709 [] h') : LAt p l e s m below meth c b D cA n 380 [] h := by
  refine l_x1 C (q := 381) dL_law_380 rfl ?_
  refine l_arg C (k := 1) (q := 386) hn (by decide) rfl dL_law_381 dL_law_382 dL_law_383 dL_law_384 dL_law_385 rfl ?_
  refine l_arg C (k := 2) (q := 391) hn (by decide) rfl dL_law_386 dL_law_387 dL_law_388 dL_law_389 dL_law_390 rfl ?_
  refine l_arg C (k := 3) (q := 396) hn (by decide) rfl dL_law_391 dL_law_392 dL_law_393 dL_law_394 dL_law_395 rfl ?_
  refine l_arg C (k := 4) (q := 401) hn (by decide) rfl dL_law_396 dL_law_397 dL_law_398 dL_law_399 dL_law_400 rfl ?_
  refine l_arg C (k := 5) (q := 406) hn (by decide) rfl dL_law_401 dL_law_402 dL_law_403 dL_law_404 dL_law_405 rfl ?_
  refine l_call C (q := 409) (a := 0) dL_law_406 rfl ml_L_32 mv_X11_copy rfl rfl (Nat.le_of_ble_eq_true rfl) (Or.inl ⟨rfl, rfl⟩) (pr_copy (d := 20) I) (fun r h1 z1 => ?_)
  obtain ⟨v1, rfl, R1⟩ := z1
  refine l_x2 C (q := 410) dL_law_409 rfl ?_
  refine l_arg C (k := 1) (q := 415) hn (by decide) rfl dL_law_410 dL_law_411 dL_law_412 dL_law_413 dL_law_414 rfl ?_
  refine l_arg C (k := 2) (q := 420) hn (by decide) rfl dL_law_415 dL_law_416 dL_law_417 dL_law_418 dL_law_419 rfl ?_
  refine l_arg C (k := 3) (q := 425) hn (by decide) rfl dL_law_420 dL_law_421 dL_law_422 dL_law_423 dL_law_424 rfl ?_
  refine l_arg C (k := 4) (q := 430) hn (by decide) rfl dL_law_425 dL_law_426 dL_law_427 dL_law_428 dL_law_429 rfl ?_
  refine l_arg C (k := 5) (q := 435) hn (by decide) rfl dL_law_430 dL_law_431 dL_law_432 dL_law_433 dL_law_434 rfl ?_
  refine l_call C (q := 438) (a := 117) dL_law_435 rfl ml_L_36 mv_X12_copy rfl rfl (Nat.le_of_ble_eq_true rfl) (Or.inr ⟨rfl, rfl⟩) R1 (fun r h2 z2 => ?_)
  obtain ⟨v2, rfl, e2, I2⟩ := z2
  exact l_eq C dL_law_438 (by decide) e2 (kk _ I2)

/-- 5: mean -/
theorem cs_5 {p : Program} {l : Launch} {e : Env} {s : State} {m : MethodId} {below : List Frame} {meth : Method} {c : Code} {b L : Nat} {xs : Nat → Int32} {D : va_G} {cA : Nat → ClassId} (C : LC p s m meth c b L xs D cA) {n : Nat} {h : JH} (hn : n + 7 ≤ L) (I : Inv h) (kk : ∀ h', Inv h' → LAt p l e s m below meth c b D cA n 1709 [] h') : LAt p l e s m below meth c b D cA n 443 [] h := by
  refine l_x1 C (q := 444) dL_law_443 rfl ?_
  refine l_arg C (k := 1) (q := 449) hn (by decide) rfl dL_law_444 dL_law_445 dL_law_446 dL_law_447 dL_law_448 rfl ?_
  refine l_call C (q := 452) (a := 0) dL_law_449 rfl ml_L_37 mv_X11_mean rfl rfl (Nat.le_of_ble_eq_true rfl) (Or.inl ⟨rfl, rfl⟩) (pr_mean (d := 20) I) (fun r h1 z1 => ?_)
  obtain ⟨v1, rfl, R1⟩ := z1
  refine l_x2 C (q := 453) dL_law_452 rfl ?_
  refine l_arg C (k := 1) (q := 458) hn (by decide) rfl dL_law_453 dL_law_454 dL_law_455 dL_law_456 dL_law_457 rfl ?_
  refine l_call C (q := 461) (a := 117) dL_law_458 rfl ml_L_40 mv_X12_mean rfl rfl (Nat.le_of_ble_eq_true rfl) (Or.inr ⟨rfl, rfl⟩) R1 (fun r h2 z2 => ?_)
  obtain ⟨v2, rfl, e2, I2⟩ := z2
  exact l_eq C dL_law_461 (by decide) e2 (kk _ I2)

/-- 6: text -/
theorem cs_6 {p : Program} {l : Launch} {e : Env} {s : State} {m : MethodId} {below : List Frame} {meth : Method} {c : Code} {b L : Nat} {xs : Nat → Int32} {D : va_G} {cA : Nat → ClassId} (C : LC p s m meth c b L xs D cA) {n : Nat} {h : JH} (hn : n + 7 ≤ L) (I : Inv h) (kk : ∀ h', Inv h' → LAt p l e s m below meth c b D cA n 1709 [] h') : LAt p l e s m below meth c b D cA n 466 [] h := by
  refine l_x1 C (q := 467) dL_law_466 rfl ?_
  refine l_arg C (k := 1) (q := 472) hn (by decide) rfl dL_law_467 dL_law_468 dL_law_469 dL_law_470 dL_law_471 rfl ?_
  refine l_arg C (k := 2) (q := 477) hn (by decide) rfl dL_law_472 dL_law_473 dL_law_474 dL_law_475 dL_law_476 rfl ?_
  refine l_call C (q := 480) (a := 0) dL_law_477 rfl ml_L_41 mv_X11_text rfl rfl (Nat.le_of_ble_eq_true rfl) (Or.inl ⟨rfl, rfl⟩) (pr_text (d := 20) I) (fun r h1 z1 => ?_)
  obtain ⟨v1, rfl, R1⟩ := z1
  refine l_x2 C (q := 481) dL_law_480 rfl ?_
  refine l_arg C (k := 1) (q := 486) hn (by decide) rfl dL_law_481 dL_law_482 dL_law_483 dL_law_484 dL_law_485 rfl ?_
  refine l_arg C (k := 2) (q := 491) hn (by decide) rfl dL_law_486 dL_law_487 dL_law_488 dL_law_489 dL_law_490 rfl ?_
  refine l_call C (q := 494) (a := 117) dL_law_491 rfl ml_L_44 mv_X12_text rfl rfl (Nat.le_of_ble_eq_true rfl) (Or.inr ⟨rfl, rfl⟩) R1 (fun r h2 z2 => ?_)
  obtain ⟨v2, rfl, e2, I2⟩ := z2
  exact l_eq C dL_law_494 (by decide) e2 (kk _ I2)

/-- 7: put -/
theorem cs_7 {p : Program} {l : Launch} {e : Env} {s : State} {m : MethodId} {below : List Frame} {meth : Method} {c : Code} {b L : Nat} {xs : Nat → Int32} {D : va_G} {cA : Nat → ClassId} (C : LC p s m meth c b L xs D cA) {n : Nat} {h : JH} (hn : n + 7 ≤ L) (I : Inv h) (kk : ∀ h', Inv h' → LAt p l e s m below meth c b D cA n 1709 [] h') : LAt p l e s m below meth c b D cA n 499 [] h := by
  refine l_x1 C (q := 500) dL_law_499 rfl ?_
  refine l_arg C (k := 1) (q := 505) hn (by decide) rfl dL_law_500 dL_law_501 dL_law_502 dL_law_503 dL_law_504 rfl ?_
  refine l_arg C (k := 2) (q := 510) hn (by decide) rfl dL_law_505 dL_law_506 dL_law_507 dL_law_508 dL_law_509 rfl ?_
  refine l_arg C (k := 3) (q := 515) hn (by decide) rfl dL_law_510 dL_law_511 dL_law_512 dL_law_513 dL_law_514 rfl ?_
  refine l_call C (q := 518) (a := 0) dL_law_515 rfl ml_L_45 mv_X11_put rfl rfl (Nat.le_of_ble_eq_true rfl) (Or.inl ⟨rfl, rfl⟩) (pr_put (d := 20) I) (fun r h1 z1 => ?_)
  obtain ⟨v1, rfl, R1⟩ := z1
  refine l_x2 C (q := 519) dL_law_518 rfl ?_
  refine l_arg C (k := 1) (q := 524) hn (by decide) rfl dL_law_519 dL_law_520 dL_law_521 dL_law_522 dL_law_523 rfl ?_
  refine l_arg C (k := 2) (q := 529) hn (by decide) rfl dL_law_524 dL_law_525 dL_law_526 dL_law_527 dL_law_528 rfl ?_
  refine l_arg C (k := 3) (q := 534) hn (by decide) rfl dL_law_529 dL_law_530 dL_law_531 dL_law_532 dL_law_533 rfl ?_
  refine l_call C (q := 537) (a := 117) dL_law_534 rfl ml_L_48 mv_X12_put rfl rfl (Nat.le_of_ble_eq_true rfl) (Or.inr ⟨rfl, rfl⟩) R1 (fun r h2 z2 => ?_)
  obtain ⟨v2, rfl, e2, I2⟩ := z2
  exact l_eq C dL_law_537 (by decide) e2 (kk _ I2)

/-- 8: hide -/
theorem cs_8 {p : Program} {l : Launch} {e : Env} {s : State} {m : MethodId} {below : List Frame} {meth : Method} {c : Code} {b L : Nat} {xs : Nat → Int32} {D : va_G} {cA : Nat → ClassId} (C : LC p s m meth c b L xs D cA) {n : Nat} {h : JH} (hn : n + 7 ≤ L) (I : Inv h) (kk : ∀ h', Inv h' → LAt p l e s m below meth c b D cA n 1709 [] h') : LAt p l e s m below meth c b D cA n 542 [] h := by
  refine l_x1 C (q := 543) dL_law_542 rfl ?_
  refine l_arg C (k := 1) (q := 548) hn (by decide) rfl dL_law_543 dL_law_544 dL_law_545 dL_law_546 dL_law_547 rfl ?_
  refine l_arg C (k := 2) (q := 553) hn (by decide) rfl dL_law_548 dL_law_549 dL_law_550 dL_law_551 dL_law_552 rfl ?_
  refine l_arg C (k := 3) (q := 558) hn (by decide) rfl dL_law_553 dL_law_554 dL_law_555 dL_law_556 dL_law_557 rfl ?_
  refine l_arg C (k := 4) (q := 563) hn (by decide) rfl dL_law_558 dL_law_559 dL_law_560 dL_law_561 dL_law_562 rfl ?_
  refine l_call C (q := 566) (a := 0) dL_law_563 rfl ml_L_49 mv_X11_hide rfl rfl (Nat.le_of_ble_eq_true rfl) (Or.inl ⟨rfl, rfl⟩) (pr_hide (d := 20) I) (fun r h1 z1 => ?_)
  obtain ⟨v1, rfl, R1⟩ := z1
  refine l_x2 C (q := 567) dL_law_566 rfl ?_
  refine l_arg C (k := 1) (q := 572) hn (by decide) rfl dL_law_567 dL_law_568 dL_law_569 dL_law_570 dL_law_571 rfl ?_
  refine l_arg C (k := 2) (q := 577) hn (by decide) rfl dL_law_572 dL_law_573 dL_law_574 dL_law_575 dL_law_576 rfl ?_
  refine l_arg C (k := 3) (q := 582) hn (by decide) rfl dL_law_577 dL_law_578 dL_law_579 dL_law_580 dL_law_581 rfl ?_
  refine l_arg C (k := 4) (q := 587) hn (by decide) rfl dL_law_582 dL_law_583 dL_law_584 dL_law_585 dL_law_586 rfl ?_
  refine l_call C (q := 590) (a := 117) dL_law_587 rfl ml_L_53 mv_X12_hide rfl rfl (Nat.le_of_ble_eq_true rfl) (Or.inr ⟨rfl, rfl⟩) R1 (fun r h2 z2 => ?_)
  obtain ⟨v2, rfl, e2, I2⟩ := z2
  exact l_eq C dL_law_590 (by decide) e2 (kk _ I2)

/-- 9: drop -/
theorem cs_9 {p : Program} {l : Launch} {e : Env} {s : State} {m : MethodId} {below : List Frame} {meth : Method} {c : Code} {b L : Nat} {xs : Nat → Int32} {D : va_G} {cA : Nat → ClassId} (C : LC p s m meth c b L xs D cA) {n : Nat} {h : JH} (hn : n + 7 ≤ L) (I : Inv h) (kk : ∀ h', Inv h' → LAt p l e s m below meth c b D cA n 1709 [] h') : LAt p l e s m below meth c b D cA n 595 [] h := by
  refine l_x1 C (q := 596) dL_law_595 rfl ?_
  refine l_arg C (k := 1) (q := 601) hn (by decide) rfl dL_law_596 dL_law_597 dL_law_598 dL_law_599 dL_law_600 rfl ?_
  refine l_call C (q := 604) (a := 0) dL_law_601 rfl ml_L_54 mv_X11_drop rfl rfl (Nat.le_of_ble_eq_true rfl) (Or.inl ⟨rfl, rfl⟩) (pr_drop (d := 20) I) (fun r h1 z1 => ?_)
  obtain ⟨v1, rfl, R1⟩ := z1
  refine l_x2 C (q := 605) dL_law_604 rfl ?_
  refine l_arg C (k := 1) (q := 610) hn (by decide) rfl dL_law_605 dL_law_606 dL_law_607 dL_law_608 dL_law_609 rfl ?_
  refine l_call C (q := 613) (a := 117) dL_law_610 rfl ml_L_57 mv_X12_drop rfl rfl (Nat.le_of_ble_eq_true rfl) (Or.inr ⟨rfl, rfl⟩) R1 (fun r h2 z2 => ?_)
  obtain ⟨v2, rfl, e2, I2⟩ := z2
  exact l_eq C dL_law_613 (by decide) e2 (kk _ I2)

/-- 10: lamp -/
theorem cs_10 {p : Program} {l : Launch} {e : Env} {s : State} {m : MethodId} {below : List Frame} {meth : Method} {c : Code} {b L : Nat} {xs : Nat → Int32} {D : va_G} {cA : Nat → ClassId} (C : LC p s m meth c b L xs D cA) {n : Nat} {h : JH} (hn : n + 7 ≤ L) (I : Inv h) (kk : ∀ h', Inv h' → LAt p l e s m below meth c b D cA n 1709 [] h') : LAt p l e s m below meth c b D cA n 618 [] h := by
  refine l_x1 C (q := 619) dL_law_618 rfl ?_
  refine l_arg C (k := 1) (q := 624) hn (by decide) rfl dL_law_619 dL_law_620 dL_law_621 dL_law_622 dL_law_623 rfl ?_
  refine l_arg C (k := 2) (q := 629) hn (by decide) rfl dL_law_624 dL_law_625 dL_law_626 dL_law_627 dL_law_628 rfl ?_
  refine l_call C (q := 632) (a := 0) dL_law_629 rfl ml_L_58 mv_X11_lamp rfl rfl (Nat.le_of_ble_eq_true rfl) (Or.inl ⟨rfl, rfl⟩) (pr_lamp (d := 20) I) (fun r h1 z1 => ?_)
  obtain ⟨v1, rfl, R1⟩ := z1
  refine l_x2 C (q := 633) dL_law_632 rfl ?_
  refine l_arg C (k := 1) (q := 638) hn (by decide) rfl dL_law_633 dL_law_634 dL_law_635 dL_law_636 dL_law_637 rfl ?_
  refine l_arg C (k := 2) (q := 643) hn (by decide) rfl dL_law_638 dL_law_639 dL_law_640 dL_law_641 dL_law_642 rfl ?_
  refine l_call C (q := 646) (a := 117) dL_law_643 rfl ml_L_61 mv_X12_lamp rfl rfl (Nat.le_of_ble_eq_true rfl) (Or.inr ⟨rfl, rfl⟩) R1 (fun r h2 z2 => ?_)
  obtain ⟨v2, rfl, e2, I2⟩ := z2
  exact l_eq C dL_law_646 (by decide) e2 (kk _ I2)

/-- 11: about -/
theorem cs_11 {p : Program} {l : Launch} {e : Env} {s : State} {m : MethodId} {below : List Frame} {meth : Method} {c : Code} {b L : Nat} {xs : Nat → Int32} {D : va_G} {cA : Nat → ClassId} (C : LC p s m meth c b L xs D cA) {n : Nat} {h : JH} (hn : n + 7 ≤ L) (I : Inv h) (kk : ∀ h', Inv h' → LAt p l e s m below meth c b D cA n 1709 [] h') : LAt p l e s m below meth c b D cA n 651 [] h := by
  refine l_x1 C (q := 652) dL_law_651 rfl ?_
  refine l_arg C (k := 1) (q := 657) hn (by decide) rfl dL_law_652 dL_law_653 dL_law_654 dL_law_655 dL_law_656 rfl ?_
  refine l_arg C (k := 2) (q := 662) hn (by decide) rfl dL_law_657 dL_law_658 dL_law_659 dL_law_660 dL_law_661 rfl ?_
  refine l_call C (q := 665) (a := 0) dL_law_662 rfl ml_L_62 mv_X11_about rfl rfl (Nat.le_of_ble_eq_true rfl) (Or.inl ⟨rfl, rfl⟩) (pr_about (d := 20) I) (fun r h1 z1 => ?_)
  obtain ⟨v1, rfl, R1⟩ := z1
  refine l_x2 C (q := 666) dL_law_665 rfl ?_
  refine l_arg C (k := 1) (q := 671) hn (by decide) rfl dL_law_666 dL_law_667 dL_law_668 dL_law_669 dL_law_670 rfl ?_
  refine l_arg C (k := 2) (q := 676) hn (by decide) rfl dL_law_671 dL_law_672 dL_law_673 dL_law_674 dL_law_675 rfl ?_
  refine l_call C (q := 679) (a := 117) dL_law_676 rfl ml_L_65 mv_X12_about rfl rfl (Nat.le_of_ble_eq_true rfl) (Or.inr ⟨rfl, rfl⟩) R1 (fun r h2 z2 => ?_)
  obtain ⟨v2, rfl, e2, I2⟩ := z2
  exact l_eq C dL_law_679 (by decide) e2 (kk _ I2)

/-- 12: shadow -/
theorem cs_12 {p : Program} {l : Launch} {e : Env} {s : State} {m : MethodId} {below : List Frame} {meth : Method} {c : Code} {b L : Nat} {xs : Nat → Int32} {D : va_G} {cA : Nat → ClassId} (C : LC p s m meth c b L xs D cA) {n : Nat} {h : JH} (hn : n + 7 ≤ L) (I : Inv h) (kk : ∀ h', Inv h' → LAt p l e s m below meth c b D cA n 1709 [] h') : LAt p l e s m below meth c b D cA n 684 [] h := by
  refine l_x1 C (q := 685) dL_law_684 rfl ?_
  refine l_arg C (k := 1) (q := 690) hn (by decide) rfl dL_law_685 dL_law_686 dL_law_687 dL_law_688 dL_law_689 rfl ?_
  refine l_arg C (k := 2) (q := 695) hn (by decide) rfl dL_law_690 dL_law_691 dL_law_692 dL_law_693 dL_law_694 rfl ?_
  refine l_arg C (k := 3) (q := 700) hn (by decide) rfl dL_law_695 dL_law_696 dL_law_697 dL_law_698 dL_law_699 rfl ?_
  refine l_arg C (k := 4) (q := 705) hn (by decide) rfl dL_law_700 dL_law_701 dL_law_702 dL_law_703 dL_law_704 rfl ?_
  refine l_call C (q := 708) (a := 0) dL_law_705 rfl ml_L_66 mv_X11_shadow rfl rfl (Nat.le_of_ble_eq_true rfl) (Or.inl ⟨rfl, rfl⟩) (pr_shadow (d := 20) I) (fun r h1 z1 => ?_)
  obtain ⟨v1, rfl, R1⟩ := z1
  refine l_x2 C (q := 709) dL_law_708 rfl ?_
  refine l_arg C (k := 1) (q := 714) hn (by decide) rfl dL_law_709 dL_law_710 dL_law_711 dL_law_712 dL_law_713 rfl ?_
  refine l_arg C (k := 2) (q := 719) hn (by decide) rfl dL_law_714 dL_law_715 dL_law_716 dL_law_717 dL_law_718 rfl ?_
  refine l_arg C (k := 3) (q := 724) hn (by decide) rfl dL_law_719 dL_law_720 dL_law_721 dL_law_722 dL_law_723 rfl ?_
  refine l_arg C (k := 4) (q := 729) hn (by decide) rfl dL_law_724 dL_law_725 dL_law_726 dL_law_727 dL_law_728 rfl ?_
  refine l_call C (q := 732) (a := 117) dL_law_729 rfl ml_L_69 mv_X12_shadow rfl rfl (Nat.le_of_ble_eq_true rfl) (Or.inr ⟨rfl, rfl⟩) R1 (fun r h2 z2 => ?_)
  obtain ⟨v2, rfl, e2, I2⟩ := z2
  exact l_eq C dL_law_732 (by decide) e2 (kk _ I2)

/-- 13: covers -/
theorem cs_13 {p : Program} {l : Launch} {e : Env} {s : State} {m : MethodId} {below : List Frame} {meth : Method} {c : Code} {b L : Nat} {xs : Nat → Int32} {D : va_G} {cA : Nat → ClassId} (C : LC p s m meth c b L xs D cA) {n : Nat} {h : JH} (hn : n + 7 ≤ L) (I : Inv h) (kk : ∀ h', Inv h' → LAt p l e s m below meth c b D cA n 1709 [] h') : LAt p l e s m below meth c b D cA n 737 [] h := by
  refine l_x1 C (q := 738) dL_law_737 rfl ?_
  refine l_arg C (k := 1) (q := 743) hn (by decide) rfl dL_law_738 dL_law_739 dL_law_740 dL_law_741 dL_law_742 rfl ?_
  refine l_arg C (k := 2) (q := 748) hn (by decide) rfl dL_law_743 dL_law_744 dL_law_745 dL_law_746 dL_law_747 rfl ?_
  refine l_arg C (k := 3) (q := 753) hn (by decide) rfl dL_law_748 dL_law_749 dL_law_750 dL_law_751 dL_law_752 rfl ?_
  refine l_arg C (k := 4) (q := 758) hn (by decide) rfl dL_law_753 dL_law_754 dL_law_755 dL_law_756 dL_law_757 rfl ?_
  refine l_arg C (k := 5) (q := 763) hn (by decide) rfl dL_law_758 dL_law_759 dL_law_760 dL_law_761 dL_law_762 rfl ?_
  refine l_argb C (k := 6) (q := 769) hn (by decide) rfl dL_law_763 dL_law_764 dL_law_765 dL_law_767 dL_law_768 rfl ?_
  refine l_call C (q := 772) (a := 0) dL_law_769 rfl ml_L_70 mv_X11_covers rfl rfl (Nat.le_of_ble_eq_true rfl) (Or.inl ⟨rfl, rfl⟩) (pr_covers (d := 20) I) (fun r h1 z1 => ?_)
  obtain ⟨v1, rfl, R1⟩ := z1
  refine l_x2 C (q := 773) dL_law_772 rfl ?_
  refine l_arg C (k := 1) (q := 778) hn (by decide) rfl dL_law_773 dL_law_774 dL_law_775 dL_law_776 dL_law_777 rfl ?_
  refine l_arg C (k := 2) (q := 783) hn (by decide) rfl dL_law_778 dL_law_779 dL_law_780 dL_law_781 dL_law_782 rfl ?_
  refine l_arg C (k := 3) (q := 788) hn (by decide) rfl dL_law_783 dL_law_784 dL_law_785 dL_law_786 dL_law_787 rfl ?_
  refine l_arg C (k := 4) (q := 793) hn (by decide) rfl dL_law_788 dL_law_789 dL_law_790 dL_law_791 dL_law_792 rfl ?_
  refine l_arg C (k := 5) (q := 798) hn (by decide) rfl dL_law_793 dL_law_794 dL_law_795 dL_law_796 dL_law_797 rfl ?_
  refine l_argb C (k := 6) (q := 804) hn (by decide) rfl dL_law_798 dL_law_799 dL_law_800 dL_law_802 dL_law_803 rfl ?_
  refine l_call C (q := 807) (a := 117) dL_law_804 rfl ml_L_74 mv_X12_covers rfl rfl (Nat.le_of_ble_eq_true rfl) (Or.inr ⟨rfl, rfl⟩) R1 (fun r h2 z2 => ?_)
  obtain ⟨v2, rfl, e2, I2⟩ := z2
  exact l_eq C dL_law_807 (by decide) e2 (kk _ I2)

/-- 14: place -/
theorem cs_14 {p : Program} {l : Launch} {e : Env} {s : State} {m : MethodId} {below : List Frame} {meth : Method} {c : Code} {b L : Nat} {xs : Nat → Int32} {D : va_G} {cA : Nat → ClassId} (C : LC p s m meth c b L xs D cA) {n : Nat} {h : JH} (hn : n + 7 ≤ L) (I : Inv h) (kk : ∀ h', Inv h' → LAt p l e s m below meth c b D cA n 1709 [] h') : LAt p l e s m below meth c b D cA n 812 [] h := by
  refine l_x1 C (q := 813) dL_law_812 rfl ?_
  refine l_arg C (k := 1) (q := 818) hn (by decide) rfl dL_law_813 dL_law_814 dL_law_815 dL_law_816 dL_law_817 rfl ?_
  refine l_arg C (k := 2) (q := 823) hn (by decide) rfl dL_law_818 dL_law_819 dL_law_820 dL_law_821 dL_law_822 rfl ?_
  refine l_call C (q := 826) (a := 0) dL_law_823 rfl ml_L_75 mv_X11_place rfl rfl (Nat.le_of_ble_eq_true rfl) (Or.inl ⟨rfl, rfl⟩) (pr_place (d := 20) I) (fun r h1 z1 => ?_)
  obtain ⟨v1, rfl, R1⟩ := z1
  refine l_x2 C (q := 827) dL_law_826 rfl ?_
  refine l_arg C (k := 1) (q := 832) hn (by decide) rfl dL_law_827 dL_law_828 dL_law_829 dL_law_830 dL_law_831 rfl ?_
  refine l_arg C (k := 2) (q := 837) hn (by decide) rfl dL_law_832 dL_law_833 dL_law_834 dL_law_835 dL_law_836 rfl ?_
  refine l_call C (q := 840) (a := 117) dL_law_837 rfl ml_L_78 mv_X12_place rfl rfl (Nat.le_of_ble_eq_true rfl) (Or.inr ⟨rfl, rfl⟩) R1 (fun r h2 z2 => ?_)
  obtain ⟨v2, rfl, e2, I2⟩ := z2
  exact l_eq C dL_law_840 (by decide) e2 (kk _ I2)

/-- 15: fault -/
theorem cs_15 {p : Program} {l : Launch} {e : Env} {s : State} {m : MethodId} {below : List Frame} {meth : Method} {c : Code} {b L : Nat} {xs : Nat → Int32} {D : va_G} {cA : Nat → ClassId} (C : LC p s m meth c b L xs D cA) {n : Nat} {h : JH} (hn : n + 7 ≤ L) (I : Inv h) (kk : ∀ h', Inv h' → LAt p l e s m below meth c b D cA n 1709 [] h') : LAt p l e s m below meth c b D cA n 845 [] h := by
  refine l_x1 C (q := 846) dL_law_845 rfl ?_
  refine l_arg C (k := 1) (q := 851) hn (by decide) rfl dL_law_846 dL_law_847 dL_law_848 dL_law_849 dL_law_850 rfl ?_
  refine l_call C (q := 854) (a := 0) dL_law_851 rfl ml_L_79 mv_X11_fault rfl rfl (Nat.le_of_ble_eq_true rfl) (Or.inl ⟨rfl, rfl⟩) (pr_fault (d := 18) I) (fun r h1 z1 => ?_)
  obtain ⟨v1, rfl, R1⟩ := z1
  refine l_x2 C (q := 855) dL_law_854 rfl ?_
  refine l_arg C (k := 1) (q := 860) hn (by decide) rfl dL_law_855 dL_law_856 dL_law_857 dL_law_858 dL_law_859 rfl ?_
  refine l_call C (q := 863) (a := 117) dL_law_860 rfl ml_L_82 mv_X12_fault rfl rfl (Nat.le_of_ble_eq_true rfl) (Or.inr ⟨rfl, rfl⟩) R1 (fun r h2 z2 => ?_)
  obtain ⟨v2, rfl, e2, I2⟩ := z2
  exact l_eq C dL_law_863 (by decide) e2 (kk _ I2)

/-- 16: story -/
theorem cs_16 {p : Program} {l : Launch} {e : Env} {s : State} {m : MethodId} {below : List Frame} {meth : Method} {c : Code} {b L : Nat} {xs : Nat → Int32} {D : va_G} {cA : Nat → ClassId} (C : LC p s m meth c b L xs D cA) {n : Nat} {h : JH} (hn : n + 7 ≤ L) (I : Inv h) (kk : ∀ h', Inv h' → LAt p l e s m below meth c b D cA n 1709 [] h') : LAt p l e s m below meth c b D cA n 868 [] h := by
  refine l_x1 C (q := 869) dL_law_868 rfl ?_
  refine l_arg C (k := 1) (q := 874) hn (by decide) rfl dL_law_869 dL_law_870 dL_law_871 dL_law_872 dL_law_873 rfl ?_
  refine l_call C (q := 877) (a := 0) dL_law_874 rfl ml_L_83 mv_X11_story rfl rfl (Nat.le_of_ble_eq_true rfl) (Or.inl ⟨rfl, rfl⟩) (pr_story (d := 18) I) (fun r h1 z1 => ?_)
  obtain ⟨v1, rfl, R1⟩ := z1
  refine l_x2 C (q := 878) dL_law_877 rfl ?_
  refine l_arg C (k := 1) (q := 883) hn (by decide) rfl dL_law_878 dL_law_879 dL_law_880 dL_law_881 dL_law_882 rfl ?_
  refine l_call C (q := 886) (a := 117) dL_law_883 rfl ml_L_86 mv_X12_story rfl rfl (Nat.le_of_ble_eq_true rfl) (Or.inr ⟨rfl, rfl⟩) R1 (fun r h2 z2 => ?_)
  obtain ⟨v2, rfl, e2, I2⟩ := z2
  exact l_eq C dL_law_886 (by decide) e2 (kk _ I2)
