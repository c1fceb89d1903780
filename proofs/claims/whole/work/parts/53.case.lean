/-! ===== the calls of the law, first half ===== -/
theorem rst_lt {S : St} (hI : Inv S) : ∀ j, low9 (rst S) (rN S 63) (rN S 44 0) j < 1000000 := fun j => by
  unfold low9
  split
  · have := rst_le hI.w.len j; omega
  · exact hI.w.b.1 63 j
set_option maxRecDepth 20000 in
set_option maxHeartbeats 4000000 in
theorem lc_0 (l : Launch) (D : va_G) (M : VM) (cy : Nat → ClassId) (ad am : Nat → Nat) (o od b Ln : Nat) (xs : Nat → Int32) (i6 c : Nat) (S : St) (K N : Nat) (f : Nat → Int64) (g : Nat → UInt64) (h : LC l D M cy ad am o od b Ln xs i6 c S K N) : V l D M K N (wC ad cy S ++ cL9 cy o f :: cD9 cy od g :: wM am cy S) (LL b (ad 0) (am 0) o od i6) 264 [] := by
  obtain ⟨X, hNc, hB9, hSc, hi, hLn, hS, hc, hK, hN, next⟩ := h
  have hI := hS.1
  have hR := hS.rm hc
  refine V.aload_n X dL_law_264 rfl ?_
  refine V.arg (j := 1) X hSc rfl rfl (by omega) hLn rfl dL_law_265 dL_law_266 dL_law_268 dL_law_269 dL_law_270 (pc9 := 271) rfl ?_
  refine V.aload_n X dL_law_271 rfl ?_
  refine V.callSW [.ref (ad 0), .int (xs (i6 + 1)), .ref o] X hNc (c_L_addPerson l D cy ad S o f (cD9 cy od g :: wM am cy S) (xs (i6 + 1)) hI) gw_2_73 gw_1_0 gw_2_74 (by show _ ≠ _ ∧ _ ≠ _ ∧ _ = some (3 : Nat); decide +kernel) gw_2_72 ⟨⟨(Nat.le_of_ble_eq_true rfl), (Nat.le_of_ble_eq_true rfl)⟩, (by show K + 8 ≤ 601024; omega), (by show N + 48 ≤ 7293034; omega)⟩ rfl (Nat.le_of_ble_eq_true rfl) dL_law_272 ?_
  rintro v9 u9 ⟨T, rfl, hT0, hTx, rfl⟩
  refine V.istore (L' := [(6, .int (nI (kAP S (xs (i6 + 1))))), (5, .int (nI i6)), (0, .ref b), (1, .ref (ad 0)), (2, .ref (am 0)), (3, .ref o), (4, .ref od)]) X dL_law_275 hB9 (by decide) rfl ?_
  have hk4 : kAP S (xs (i6 + 1)) < 1000000 := by unfold kAP; (repeat' split) <;> decide
  refine V.perm (Wd' := wM am cy S ++ (wC ad cy T ++ [cL9 cy o (if kAP S (xs (i6 + 1)) = 0 then vp_updL f 0 ((nI (rN S 43 0)).toInt64) else f), cD9 cy od g])) pm_AB ?_
  refine V.aload_n X dL_law_277 rfl ?_
  refine V.arg (j := 1) X hSc rfl rfl (by omega) hLn rfl dL_law_278 dL_law_279 dL_law_281 dL_law_282 dL_law_283 (pc9 := 284) rfl ?_
  refine V.callV (C := "RunbookerModel") [.int (xs (i6 + 1))] X (c_X6_addPerson l D cy am S (wC ad cy T ++ [cL9 cy o (if kAP S (xs (i6 + 1)) = 0 then vp_updL f 0 ((nI (rN S 43 0)).toInt64) else f), cD9 cy od g]) (xs (i6 + 1)) hI) mv_X6_addPerson gw_6_125 ⟨⟨(Nat.le_of_ble_eq_true rfl), (Nat.le_of_ble_eq_true rfl)⟩, (by show K + 8 + 0 ≤ 601024; omega), (by show N + 48 + 0 ≤ 7293034; omega)⟩ (q0 := 0) (ci := 8) rfl rfl rfl (Nat.le_of_ble_eq_true rfl) dL_law_284 (fun _ _ h9 => h9.elim) ?_
  rintro v9 u9 ⟨r9, rfl, hr9, rfl⟩
  refine V.istore (L' := [(7, .int (r9)), (6, .int (nI (kAP S (xs (i6 + 1))))), (5, .int (nI i6)), (0, .ref b), (1, .ref (ad 0)), (2, .ref (am 0)), (3, .ref o), (4, .ref od)]) X dL_law_287 hB9 (by decide) rfl ?_
  refine tailI (kx := kAP S (xs (i6 + 1))) (q0 := 60) (r9 := r9) (fo := (if kAP S (xs (i6 + 1)) = 0 then vp_updL f 0 ((nI (rN S 43 0)).toInt64) else f)) X rfl rfl rfl rfl rfl (by omega) rfl (fun h0 => by rw [out0 h0, hr9 h0] <;> rfl) (Nat.le_of_ble_eq_true rfl) (Nat.le_of_ble_eq_true rfl) (by show K + 8 + 0 ≤ 601024; omega) (by show N + 48 + 0 ≤ 7293034; omega) dL_law_289 dL_law_290 dL_law_293 dL_law_295 dL_law_300 dL_law_302 dL_law_305 dL_law_306 dL_law_307 dL_law_308 dL_law_310 dL_law_311 dL_law_312 dL_law_317 (by decide) ?_
  refine V.pick [2, 3, 4, 5, 6, 7] rfl ?_
  refine LC.go next (S9 := (sN (bif Nat.beq (kAP S (xs (i6 + 1))) 0 then (sAP S (xs (i6 + 1))) else S) 62 (fun _ => (kAP S (xs (i6 + 1)))))) (wC_U hT0 hTx rfl) rfl (hS.bif hk4 (fun hk => OK_AP (hS) hk)) (by show K + 8 + 0 ≤ K + 64; omega) (by show N + 48 + 0 ≤ N + 1024; omega)
set_option maxRecDepth 20000 in
set_option maxHeartbeats 4000000 in
theorem lc_1 (l : Launch) (D : va_G) (M : VM) (cy : Nat → ClassId) (ad am : Nat → Nat) (o od b Ln : Nat) (xs : Nat → Int32) (i6 c : Nat) (S : St) (K N : Nat) (f : Nat → Int64) (g : Nat → UInt64) (h : LC l D M cy ad am o od b Ln xs i6 c S K N) : V l D M K N (wC ad cy S ++ cL9 cy o f :: cD9 cy od g :: wM am cy S) (LL b (ad 0) (am 0) o od i6) 320 [] := by
  obtain ⟨X, hNc, hB9, hSc, hi, hLn, hS, hc, hK, hN, next⟩ := h
  have hI := hS.1
  have hR := hS.rm hc
  refine V.aload_n X dL_law_320 rfl ?_
  refine V.arg (j := 1) X hSc rfl rfl (by omega) hLn rfl dL_law_321 dL_law_322 dL_law_324 dL_law_325 dL_law_326 (pc9 := 327) rfl ?_
  refine V.arg (j := 2) X hSc rfl rfl (by omega) hLn rfl dL_law_327 dL_law_328 dL_law_330 dL_law_331 dL_law_332 (pc9 := 333) rfl ?_
  refine V.nz X dL_law_333 dL_law_336 dL_law_337 dL_law_340 (pc9 := 341) rfl ?_
  refine V.aload_n X dL_law_341 rfl ?_
  refine V.callSW [.ref (ad 0), .int (xs (i6 + 1)), .int (b2i (decide (xs (i6 + 2) ≠ 0))), .ref o] X hNc (c_L_setDuty l D cy ad S o f (cD9 cy od g :: wM am cy S) (xs (i6 + 1)) (decide (xs (i6 + 2) ≠ 0)) hI) gw_2_172 gw_1_0 gw_2_173 (by show _ ≠ _ ∧ _ ≠ _ ∧ _ = some (4 : Nat); decide +kernel) gw_2_171 ⟨⟨(Nat.le_of_ble_eq_true rfl), (Nat.le_of_ble_eq_true rfl)⟩, (by show K + 8 ≤ 601024; omega), (by show N + 48 ≤ 7293034; omega)⟩ rfl (Nat.le_of_ble_eq_true rfl) dL_law_342 ?_
  rintro v9 u9 ⟨T, rfl, hT0, hTx, rfl⟩
  refine V.istore (L' := [(6, .int (nI (kSD S (xs (i6 + 1))))), (5, .int (nI i6)), (0, .ref b), (1, .ref (ad 0)), (2, .ref (am 0)), (3, .ref o), (4, .ref od)]) X dL_law_345 hB9 (by decide) rfl ?_
  have hk4 : kSD S (xs (i6 + 1)) < 1000000 := by unfold kSD; (repeat' split) <;> decide
  refine V.perm (Wd' := wM am cy S ++ (wC ad cy T ++ [cL9 cy o (if kSD S (xs (i6 + 1)) = 0 then vp_updL f 0 (b2l (rB S 8 (ix (xs (i6 + 1))))) else f), cD9 cy od g])) pm_AB ?_
  refine V.aload_n X dL_law_347 rfl ?_
  refine V.arg (j := 1) X hSc rfl rfl (by omega) hLn rfl dL_law_348 dL_law_349 dL_law_351 dL_law_352 dL_law_353 (pc9 := 354) rfl ?_
  refine V.arg (j := 2) X hSc rfl rfl (by omega) hLn rfl dL_law_354 dL_law_355 dL_law_357 dL_law_358 dL_law_359 (pc9 := 360) rfl ?_
  refine V.nz X dL_law_360 dL_law_363 dL_law_364 dL_law_367 (pc9 := 368) rfl ?_
  refine V.callV (C := "RunbookerModel") [.int (xs (i6 + 1)), .int (b2i (decide (xs (i6 + 2) ≠ 0)))] X (c_X6_setDuty l D cy am S (wC ad cy T ++ [cL9 cy o (if kSD S (xs (i6 + 1)) = 0 then vp_updL f 0 (b2l (rB S 8 (ix (xs (i6 + 1))))) else f), cD9 cy od g]) (xs (i6 + 1)) (decide (xs (i6 + 2) ≠ 0)) hI) mv_X6_setDuty gw_6_136 ⟨⟨(Nat.le_of_ble_eq_true rfl), (Nat.le_of_ble_eq_true rfl)⟩, (by show K + 8 + 0 ≤ 601024; omega), (by show N + 48 + 0 ≤ 7293034; omega)⟩ (q0 := 0) (ci := 8) rfl rfl rfl (Nat.le_of_ble_eq_true rfl) dL_law_368 (fun _ _ h9 => h9.elim) ?_
  rintro v9 u9 ⟨r9, rfl, hr9, rfl⟩
  refine V.istore (L' := [(7, .int (r9)), (6, .int (nI (kSD S (xs (i6 + 1))))), (5, .int (nI i6)), (0, .ref b), (1, .ref (ad 0)), (2, .ref (am 0)), (3, .ref o), (4, .ref od)]) X dL_law_371 hB9 (by decide) rfl ?_
  refine tailB (kx := kSD S (xs (i6 + 1))) (q0 := 60) (r9 := r9) (fo := (if kSD S (xs (i6 + 1)) = 0 then vp_updL f 0 (b2l (rB S 8 (ix (xs (i6 + 1))))) else f)) X rfl rfl rfl rfl rfl (by omega) rfl (fun h0 => by rw [out0 h0, hr9 h0]; exact b2l_r _) (Nat.le_of_ble_eq_true rfl) (Nat.le_of_ble_eq_true rfl) (by show K + 8 + 0 ≤ 601024; omega) (by show N + 48 + 0 ≤ 7293034; omega) dL_law_373 dL_law_374 dL_law_377 dL_law_379 dL_law_384 dL_law_386 dL_law_389 dL_law_390 dL_law_391 dL_law_392 dL_law_394 dL_law_397 dL_law_398 dL_law_401 dL_law_402 dL_law_403 dL_law_408 (by decide) ?_
  refine V.pick [2, 3, 4, 5, 6, 7] rfl ?_
  refine LC.go next (S9 := (sN (bif Nat.beq (kSD S (xs (i6 + 1))) 0 then (sSD S (xs (i6 + 1)) (decide (xs (i6 + 2) ≠ 0))) else S) 62 (fun _ => (kSD S (xs (i6 + 1)))))) (wC_U hT0 hTx rfl) rfl (hS.bif hk4 (fun hk => OK_SD (hS) hk)) (by show K + 8 + 0 ≤ K + 64; omega) (by show N + 48 + 0 ≤ N + 1024; omega)
set_option maxRecDepth 20000 in
set_option maxHeartbeats 4000000 in
theorem lc_2 (l : Launch) (D : va_G) (M : VM) (cy : Nat → ClassId) (ad am : Nat → Nat) (o od b Ln : Nat) (xs : Nat → Int32) (i6 c : Nat) (S : St) (K N : Nat) (f : Nat → Int64) (g : Nat → UInt64) (h : LC l D M cy ad am o od b Ln xs i6 c S K N) : V l D M K N (wC ad cy S ++ cL9 cy o f :: cD9 cy od g :: wM am cy S) (LL b (ad 0) (am 0) o od i6) 411 [] := by
  obtain ⟨X, hNc, hB9, hSc, hi, hLn, hS, hc, hK, hN, next⟩ := h
  have hI := hS.1
  have hR := hS.rm hc
  refine V.aload_n X dL_law_411 rfl ?_
  refine V.arg (j := 1) X hSc rfl rfl (by omega) hLn rfl dL_law_412 dL_law_413 dL_law_415 dL_law_416 dL_law_417 (pc9 := 418) rfl ?_
  refine V.arg (j := 2) X hSc rfl rfl (by omega) hLn rfl dL_law_418 dL_law_419 dL_law_421 dL_law_422 dL_law_423 (pc9 := 424) rfl ?_
  refine V.arg (j := 3) X hSc rfl rfl (by omega) hLn rfl dL_law_424 dL_law_425 dL_law_427 dL_law_428 dL_law_429 (pc9 := 430) rfl ?_
  refine V.arg (j := 4) X hSc rfl rfl (by omega) hLn rfl dL_law_430 dL_law_431 dL_law_433 dL_law_434 dL_law_435 (pc9 := 436) rfl ?_
  refine V.i2c (v := c2i (chr9 (xs (i6 + 4)))) X dL_law_436 (chr9_ok _) ?_
  refine V.arg (j := 5) X hSc rfl rfl (by omega) hLn rfl dL_law_437 dL_law_438 dL_law_440 dL_law_441 dL_law_442 (pc9 := 443) rfl ?_
  refine V.nz X dL_law_443 dL_law_446 dL_law_447 dL_law_450 (pc9 := 451) rfl ?_
  refine V.aload_n X dL_law_451 rfl ?_
  refine V.callSW [.ref (ad 0), .int (xs (i6 + 1)), .int (xs (i6 + 2)), .int (xs (i6 + 3)), .int (c2i (chr9 (xs (i6 + 4)))), .int (b2i (decide (xs (i6 + 5) ≠ 0))), .ref o] X hNc (c_L_addStep l D cy ad S o f (cD9 cy od g :: wM am cy S) (xs (i6 + 1)) (xs (i6 + 2)) (xs (i6 + 3)) (chr9 (xs (i6 + 4))) (decide (xs (i6 + 5) ≠ 0)) hI) gw_2_213 gw_1_0 gw_2_214 (by show _ ≠ _ ∧ _ ≠ _ ∧ _ = some (7 : Nat); decide +kernel) gw_2_212 ⟨⟨(Nat.le_of_ble_eq_true rfl), (Nat.le_of_ble_eq_true rfl)⟩, (by show K + 8 ≤ 601024; omega), (by show N + 48 ≤ 7293034; omega)⟩ rfl (Nat.le_of_ble_eq_true rfl) dL_law_452 ?_
  rintro v9 u9 ⟨T, rfl, hT0, hTx, rfl⟩
  refine V.istore (L' := [(6, .int (nI (kAS S (xs (i6 + 1)) (xs (i6 + 2)) (xs (i6 + 3)) (chr9 (xs (i6 + 4)))))), (5, .int (nI i6)), (0, .ref b), (1, .ref (ad 0)), (2, .ref (am 0)), (3, .ref o), (4, .ref od)]) X dL_law_455 hB9 (by decide) rfl ?_
  have hk4 : kAS S (xs (i6 + 1)) (xs (i6 + 2)) (xs (i6 + 3)) (chr9 (xs (i6 + 4))) < 1000000 := by unfold kAS; (repeat' split) <;> decide
  refine V.perm (Wd' := wM am cy S ++ (wC ad cy T ++ [cL9 cy o (if kAS S (xs (i6 + 1)) (xs (i6 + 2)) (xs (i6 + 3)) (chr9 (xs (i6 + 4))) = 0 then vp_updL f 0 ((nI (rN S 44 0)).toInt64) else f), cD9 cy od g])) pm_AB ?_
  refine V.aload_n X dL_law_457 rfl ?_
  refine V.arg (j := 1) X hSc rfl rfl (by omega) hLn rfl dL_law_458 dL_law_459 dL_law_461 dL_law_462 dL_law_463 (pc9 := 464) rfl ?_
  refine V.arg (j := 2) X hSc rfl rfl (by omega) hLn rfl dL_law_464 dL_law_465 dL_law_467 dL_law_468 dL_law_469 (pc9 := 470) rfl ?_
  refine V.arg (j := 3) X hSc rfl rfl (by omega) hLn rfl dL_law_470 dL_law_471 dL_law_473 dL_law_474 dL_law_475 (pc9 := 476) rfl ?_
  refine V.arg (j := 4) X hSc rfl rfl (by omega) hLn rfl dL_law_476 dL_law_477 dL_law_479 dL_law_480 dL_law_481 (pc9 := 482) rfl ?_
  refine V.i2c (v := c2i (chr9 (xs (i6 + 4)))) X dL_law_482 (chr9_ok _) ?_
  refine V.arg (j := 5) X hSc rfl rfl (by omega) hLn rfl dL_law_483 dL_law_484 dL_law_486 dL_law_487 dL_law_488 (pc9 := 489) rfl ?_
  refine V.nz X dL_law_489 dL_law_492 dL_law_493 dL_law_496 (pc9 := 497) rfl ?_
  refine V.callV (C := "RunbookerModel") [.int (xs (i6 + 1)), .int (xs (i6 + 2)), .int (xs (i6 + 3)), .int (c2i (chr9 (xs (i6 + 4)))), .int (b2i (decide (xs (i6 + 5) ≠ 0)))] X (c_X6_addStep l D cy am S (wC ad cy T ++ [cL9 cy o (if kAS S (xs (i6 + 1)) (xs (i6 + 2)) (xs (i6 + 3)) (chr9 (xs (i6 + 4))) = 0 then vp_updL f 0 ((nI (rN S 44 0)).toInt64) else f), cD9 cy od g]) (xs (i6 + 1)) (xs (i6 + 2)) (xs (i6 + 3)) (chr9 (xs (i6 + 4))) (decide (xs (i6 + 5) ≠ 0)) hI) mv_X6_addStep gw_6_152 ⟨⟨(Nat.le_of_ble_eq_true rfl), (Nat.le_of_ble_eq_true rfl)⟩, (by show K + 8 + 0 ≤ 601024; omega), (by show N + 48 + 0 ≤ 7293034; omega)⟩ (q0 := 0) (ci := 8) rfl rfl rfl (Nat.le_of_ble_eq_true rfl) dL_law_497 (fun _ _ h9 => h9.elim) ?_
  rintro v9 u9 ⟨r9, rfl, hr9, rfl⟩
  refine V.istore (L' := [(7, .int (r9)), (6, .int (nI (kAS S (xs (i6 + 1)) (xs (i6 + 2)) (xs (i6 + 3)) (chr9 (xs (i6 + 4)))))), (5, .int (nI i6)), (0, .ref b), (1, .ref (ad 0)), (2, .ref (am 0)), (3, .ref o), (4, .ref od)]) X dL_law_500 hB9 (by decide) rfl ?_
  refine tailI (kx := kAS S (xs (i6 + 1)) (xs (i6 + 2)) (xs (i6 + 3)) (chr9 (xs (i6 + 4)))) (q0 := 60) (r9 := r9) (fo := (if kAS S (xs (i6 + 1)) (xs (i6 + 2)) (xs (i6 + 3)) (chr9 (xs (i6 + 4))) = 0 then vp_updL f 0 ((nI (rN S 44 0)).toInt64) else f)) X rfl rfl rfl rfl rfl (by omega) rfl (fun h0 => by rw [out0 h0, hr9 h0] <;> rfl) (Nat.le_of_ble_eq_true rfl) (Nat.le_of_ble_eq_true rfl) (by show K + 8 + 0 ≤ 601024; omega) (by show N + 48 + 0 ≤ 7293034; omega) dL_law_502 dL_law_503 dL_law_506 dL_law_508 dL_law_513 dL_law_515 dL_law_518 dL_law_519 dL_law_520 dL_law_521 dL_law_523 dL_law_524 dL_law_525 dL_law_530 (by decide) ?_
  refine V.pick [2, 3, 4, 5, 6, 7] rfl ?_
  refine LC.go next (S9 := (sN (bif Nat.beq (kAS S (xs (i6 + 1)) (xs (i6 + 2)) (xs (i6 + 3)) (chr9 (xs (i6 + 4)))) 0 then (sC (sAS S (xs (i6 + 1)) (xs (i6 + 2)) (xs (i6 + 3)) (chr9 (xs (i6 + 4))) (decide (xs (i6 + 5) ≠ 0))) 64 (up1 (rC S 64) (rN S 44 0) 111)) else S) 62 (fun _ => (kAS S (xs (i6 + 1)) (xs (i6 + 2)) (xs (i6 + 3)) (chr9 (xs (i6 + 4))))))) (wC_U hT0 hTx (wC_64 _ _ _ _)) rfl (hS.bif hk4 (fun hk => OK_AS (hS) hk)) (by show K + 8 + 0 ≤ K + 64; omega) (by show N + 48 + 0 ≤ N + 1024; omega)
set_option maxRecDepth 20000 in
set_option maxHeartbeats 4000000 in
theorem lc_3 (l : Launch) (D : va_G) (M : VM) (cy : Nat → ClassId) (ad am : Nat → Nat) (o od b Ln : Nat) (xs : Nat → Int32) (i6 c : Nat) (S : St) (K N : Nat) (f : Nat → Int64) (g : Nat → UInt64) (h : LC l D M cy ad am o od b Ln xs i6 c S K N) : V l D M K N (wC ad cy S ++ cL9 cy o f :: cD9 cy od g :: wM am cy S) (LL b (ad 0) (am 0) o od i6) 533 [] := by
  obtain ⟨X, hNc, hB9, hSc, hi, hLn, hS, hc, hK, hN, next⟩ := h
  have hI := hS.1
  have hR := hS.rm hc
  refine V.aload_n X dL_law_533 rfl ?_
  refine V.arg (j := 1) X hSc rfl rfl (by omega) hLn rfl dL_law_534 dL_law_535 dL_law_537 dL_law_538 dL_law_539 (pc9 := 540) rfl ?_
  refine V.arg (j := 2) X hSc rfl rfl (by omega) hLn rfl dL_law_540 dL_law_541 dL_law_543 dL_law_544 dL_law_545 (pc9 := 546) rfl ?_
  refine V.aload_n X dL_law_546 rfl ?_
  refine V.callSW [.ref (ad 0), .int (xs (i6 + 1)), .int (xs (i6 + 2)), .ref o] X hNc (c_L_need l D cy ad S o f (cD9 cy od g :: wM am cy S) (xs (i6 + 1)) (xs (i6 + 2)) hI) gw_2_235 gw_1_0 gw_2_236 (by show _ ≠ _ ∧ _ ≠ _ ∧ _ = some (4 : Nat); decide +kernel) gw_2_234 ⟨⟨(Nat.le_of_ble_eq_true rfl), (Nat.le_of_ble_eq_true rfl)⟩, (by show K + 8 ≤ 601024; omega), (by show N + 48 ≤ 7293034; omega)⟩ rfl (Nat.le_of_ble_eq_true rfl) dL_law_547 ?_
  rintro v9 u9 ⟨T, rfl, hT0, hTx, rfl⟩
  refine V.istore (L' := [(6, .int (nI (kND S (xs (i6 + 1)) (xs (i6 + 2))))), (5, .int (nI i6)), (0, .ref b), (1, .ref (ad 0)), (2, .ref (am 0)), (3, .ref o), (4, .ref od)]) X dL_law_550 hB9 (by decide) rfl ?_
  have hk4 : kND S (xs (i6 + 1)) (xs (i6 + 2)) < 1000000 := by unfold kND; (repeat' split) <;> decide
  refine V.perm (Wd' := wM am cy S ++ (wC ad cy T ++ [cL9 cy o (if kND S (xs (i6 + 1)) (xs (i6 + 2)) = 0 then vp_updL f 0 ((nI (popc (vND S (xs (i6 + 1)) (xs (i6 + 2))))).toInt64) else f), cD9 cy od g])) pm_AB ?_
  refine V.aload_n X dL_law_552 rfl ?_
  refine V.arg (j := 1) X hSc rfl rfl (by omega) hLn rfl dL_law_553 dL_law_554 dL_law_556 dL_law_557 dL_law_558 (pc9 := 559) rfl ?_
  refine V.arg (j := 2) X hSc rfl rfl (by omega) hLn rfl dL_law_559 dL_law_560 dL_law_562 dL_law_563 dL_law_564 (pc9 := 565) rfl ?_
  refine V.callV (C := "RunbookerModel") [.int (xs (i6 + 1)), .int (xs (i6 + 2))] X (c_X6_need l D cy am S (wC ad cy T ++ [cL9 cy o (if kND S (xs (i6 + 1)) (xs (i6 + 2)) = 0 then vp_updL f 0 ((nI (popc (vND S (xs (i6 + 1)) (xs (i6 + 2))))).toInt64) else f), cD9 cy od g]) (xs (i6 + 1)) (xs (i6 + 2)) hI) mv_X6_need gw_6_156 ⟨⟨(Nat.le_of_ble_eq_true rfl), (Nat.le_of_ble_eq_true rfl)⟩, (by show K + 8 + 0 ≤ 601024; omega), (by show N + 48 + 0 ≤ 7293034; omega)⟩ (q0 := 0) (ci := 8) rfl rfl rfl (Nat.le_of_ble_eq_true rfl) dL_law_565 (fun _ _ h9 => h9.elim) ?_
  rintro v9 u9 ⟨r9, rfl, hr9, rfl⟩
  refine V.istore (L' := [(7, .int (r9)), (6, .int (nI (kND S (xs (i6 + 1)) (xs (i6 + 2))))), (5, .int (nI i6)), (0, .ref b), (1, .ref (ad 0)), (2, .ref (am 0)), (3, .ref o), (4, .ref od)]) X dL_law_568 hB9 (by decide) rfl ?_
  refine tailI (kx := kND S (xs (i6 + 1)) (xs (i6 + 2))) (q0 := 60) (r9 := r9) (fo := (if kND S (xs (i6 + 1)) (xs (i6 + 2)) = 0 then vp_updL f 0 ((nI (popc (vND S (xs (i6 + 1)) (xs (i6 + 2))))).toInt64) else f)) X rfl rfl rfl rfl rfl (by omega) rfl (fun h0 => by rw [out0 h0, hr9 h0] <;> rfl) (Nat.le_of_ble_eq_true rfl) (Nat.le_of_ble_eq_true rfl) (by show K + 8 + 0 ≤ 601024; omega) (by show N + 48 + 0 ≤ 7293034; omega) dL_law_570 dL_law_571 dL_law_574 dL_law_576 dL_law_581 dL_law_583 dL_law_586 dL_law_587 dL_law_588 dL_law_589 dL_law_591 dL_law_592 dL_law_593 dL_law_598 (by decide) ?_
  refine V.pick [2, 3, 4, 5, 6, 7] rfl ?_
  refine LC.go next (S9 := (sN (bif Nat.beq (kND S (xs (i6 + 1)) (xs (i6 + 2))) 0 then (sND S (xs (i6 + 1)) (xs (i6 + 2))) else S) 62 (fun _ => (kND S (xs (i6 + 1)) (xs (i6 + 2)))))) (wC_U hT0 hTx rfl) rfl (hS.bif hk4 (fun hk => OK_ND (hS) hk)) (by show K + 8 + 0 ≤ K + 64; omega) (by show N + 48 + 0 ≤ N + 1024; omega)
set_option maxRecDepth 20000 in
set_option maxHeartbeats 4000000 in
theorem lc_4 (l : Launch) (D : va_G) (M : VM) (cy : Nat → ClassId) (ad am : Nat → Nat) (o od b Ln : Nat) (xs : Nat → Int32) (i6 c : Nat) (S : St) (K N : Nat) (f : Nat → Int64) (g : Nat → UInt64) (h : LC l D M cy ad am o od b Ln xs i6 c S K N) : V l D M K N (wC ad cy S ++ cL9 cy o f :: cD9 cy od g :: wM am cy S) (LL b (ad 0) (am 0) o od i6) 601 [] := by
  obtain ⟨X, hNc, hB9, hSc, hi, hLn, hS, hc, hK, hN, next⟩ := h
  have hI := hS.1
  have hR := hS.rm hc
  refine V.aload_n X dL_law_601 rfl ?_
  refine V.arg (j := 1) X hSc rfl rfl (by omega) hLn rfl dL_law_602 dL_law_603 dL_law_605 dL_law_606 dL_law_607 (pc9 := 608) rfl ?_
  refine V.arg (j := 2) X hSc rfl rfl (by omega) hLn rfl dL_law_608 dL_law_609 dL_law_611 dL_law_612 dL_law_613 (pc9 := 614) rfl ?_
  refine V.arg (j := 3) X hSc rfl rfl (by omega) hLn rfl dL_law_614 dL_law_615 dL_law_617 dL_law_618 dL_law_619 (pc9 := 620) rfl ?_
  refine V.i2c (v := c2i (chr9 (xs (i6 + 3)))) X dL_law_620 (chr9_ok _) ?_
  refine V.arg (j := 4) X hSc rfl rfl (by omega) hLn rfl dL_law_621 dL_law_622 dL_law_624 dL_law_625 dL_law_626 (pc9 := 627) rfl ?_
  refine V.aload_n X dL_law_627 rfl ?_
  refine V.callSW [.ref (ad 0), .int (xs (i6 + 1)), .int (xs (i6 + 2)), .int (c2i (chr9 (xs (i6 + 3)))), .int (xs (i6 + 4)), .ref o] X hNc (c_L_condition l D cy ad S o f (cD9 cy od g :: wM am cy S) (xs (i6 + 1)) (xs (i6 + 2)) (chr9 (xs (i6 + 3))) (xs (i6 + 4)) hI) gw_3_19 gw_1_0 gw_3_20 (by show _ ≠ _ ∧ _ ≠ _ ∧ _ = some (6 : Nat); decide +kernel) gw_3_18 ⟨⟨(Nat.le_of_ble_eq_true rfl), (Nat.le_of_ble_eq_true rfl)⟩, (by show K + 8 ≤ 601024; omega), (by show N + 48 ≤ 7293034; omega)⟩ rfl (Nat.le_of_ble_eq_true rfl) dL_law_628 ?_
  rintro v9 u9 ⟨T, rfl, hT0, hTx, rfl⟩
  refine V.istore (L' := [(6, .int (nI (kCD S (xs (i6 + 1)) (xs (i6 + 2)) (chr9 (xs (i6 + 3))) (xs (i6 + 4))))), (5, .int (nI i6)), (0, .ref b), (1, .ref (ad 0)), (2, .ref (am 0)), (3, .ref o), (4, .ref od)]) X dL_law_631 hB9 (by decide) rfl ?_
  have hk4 : kCD S (xs (i6 + 1)) (xs (i6 + 2)) (chr9 (xs (i6 + 3))) (xs (i6 + 4)) < 1000000 := by unfold kCD; (repeat' split) <;> decide
  refine V.perm (Wd' := wM am cy S ++ (wC ad cy T ++ [cL9 cy o (if kCD S (xs (i6 + 1)) (xs (i6 + 2)) (chr9 (xs (i6 + 3))) (xs (i6 + 4)) = 0 then vp_updL f 0 ((nI (rN S 17 (ix (xs (i6 + 1))) + 1)).toInt64) else f), cD9 cy od g])) pm_AB ?_
  refine V.aload_n X dL_law_633 rfl ?_
  refine V.arg (j := 1) X hSc rfl rfl (by omega) hLn rfl dL_law_634 dL_law_635 dL_law_637 dL_law_638 dL_law_639 (pc9 := 640) rfl ?_
  refine V.arg (j := 2) X hSc rfl rfl (by omega) hLn rfl dL_law_640 dL_law_641 dL_law_643 dL_law_644 dL_law_645 (pc9 := 646) rfl ?_
  refine V.arg (j := 3) X hSc rfl rfl (by omega) hLn rfl dL_law_646 dL_law_647 dL_law_649 dL_law_650 dL_law_651 (pc9 := 652) rfl ?_
  refine V.i2c (v := c2i (chr9 (xs (i6 + 3)))) X dL_law_652 (chr9_ok _) ?_
  refine V.arg (j := 4) X hSc rfl rfl (by omega) hLn rfl dL_law_653 dL_law_654 dL_law_656 dL_law_657 dL_law_658 (pc9 := 659) rfl ?_
  refine V.callV (C := "RunbookerModel") [.int (xs (i6 + 1)), .int (xs (i6 + 2)), .int (c2i (chr9 (xs (i6 + 3)))), .int (xs (i6 + 4))] X (c_X6_condition l D cy am S (wC ad cy T ++ [cL9 cy o (if kCD S (xs (i6 + 1)) (xs (i6 + 2)) (chr9 (xs (i6 + 3))) (xs (i6 + 4)) = 0 then vp_updL f 0 ((nI (rN S 17 (ix (xs (i6 + 1))) + 1)).toInt64) else f), cD9 cy od g]) (xs (i6 + 1)) (xs (i6 + 2)) (chr9 (xs (i6 + 3))) (xs (i6 + 4)) hI) mv_X6_condition gw_6_170 ⟨⟨(Nat.le_of_ble_eq_true rfl), (Nat.le_of_ble_eq_true rfl)⟩, (by show K + 8 + 0 ≤ 601024; omega), (by show N + 48 + 0 ≤ 7293034; omega)⟩ (q0 := 0) (ci := 8) rfl rfl rfl (Nat.le_of_ble_eq_true rfl) dL_law_659 (fun _ _ h9 => h9.elim) ?_
  rintro v9 u9 ⟨r9, rfl, hr9, rfl⟩
  refine V.istore (L' := [(7, .int (r9)), (6, .int (nI (kCD S (xs (i6 + 1)) (xs (i6 + 2)) (chr9 (xs (i6 + 3))) (xs (i6 + 4))))), (5, .int (nI i6)), (0, .ref b), (1, .ref (ad 0)), (2, .ref (am 0)), (3, .ref o), (4, .ref od)]) X dL_law_662 hB9 (by decide) rfl ?_
  refine tailI (kx := kCD S (xs (i6 + 1)) (xs (i6 + 2)) (chr9 (xs (i6 + 3))) (xs (i6 + 4))) (q0 := 60) (r9 := r9) (fo := (if kCD S (xs (i6 + 1)) (xs (i6 + 2)) (chr9 (xs (i6 + 3))) (xs (i6 + 4)) = 0 then vp_updL f 0 ((nI (rN S 17 (ix (xs (i6 + 1))) + 1)).toInt64) else f)) X rfl rfl rfl rfl rfl (by omega) rfl (fun h0 => by rw [out0 h0, hr9 h0] <;> rfl) (Nat.le_of_ble_eq_true rfl) (Nat.le_of_ble_eq_true rfl) (by show K + 8 + 0 ≤ 601024; omega) (by show N + 48 + 0 ≤ 7293034; omega) dL_law_664 dL_law_665 dL_law_668 dL_law_670 dL_law_675 dL_law_677 dL_law_680 dL_law_681 dL_law_682 dL_law_683 dL_law_685 dL_law_686 dL_law_687 dL_law_692 (by decide) ?_
  refine V.pick [2, 3, 4, 5, 6, 7] rfl ?_
  refine LC.go next (S9 := (sN (bif Nat.beq (kCD S (xs (i6 + 1)) (xs (i6 + 2)) (chr9 (xs (i6 + 3))) (xs (i6 + 4))) 0 then (sCD S (xs (i6 + 1)) (xs (i6 + 2)) (chr9 (xs (i6 + 3))) (xs (i6 + 4))) else S) 62 (fun _ => (kCD S (xs (i6 + 1)) (xs (i6 + 2)) (chr9 (xs (i6 + 3))) (xs (i6 + 4)))))) (wC_U hT0 hTx rfl) rfl (hS.bif hk4 (fun hk => OK_CD (hS) hk)) (by show K + 8 + 0 ≤ K + 64; omega) (by show N + 48 + 0 ≤ N + 1024; omega)
set_option maxRecDepth 20000 in
set_option maxHeartbeats 4000000 in
theorem lc_5 (l : Launch) (D : va_G) (M : VM) (cy : Nat → ClassId) (ad am : Nat → Nat) (o od b Ln : Nat) (xs : Nat → Int32) (i6 c : Nat) (S : St) (K N : Nat) (f : Nat → Int64) (g : Nat → UInt64) (h : LC l D M cy ad am o od b Ln xs i6 c S K N) : V l D M K N (wC ad cy S ++ cL9 cy o f :: cD9 cy od g :: wM am cy S) (LL b (ad 0) (am 0) o od i6) 695 [] := by
  obtain ⟨X, hNc, hB9, hSc, hi, hLn, hS, hc, hK, hN, next⟩ := h
  have hI := hS.1
  have hR := hS.rm hc
  refine V.aload_n X dL_law_695 rfl ?_
  refine V.arg (j := 1) X hSc rfl rfl (by omega) hLn rfl dL_law_696 dL_law_697 dL_law_699 dL_law_700 dL_law_701 (pc9 := 702) rfl ?_
  refine V.arg (j := 2) X hSc rfl rfl (by omega) hLn rfl dL_law_702 dL_law_703 dL_law_705 dL_law_706 dL_law_707 (pc9 := 708) rfl ?_
  refine V.aload_n X dL_law_708 rfl ?_
  refine V.callSW [.ref (ad 0), .int (xs (i6 + 1)), .int (xs (i6 + 2)), .ref o] X hNc (c_L_setFallback l D cy ad S o f (cD9 cy od g :: wM am cy S) (xs (i6 + 1)) (xs (i6 + 2)) hI) gw_3_36 gw_1_0 gw_3_37 (by show _ ≠ _ ∧ _ ≠ _ ∧ _ = some (4 : Nat); decide +kernel) gw_3_35 ⟨⟨(Nat.le_of_ble_eq_true rfl), (Nat.le_of_ble_eq_true rfl)⟩, (by show K + 8 ≤ 601024; omega), (by show N + 48 ≤ 7293034; omega)⟩ rfl (Nat.le_of_ble_eq_true rfl) dL_law_709 ?_
  rintro v9 u9 ⟨T, rfl, hT0, hTx, rfl⟩
  refine V.istore (L' := [(6, .int (nI (kSF S (xs (i6 + 1)) (xs (i6 + 2))))), (5, .int (nI i6)), (0, .ref b), (1, .ref (ad 0)), (2, .ref (am 0)), (3, .ref o), (4, .ref od)]) X dL_law_712 hB9 (by decide) rfl ?_
  have hk4 : kSF S (xs (i6 + 1)) (xs (i6 + 2)) < 1000000 := by unfold kSF; (repeat' split) <;> decide
  refine V.perm (Wd' := wM am cy S ++ (wC ad cy T ++ [cL9 cy o (if kSF S (xs (i6 + 1)) (xs (i6 + 2)) = 0 then vp_updL f 0 ((o2i (rO S 16 (ix (xs (i6 + 1))))).toInt64) else f), cD9 cy od g])) pm_AB ?_
  refine V.aload_n X dL_law_714 rfl ?_
  refine V.arg (j := 1) X hSc rfl rfl (by omega) hLn rfl dL_law_715 dL_law_716 dL_law_718 dL_law_719 dL_law_720 (pc9 := 721) rfl ?_
  refine V.arg (j := 2) X hSc rfl rfl (by omega) hLn rfl dL_law_721 dL_law_722 dL_law_724 dL_law_725 dL_law_726 (pc9 := 727) rfl ?_
  refine V.callV (C := "RunbookerModel") [.int (xs (i6 + 1)), .int (xs (i6 + 2))] X (c_X6_setFallback l D cy am S (wC ad cy T ++ [cL9 cy o (if kSF S (xs (i6 + 1)) (xs (i6 + 2)) = 0 then vp_updL f 0 ((o2i (rO S 16 (ix (xs (i6 + 1))))).toInt64) else f), cD9 cy od g]) (xs (i6 + 1)) (xs (i6 + 2)) hI) mv_X6_setFallback gw_6_174 ⟨⟨(Nat.le_of_ble_eq_true rfl), (Nat.le_of_ble_eq_true rfl)⟩, (by show K + 8 + 0 ≤ 601024; omega), (by show N + 48 + 0 ≤ 7293034; omega)⟩ (q0 := 0) (ci := 8) rfl rfl rfl (Nat.le_of_ble_eq_true rfl) dL_law_727 (fun _ _ h9 => h9.elim) ?_
  rintro v9 u9 ⟨r9, rfl, hr9, rfl⟩
  refine V.istore (L' := [(7, .int (r9)), (6, .int (nI (kSF S (xs (i6 + 1)) (xs (i6 + 2))))), (5, .int (nI i6)), (0, .ref b), (1, .ref (ad 0)), (2, .ref (am 0)), (3, .ref o), (4, .ref od)]) X dL_law_730 hB9 (by decide) rfl ?_
  refine tailI (kx := kSF S (xs (i6 + 1)) (xs (i6 + 2))) (q0 := 60) (r9 := r9) (fo := (if kSF S (xs (i6 + 1)) (xs (i6 + 2)) = 0 then vp_updL f 0 ((o2i (rO S 16 (ix (xs (i6 + 1))))).toInt64) else f)) X rfl rfl rfl rfl rfl (by omega) rfl (fun h0 => by rw [out0 h0, hr9 h0] <;> rfl) (Nat.le_of_ble_eq_true rfl) (Nat.le_of_ble_eq_true rfl) (by show K + 8 + 0 ≤ 601024; omega) (by show N + 48 + 0 ≤ 7293034; omega) dL_law_732 dL_law_733 dL_law_736 dL_law_738 dL_law_743 dL_law_745 dL_law_748 dL_law_749 dL_law_750 dL_law_751 dL_law_753 dL_law_754 dL_law_755 dL_law_760 (by decide) ?_
  refine V.pick [2, 3, 4, 5, 6, 7] rfl ?_
  refine LC.go next (S9 := (sN (bif Nat.beq (kSF S (xs (i6 + 1)) (xs (i6 + 2))) 0 then (sSF S (xs (i6 + 1)) (xs (i6 + 2))) else S) 62 (fun _ => (kSF S (xs (i6 + 1)) (xs (i6 + 2)))))) (wC_U hT0 hTx rfl) rfl (hS.bif hk4 (fun hk => OK_SF (hS) hk)) (by show K + 8 + 0 ≤ K + 64; omega) (by show N + 48 + 0 ≤ N + 1024; omega)
set_option maxRecDepth 20000 in
set_option maxHeartbeats 4000000 in
theorem lc_6 (l : Launch) (D : va_G) (M : VM) (cy : Nat → ClassId) (ad am : Nat → Nat) (o od b Ln : Nat) (xs : Nat → Int32) (i6 c : Nat) (S : St) (K N : Nat) (f : Nat → Int64) (g : Nat → UInt64) (h : LC l D M cy ad am o od b Ln xs i6 c S K N) : V l D M K N (wC ad cy S ++ cL9 cy o f :: cD9 cy od g :: wM am cy S) (LL b (ad 0) (am 0) o od i6) 763 [] := by
  obtain ⟨X, hNc, hB9, hSc, hi, hLn, hS, hc, hK, hN, next⟩ := h
  have hI := hS.1
  have hR := hS.rm hc
  refine V.aload_n X dL_law_763 rfl ?_
  refine V.arg (j := 1) X hSc rfl rfl (by omega) hLn rfl dL_law_764 dL_law_765 dL_law_767 dL_law_768 dL_law_769 (pc9 := 770) rfl ?_
  refine V.arg (j := 2) X hSc rfl rfl (by omega) hLn rfl dL_law_770 dL_law_771 dL_law_773 dL_law_774 dL_law_775 (pc9 := 776) rfl ?_
  refine V.aload_n X dL_law_776 rfl ?_
  refine V.callSW [.ref (ad 0), .int (xs (i6 + 1)), .int (xs (i6 + 2)), .ref o] X hNc (c_L_setReading l D cy ad S o f (cD9 cy od g :: wM am cy S) (xs (i6 + 1)) (xs (i6 + 2)) hI) gw_3_48 gw_1_0 gw_3_49 (by show _ ≠ _ ∧ _ ≠ _ ∧ _ = some (4 : Nat); decide +kernel) gw_3_47 ⟨⟨(Nat.le_of_ble_eq_true rfl), (Nat.le_of_ble_eq_true rfl)⟩, (by show K + 8 ≤ 601024; omega), (by show N + 48 ≤ 7293034; omega)⟩ rfl (Nat.le_of_ble_eq_true rfl) dL_law_777 ?_
  rintro v9 u9 ⟨T, rfl, hT0, hTx, rfl⟩
  refine V.istore (L' := [(6, .int (nI (kSR (xs (i6 + 1)) (xs (i6 + 2))))), (5, .int (nI i6)), (0, .ref b), (1, .ref (ad 0)), (2, .ref (am 0)), (3, .ref o), (4, .ref od)]) X dL_law_780 hB9 (by decide) rfl ?_
  have hk4 : kSR (xs (i6 + 1)) (xs (i6 + 2)) < 1000000 := by unfold kSR; (repeat' split) <;> decide
  refine V.perm (Wd' := wM am cy S ++ (wC ad cy T ++ [cL9 cy o (if kSR (xs (i6 + 1)) (xs (i6 + 2)) = 0 then vp_updL f 0 ((rI S 6 (ix (xs (i6 + 1)))).toInt64) else f), cD9 cy od g])) pm_AB ?_
  refine V.aload_n X dL_law_782 rfl ?_
  refine V.arg (j := 1) X hSc rfl rfl (by omega) hLn rfl dL_law_783 dL_law_784 dL_law_786 dL_law_787 dL_law_788 (pc9 := 789) rfl ?_
  refine V.arg (j := 2) X hSc rfl rfl (by omega) hLn rfl dL_law_789 dL_law_790 dL_law_792 dL_law_793 dL_law_794 (pc9 := 795) rfl ?_
  refine V.callV (C := "RunbookerModel") [.int (xs (i6 + 1)), .int (xs (i6 + 2))] X (c_X6_setReading l D cy am S (wC ad cy T ++ [cL9 cy o (if kSR (xs (i6 + 1)) (xs (i6 + 2)) = 0 then vp_updL f 0 ((rI S 6 (ix (xs (i6 + 1)))).toInt64) else f), cD9 cy od g]) (xs (i6 + 1)) (xs (i6 + 2)) hI) mv_X6_setReading gw_6_182 ⟨⟨(Nat.le_of_ble_eq_true rfl), (Nat.le_of_ble_eq_true rfl)⟩, (by show K + 8 + 0 ≤ 601024; omega), (by show N + 48 + 0 ≤ 7293034; omega)⟩ (q0 := 0) (ci := 8) rfl rfl rfl (Nat.le_of_ble_eq_true rfl) dL_law_795 (fun _ _ h9 => h9.elim) ?_
  rintro v9 u9 ⟨r9, rfl, hr9, rfl⟩
  refine V.istore (L' := [(7, .int (r9)), (6, .int (nI (kSR (xs (i6 + 1)) (xs (i6 + 2))))), (5, .int (nI i6)), (0, .ref b), (1, .ref (ad 0)), (2, .ref (am 0)), (3, .ref o), (4, .ref od)]) X dL_law_798 hB9 (by decide) rfl ?_
  refine tailI (kx := kSR (xs (i6 + 1)) (xs (i6 + 2))) (q0 := 60) (r9 := r9) (fo := (if kSR (xs (i6 + 1)) (xs (i6 + 2)) = 0 then vp_updL f 0 ((rI S 6 (ix (xs (i6 + 1)))).toInt64) else f)) X rfl rfl rfl rfl rfl (by omega) rfl (fun h0 => by rw [out0 h0, hr9 h0] <;> rfl) (Nat.le_of_ble_eq_true rfl) (Nat.le_of_ble_eq_true rfl) (by show K + 8 + 0 ≤ 601024; omega) (by show N + 48 + 0 ≤ 7293034; omega) dL_law_800 dL_law_801 dL_law_804 dL_law_806 dL_law_811 dL_law_813 dL_law_816 dL_law_817 dL_law_818 dL_law_819 dL_law_821 dL_law_822 dL_law_823 dL_law_828 (by decide) ?_
  refine V.pick [2, 3, 4, 5, 6, 7] rfl ?_
  refine LC.go next (S9 := (sN (bif Nat.beq (kSR (xs (i6 + 1)) (xs (i6 + 2))) 0 then (sSR S (xs (i6 + 1)) (xs (i6 + 2))) else S) 62 (fun _ => (kSR (xs (i6 + 1)) (xs (i6 + 2)))))) (wC_U hT0 hTx rfl) rfl (hS.bif hk4 (fun hk => OK_SR (hS))) (by show K + 8 + 0 ≤ K + 64; omega) (by show N + 48 + 0 ≤ N + 1024; omega)
set_option maxRecDepth 20000 in
set_option maxHeartbeats 4000000 in
theorem lc_7 (l : Launch) (D : va_G) (M : VM) (cy : Nat → ClassId) (ad am : Nat → Nat) (o od b Ln : Nat) (xs : Nat → Int32) (i6 c : Nat) (S : St) (K N : Nat) (f : Nat → Int64) (g : Nat → UInt64) (h : LC l D M cy ad am o od b Ln xs i6 c S K N) : V l D M K N (wC ad cy S ++ cL9 cy o f :: cD9 cy od g :: wM am cy S) (LL b (ad 0) (am 0) o od i6) 831 [] := by
  obtain ⟨X, hNc, hB9, hSc, hi, hLn, hS, hc, hK, hN, next⟩ := h
  have hI := hS.1
  have hR := hS.rm hc
  refine V.aload_n X dL_law_831 rfl ?_
  refine V.aload_n X dL_law_832 rfl ?_
  refine V.callSW [.ref (ad 0), .ref o] X hNc (c_L_start l D cy ad S o f (cD9 cy od g :: wM am cy S) hI) gw_3_56 gw_1_0 gw_3_57 (by show _ ≠ _ ∧ _ ≠ _ ∧ _ = some (2 : Nat); decide +kernel) gw_3_55 ⟨⟨(Nat.le_of_ble_eq_true rfl), (Nat.le_of_ble_eq_true rfl)⟩, (by show K + 8 ≤ 601024; omega), (by show N + 48 ≤ 7293034; omega)⟩ rfl (Nat.le_of_ble_eq_true rfl) dL_law_833 ?_
  rintro v9 u9 ⟨T, rfl, hT0, hTx, rfl⟩
  refine V.istore (L' := [(6, .int (nI (kST S))), (5, .int (nI i6)), (0, .ref b), (1, .ref (ad 0)), (2, .ref (am 0)), (3, .ref o), (4, .ref od)]) X dL_law_836 hB9 (by decide) rfl ?_
  have hk4 : kST S < 1000000 := by unfold kST; (repeat' split) <;> decide
  refine V.perm (Wd' := wM am cy S ++ (wC ad cy T ++ [cL9 cy o (if kST S = 0 then vp_updL f 0 ((nI (cntR (sST S))).toInt64) else f), cD9 cy od g])) pm_AB ?_
  refine V.aload_n X dL_law_838 rfl ?_
  refine V.callV (C := "RunbookerModel") [] X (c_X6_start l D cy am S (wC ad cy T ++ [cL9 cy o (if kST S = 0 then vp_updL f 0 ((nI (cntR (sST S))).toInt64) else f), cD9 cy od g]) hI) mv_X6_start gw_6_189 ⟨⟨(Nat.le_of_ble_eq_true rfl), (Nat.le_of_ble_eq_true rfl)⟩, (by show K + 8 + 0 ≤ 601024; omega), (by show N + 48 + 0 ≤ 7293034; omega)⟩ (q0 := 0) (ci := 8) rfl rfl rfl (Nat.le_of_ble_eq_true rfl) dL_law_839 (fun _ _ h9 => h9.elim) ?_
  rintro v9 u9 ⟨r9, rfl, hr9, rfl⟩
  refine V.istore (L' := [(7, .int (r9)), (6, .int (nI (kST S))), (5, .int (nI i6)), (0, .ref b), (1, .ref (ad 0)), (2, .ref (am 0)), (3, .ref o), (4, .ref od)]) X dL_law_842 hB9 (by decide) rfl ?_
  refine tailI (kx := kST S) (q0 := 60) (r9 := r9) (fo := (if kST S = 0 then vp_updL f 0 ((nI (cntR (sST S))).toInt64) else f)) X rfl rfl rfl rfl rfl (by omega) rfl (fun h0 => by rw [out0 h0, hr9 h0] <;> rfl) (Nat.le_of_ble_eq_true rfl) (Nat.le_of_ble_eq_true rfl) (by show K + 8 + 0 ≤ 601024; omega) (by show N + 48 + 0 ≤ 7293034; omega) dL_law_844 dL_law_845 dL_law_848 dL_law_850 dL_law_855 dL_law_857 dL_law_860 dL_law_861 dL_law_862 dL_law_863 dL_law_865 dL_law_866 dL_law_867 dL_law_872 (by decide) ?_
  refine V.pick [2, 3, 4, 5, 6, 7] rfl ?_
  refine LC.go next (S9 := (sN (bif Nat.beq (kST S) 0 then (sC (sB (sST S) 61 (fun _ => true)) 64 (low9 (rst22 S) (rC S 64) (rN S 44 0))) else S) 62 (fun _ => (kST S)))) (wC_U hT0 hTx ((wC_61 _ _ _ _).trans (wC_64 _ _ _ _))) rfl (hS.bif hk4 (fun hk => OK_ST (hS) hk)) (by show K + 8 + 0 ≤ K + 64; omega) (by show N + 48 + 0 ≤ N + 1024; omega)
set_option maxRecDepth 20000 in
set_option maxHeartbeats 4000000 in
theorem lc_8 (l : Launch) (D : va_G) (M : VM) (cy : Nat → ClassId) (ad am : Nat → Nat) (o od b Ln : Nat) (xs : Nat → Int32) (i6 c : Nat) (S : St) (K N : Nat) (f : Nat → Int64) (g : Nat → UInt64) (h : LC l D M cy ad am o od b Ln xs i6 c S K N) : V l D M K N (wC ad cy S ++ cL9 cy o f :: cD9 cy od g :: wM am cy S) (LL b (ad 0) (am 0) o od i6) 875 [] := by
  obtain ⟨X, hNc, hB9, hSc, hi, hLn, hS, hc, hK, hN, next⟩ := h
  have hI := hS.1
  have hR := hS.rm hc
  refine V.aload_n X dL_law_875 rfl ?_
  refine V.aload_n X dL_law_876 rfl ?_
  refine V.callSW [.ref (ad 0), .ref o] X hNc (c_L_close l D cy ad S o f (cD9 cy od g :: wM am cy S) hI) gw_3_69 gw_1_0 gw_3_70 (by show _ ≠ _ ∧ _ ≠ _ ∧ _ = some (2 : Nat); decide +kernel) gw_3_68 ⟨⟨(Nat.le_of_ble_eq_true rfl), (Nat.le_of_ble_eq_true rfl)⟩, (by show K + 8 ≤ 601024; omega), (by show N + 48 ≤ 7293034; omega)⟩ rfl (Nat.le_of_ble_eq_true rfl) dL_law_877 ?_
  rintro v9 u9 ⟨T, rfl, hT0, hTx, rfl⟩
  refine V.istore (L' := [(6, .int (nI (kCL S))), (5, .int (nI i6)), (0, .ref b), (1, .ref (ad 0)), (2, .ref (am 0)), (3, .ref o), (4, .ref od)]) X dL_law_880 hB9 (by decide) rfl ?_
  have hk4 : kCL S < 1000000 := by unfold kCL; (repeat' split) <;> decide
  refine V.perm (Wd' := wM am cy S ++ (wC ad cy T ++ [cL9 cy o (if kCL S = 0 then vp_updL f 0 ((nI (rN S 45 0)).toInt64) else f), cD9 cy od g])) pm_AB ?_
  refine V.aload_n X dL_law_882 rfl ?_
  refine V.callV (C := "RunbookerModel") [] X (c_X6_close l D cy am S (wC ad cy T ++ [cL9 cy o (if kCL S = 0 then vp_updL f 0 ((nI (rN S 45 0)).toInt64) else f), cD9 cy od g]) hI) mv_X6_close gw_6_217 ⟨⟨(Nat.le_of_ble_eq_true rfl), (Nat.le_of_ble_eq_true rfl)⟩, (by show K + 8 + 0 ≤ 601024; omega), (by show N + 48 + 0 ≤ 7293034; omega)⟩ (q0 := 0) (ci := 8) rfl rfl rfl (Nat.le_of_ble_eq_true rfl) dL_law_883 (fun _ _ h9 => h9.elim) ?_
  rintro v9 u9 ⟨r9, rfl, hr9, rfl⟩
  refine V.istore (L' := [(7, .int (r9)), (6, .int (nI (kCL S))), (5, .int (nI i6)), (0, .ref b), (1, .ref (ad 0)), (2, .ref (am 0)), (3, .ref o), (4, .ref od)]) X dL_law_886 hB9 (by decide) rfl ?_
  refine tailI (kx := kCL S) (q0 := 60) (r9 := r9) (fo := (if kCL S = 0 then vp_updL f 0 ((nI (rN S 45 0)).toInt64) else f)) X rfl rfl rfl rfl rfl (by omega) rfl (fun h0 => by rw [out0 h0, hr9 h0] <;> rfl) (Nat.le_of_ble_eq_true rfl) (Nat.le_of_ble_eq_true rfl) (by show K + 8 + 0 ≤ 601024; omega) (by show N + 48 + 0 ≤ 7293034; omega) dL_law_888 dL_law_889 dL_law_892 dL_law_894 dL_law_899 dL_law_901 dL_law_904 dL_law_905 dL_law_906 dL_law_907 dL_law_909 dL_law_910 dL_law_911 dL_law_916 (by decide) ?_
  refine V.pick [2, 3, 4, 5, 6, 7] rfl ?_
  refine LC.go next (S9 := (sN (bif Nat.beq (kCL S) 0 then (sB S 41 (fun _ => false)) else S) 62 (fun _ => (kCL S)))) (wC_U hT0 hTx rfl) rfl (hS.bif hk4 (fun hk => OK_CL (hS) hk)) (by show K + 8 + 0 ≤ K + 64; omega) (by show N + 48 + 0 ≤ N + 1024; omega)
set_option maxRecDepth 20000 in
set_option maxHeartbeats 4000000 in
theorem lc_9 (l : Launch) (D : va_G) (M : VM) (cy : Nat → ClassId) (ad am : Nat → Nat) (o od b Ln : Nat) (xs : Nat → Int32) (i6 c : Nat) (S : St) (K N : Nat) (f : Nat → Int64) (g : Nat → UInt64) (h : LC l D M cy ad am o od b Ln xs i6 c S K N) : V l D M K N (wC ad cy S ++ cL9 cy o f :: cD9 cy od g :: wM am cy S) (LL b (ad 0) (am 0) o od i6) 919 [] := by
  obtain ⟨X, hNc, hB9, hSc, hi, hLn, hS, hc, hK, hN, next⟩ := h
  have hI := hS.1
  have hR := hS.rm hc
  refine V.aload_n X dL_law_919 rfl ?_
  refine V.arg (j := 1) X hSc rfl rfl (by omega) hLn rfl dL_law_920 dL_law_921 dL_law_923 dL_law_924 dL_law_925 (pc9 := 926) rfl ?_
  refine V.arg (j := 2) X hSc rfl rfl (by omega) hLn rfl dL_law_926 dL_law_927 dL_law_929 dL_law_930 dL_law_931 (pc9 := 932) rfl ?_
  refine V.aload_n X dL_law_932 rfl ?_
  refine V.callSW [.ref (ad 0), .int (xs (i6 + 1)), .int (xs (i6 + 2)), .ref o] X hNc (c_L_begin l D cy ad S o f (cD9 cy od g :: wM am cy S) (xs (i6 + 1)) (xs (i6 + 2)) hI hR) gw_3_86 gw_1_0 gw_3_87 (by show _ ≠ _ ∧ _ ≠ _ ∧ _ = some (4 : Nat); decide +kernel) gw_3_85 ⟨⟨(Nat.le_of_ble_eq_true rfl), (Nat.le_of_ble_eq_true rfl)⟩, (by show K + 8 ≤ 601024; omega), (by show N + 48 ≤ 7293034; omega)⟩ rfl (Nat.le_of_ble_eq_true rfl) dL_law_933 ?_
  rintro v9 u9 ⟨T, rfl, hT0, hTx, rfl⟩
  refine V.istore (L' := [(6, .int (nI (kBG S (xs (i6 + 1)) (xs (i6 + 2))))), (5, .int (nI i6)), (0, .ref b), (1, .ref (ad 0)), (2, .ref (am 0)), (3, .ref o), (4, .ref od)]) X dL_law_936 hB9 (by decide) rfl ?_
  have hk4 : kBG S (xs (i6 + 1)) (xs (i6 + 2)) < 1000000 := by unfold kBG; (repeat' split) <;> decide
  refine V.perm (Wd' := wM am cy S ++ (wC ad cy T ++ [cL9 cy o (if kBG S (xs (i6 + 1)) (xs (i6 + 2)) = 0 then vp_updL f 0 ((nI (rN S 40 0 + 2 * rN S 11 (ix (xs (i6 + 2))))).toInt64) else f), cD9 cy od g])) pm_AB ?_
  refine V.aload_n X dL_law_938 rfl ?_
  refine V.arg (j := 1) X hSc rfl rfl (by omega) hLn rfl dL_law_939 dL_law_940 dL_law_942 dL_law_943 dL_law_944 (pc9 := 945) rfl ?_
  refine V.arg (j := 2) X hSc rfl rfl (by omega) hLn rfl dL_law_945 dL_law_946 dL_law_948 dL_law_949 dL_law_950 (pc9 := 951) rfl ?_
  refine V.callV (C := "RunbookerModel") [.int (xs (i6 + 1)), .int (xs (i6 + 2))] X (c_X6_begin l D cy am S (wC ad cy T ++ [cL9 cy o (if kBG S (xs (i6 + 1)) (xs (i6 + 2)) = 0 then vp_updL f 0 ((nI (rN S 40 0 + 2 * rN S 11 (ix (xs (i6 + 2))))).toInt64) else f), cD9 cy od g]) (xs (i6 + 1)) (xs (i6 + 2)) hI hR) mv_X6_begin gw_6_225 ⟨⟨(Nat.le_of_ble_eq_true rfl), (Nat.le_of_ble_eq_true rfl)⟩, (by show K + 8 + 0 ≤ 601024; omega), (by show N + 48 + 0 ≤ 7293034; omega)⟩ (q0 := 0) (ci := 8) rfl rfl rfl (Nat.le_of_ble_eq_true rfl) dL_law_951 (fun _ _ h9 => h9.elim) ?_
  rintro v9 u9 ⟨r9, rfl, hr9, rfl⟩
  refine V.istore (L' := [(7, .int (r9)), (6, .int (nI (kBG S (xs (i6 + 1)) (xs (i6 + 2))))), (5, .int (nI i6)), (0, .ref b), (1, .ref (ad 0)), (2, .ref (am 0)), (3, .ref o), (4, .ref od)]) X dL_law_954 hB9 (by decide) rfl ?_
  refine tailI (kx := kBG S (xs (i6 + 1)) (xs (i6 + 2))) (q0 := 60) (r9 := r9) (fo := (if kBG S (xs (i6 + 1)) (xs (i6 + 2)) = 0 then vp_updL f 0 ((nI (rN S 40 0 + 2 * rN S 11 (ix (xs (i6 + 2))))).toInt64) else f)) X rfl rfl rfl rfl rfl (by omega) rfl (fun h0 => by rw [out0 h0, hr9 h0] <;> rfl) (Nat.le_of_ble_eq_true rfl) (Nat.le_of_ble_eq_true rfl) (by show K + 8 + 0 ≤ 601024; omega) (by show N + 48 + 0 ≤ 7293034; omega) dL_law_956 dL_law_957 dL_law_960 dL_law_962 dL_law_967 dL_law_969 dL_law_972 dL_law_973 dL_law_974 dL_law_975 dL_law_977 dL_law_978 dL_law_979 dL_law_984 (by decide) ?_
  refine V.pick [2, 3, 4, 5, 6, 7] rfl ?_
  refine LC.go next (S9 := (sN (bif Nat.beq (kBG S (xs (i6 + 1)) (xs (i6 + 2))) 0 then (sC (sO (sBG S (xs (i6 + 1)) (xs (i6 + 2))) 60 (up1 (rO S 60) (ix (xs (i6 + 2))) (some (ix (xs (i6 + 1)))))) 64 (up1 (rC S 64) (ix (xs (i6 + 2))) 97)) else S) 62 (fun _ => (kBG S (xs (i6 + 1)) (xs (i6 + 2)))))) (wC_U hT0 hTx ((wC_60 _ _ _ _).trans (wC_64 _ _ _ _))) rfl (hS.bif hk4 (fun hk => OK_BG (hS) hR hk)) (by show K + 8 + 0 ≤ K + 64; omega) (by show N + 48 + 0 ≤ N + 1024; omega)
set_option maxRecDepth 20000 in
set_option maxHeartbeats 4000000 in
theorem lc_10 (l : Launch) (D : va_G) (M : VM) (cy : Nat → ClassId) (ad am : Nat → Nat) (o od b Ln : Nat) (xs : Nat → Int32) (i6 c : Nat) (S : St) (K N : Nat) (f : Nat → Int64) (g : Nat → UInt64) (h : LC l D M cy ad am o od b Ln xs i6 c S K N) : V l D M K N (wC ad cy S ++ cL9 cy o f :: cD9 cy od g :: wM am cy S) (LL b (ad 0) (am 0) o od i6) 987 [] := by
  obtain ⟨X, hNc, hB9, hSc, hi, hLn, hS, hc, hK, hN, next⟩ := h
  have hI := hS.1
  have hR := hS.rm hc
  refine V.aload_n X dL_law_987 rfl ?_
  refine V.arg (j := 1) X hSc rfl rfl (by omega) hLn rfl dL_law_988 dL_law_989 dL_law_991 dL_law_992 dL_law_993 (pc9 := 994) rfl ?_
  refine V.arg (j := 2) X hSc rfl rfl (by omega) hLn rfl dL_law_994 dL_law_995 dL_law_997 dL_law_998 dL_law_999 (pc9 := 1000) rfl ?_
  refine V.nz X dL_law_1000 dL_law_1003 dL_law_1004 dL_law_1007 (pc9 := 1008) rfl ?_
  refine V.aload_n X dL_law_1008 rfl ?_
  refine V.callSW [.ref (ad 0), .int (xs (i6 + 1)), .int (b2i (decide (xs (i6 + 2) ≠ 0))), .ref o] X hNc (c_L_finish l D cy ad (sN S 62 (fun _ => 0)) o f (cD9 cy od g :: wM am cy S) (xs (i6 + 1)) (decide (xs (i6 + 2) ≠ 0)) (hI.s62 (fun _ => by decide)) hR) gw_3_135 gw_1_0 gw_3_136 (by show _ ≠ _ ∧ _ ≠ _ ∧ _ = some (4 : Nat); decide +kernel) gw_3_134 ⟨⟨(Nat.le_of_ble_eq_true rfl), (Nat.le_of_ble_eq_true rfl)⟩, (by show K + 8 ≤ 601024; omega), (by show N + 48 ≤ 7293034; omega)⟩ rfl (Nat.le_of_ble_eq_true rfl) dL_law_1009 ?_
  rintro v9 u9 ⟨T, rfl, hT0, hTx, rfl⟩
  refine V.istore (L' := [(6, .int (nI (kFN S (xs (i6 + 1))))), (5, .int (nI i6)), (0, .ref b), (1, .ref (ad 0)), (2, .ref (am 0)), (3, .ref o), (4, .ref od)]) X dL_law_1012 hB9 (by decide) rfl ?_
  have hk4 : kFN S (xs (i6 + 1)) < 1000000 := by unfold kFN; (repeat' split) <;> decide
  refine V.perm (Wd' := wM am cy S ++ (wC ad cy T ++ [cL9 cy o (if kFN S (xs (i6 + 1)) = 0 then vp_updL f 0 ((c2i (rC (sFN (sN S 62 (fun _ => 0)) (xs (i6 + 1)) (decide (xs (i6 + 2) ≠ 0))) 22 (wkOf (sN S 62 (fun _ => 0)) (xs (i6 + 1))))).toInt64) else f), cD9 cy od g])) pm_AB ?_
  refine V.aload_n X dL_law_1014 rfl ?_
  refine V.arg (j := 1) X hSc rfl rfl (by omega) hLn rfl dL_law_1015 dL_law_1016 dL_law_1018 dL_law_1019 dL_law_1020 (pc9 := 1021) rfl ?_
  refine V.arg (j := 2) X hSc rfl rfl (by omega) hLn rfl dL_law_1021 dL_law_1022 dL_law_1024 dL_law_1025 dL_law_1026 (pc9 := 1027) rfl ?_
  refine V.nz X dL_law_1027 dL_law_1030 dL_law_1031 dL_law_1034 (pc9 := 1035) rfl ?_
  refine V.callV (C := "RunbookerModel") [.int (xs (i6 + 1)), .int (b2i (decide (xs (i6 + 2) ≠ 0)))] X (c_X6_finish l D cy am S (wC ad cy T ++ [cL9 cy o (if kFN S (xs (i6 + 1)) = 0 then vp_updL f 0 ((c2i (rC (sFN (sN S 62 (fun _ => 0)) (xs (i6 + 1)) (decide (xs (i6 + 2) ≠ 0))) 22 (wkOf (sN S 62 (fun _ => 0)) (xs (i6 + 1))))).toInt64) else f), cD9 cy od g]) (xs (i6 + 1)) (decide (xs (i6 + 2) ≠ 0)) hI hR) mv_X6_finish gw_7_1 ⟨⟨(Nat.le_of_ble_eq_true rfl), (Nat.le_of_ble_eq_true rfl)⟩, (by show K + 8 + 0 ≤ 601024; omega), (by show N + 48 + 0 ≤ 7293034; omega)⟩ (q0 := 0) (ci := 8) rfl rfl rfl (Nat.le_of_ble_eq_true rfl) dL_law_1035 (fun _ _ h9 => h9.elim) ?_
  rintro v9 u9 ⟨r9, rfl, hr9, rfl⟩
  refine V.istore (L' := [(7, .int (r9)), (6, .int (nI (kFN S (xs (i6 + 1))))), (5, .int (nI i6)), (0, .ref b), (1, .ref (ad 0)), (2, .ref (am 0)), (3, .ref o), (4, .ref od)]) X dL_law_1038 hB9 (by decide) rfl ?_
  refine tailI (kx := kFN S (xs (i6 + 1))) (q0 := 60) (r9 := r9) (fo := (if kFN S (xs (i6 + 1)) = 0 then vp_updL f 0 ((c2i (rC (sFN (sN S 62 (fun _ => 0)) (xs (i6 + 1)) (decide (xs (i6 + 2) ≠ 0))) 22 (wkOf (sN S 62 (fun _ => 0)) (xs (i6 + 1))))).toInt64) else f)) X rfl rfl rfl rfl rfl (by omega) rfl (fun h0 => by rw [out0 h0, hr9 h0] <;> rfl) (Nat.le_of_ble_eq_true rfl) (Nat.le_of_ble_eq_true rfl) (by show K + 8 + 0 ≤ 601024; omega) (by show N + 48 + 0 ≤ 7293034; omega) dL_law_1040 dL_law_1041 dL_law_1044 dL_law_1046 dL_law_1051 dL_law_1053 dL_law_1056 dL_law_1057 dL_law_1058 dL_law_1059 dL_law_1061 dL_law_1062 dL_law_1063 dL_law_1068 (by decide) ?_
  refine V.pick [2, 3, 4, 5, 6, 7] rfl ?_
  refine LC.go next (S9 := (sN (bif Nat.beq (kFN S (xs (i6 + 1))) 0 then (sFX (sN S 62 (fun _ => 0)) (xs (i6 + 1)) (decide (xs (i6 + 2) ≠ 0))) else S) 62 (fun _ => (kFN S (xs (i6 + 1)))))) (wC_U0 hT0 hTx (wC_fn _ _ _ _ _)) rfl (hS.bif hk4 (fun hk => OK_FN (hS.n62 (by decide)) hR hk)) (by show K + 8 + 0 ≤ K + 64; omega) (by show N + 48 + 0 ≤ N + 1024; omega)
set_option maxRecDepth 20000 in
set_option maxHeartbeats 4000000 in
theorem lc_11 (l : Launch) (D : va_G) (M : VM) (cy : Nat → ClassId) (ad am : Nat → Nat) (o od b Ln : Nat) (xs : Nat → Int32) (i6 c : Nat) (S : St) (K N : Nat) (f : Nat → Int64) (g : Nat → UInt64) (h : LC l D M cy ad am o od b Ln xs i6 c S K N) : V l D M K N (wC ad cy S ++ cL9 cy o f :: cD9 cy od g :: wM am cy S) (LL b (ad 0) (am 0) o od i6) 1071 [] := by
  obtain ⟨X, hNc, hB9, hSc, hi, hLn, hS, hc, hK, hN, next⟩ := h
  have hI := hS.1
  have hR := hS.rm hc
  refine V.aload_n X dL_law_1071 rfl ?_
  refine V.arg (j := 1) X hSc rfl rfl (by omega) hLn rfl dL_law_1072 dL_law_1073 dL_law_1075 dL_law_1076 dL_law_1077 (pc9 := 1078) rfl ?_
  refine V.arg (j := 2) X hSc rfl rfl (by omega) hLn rfl dL_law_1078 dL_law_1079 dL_law_1081 dL_law_1082 dL_law_1083 (pc9 := 1084) rfl ?_
  refine V.aload_n X dL_law_1084 rfl ?_
  refine V.callSW [.ref (ad 0), .int (xs (i6 + 1)), .int (xs (i6 + 2)), .ref o] X hNc (c_L_handOver l D cy ad S o f (cD9 cy od g :: wM am cy S) (xs (i6 + 1)) (xs (i6 + 2)) hI hR) gw_3_164 gw_1_0 gw_3_165 (by show _ ≠ _ ∧ _ ≠ _ ∧ _ = some (4 : Nat); decide +kernel) gw_3_163 ⟨⟨(Nat.le_of_ble_eq_true rfl), (Nat.le_of_ble_eq_true rfl)⟩, (by show K + 8 ≤ 601024; omega), (by show N + 48 ≤ 7293034; omega)⟩ rfl (Nat.le_of_ble_eq_true rfl) dL_law_1085 ?_
  rintro v9 u9 ⟨T, rfl, hT0, hTx, rfl⟩
  refine V.istore (L' := [(6, .int (nI (kHO S (xs (i6 + 1)) (xs (i6 + 2))))), (5, .int (nI i6)), (0, .ref b), (1, .ref (ad 0)), (2, .ref (am 0)), (3, .ref o), (4, .ref od)]) X dL_law_1088 hB9 (by decide) rfl ?_
  have hk4 : kHO S (xs (i6 + 1)) (xs (i6 + 2)) < 1000000 := by unfold kHO; (repeat' split) <;> decide
  refine V.perm (Wd' := wM am cy S ++ (wC ad cy T ++ [cL9 cy o (if kHO S (xs (i6 + 1)) (xs (i6 + 2)) = 0 then vp_updL f 0 ((nI (rN S 40 0 + 10)).toInt64) else f), cD9 cy od g])) pm_AB ?_
  refine V.aload_n X dL_law_1090 rfl ?_
  refine V.arg (j := 1) X hSc rfl rfl (by omega) hLn rfl dL_law_1091 dL_law_1092 dL_law_1094 dL_law_1095 dL_law_1096 (pc9 := 1097) rfl ?_
  refine V.arg (j := 2) X hSc rfl rfl (by omega) hLn rfl dL_law_1097 dL_law_1098 dL_law_1100 dL_law_1101 dL_law_1102 (pc9 := 1103) rfl ?_
  refine V.callV (C := "RunbookerModel") [.int (xs (i6 + 1)), .int (xs (i6 + 2))] X (c_X6_handOver l D cy am S (wC ad cy T ++ [cL9 cy o (if kHO S (xs (i6 + 1)) (xs (i6 + 2)) = 0 then vp_updL f 0 ((nI (rN S 40 0 + 10)).toInt64) else f), cD9 cy od g]) (xs (i6 + 1)) (xs (i6 + 2)) hI hR) mv_X6_handOver gw_7_9 ⟨⟨(Nat.le_of_ble_eq_true rfl), (Nat.le_of_ble_eq_true rfl)⟩, (by show K + 8 + 0 ≤ 601024; omega), (by show N + 48 + 0 ≤ 7293034; omega)⟩ (q0 := 0) (ci := 8) rfl rfl rfl (Nat.le_of_ble_eq_true rfl) dL_law_1103 (fun _ _ h9 => h9.elim) ?_
  rintro v9 u9 ⟨r9, rfl, hr9, rfl⟩
  refine V.istore (L' := [(7, .int (r9)), (6, .int (nI (kHO S (xs (i6 + 1)) (xs (i6 + 2))))), (5, .int (nI i6)), (0, .ref b), (1, .ref (ad 0)), (2, .ref (am 0)), (3, .ref o), (4, .ref od)]) X dL_law_1106 hB9 (by decide) rfl ?_
  refine tailI (kx := kHO S (xs (i6 + 1)) (xs (i6 + 2))) (q0 := 60) (r9 := r9) (fo := (if kHO S (xs (i6 + 1)) (xs (i6 + 2)) = 0 then vp_updL f 0 ((nI (rN S 40 0 + 10)).toInt64) else f)) X rfl rfl rfl rfl rfl (by omega) rfl (fun h0 => by rw [out0 h0, hr9 h0] <;> rfl) (Nat.le_of_ble_eq_true rfl) (Nat.le_of_ble_eq_true rfl) (by show K + 8 + 0 ≤ 601024; omega) (by show N + 48 + 0 ≤ 7293034; omega) dL_law_1108 dL_law_1109 dL_law_1112 dL_law_1114 dL_law_1119 dL_law_1121 dL_law_1124 dL_law_1125 dL_law_1126 dL_law_1127 dL_law_1129 dL_law_1130 dL_law_1131 dL_law_1136 (by decide) ?_
  refine V.pick [2, 3, 4, 5, 6, 7] rfl ?_
  refine LC.go next (S9 := (sN (bif Nat.beq (kHO S (xs (i6 + 1)) (xs (i6 + 2))) 0 then (sHO S (xs (i6 + 1)) (xs (i6 + 2))) else S) 62 (fun _ => (kHO S (xs (i6 + 1)) (xs (i6 + 2)))))) (wC_U hT0 hTx rfl) rfl (hS.bif hk4 (fun hk => OK_HO (hS) hR hk)) (by show K + 8 + 0 ≤ K + 64; omega) (by show N + 48 + 0 ≤ N + 1024; omega)
set_option maxRecDepth 20000 in
set_option maxHeartbeats 4000000 in
theorem lc_12 (l : Launch) (D : va_G) (M : VM) (cy : Nat → ClassId) (ad am : Nat → Nat) (o od b Ln : Nat) (xs : Nat → Int32) (i6 c : Nat) (S : St) (K N : Nat) (f : Nat → Int64) (g : Nat → UInt64) (h : LC l D M cy ad am o od b Ln xs i6 c S K N) : V l D M K N (wC ad cy S ++ cL9 cy o f :: cD9 cy od g :: wM am cy S) (LL b (ad 0) (am 0) o od i6) 1139 [] := by
  obtain ⟨X, hNc, hB9, hSc, hi, hLn, hS, hc, hK, hN, next⟩ := h
  have hI := hS.1
  have hR := hS.rm hc
  refine V.aload_n X dL_law_1139 rfl ?_
  refine V.arg (j := 1) X hSc rfl rfl (by omega) hLn rfl dL_law_1140 dL_law_1141 dL_law_1143 dL_law_1144 dL_law_1145 (pc9 := 1146) rfl ?_
  refine V.aload_n X dL_law_1146 rfl ?_
  refine V.callSW [.ref (ad 0), .int (xs (i6 + 1)), .ref o] X hNc (c_L_undo l D cy ad (sN S 62 (fun _ => 0)) o f (cD9 cy od g :: wM am cy S) (xs (i6 + 1)) (hI.s62 (fun _ => by decide)) hR) gw_3_182 gw_1_0 gw_3_183 (by show _ ≠ _ ∧ _ ≠ _ ∧ _ = some (3 : Nat); decide +kernel) gw_3_181 ⟨⟨(Nat.le_of_ble_eq_true rfl), (Nat.le_of_ble_eq_true rfl)⟩, (by show K + 8 ≤ 601024; omega), (by show N + 48 ≤ 7293034; omega)⟩ rfl (Nat.le_of_ble_eq_true rfl) dL_law_1147 ?_
  rintro v9 u9 ⟨T, rfl, hT0, hTx, rfl⟩
  refine V.istore (L' := [(6, .int (nI (kUD S (xs (i6 + 1))))), (5, .int (nI i6)), (0, .ref b), (1, .ref (ad 0)), (2, .ref (am 0)), (3, .ref o), (4, .ref od)]) X dL_law_1150 hB9 (by decide) rfl ?_
  have hk4 : kUD S (xs (i6 + 1)) < 1000000 := by unfold kUD; (repeat' split) <;> decide
  refine V.perm (Wd' := wM am cy S ++ (wC ad cy T ++ [cL9 cy o (if kUD S (xs (i6 + 1)) = 0 then vp_updL f 0 ((nI (nUD (sN S 62 (fun _ => 0)) (xs (i6 + 1)))).toInt64) else f), cD9 cy od g])) pm_AB ?_
  refine V.aload_n X dL_law_1152 rfl ?_
  refine V.arg (j := 1) X hSc rfl rfl (by omega) hLn rfl dL_law_1153 dL_law_1154 dL_law_1156 dL_law_1157 dL_law_1158 (pc9 := 1159) rfl ?_
  refine V.callV (C := "RunbookerModel") [.int (xs (i6 + 1))] X (c_X6_undo l D cy am S (wC ad cy T ++ [cL9 cy o (if kUD S (xs (i6 + 1)) = 0 then vp_updL f 0 ((nI (nUD (sN S 62 (fun _ => 0)) (xs (i6 + 1)))).toInt64) else f), cD9 cy od g]) (xs (i6 + 1)) hI hR) mv_X6_undo gw_7_13 ⟨⟨(Nat.le_of_ble_eq_true rfl), (Nat.le_of_ble_eq_true rfl)⟩, (by show K + 8 + 0 ≤ 601024; omega), (by show N + 48 + 0 ≤ 7293034; omega)⟩ (q0 := 0) (ci := 8) rfl rfl rfl (Nat.le_of_ble_eq_true rfl) dL_law_1159 (fun _ _ h9 => h9.elim) ?_
  rintro v9 u9 ⟨r9, rfl, hr9, rfl⟩
  refine V.istore (L' := [(7, .int (r9)), (6, .int (nI (kUD S (xs (i6 + 1))))), (5, .int (nI i6)), (0, .ref b), (1, .ref (ad 0)), (2, .ref (am 0)), (3, .ref o), (4, .ref od)]) X dL_law_1162 hB9 (by decide) rfl ?_
  refine tailI (kx := kUD S (xs (i6 + 1))) (q0 := 60) (r9 := r9) (fo := (if kUD S (xs (i6 + 1)) = 0 then vp_updL f 0 ((nI (nUD (sN S 62 (fun _ => 0)) (xs (i6 + 1)))).toInt64) else f)) X rfl rfl rfl rfl rfl (by omega) rfl (fun h0 => by rw [out0 h0, hr9 h0] <;> rfl) (Nat.le_of_ble_eq_true rfl) (Nat.le_of_ble_eq_true rfl) (by show K + 8 + 0 ≤ 601024; omega) (by show N + 48 + 0 ≤ 7293034; omega) dL_law_1164 dL_law_1165 dL_law_1168 dL_law_1170 dL_law_1175 dL_law_1177 dL_law_1180 dL_law_1181 dL_law_1182 dL_law_1183 dL_law_1185 dL_law_1186 dL_law_1187 dL_law_1192 (by decide) ?_
  refine V.pick [2, 3, 4, 5, 6, 7] rfl ?_
  refine LC.go next (S9 := (sN (bif Nat.beq (kUD S (xs (i6 + 1))) 0 then (xUD (sN S 62 (fun _ => 0)) (nUD S (xs (i6 + 1)))) else S) 62 (fun _ => (kUD S (xs (i6 + 1)))))) (wC_U0 hT0 hTx (wC_jn _ _ _ _)) rfl (hS.bif hk4 (fun hk => OK_UD (hS.n62 (by decide)) hR hk)) (by show K + 8 + 0 ≤ K + 64; omega) (by show N + 48 + 0 ≤ N + 1024; omega)
set_option maxRecDepth 20000 in
set_option maxHeartbeats 4000000 in
theorem lc_13 (l : Launch) (D : va_G) (M : VM) (cy : Nat → ClassId) (ad am : Nat → Nat) (o od b Ln : Nat) (xs : Nat → Int32) (i6 c : Nat) (S : St) (K N : Nat) (f : Nat → Int64) (g : Nat → UInt64) (h : LC l D M cy ad am o od b Ln xs i6 c S K N) : V l D M K N (wC ad cy S ++ cL9 cy o f :: cD9 cy od g :: wM am cy S) (LL b (ad 0) (am 0) o od i6) 1195 [] := by
  obtain ⟨X, hNc, hB9, hSc, hi, hLn, hS, hc, hK, hN, next⟩ := h
  have hI := hS.1
  have hR := hS.rm hc
  refine V.aload_n X dL_law_1195 rfl ?_
  refine V.arg (j := 1) X hSc rfl rfl (by omega) hLn rfl dL_law_1196 dL_law_1197 dL_law_1199 dL_law_1200 dL_law_1201 (pc9 := 1202) rfl ?_
  refine V.aload_n X dL_law_1202 rfl ?_
  refine V.callSW [.ref (ad 0), .int (xs (i6 + 1)), .ref o] X hNc (c_L_pass l D cy ad S o f (cD9 cy od g :: wM am cy S) (xs (i6 + 1)) hI hR) gw_3_208 gw_1_0 gw_3_209 (by show _ ≠ _ ∧ _ ≠ _ ∧ _ = some (3 : Nat); decide +kernel) gw_3_207 ⟨⟨(Nat.le_of_ble_eq_true rfl), (Nat.le_of_ble_eq_true rfl)⟩, (by show K + 8 ≤ 601024; omega), (by show N + 48 ≤ 7293034; omega)⟩ rfl (Nat.le_of_ble_eq_true rfl) dL_law_1203 ?_
  rintro v9 u9 ⟨T, rfl, hT0, hTx, rfl⟩
  refine V.istore (L' := [(6, .int (nI (kPS (xs (i6 + 1))))), (5, .int (nI i6)), (0, .ref b), (1, .ref (ad 0)), (2, .ref (am 0)), (3, .ref o), (4, .ref od)]) X dL_law_1206 hB9 (by decide) rfl ?_
  have hk4 : kPS (xs (i6 + 1)) < 1000000 := by unfold kPS; (repeat' split) <;> decide
  refine V.perm (Wd' := wM am cy S ++ (wC ad cy T ++ [cL9 cy o (if kPS (xs (i6 + 1)) = 0 then vp_updL f 0 ((nI (pmXT (sN S 62 (fun _ => 0)) (ix (xs (i6 + 1))))).toInt64) else f), cD9 cy od g])) pm_AB ?_
  refine V.aload_n X dL_law_1208 rfl ?_
  refine V.arg (j := 1) X hSc rfl rfl (by omega) hLn rfl dL_law_1209 dL_law_1210 dL_law_1212 dL_law_1213 dL_law_1214 (pc9 := 1215) rfl ?_
  refine V.callV (C := "RunbookerModel") [.int (xs (i6 + 1))] X (c_X6_pass l D cy am S (wC ad cy T ++ [cL9 cy o (if kPS (xs (i6 + 1)) = 0 then vp_updL f 0 ((nI (pmXT (sN S 62 (fun _ => 0)) (ix (xs (i6 + 1))))).toInt64) else f), cD9 cy od g]) (xs (i6 + 1)) hI hR) mv_X6_pass gw_7_17 ⟨⟨(Nat.le_of_ble_eq_true rfl), (Nat.le_of_ble_eq_true rfl)⟩, (by show K + 8 + 0 ≤ 601024; omega), (by show N + 48 + 0 ≤ 7293034; omega)⟩ (q0 := 0) (ci := 8) rfl rfl rfl (Nat.le_of_ble_eq_true rfl) dL_law_1215 (fun _ _ h9 => h9.elim) ?_
  rintro v9 u9 ⟨r9, rfl, hr9, rfl⟩
  refine V.istore (L' := [(7, .int (r9)), (6, .int (nI (kPS (xs (i6 + 1))))), (5, .int (nI i6)), (0, .ref b), (1, .ref (ad 0)), (2, .ref (am 0)), (3, .ref o), (4, .ref od)]) X dL_law_1218 hB9 (by decide) rfl ?_
  refine tailI (kx := kPS (xs (i6 + 1))) (q0 := 60) (r9 := r9) (fo := (if kPS (xs (i6 + 1)) = 0 then vp_updL f 0 ((nI (pmXT (sN S 62 (fun _ => 0)) (ix (xs (i6 + 1))))).toInt64) else f)) X rfl rfl rfl rfl rfl (by omega) rfl (fun h0 => by rw [out0 h0, hr9 h0] <;> rfl) (Nat.le_of_ble_eq_true rfl) (Nat.le_of_ble_eq_true rfl) (by show K + 8 + 0 ≤ 601024; omega) (by show N + 48 + 0 ≤ 7293034; omega) dL_law_1220 dL_law_1221 dL_law_1224 dL_law_1226 dL_law_1231 dL_law_1233 dL_law_1236 dL_law_1237 dL_law_1238 dL_law_1239 dL_law_1241 dL_law_1242 dL_law_1243 dL_law_1248 (by decide) ?_
  refine V.pick [2, 3, 4, 5, 6, 7] rfl ?_
  refine LC.go next (S9 := (sN (bif Nat.beq (kPS (xs (i6 + 1))) 0 then (pmXI (sN S 62 (fun _ => 0)) (ix (xs (i6 + 1)))) else S) 62 (fun _ => (kPS (xs (i6 + 1)))))) (wC_U hT0 hTx rfl) rfl (hS.bif hk4 (fun hk => OK_PS (hS.n62 (by decide)) hR hk)) (by show K + 8 + 0 ≤ K + 64; omega) (by show N + 48 + 0 ≤ N + 1024; omega)
set_option maxRecDepth 20000 in
set_option maxHeartbeats 4000000 in
theorem lc_14 (l : Launch) (D : va_G) (M : VM) (cy : Nat → ClassId) (ad am : Nat → Nat) (o od b Ln : Nat) (xs : Nat → Int32) (i6 c : Nat) (S : St) (K N : Nat) (f : Nat → Int64) (g : Nat → UInt64) (h : LC l D M cy ad am o od b Ln xs i6 c S K N) : V l D M K N (wC ad cy S ++ cL9 cy o f :: cD9 cy od g :: wM am cy S) (LL b (ad 0) (am 0) o od i6) 1251 [] := by
  obtain ⟨X, hNc, hB9, hSc, hi, hLn, hS, hc, hK, hN, next⟩ := h
  have hI := hS.1
  have hR := hS.rm hc
  refine V.aload_n X dL_law_1251 rfl ?_
  refine V.callV (C := "Runbooker") [] X (c_X5_people l D cy ad S (cL9 cy o f :: cD9 cy od g :: wM am cy S) hI) mv_X5_people gw_1_234 ⟨⟨(Nat.le_of_ble_eq_true rfl), (Nat.le_of_ble_eq_true rfl)⟩, (by show K + 0 ≤ 601024; omega), (by show N + 0 ≤ 7293034; omega)⟩ (q0 := 0) (ci := 7) rfl rfl rfl (Nat.le_of_ble_eq_true rfl) dL_law_1252 (fun _ _ h9 => h9.elim) ?_
  rintro v9 u9 ⟨rfl, rfl⟩
  refine V.perm (Wd' := wM am cy S ++ (wC ad cy S ++ [cL9 cy o f, cD9 cy od g])) pm_AB ?_
  refine V.aload_n X dL_law_1255 rfl ?_
  refine V.callV (C := "RunbookerModel") [] X (c_X6_people l D cy am S (wC ad cy S ++ [cL9 cy o f, cD9 cy od g]) hI) mv_X6_people gw_7_29 ⟨⟨(Nat.le_of_ble_eq_true rfl), (Nat.le_of_ble_eq_true rfl)⟩, (by show K + 0 + 0 ≤ 601024; omega), (by show N + 0 + 0 ≤ 7293034; omega)⟩ (q0 := 0) (ci := 8) rfl rfl rfl (Nat.le_of_ble_eq_true rfl) dL_law_1256 (fun _ _ h9 => h9.elim) ?_
  rintro v9 u9 ⟨r9, rfl, hr9, rfl⟩
  exact V.icmp_eq (tgt := 3010) X dL_law_1259 (by decide) id id (fun _ => LC.go next (S9 := (sN S 62 (fun _ => 0))) rfl rfl (hS.up.n62 (by decide)) (by show K + 0 + 0 ≤ K + 64; omega) (by show N + 0 + 0 ≤ N + 1024; omega)) (fun h9 => absurd (hr9 rfl).symm h9)
set_option maxRecDepth 20000 in
set_option maxHeartbeats 4000000 in
theorem lc_15 (l : Launch) (D : va_G) (M : VM) (cy : Nat → ClassId) (ad am : Nat → Nat) (o od b Ln : Nat) (xs : Nat → Int32) (i6 c : Nat) (S : St) (K N : Nat) (f : Nat → Int64) (g : Nat → UInt64) (h : LC l D M cy ad am o od b Ln xs i6 c S K N) : V l D M K N (wC ad cy S ++ cL9 cy o f :: cD9 cy od g :: wM am cy S) (LL b (ad 0) (am 0) o od i6) 1264 [] := by
  obtain ⟨X, hNc, hB9, hSc, hi, hLn, hS, hc, hK, hN, next⟩ := h
  have hI := hS.1
  have hR := hS.rm hc
  refine V.aload_n X dL_law_1264 rfl ?_
  refine V.callV (C := "Runbooker") [] X (c_X5_steps l D cy ad S (cL9 cy o f :: cD9 cy od g :: wM am cy S) hI) mv_X5_steps gw_1_238 ⟨⟨(Nat.le_of_ble_eq_true rfl), (Nat.le_of_ble_eq_true rfl)⟩, (by show K + 0 ≤ 601024; omega), (by show N + 0 ≤ 7293034; omega)⟩ (q0 := 0) (ci := 7) rfl rfl rfl (Nat.le_of_ble_eq_true rfl) dL_law_1265 (fun _ _ h9 => h9.elim) ?_
  rintro v9 u9 ⟨rfl, rfl⟩
  refine V.perm (Wd' := wM am cy S ++ (wC ad cy S ++ [cL9 cy o f, cD9 cy od g])) pm_AB ?_
  refine V.aload_n X dL_law_1268 rfl ?_
  refine V.callV (C := "RunbookerModel") [] X (c_X6_steps l D cy am S (wC ad cy S ++ [cL9 cy o f, cD9 cy od g]) hI) mv_X6_steps gw_7_33 ⟨⟨(Nat.le_of_ble_eq_true rfl), (Nat.le_of_ble_eq_true rfl)⟩, (by show K + 0 + 0 ≤ 601024; omega), (by show N + 0 + 0 ≤ 7293034; omega)⟩ (q0 := 0) (ci := 8) rfl rfl rfl (Nat.le_of_ble_eq_true rfl) dL_law_1269 (fun _ _ h9 => h9.elim) ?_
  rintro v9 u9 ⟨r9, rfl, hr9, rfl⟩
  exact V.icmp_eq (tgt := 3010) X dL_law_1272 (by decide) id id (fun _ => LC.go next (S9 := (sN S 62 (fun _ => 0))) rfl rfl (hS.up.n62 (by decide)) (by show K + 0 + 0 ≤ K + 64; omega) (by show N + 0 + 0 ≤ N + 1024; omega)) (fun h9 => absurd (hr9 rfl).symm h9)
set_option maxRecDepth 20000 in
set_option maxHeartbeats 4000000 in
theorem lc_16 (l : Launch) (D : va_G) (M : VM) (cy : Nat → ClassId) (ad am : Nat → Nat) (o od b Ln : Nat) (xs : Nat → Int32) (i6 c : Nat) (S : St) (K N : Nat) (f : Nat → Int64) (g : Nat → UInt64) (h : LC l D M cy ad am o od b Ln xs i6 c S K N) : V l D M K N (wC ad cy S ++ cL9 cy o f :: cD9 cy od g :: wM am cy S) (LL b (ad 0) (am 0) o od i6) 1277 [] := by
  obtain ⟨X, hNc, hB9, hSc, hi, hLn, hS, hc, hK, hN, next⟩ := h
  have hI := hS.1
  have hR := hS.rm hc
  refine V.aload_n X dL_law_1277 rfl ?_
  refine V.callV (C := "Runbooker") [] X (c_X5_clock l D cy ad S (cL9 cy o f :: cD9 cy od g :: wM am cy S) hI) mv_X5_clock gw_2_2 ⟨⟨(Nat.le_of_ble_eq_true rfl), (Nat.le_of_ble_eq_true rfl)⟩, (by show K + 0 ≤ 601024; omega), (by show N + 0 ≤ 7293034; omega)⟩ (q0 := 0) (ci := 7) rfl rfl rfl (Nat.le_of_ble_eq_true rfl) dL_law_1278 (fun _ _ h9 => h9.elim) ?_
  rintro v9 u9 ⟨rfl, rfl⟩
  refine V.perm (Wd' := wM am cy S ++ (wC ad cy S ++ [cL9 cy o f, cD9 cy od g])) pm_AB ?_
  refine V.aload_n X dL_law_1281 rfl ?_
  refine V.callV (C := "RunbookerModel") [] X (c_X6_clock l D cy am S (wC ad cy S ++ [cL9 cy o f, cD9 cy od g]) hI) mv_X6_clock gw_7_37 ⟨⟨(Nat.le_of_ble_eq_true rfl), (Nat.le_of_ble_eq_true rfl)⟩, (by show K + 0 + 0 ≤ 601024; omega), (by show N + 0 + 0 ≤ 7293034; omega)⟩ (q0 := 0) (ci := 8) rfl rfl rfl (Nat.le_of_ble_eq_true rfl) dL_law_1282 (fun _ _ h9 => h9.elim) ?_
  rintro v9 u9 ⟨r9, rfl, hr9, rfl⟩
  exact V.icmp_eq (tgt := 3010) X dL_law_1285 (by decide) id id (fun _ => LC.go next (S9 := (sN S 62 (fun _ => 0))) rfl rfl (hS.up.n62 (by decide)) (by show K + 0 + 0 ≤ K + 64; omega) (by show N + 0 + 0 ≤ N + 1024; omega)) (fun h9 => absurd (hr9 rfl).symm h9)
set_option maxRecDepth 20000 in
set_option maxHeartbeats 4000000 in
theorem lc_17 (l : Launch) (D : va_G) (M : VM) (cy : Nat → ClassId) (ad am : Nat → Nat) (o od b Ln : Nat) (xs : Nat → Int32) (i6 c : Nat) (S : St) (K N : Nat) (f : Nat → Int64) (g : Nat → UInt64) (h : LC l D M cy ad am o od b Ln xs i6 c S K N) : V l D M K N (wC ad cy S ++ cL9 cy o f :: cD9 cy od g :: wM am cy S) (LL b (ad 0) (am 0) o od i6) 1290 [] := by
  obtain ⟨X, hNc, hB9, hSc, hi, hLn, hS, hc, hK, hN, next⟩ := h
  have hI := hS.1
  have hR := hS.rm hc
  refine V.aload_n X dL_law_1290 rfl ?_
  refine V.arg (j := 1) X hSc rfl rfl (by omega) hLn rfl dL_law_1291 dL_law_1292 dL_law_1294 dL_law_1295 dL_law_1296 (pc9 := 1297) rfl ?_
  refine V.aload_n X dL_law_1297 rfl ?_
  refine V.callSW [.ref (ad 0), .int (xs (i6 + 1)), .ref o] X hNc (c_L_isOnDuty l D cy ad S o f (cD9 cy od g :: wM am cy S) (xs (i6 + 1)) hI) gw_4_5 gw_1_0 gw_4_6 (by show _ ≠ _ ∧ _ ≠ _ ∧ _ = some (3 : Nat); decide +kernel) gw_4_4 ⟨⟨(Nat.le_of_ble_eq_true rfl), (Nat.le_of_ble_eq_true rfl)⟩, (by show K + 8 ≤ 601024; omega), (by show N + 48 ≤ 7293034; omega)⟩ rfl (Nat.le_of_ble_eq_true rfl) dL_law_1298 ?_
  rintro v9 u9 ⟨T, rfl, hT0, hTx, rfl⟩
  refine V.istore (L' := [(6, .int (nI (kP1 S (xs (i6 + 1))))), (5, .int (nI i6)), (0, .ref b), (1, .ref (ad 0)), (2, .ref (am 0)), (3, .ref o), (4, .ref od)]) X dL_law_1301 hB9 (by decide) rfl ?_
  have hk4 : kP1 S (xs (i6 + 1)) < 1000000 := by unfold kP1; (repeat' split) <;> decide
  refine V.perm (Wd' := wM am cy S ++ (wC ad cy T ++ [cL9 cy o (if kP1 S (xs (i6 + 1)) = 0 then vp_updL f 0 (b2l (rB S 8 (ix (xs (i6 + 1))))) else f), cD9 cy od g])) pm_AB ?_
  refine V.aload_n X dL_law_1303 rfl ?_
  refine V.arg (j := 1) X hSc rfl rfl (by omega) hLn rfl dL_law_1304 dL_law_1305 dL_law_1307 dL_law_1308 dL_law_1309 (pc9 := 1310) rfl ?_
  refine V.callV (C := "RunbookerModel") [.int (xs (i6 + 1))] X (c_X6_isOnDuty l D cy am S (wC ad cy T ++ [cL9 cy o (if kP1 S (xs (i6 + 1)) = 0 then vp_updL f 0 (b2l (rB S 8 (ix (xs (i6 + 1))))) else f), cD9 cy od g]) (xs (i6 + 1)) hI) mv_X6_isOnDuty gw_7_41 ⟨⟨(Nat.le_of_ble_eq_true rfl), (Nat.le_of_ble_eq_true rfl)⟩, (by show K + 8 + 0 ≤ 601024; omega), (by show N + 48 + 0 ≤ 7293034; omega)⟩ (q0 := 0) (ci := 8) rfl rfl rfl (Nat.le_of_ble_eq_true rfl) dL_law_1310 (fun _ _ h9 => h9.elim) ?_
  rintro v9 u9 ⟨r9, rfl, hr9, rfl⟩
  refine V.istore (L' := [(7, .int (r9)), (6, .int (nI (kP1 S (xs (i6 + 1))))), (5, .int (nI i6)), (0, .ref b), (1, .ref (ad 0)), (2, .ref (am 0)), (3, .ref o), (4, .ref od)]) X dL_law_1313 hB9 (by decide) rfl ?_
  refine tailB (kx := kP1 S (xs (i6 + 1))) (q0 := 60) (r9 := r9) (fo := (if kP1 S (xs (i6 + 1)) = 0 then vp_updL f 0 (b2l (rB S 8 (ix (xs (i6 + 1))))) else f)) X rfl rfl rfl rfl rfl (by omega) rfl (fun h0 => by rw [out0 h0, hr9 h0]; exact b2l_r _) (Nat.le_of_ble_eq_true rfl) (Nat.le_of_ble_eq_true rfl) (by show K + 8 + 0 ≤ 601024; omega) (by show N + 48 + 0 ≤ 7293034; omega) dL_law_1315 dL_law_1316 dL_law_1319 dL_law_1321 dL_law_1326 dL_law_1328 dL_law_1331 dL_law_1332 dL_law_1333 dL_law_1334 dL_law_1336 dL_law_1339 dL_law_1340 dL_law_1343 dL_law_1344 dL_law_1345 dL_law_1350 (by decide) ?_
  refine V.pick [2, 3, 4, 5, 6, 7] rfl ?_
  refine LC.go next (S9 := (sN S 62 (fun _ => (kP1 S (xs (i6 + 1)))))) (by rw [T_eq hT0 hTx]; rfl) rfl (hS.up.n62 hk4) (by show K + 8 + 0 ≤ K + 64; omega) (by show N + 48 + 0 ≤ N + 1024; omega)
set_option maxRecDepth 20000 in
set_option maxHeartbeats 4000000 in
theorem lc_18 (l : Launch) (D : va_G) (M : VM) (cy : Nat → ClassId) (ad am : Nat → Nat) (o od b Ln : Nat) (xs : Nat → Int32) (i6 c : Nat) (S : St) (K N : Nat) (f : Nat → Int64) (g : Nat → UInt64) (h : LC l D M cy ad am o od b Ln xs i6 c S K N) : V l D M K N (wC ad cy S ++ cL9 cy o f :: cD9 cy od g :: wM am cy S) (LL b (ad 0) (am 0) o od i6) 1353 [] := by
  obtain ⟨X, hNc, hB9, hSc, hi, hLn, hS, hc, hK, hN, next⟩ := h
  have hI := hS.1
  have hR := hS.rm hc
  refine V.aload_n X dL_law_1353 rfl ?_
  refine V.arg (j := 1) X hSc rfl rfl (by omega) hLn rfl dL_law_1354 dL_law_1355 dL_law_1357 dL_law_1358 dL_law_1359 (pc9 := 1360) rfl ?_
  refine V.arg (j := 2) X hSc rfl rfl (by omega) hLn rfl dL_law_1360 dL_law_1361 dL_law_1363 dL_law_1364 dL_law_1365 (pc9 := 1366) rfl ?_
  refine V.aload_n X dL_law_1366 rfl ?_
  refine V.callSW [.ref (ad 0), .int (xs (i6 + 1)), .int (xs (i6 + 2)), .ref o] X hNc (c_L_hasRole l D cy ad S o f (cD9 cy od g :: wM am cy S) (xs (i6 + 1)) (xs (i6 + 2)) hI) gw_4_12 gw_1_0 gw_4_13 (by show _ ≠ _ ∧ _ ≠ _ ∧ _ = some (4 : Nat); decide +kernel) gw_4_11 ⟨⟨(Nat.le_of_ble_eq_true rfl), (Nat.le_of_ble_eq_true rfl)⟩, (by show K + 8 ≤ 601024; omega), (by show N + 48 ≤ 7293034; omega)⟩ rfl (Nat.le_of_ble_eq_true rfl) dL_law_1367 ?_
  rintro v9 u9 ⟨T, rfl, hT0, hTx, rfl⟩
  refine V.istore (L' := [(6, .int (nI (kHR S (xs (i6 + 1)) (xs (i6 + 2))))), (5, .int (nI i6)), (0, .ref b), (1, .ref (ad 0)), (2, .ref (am 0)), (3, .ref o), (4, .ref od)]) X dL_law_1370 hB9 (by decide) rfl ?_
  have hk4 : kHR S (xs (i6 + 1)) (xs (i6 + 2)) < 1000000 := by unfold kHR; (repeat' split) <;> decide
  refine V.perm (Wd' := wM am cy S ++ (wC ad cy T ++ [cL9 cy o (if kHR S (xs (i6 + 1)) (xs (i6 + 2)) = 0 then vp_updL f 0 (b2l (hasBit (rI S 7 (ix (xs (i6 + 1)))) (xs (i6 + 2)))) else f), cD9 cy od g])) pm_AB ?_
  refine V.aload_n X dL_law_1372 rfl ?_
  refine V.arg (j := 1) X hSc rfl rfl (by omega) hLn rfl dL_law_1373 dL_law_1374 dL_law_1376 dL_law_1377 dL_law_1378 (pc9 := 1379) rfl ?_
  refine V.arg (j := 2) X hSc rfl rfl (by omega) hLn rfl dL_law_1379 dL_law_1380 dL_law_1382 dL_law_1383 dL_law_1384 (pc9 := 1385) rfl ?_
  refine V.callV (C := "RunbookerModel") [.int (xs (i6 + 1)), .int (xs (i6 + 2))] X (c_X6_hasRole l D cy am S (wC ad cy T ++ [cL9 cy o (if kHR S (xs (i6 + 1)) (xs (i6 + 2)) = 0 then vp_updL f 0 (b2l (hasBit (rI S 7 (ix (xs (i6 + 1)))) (xs (i6 + 2)))) else f), cD9 cy od g]) (xs (i6 + 1)) (xs (i6 + 2)) hI) mv_X6_hasRole gw_7_45 ⟨⟨(Nat.le_of_ble_eq_true rfl), (Nat.le_of_ble_eq_true rfl)⟩, (by show K + 8 + 0 ≤ 601024; omega), (by show N + 48 + 0 ≤ 7293034; omega)⟩ (q0 := 0) (ci := 8) rfl rfl rfl (Nat.le_of_ble_eq_true rfl) dL_law_1385 (fun _ _ h9 => h9.elim) ?_
  rintro v9 u9 ⟨r9, rfl, hr9, rfl⟩
  refine V.istore (L' := [(7, .int (r9)), (6, .int (nI (kHR S (xs (i6 + 1)) (xs (i6 + 2))))), (5, .int (nI i6)), (0, .ref b), (1, .ref (ad 0)), (2, .ref (am 0)), (3, .ref o), (4, .ref od)]) X dL_law_1388 hB9 (by decide) rfl ?_
  refine tailB (kx := kHR S (xs (i6 + 1)) (xs (i6 + 2))) (q0 := 60) (r9 := r9) (fo := (if kHR S (xs (i6 + 1)) (xs (i6 + 2)) = 0 then vp_updL f 0 (b2l (hasBit (rI S 7 (ix (xs (i6 + 1)))) (xs (i6 + 2)))) else f)) X rfl rfl rfl rfl rfl (by omega) rfl (fun h0 => by rw [out0 h0, hr9 h0]; exact b2l_r _) (Nat.le_of_ble_eq_true rfl) (Nat.le_of_ble_eq_true rfl) (by show K + 8 + 0 ≤ 601024; omega) (by show N + 48 + 0 ≤ 7293034; omega) dL_law_1390 dL_law_1391 dL_law_1394 dL_law_1396 dL_law_1401 dL_law_1403 dL_law_1406 dL_law_1407 dL_law_1408 dL_law_1409 dL_law_1411 dL_law_1414 dL_law_1415 dL_law_1418 dL_law_1419 dL_law_1420 dL_law_1425 (by decide) ?_
  refine V.pick [2, 3, 4, 5, 6, 7] rfl ?_
  refine LC.go next (S9 := (sN S 62 (fun _ => (kHR S (xs (i6 + 1)) (xs (i6 + 2)))))) (by rw [T_eq hT0 hTx]; rfl) rfl (hS.up.n62 hk4) (by show K + 8 + 0 ≤ K + 64; omega) (by show N + 48 + 0 ≤ N + 1024; omega)
set_option maxRecDepth 20000 in
set_option maxHeartbeats 4000000 in
theorem lc_19 (l : Launch) (D : va_G) (M : VM) (cy : Nat → ClassId) (ad am : Nat → Nat) (o od b Ln : Nat) (xs : Nat → Int32) (i6 c : Nat) (S : St) (K N : Nat) (f : Nat → Int64) (g : Nat → UInt64) (h : LC l D M cy ad am o od b Ln xs i6 c S K N) : V l D M K N (wC ad cy S ++ cL9 cy o f :: cD9 cy od g :: wM am cy S) (LL b (ad 0) (am 0) o od i6) 1428 [] := by
  obtain ⟨X, hNc, hB9, hSc, hi, hLn, hS, hc, hK, hN, next⟩ := h
  have hI := hS.1
  have hR := hS.rm hc
  refine V.aload_n X dL_law_1428 rfl ?_
  refine V.arg (j := 1) X hSc rfl rfl (by omega) hLn rfl dL_law_1429 dL_law_1430 dL_law_1432 dL_law_1433 dL_law_1434 (pc9 := 1435) rfl ?_
  refine V.aload_n X dL_law_1435 rfl ?_
  refine V.callSW [.ref (ad 0), .int (xs (i6 + 1)), .ref o] X hNc (c_L_workOf l D cy ad S o f (cD9 cy od g :: wM am cy S) (xs (i6 + 1)) hI) gw_4_24 gw_1_0 gw_4_25 (by show _ ≠ _ ∧ _ ≠ _ ∧ _ = some (3 : Nat); decide +kernel) gw_4_23 ⟨⟨(Nat.le_of_ble_eq_true rfl), (Nat.le_of_ble_eq_true rfl)⟩, (by show K + 8 ≤ 601024; omega), (by show N + 48 ≤ 7293034; omega)⟩ rfl (Nat.le_of_ble_eq_true rfl) dL_law_1436 ?_
  rintro v9 u9 ⟨T, rfl, hT0, hTx, rfl⟩
  refine V.istore (L' := [(6, .int (nI (kP1 S (xs (i6 + 1))))), (5, .int (nI i6)), (0, .ref b), (1, .ref (ad 0)), (2, .ref (am 0)), (3, .ref o), (4, .ref od)]) X dL_law_1439 hB9 (by decide) rfl ?_
  have hk4 : kP1 S (xs (i6 + 1)) < 1000000 := by unfold kP1; (repeat' split) <;> decide
  refine V.perm (Wd' := wM am cy S ++ (wC ad cy T ++ [cL9 cy o (if kP1 S (xs (i6 + 1)) = 0 then vp_updL f 0 ((o2i (rO S 9 (ix (xs (i6 + 1))))).toInt64) else f), cD9 cy od g])) pm_AB ?_
  refine V.aload_n X dL_law_1441 rfl ?_
  refine V.arg (j := 1) X hSc rfl rfl (by omega) hLn rfl dL_law_1442 dL_law_1443 dL_law_1445 dL_law_1446 dL_law_1447 (pc9 := 1448) rfl ?_
  refine V.callV (C := "RunbookerModel") [.int (xs (i6 + 1))] X (c_X6_workOf l D cy am S (wC ad cy T ++ [cL9 cy o (if kP1 S (xs (i6 + 1)) = 0 then vp_updL f 0 ((o2i (rO S 9 (ix (xs (i6 + 1))))).toInt64) else f), cD9 cy od g]) (xs (i6 + 1)) hI) mv_X6_workOf gw_7_49 ⟨⟨(Nat.le_of_ble_eq_true rfl), (Nat.le_of_ble_eq_true rfl)⟩, (by show K + 8 + 0 ≤ 601024; omega), (by show N + 48 + 0 ≤ 7293034; omega)⟩ (q0 := 0) (ci := 8) rfl rfl rfl (Nat.le_of_ble_eq_true rfl) dL_law_1448 (fun _ _ h9 => h9.elim) ?_
  rintro v9 u9 ⟨r9, rfl, hr9, rfl⟩
  refine V.istore (L' := [(7, .int (r9)), (6, .int (nI (kP1 S (xs (i6 + 1))))), (5, .int (nI i6)), (0, .ref b), (1, .ref (ad 0)), (2, .ref (am 0)), (3, .ref o), (4, .ref od)]) X dL_law_1451 hB9 (by decide) rfl ?_
  refine tailI (kx := kP1 S (xs (i6 + 1))) (q0 := 60) (r9 := r9) (fo := (if kP1 S (xs (i6 + 1)) = 0 then vp_updL f 0 ((o2i (rO S 9 (ix (xs (i6 + 1))))).toInt64) else f)) X rfl rfl rfl rfl rfl (by omega) rfl (fun h0 => by rw [out0 h0, hr9 h0] <;> rfl) (Nat.le_of_ble_eq_true rfl) (Nat.le_of_ble_eq_true rfl) (by show K + 8 + 0 ≤ 601024; omega) (by show N + 48 + 0 ≤ 7293034; omega) dL_law_1453 dL_law_1454 dL_law_1457 dL_law_1459 dL_law_1464 dL_law_1466 dL_law_1469 dL_law_1470 dL_law_1471 dL_law_1472 dL_law_1474 dL_law_1475 dL_law_1476 dL_law_1481 (by decide) ?_
  refine V.pick [2, 3, 4, 5, 6, 7] rfl ?_
  refine LC.go next (S9 := (sN S 62 (fun _ => (kP1 S (xs (i6 + 1)))))) (by rw [T_eq hT0 hTx]; rfl) rfl (hS.up.n62 hk4) (by show K + 8 + 0 ≤ K + 64; omega) (by show N + 48 + 0 ≤ N + 1024; omega)
set_option maxRecDepth 20000 in
set_option maxHeartbeats 4000000 in
theorem lc_20 (l : Launch) (D : va_G) (M : VM) (cy : Nat → ClassId) (ad am : Nat → Nat) (o od b Ln : Nat) (xs : Nat → Int32) (i6 c : Nat) (S : St) (K N : Nat) (f : Nat → Int64) (g : Nat → UInt64) (h : LC l D M cy ad am o od b Ln xs i6 c S K N) : V l D M K N (wC ad cy S ++ cL9 cy o f :: cD9 cy od g :: wM am cy S) (LL b (ad 0) (am 0) o od i6) 1484 [] := by
  obtain ⟨X, hNc, hB9, hSc, hi, hLn, hS, hc, hK, hN, next⟩ := h
  have hI := hS.1
  have hR := hS.rm hc
  refine V.aload_n X dL_law_1484 rfl ?_
  refine V.arg (j := 1) X hSc rfl rfl (by omega) hLn rfl dL_law_1485 dL_law_1486 dL_law_1488 dL_law_1489 dL_law_1490 (pc9 := 1491) rfl ?_
  refine V.aload_n X dL_law_1491 rfl ?_
  refine V.callSW [.ref (ad 0), .int (xs (i6 + 1)), .ref o] X hNc (c_L_readingOf l D cy ad S o f (cD9 cy od g :: wM am cy S) (xs (i6 + 1)) hI) gw_4_31 gw_1_0 gw_4_32 (by show _ ≠ _ ∧ _ ≠ _ ∧ _ = some (3 : Nat); decide +kernel) gw_4_30 ⟨⟨(Nat.le_of_ble_eq_true rfl), (Nat.le_of_ble_eq_true rfl)⟩, (by show K + 8 ≤ 601024; omega), (by show N + 48 ≤ 7293034; omega)⟩ rfl (Nat.le_of_ble_eq_true rfl) dL_law_1492 ?_
  rintro v9 u9 ⟨T, rfl, hT0, hTx, rfl⟩
  refine V.istore (L' := [(6, .int (nI (kRO (xs (i6 + 1))))), (5, .int (nI i6)), (0, .ref b), (1, .ref (ad 0)), (2, .ref (am 0)), (3, .ref o), (4, .ref od)]) X dL_law_1495 hB9 (by decide) rfl ?_
  have hk4 : kRO (xs (i6 + 1)) < 1000000 := by unfold kRO; (repeat' split) <;> decide
  refine V.perm (Wd' := wM am cy S ++ (wC ad cy T ++ [cL9 cy o (if kRO (xs (i6 + 1)) = 0 then vp_updL f 0 ((rI S 6 (ix (xs (i6 + 1)))).toInt64) else f), cD9 cy od g])) pm_AB ?_
  refine V.aload_n X dL_law_1497 rfl ?_
  refine V.arg (j := 1) X hSc rfl rfl (by omega) hLn rfl dL_law_1498 dL_law_1499 dL_law_1501 dL_law_1502 dL_law_1503 (pc9 := 1504) rfl ?_
  refine V.callV (C := "RunbookerModel") [.int (xs (i6 + 1))] X (c_X6_readingOf l D cy am S (wC ad cy T ++ [cL9 cy o (if kRO (xs (i6 + 1)) = 0 then vp_updL f 0 ((rI S 6 (ix (xs (i6 + 1)))).toInt64) else f), cD9 cy od g]) (xs (i6 + 1)) hI) mv_X6_readingOf gw_7_53 ⟨⟨(Nat.le_of_ble_eq_true rfl), (Nat.le_of_ble_eq_true rfl)⟩, (by show K + 8 + 0 ≤ 601024; omega), (by show N + 48 + 0 ≤ 7293034; omega)⟩ (q0 := 0) (ci := 8) rfl rfl rfl (Nat.le_of_ble_eq_true rfl) dL_law_1504 (fun _ _ h9 => h9.elim) ?_
  rintro v9 u9 ⟨r9, rfl, hr9, rfl⟩
  refine V.istore (L' := [(7, .int (r9)), (6, .int (nI (kRO (xs (i6 + 1))))), (5, .int (nI i6)), (0, .ref b), (1, .ref (ad 0)), (2, .ref (am 0)), (3, .ref o), (4, .ref od)]) X dL_law_1507 hB9 (by decide) rfl ?_
  refine tailI (kx := kRO (xs (i6 + 1))) (q0 := 60) (r9 := r9) (fo := (if kRO (xs (i6 + 1)) = 0 then vp_updL f 0 ((rI S 6 (ix (xs (i6 + 1)))).toInt64) else f)) X rfl rfl rfl rfl rfl (by omega) rfl (fun h0 => by rw [out0 h0, hr9 h0] <;> rfl) (Nat.le_of_ble_eq_true rfl) (Nat.le_of_ble_eq_true rfl) (by show K + 8 + 0 ≤ 601024; omega) (by show N + 48 + 0 ≤ 7293034; omega) dL_law_1509 dL_law_1510 dL_law_1513 dL_law_1515 dL_law_1520 dL_law_1522 dL_law_1525 dL_law_1526 dL_law_1527 dL_law_1528 dL_law_1530 dL_law_1531 dL_law_1532 dL_law_1537 (by decide) ?_
  refine V.pick [2, 3, 4, 5, 6, 7] rfl ?_
  refine LC.go next (S9 := (sN S 62 (fun _ => (kRO (xs (i6 + 1)))))) (by rw [T_eq hT0 hTx]; rfl) rfl (hS.up.n62 hk4) (by show K + 8 + 0 ≤ K + 64; omega) (by show N + 48 + 0 ≤ N + 1024; omega)
set_option maxRecDepth 20000 in
set_option maxHeartbeats 4000000 in
theorem lc_21 (l : Launch) (D : va_G) (M : VM) (cy : Nat → ClassId) (ad am : Nat → Nat) (o od b Ln : Nat) (xs : Nat → Int32) (i6 c : Nat) (S : St) (K N : Nat) (f : Nat → Int64) (g : Nat → UInt64) (h : LC l D M cy ad am o od b Ln xs i6 c S K N) : V l D M K N (wC ad cy S ++ cL9 cy o f :: cD9 cy od g :: wM am cy S) (LL b (ad 0) (am 0) o od i6) 1540 [] := by
  obtain ⟨X, hNc, hB9, hSc, hi, hLn, hS, hc, hK, hN, next⟩ := h
  have hI := hS.1
  have hR := hS.rm hc
  refine V.aload_n X dL_law_1540 rfl ?_
  refine V.arg (j := 1) X hSc rfl rfl (by omega) hLn rfl dL_law_1541 dL_law_1542 dL_law_1544 dL_law_1545 dL_law_1546 (pc9 := 1547) rfl ?_
  refine V.aload_n X dL_law_1547 rfl ?_
  refine V.callSW [.ref (ad 0), .int (xs (i6 + 1)), .ref o] X hNc (c_L_doesGuardHold l D cy ad S o f (cD9 cy od g :: wM am cy S) (xs (i6 + 1)) hI) gw_4_39 gw_1_0 gw_4_40 (by show _ ≠ _ ∧ _ ≠ _ ∧ _ = some (3 : Nat); decide +kernel) gw_4_38 ⟨⟨(Nat.le_of_ble_eq_true rfl), (Nat.le_of_ble_eq_true rfl)⟩, (by show K + 8 ≤ 601024; omega), (by show N + 48 ≤ 7293034; omega)⟩ rfl (Nat.le_of_ble_eq_true rfl) dL_law_1548 ?_
  rintro v9 u9 ⟨T, rfl, hT0, hTx, rfl⟩
  refine V.istore (L' := [(6, .int (nI (kS1 S (xs (i6 + 1))))), (5, .int (nI i6)), (0, .ref b), (1, .ref (ad 0)), (2, .ref (am 0)), (3, .ref o), (4, .ref od)]) X dL_law_1551 hB9 (by decide) rfl ?_
  have hk4 : kS1 S (xs (i6 + 1)) < 1000000 := by unfold kS1; (repeat' split) <;> decide
  refine V.perm (Wd' := wM am cy S ++ (wC ad cy T ++ [cL9 cy o (if kS1 S (xs (i6 + 1)) = 0 then vp_updL f 0 (b2l (guard9 S (ix (xs (i6 + 1))))) else f), cD9 cy od g])) pm_AB ?_
  refine V.aload_n X dL_law_1553 rfl ?_
  refine V.arg (j := 1) X hSc rfl rfl (by omega) hLn rfl dL_law_1554 dL_law_1555 dL_law_1557 dL_law_1558 dL_law_1559 (pc9 := 1560) rfl ?_
  refine V.callV (C := "RunbookerModel") [.int (xs (i6 + 1))] X (c_X6_doesGuardHold l D cy am S (wC ad cy T ++ [cL9 cy o (if kS1 S (xs (i6 + 1)) = 0 then vp_updL f 0 (b2l (guard9 S (ix (xs (i6 + 1))))) else f), cD9 cy od g]) (xs (i6 + 1)) hI) mv_X6_doesGuardHold gw_7_57 ⟨⟨(Nat.le_of_ble_eq_true rfl), (Nat.le_of_ble_eq_true rfl)⟩, (by show K + 8 + 0 ≤ 601024; omega), (by show N + 48 + 0 ≤ 7293034; omega)⟩ (q0 := 0) (ci := 8) rfl rfl rfl (Nat.le_of_ble_eq_true rfl) dL_law_1560 (fun _ _ h9 => h9.elim) ?_
  rintro v9 u9 ⟨r9, rfl, hr9, rfl⟩
  refine V.istore (L' := [(7, .int (r9)), (6, .int (nI (kS1 S (xs (i6 + 1))))), (5, .int (nI i6)), (0, .ref b), (1, .ref (ad 0)), (2, .ref (am 0)), (3, .ref o), (4, .ref od)]) X dL_law_1563 hB9 (by decide) rfl ?_
  refine tailB (kx := kS1 S (xs (i6 + 1))) (q0 := 60) (r9 := r9) (fo := (if kS1 S (xs (i6 + 1)) = 0 then vp_updL f 0 (b2l (guard9 S (ix (xs (i6 + 1))))) else f)) X rfl rfl rfl rfl rfl (by omega) rfl (fun h0 => by rw [out0 h0, hr9 h0]; exact b2l_r _) (Nat.le_of_ble_eq_true rfl) (Nat.le_of_ble_eq_true rfl) (by show K + 8 + 0 ≤ 601024; omega) (by show N + 48 + 0 ≤ 7293034; omega) dL_law_1565 dL_law_1566 dL_law_1569 dL_law_1571 dL_law_1576 dL_law_1578 dL_law_1581 dL_law_1582 dL_law_1583 dL_law_1584 dL_law_1586 dL_law_1589 dL_law_1590 dL_law_1593 dL_law_1594 dL_law_1595 dL_law_1600 (by decide) ?_
  refine V.pick [2, 3, 4, 5, 6, 7] rfl ?_
  refine LC.go next (S9 := (sN S 62 (fun _ => (kS1 S (xs (i6 + 1)))))) (by rw [T_eq hT0 hTx]; rfl) rfl (hS.up.n62 hk4) (by show K + 8 + 0 ≤ K + 64; omega) (by show N + 48 + 0 ≤ N + 1024; omega)
set_option maxRecDepth 20000 in
set_option maxHeartbeats 4000000 in
theorem lc_22 (l : Launch) (D : va_G) (M : VM) (cy : Nat → ClassId) (ad am : Nat → Nat) (o od b Ln : Nat) (xs : Nat → Int32) (i6 c : Nat) (S : St) (K N : Nat) (f : Nat → Int64) (g : Nat → UInt64) (h : LC l D M cy ad am o od b Ln xs i6 c S K N) : V l D M K N (wC ad cy S ++ cL9 cy o f :: cD9 cy od g :: wM am cy S) (LL b (ad 0) (am 0) o od i6) 1603 [] := by
  obtain ⟨X, hNc, hB9, hSc, hi, hLn, hS, hc, hK, hN, next⟩ := h
  have hI := hS.1
  have hR := hS.rm hc
  refine V.aload_n X dL_law_1603 rfl ?_
  refine V.arg (j := 1) X hSc rfl rfl (by omega) hLn rfl dL_law_1604 dL_law_1605 dL_law_1607 dL_law_1608 dL_law_1609 (pc9 := 1610) rfl ?_
  refine V.arg (j := 2) X hSc rfl rfl (by omega) hLn rfl dL_law_1610 dL_law_1611 dL_law_1613 dL_law_1614 dL_law_1615 (pc9 := 1616) rfl ?_
  refine V.aload_n X dL_law_1616 rfl ?_
  refine V.callSW [.ref (ad 0), .int (xs (i6 + 1)), .int (xs (i6 + 2)), .ref o] X hNc (c_L_guardReading l D cy ad S o f (cD9 cy od g :: wM am cy S) (xs (i6 + 1)) (xs (i6 + 2)) hI) gw_4_46 gw_1_0 gw_4_47 (by show _ ≠ _ ∧ _ ≠ _ ∧ _ = some (4 : Nat); decide +kernel) gw_4_45 ⟨⟨(Nat.le_of_ble_eq_true rfl), (Nat.le_of_ble_eq_true rfl)⟩, (by show K + 8 ≤ 601024; omega), (by show N + 48 ≤ 7293034; omega)⟩ rfl (Nat.le_of_ble_eq_true rfl) dL_law_1617 ?_
  rintro v9 u9 ⟨T, rfl, hT0, hTx, rfl⟩
  refine V.istore (L' := [(6, .int (nI (kGR S (xs (i6 + 1)) (xs (i6 + 2))))), (5, .int (nI i6)), (0, .ref b), (1, .ref (ad 0)), (2, .ref (am 0)), (3, .ref o), (4, .ref od)]) X dL_law_1620 hB9 (by decide) rfl ?_
  have hk4 : kGR S (xs (i6 + 1)) (xs (i6 + 2)) < 1000000 := by unfold kGR; (repeat' split) <;> decide
  refine V.perm (Wd' := wM am cy S ++ (wC ad cy T ++ [cL9 cy o (if kGR S (xs (i6 + 1)) (xs (i6 + 2)) = 0 then vp_updL f 0 ((rI S 27 (ix (xs (i6 + 1)) * 6 + rN S 18 (ix (xs (i6 + 1)) * 2 + ix (xs (i6 + 2))))).toInt64) else f), cD9 cy od g])) pm_AB ?_
  refine V.aload_n X dL_law_1622 rfl ?_
  refine V.arg (j := 1) X hSc rfl rfl (by omega) hLn rfl dL_law_1623 dL_law_1624 dL_law_1626 dL_law_1627 dL_law_1628 (pc9 := 1629) rfl ?_
  refine V.arg (j := 2) X hSc rfl rfl (by omega) hLn rfl dL_law_1629 dL_law_1630 dL_law_1632 dL_law_1633 dL_law_1634 (pc9 := 1635) rfl ?_
  refine V.callV (C := "RunbookerModel") [.int (xs (i6 + 1)), .int (xs (i6 + 2))] X (c_X6_guardReading l D cy am S (wC ad cy T ++ [cL9 cy o (if kGR S (xs (i6 + 1)) (xs (i6 + 2)) = 0 then vp_updL f 0 ((rI S 27 (ix (xs (i6 + 1)) * 6 + rN S 18 (ix (xs (i6 + 1)) * 2 + ix (xs (i6 + 2))))).toInt64) else f), cD9 cy od g]) (xs (i6 + 1)) (xs (i6 + 2)) hI) mv_X6_guardReading gw_7_61 ⟨⟨(Nat.le_of_ble_eq_true rfl), (Nat.le_of_ble_eq_true rfl)⟩, (by show K + 8 + 0 ≤ 601024; omega), (by show N + 48 + 0 ≤ 7293034; omega)⟩ (q0 := 0) (ci := 8) rfl rfl rfl (Nat.le_of_ble_eq_true rfl) dL_law_1635 (fun _ _ h9 => h9.elim) ?_
  rintro v9 u9 ⟨r9, rfl, hr9, rfl⟩
  refine V.istore (L' := [(7, .int (r9)), (6, .int (nI (kGR S (xs (i6 + 1)) (xs (i6 + 2))))), (5, .int (nI i6)), (0, .ref b), (1, .ref (ad 0)), (2, .ref (am 0)), (3, .ref o), (4, .ref od)]) X dL_law_1638 hB9 (by decide) rfl ?_
  refine tailI (kx := kGR S (xs (i6 + 1)) (xs (i6 + 2))) (q0 := 60) (r9 := r9) (fo := (if kGR S (xs (i6 + 1)) (xs (i6 + 2)) = 0 then vp_updL f 0 ((rI S 27 (ix (xs (i6 + 1)) * 6 + rN S 18 (ix (xs (i6 + 1)) * 2 + ix (xs (i6 + 2))))).toInt64) else f)) X rfl rfl rfl rfl rfl (by omega) rfl (fun h0 => by rw [out0 h0, hr9 h0] <;> rfl) (Nat.le_of_ble_eq_true rfl) (Nat.le_of_ble_eq_true rfl) (by show K + 8 + 0 ≤ 601024; omega) (by show N + 48 + 0 ≤ 7293034; omega) dL_law_1640 dL_law_1641 dL_law_1644 dL_law_1646 dL_law_1651 dL_law_1653 dL_law_1656 dL_law_1657 dL_law_1658 dL_law_1659 dL_law_1661 dL_law_1662 dL_law_1663 dL_law_1668 (by decide) ?_
  refine V.pick [2, 3, 4, 5, 6, 7] rfl ?_
  refine LC.go next (S9 := (sN S 62 (fun _ => (kGR S (xs (i6 + 1)) (xs (i6 + 2)))))) (by rw [T_eq hT0 hTx]; rfl) rfl (hS.up.n62 hk4) (by show K + 8 + 0 ≤ K + 64; omega) (by show N + 48 + 0 ≤ N + 1024; omega)
set_option maxRecDepth 20000 in
set_option maxHeartbeats 4000000 in
theorem lc_23 (l : Launch) (D : va_G) (M : VM) (cy : Nat → ClassId) (ad am : Nat → Nat) (o od b Ln : Nat) (xs : Nat → Int32) (i6 c : Nat) (S : St) (K N : Nat) (f : Nat → Int64) (g : Nat → UInt64) (h : LC l D M cy ad am o od b Ln xs i6 c S K N) : V l D M K N (wC ad cy S ++ cL9 cy o f :: cD9 cy od g :: wM am cy S) (LL b (ad 0) (am 0) o od i6) 1671 [] := by
  obtain ⟨X, hNc, hB9, hSc, hi, hLn, hS, hc, hK, hN, next⟩ := h
  have hI := hS.1
  have hR := hS.rm hc
  refine V.aload_n X dL_law_1671 rfl ?_
  refine V.callV (C := "Runbooker") [] X (c_X5_isRunning l D cy ad S (cL9 cy o f :: cD9 cy od g :: wM am cy S) hI) mv_X5_isRunning gw_2_6 ⟨⟨(Nat.le_of_ble_eq_true rfl), (Nat.le_of_ble_eq_true rfl)⟩, (by show K + 0 ≤ 601024; omega), (by show N + 0 ≤ 7293034; omega)⟩ (q0 := 0) (ci := 7) rfl rfl rfl (Nat.le_of_ble_eq_true rfl) dL_law_1672 (fun _ _ h9 => h9.elim) ?_
  rintro v9 u9 ⟨rfl, rfl⟩
  refine V.perm (Wd' := wM am cy S ++ (wC ad cy S ++ [cL9 cy o f, cD9 cy od g])) pm_AB ?_
  refine V.aload_n X dL_law_1675 rfl ?_
  refine V.callV (C := "RunbookerModel") [] X (c_X6_isRunning l D cy am S (wC ad cy S ++ [cL9 cy o f, cD9 cy od g]) hI) mv_X6_isRunning gw_7_65 ⟨⟨(Nat.le_of_ble_eq_true rfl), (Nat.le_of_ble_eq_true rfl)⟩, (by show K + 0 + 0 ≤ 601024; omega), (by show N + 0 + 0 ≤ 7293034; omega)⟩ (q0 := 0) (ci := 8) rfl rfl rfl (Nat.le_of_ble_eq_true rfl) dL_law_1676 (fun _ _ h9 => h9.elim) ?_
  rintro v9 u9 ⟨r9, rfl, hr9, rfl⟩
  exact V.icmp_eq (tgt := 3010) X dL_law_1679 (by decide) id id (fun _ => LC.go next (S9 := (sN S 62 (fun _ => 0))) rfl rfl (hS.up.n62 (by decide)) (by show K + 0 + 0 ≤ K + 64; omega) (by show N + 0 + 0 ≤ N + 1024; omega)) (fun h9 => absurd (hr9 rfl).symm h9)
set_option maxRecDepth 20000 in
set_option maxHeartbeats 4000000 in
theorem lc_24 (l : Launch) (D : va_G) (M : VM) (cy : Nat → ClassId) (ad am : Nat → Nat) (o od b Ln : Nat) (xs : Nat → Int32) (i6 c : Nat) (S : St) (K N : Nat) (f : Nat → Int64) (g : Nat → UInt64) (h : LC l D M cy ad am o od b Ln xs i6 c S K N) : V l D M K N (wC ad cy S ++ cL9 cy o f :: cD9 cy od g :: wM am cy S) (LL b (ad 0) (am 0) o od i6) 1684 [] := by
  obtain ⟨X, hNc, hB9, hSc, hi, hLn, hS, hc, hK, hN, next⟩ := h
  have hI := hS.1
  have hR := hS.rm hc
  refine V.aload_n X dL_law_1684 rfl ?_
  refine V.arg (j := 1) X hSc rfl rfl (by omega) hLn rfl dL_law_1685 dL_law_1686 dL_law_1688 dL_law_1689 dL_law_1690 (pc9 := 1691) rfl ?_
  refine V.aload_n X dL_law_1691 rfl ?_
  refine V.callSW [.ref (ad 0), .int (xs (i6 + 1)), .ref o] X hNc (c_L_stateOf l D cy ad S o f (cD9 cy od g :: wM am cy S) (xs (i6 + 1)) hI) gw_4_79 gw_1_0 gw_4_80 (by show _ ≠ _ ∧ _ ≠ _ ∧ _ = some (3 : Nat); decide +kernel) gw_4_78 ⟨⟨(Nat.le_of_ble_eq_true rfl), (Nat.le_of_ble_eq_true rfl)⟩, (by show K + 8 ≤ 601024; omega), (by show N + 48 ≤ 7293034; omega)⟩ rfl (Nat.le_of_ble_eq_true rfl) dL_law_1692 ?_
  rintro v9 u9 ⟨T, rfl, hT0, hTx, rfl⟩
  refine V.istore (L' := [(6, .int (nI (kSR2 S (xs (i6 + 1))))), (5, .int (nI i6)), (0, .ref b), (1, .ref (ad 0)), (2, .ref (am 0)), (3, .ref o), (4, .ref od)]) X dL_law_1695 hB9 (by decide) rfl ?_
  have hk4 : kSR2 S (xs (i6 + 1)) < 1000000 := by unfold kSR2; (repeat' split) <;> decide
  refine V.perm (Wd' := wM am cy S ++ (wC ad cy T ++ [cL9 cy o (if kSR2 S (xs (i6 + 1)) = 0 then vp_updL f 0 ((c2i (rC S 22 (ix (xs (i6 + 1))))).toInt64) else f), cD9 cy od g])) pm_AB ?_
  refine V.aload_n X dL_law_1697 rfl ?_
  refine V.arg (j := 1) X hSc rfl rfl (by omega) hLn rfl dL_law_1698 dL_law_1699 dL_law_1701 dL_law_1702 dL_law_1703 (pc9 := 1704) rfl ?_
  refine V.callV (C := "RunbookerModel") [.int (xs (i6 + 1))] X (c_X6_stateOf l D cy am S (wC ad cy T ++ [cL9 cy o (if kSR2 S (xs (i6 + 1)) = 0 then vp_updL f 0 ((c2i (rC S 22 (ix (xs (i6 + 1))))).toInt64) else f), cD9 cy od g]) (xs (i6 + 1)) hI) mv_X6_stateOf gw_7_69 ⟨⟨(Nat.le_of_ble_eq_true rfl), (Nat.le_of_ble_eq_true rfl)⟩, (by show K + 8 + 0 ≤ 601024; omega), (by show N + 48 + 0 ≤ 7293034; omega)⟩ (q0 := 0) (ci := 8) rfl rfl rfl (Nat.le_of_ble_eq_true rfl) dL_law_1704 (fun _ _ h9 => h9.elim) ?_
  rintro v9 u9 ⟨rfl, rfl⟩
  refine V.istore (L' := [(7, .int (c2i (soM S (xs (i6 + 1))))), (6, .int (nI (kSR2 S (xs (i6 + 1))))), (5, .int (nI i6)), (0, .ref b), (1, .ref (ad 0)), (2, .ref (am 0)), (3, .ref o), (4, .ref od)]) X dL_law_1707 hB9 (by decide) rfl ?_
  refine tailI (kx := kSR2 S (xs (i6 + 1))) (q0 := 60) (r9 := c2i (soM S (xs (i6 + 1)))) (fo := (if kSR2 S (xs (i6 + 1)) = 0 then vp_updL f 0 ((c2i (rC S 22 (ix (xs (i6 + 1))))).toInt64) else f)) X rfl rfl rfl rfl rfl (by omega) rfl (fun h0 => by rw [out0 h0, ans_so h0]) (Nat.le_of_ble_eq_true rfl) (Nat.le_of_ble_eq_true rfl) (by show K + 8 + 0 ≤ 601024; omega) (by show N + 48 + 0 ≤ 7293034; omega) dL_law_1709 dL_law_1710 dL_law_1713 dL_law_1715 dL_law_1720 dL_law_1722 dL_law_1725 dL_law_1726 dL_law_1727 dL_law_1728 dL_law_1730 dL_law_1731 dL_law_1732 dL_law_1737 (by decide) ?_
  refine V.pick [2, 3, 4, 5, 6, 7] rfl ?_
  refine LC.go next (S9 := (sN S 62 (fun _ => kSR2 S (xs (i6 + 1))))) (by rw [T_eq hT0 hTx]; rfl) rfl (hS.up.n62 hk4) (by show K + 8 + 0 ≤ K + 64; omega) (by show N + 48 + 0 ≤ N + 1024; omega)
set_option maxRecDepth 20000 in
set_option maxHeartbeats 4000000 in
theorem lc_25 (l : Launch) (D : va_G) (M : VM) (cy : Nat → ClassId) (ad am : Nat → Nat) (o od b Ln : Nat) (xs : Nat → Int32) (i6 c : Nat) (S : St) (K N : Nat) (f : Nat → Int64) (g : Nat → UInt64) (h : LC l D M cy ad am o od b Ln xs i6 c S K N) : V l D M K N (wC ad cy S ++ cL9 cy o f :: cD9 cy od g :: wM am cy S) (LL b (ad 0) (am 0) o od i6) 1740 [] := by
  obtain ⟨X, hNc, hB9, hSc, hi, hLn, hS, hc, hK, hN, next⟩ := h
  have hI := hS.1
  have hR := hS.rm hc
  refine V.aload_n X dL_law_1740 rfl ?_
  refine V.arg (j := 1) X hSc rfl rfl (by omega) hLn rfl dL_law_1741 dL_law_1742 dL_law_1744 dL_law_1745 dL_law_1746 (pc9 := 1747) rfl ?_
  refine V.aload_n X dL_law_1747 rfl ?_
  refine V.callSW [.ref (ad 0), .int (xs (i6 + 1)), .ref o] X hNc (c_L_triesOf l D cy ad S o f (cD9 cy od g :: wM am cy S) (xs (i6 + 1)) hI) gw_4_91 gw_1_0 gw_4_92 (by show _ ≠ _ ∧ _ ≠ _ ∧ _ = some (3 : Nat); decide +kernel) gw_4_90 ⟨⟨(Nat.le_of_ble_eq_true rfl), (Nat.le_of_ble_eq_true rfl)⟩, (by show K + 8 ≤ 601024; omega), (by show N + 48 ≤ 7293034; omega)⟩ rfl (Nat.le_of_ble_eq_true rfl) dL_law_1748 ?_
  rintro v9 u9 ⟨T, rfl, hT0, hTx, rfl⟩
  refine V.istore (L' := [(6, .int (nI (kSR2 S (xs (i6 + 1))))), (5, .int (nI i6)), (0, .ref b), (1, .ref (ad 0)), (2, .ref (am 0)), (3, .ref o), (4, .ref od)]) X dL_law_1751 hB9 (by decide) rfl ?_
  have hk4 : kSR2 S (xs (i6 + 1)) < 1000000 := by unfold kSR2; (repeat' split) <;> decide
  refine V.perm (Wd' := wM am cy S ++ (wC ad cy T ++ [cL9 cy o (if kSR2 S (xs (i6 + 1)) = 0 then vp_updL f 0 ((nI (rN S 25 (ix (xs (i6 + 1))))).toInt64) else f), cD9 cy od g])) pm_AB ?_
  refine V.aload_n X dL_law_1753 rfl ?_
  refine V.arg (j := 1) X hSc rfl rfl (by omega) hLn rfl dL_law_1754 dL_law_1755 dL_law_1757 dL_law_1758 dL_law_1759 (pc9 := 1760) rfl ?_
  refine V.callV (C := "RunbookerModel") [.int (xs (i6 + 1))] X (c_X6_triesOf l D cy am S (wC ad cy T ++ [cL9 cy o (if kSR2 S (xs (i6 + 1)) = 0 then vp_updL f 0 ((nI (rN S 25 (ix (xs (i6 + 1))))).toInt64) else f), cD9 cy od g]) (xs (i6 + 1)) hI) mv_X6_triesOf gw_7_77 ⟨⟨(Nat.le_of_ble_eq_true rfl), (Nat.le_of_ble_eq_true rfl)⟩, (by show K + 8 + 0 ≤ 601024; omega), (by show N + 48 + 0 ≤ 7293034; omega)⟩ (q0 := 0) (ci := 8) rfl rfl rfl (Nat.le_of_ble_eq_true rfl) dL_law_1760 (fun _ _ h9 => h9.elim) ?_
  rintro v9 u9 ⟨rfl, rfl⟩
  refine V.istore (L' := [(7, .int (nI (toM S (xs (i6 + 1))))), (6, .int (nI (kSR2 S (xs (i6 + 1))))), (5, .int (nI i6)), (0, .ref b), (1, .ref (ad 0)), (2, .ref (am 0)), (3, .ref o), (4, .ref od)]) X dL_law_1763 hB9 (by decide) rfl ?_
  refine tailI (kx := kSR2 S (xs (i6 + 1))) (q0 := 60) (r9 := nI (toM S (xs (i6 + 1)))) (fo := (if kSR2 S (xs (i6 + 1)) = 0 then vp_updL f 0 ((nI (rN S 25 (ix (xs (i6 + 1))))).toInt64) else f)) X rfl rfl rfl rfl rfl (by omega) rfl (fun h0 => by rw [out0 h0, ans_to h0]) (Nat.le_of_ble_eq_true rfl) (Nat.le_of_ble_eq_true rfl) (by show K + 8 + 0 ≤ 601024; omega) (by show N + 48 + 0 ≤ 7293034; omega) dL_law_1765 dL_law_1766 dL_law_1769 dL_law_1771 dL_law_1776 dL_law_1778 dL_law_1781 dL_law_1782 dL_law_1783 dL_law_1784 dL_law_1786 dL_law_1787 dL_law_1788 dL_law_1793 (by decide) ?_
  refine V.pick [2, 3, 4, 5, 6, 7] rfl ?_
  refine LC.go next (S9 := (sN S 62 (fun _ => kSR2 S (xs (i6 + 1))))) (by rw [T_eq hT0 hTx]; rfl) rfl (hS.up.n62 hk4) (by show K + 8 + 0 ≤ K + 64; omega) (by show N + 48 + 0 ≤ N + 1024; omega)
