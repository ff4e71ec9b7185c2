/-! the law's cases, its loop -/
theorem ll_13 : zLkV R_law 13 mX11_house := ⟨zm2 164 rfl rfl, zm2 165 rfl rfl, zm2 166 rfl rfl, zm1 1 rfl rfl⟩
theorem ll_17 : zLkV R_law 17 mX12_house := ⟨zm6 104 rfl rfl, zm6 105 rfl rfl, zm6 106 rfl rfl, zm1 14 rfl rfl⟩
theorem la_house {P : zPar} {i : Nat} {M N : zMem} (X : zLx P) (hL : i + 5 ≤ P.L) (hv : zInv M N) (kk : ∀ M' N', zInv M' N' → zLn P 1782 [] i M' N') : zLn P 256 [] i M N := by
  obtain ⟨r, P0, P1, s0, s1, hk⟩ := st_house hv (P.xs (i + 1)) (P.xs (i + 2)) (P.xs (i + 3)) (P.xs (i + 4))
  refine zl_x X dL_256 ?_
  refine zl_arg X (j := 1) (by decide) (by omega) dL_257 dL_258 dL_259 dL_260 dL_261 ?_
  refine zl_arg X (j := 2) (by decide) (by omega) dL_262 dL_263 dL_264 dL_265 dL_266 ?_
  refine zl_arg X (j := 3) (by decide) (by omega) dL_267 dL_268 dL_269 dL_270 dL_271 ?_
  refine zl_arg X (j := 4) (by decide) (by omega) dL_272 dL_273 dL_274 dL_275 dL_276 ?_
  refine zl_call0 (as := [.int (P.xs (i + 1)), .int (P.xs (i + 2)), .int (P.xs (i + 3)), .int (P.xs (i + 4))]) (rest := []) X ll_13 ce_X11_house rfl dL_277 rfl rfl (fun _ => rfl) (Nat.le_of_ble_eq_true rfl) s0 (fun M' q0 => ?_)
  refine zl_m X dL_280 ?_
  refine zl_arg X (j := 1) (by decide) (by omega) dL_281 dL_282 dL_283 dL_284 dL_285 ?_
  refine zl_arg X (j := 2) (by decide) (by omega) dL_286 dL_287 dL_288 dL_289 dL_290 ?_
  refine zl_arg X (j := 3) (by decide) (by omega) dL_291 dL_292 dL_293 dL_294 dL_295 ?_
  refine zl_arg X (j := 4) (by decide) (by omega) dL_296 dL_297 dL_298 dL_299 dL_300 ?_
  refine zl_call1 (as := [.int (P.xs (i + 1)), .int (P.xs (i + 2)), .int (P.xs (i + 3)), .int (P.xs (i + 4))]) (rest := [.int r]) X ll_17 ce_X12_house rfl dL_301 rfl rfl (fun _ => rfl) (Nat.le_of_ble_eq_true rfl) s1 (fun N' q1 => ?_)
  exact zl_eq X dL_304 (tgt := 1782) (by decide) (kk M' N' (hk M' N' q0 q1))
theorem ll_18 : zLkV R_law 18 mX11_houseOf := ⟨zm2 178 rfl rfl, zm2 179 rfl rfl, zm2 180 rfl rfl, zm1 1 rfl rfl⟩
theorem ll_22 : zLkV R_law 22 mX12_houseOf := ⟨zm6 121 rfl rfl, zm6 122 rfl rfl, zm6 123 rfl rfl, zm1 14 rfl rfl⟩
theorem la_houseOf {P : zPar} {i : Nat} {M N : zMem} (X : zLx P) (hL : i + 5 ≤ P.L) (hv : zInv M N) (kk : ∀ M' N', zInv M' N' → zLn P 1782 [] i M' N') : zLn P 309 [] i M N := by
  obtain ⟨r, P0, P1, s0, s1, hk⟩ := st_houseOf hv (P.xs (i + 1)) (P.xs (i + 2))
  refine zl_x X dL_309 ?_
  refine zl_arg X (j := 1) (by decide) (by omega) dL_310 dL_311 dL_312 dL_313 dL_314 ?_
  refine zl_arg X (j := 2) (by decide) (by omega) dL_315 dL_316 dL_317 dL_318 dL_319 ?_
  refine zl_call0 (as := [.int (P.xs (i + 1)), .int (P.xs (i + 2))]) (rest := []) X ll_18 ce_X11_houseOf rfl dL_320 rfl rfl (fun _ => rfl) (Nat.le_of_ble_eq_true rfl) s0 (fun M' q0 => ?_)
  refine zl_m X dL_323 ?_
  refine zl_arg X (j := 1) (by decide) (by omega) dL_324 dL_325 dL_326 dL_327 dL_328 ?_
  refine zl_arg X (j := 2) (by decide) (by omega) dL_329 dL_330 dL_331 dL_332 dL_333 ?_
  refine zl_call1 (as := [.int (P.xs (i + 1)), .int (P.xs (i + 2))]) (rest := [.int r]) X ll_22 ce_X12_houseOf rfl dL_334 rfl rfl (fun _ => rfl) (Nat.le_of_ble_eq_true rfl) s1 (fun N' q1 => ?_)
  exact zl_eq X dL_337 (tgt := 1782) (by decide) (kk M' N' (hk M' N' q0 q1))
theorem ll_23 : zLkV R_law 23 mX11_change := ⟨zm3 3 rfl rfl, zm3 4 rfl rfl, zm3 5 rfl rfl, zm1 1 rfl rfl⟩
theorem ll_27 : zLkV R_law 27 mX12_change := ⟨zm6 176 rfl rfl, zm6 177 rfl rfl, zm6 178 rfl rfl, zm1 14 rfl rfl⟩
theorem la_change {P : zPar} {i : Nat} {M N : zMem} (X : zLx P) (hL : i + 5 ≤ P.L) (hv : zInv M N) (kk : ∀ M' N', zInv M' N' → zLn P 1782 [] i M' N') : zLn P 342 [] i M N := by
  obtain ⟨r, P0, P1, s0, s1, hk⟩ := st_change hv (P.xs (i + 1)) (P.xs (i + 2)) (P.xs (i + 3))
  refine zl_x X dL_342 ?_
  refine zl_arg X (j := 1) (by decide) (by omega) dL_343 dL_344 dL_345 dL_346 dL_347 ?_
  refine zl_arg X (j := 2) (by decide) (by omega) dL_348 dL_349 dL_350 dL_351 dL_352 ?_
  refine zl_arg X (j := 3) (by decide) (by omega) dL_353 dL_354 dL_355 dL_356 dL_357 ?_
  refine zl_call0 (as := [.int (P.xs (i + 1)), .int (P.xs (i + 2)), .int (P.xs (i + 3))]) (rest := []) X ll_23 ce_X11_change rfl dL_358 rfl rfl (fun _ => rfl) (Nat.le_of_ble_eq_true rfl) s0 (fun M' q0 => ?_)
  refine zl_m X dL_361 ?_
  refine zl_arg X (j := 1) (by decide) (by omega) dL_362 dL_363 dL_364 dL_365 dL_366 ?_
  refine zl_arg X (j := 2) (by decide) (by omega) dL_367 dL_368 dL_369 dL_370 dL_371 ?_
  refine zl_arg X (j := 3) (by decide) (by omega) dL_372 dL_373 dL_374 dL_375 dL_376 ?_
  refine zl_call1 (as := [.int (P.xs (i + 1)), .int (P.xs (i + 2)), .int (P.xs (i + 3))]) (rest := [.int r]) X ll_27 ce_X12_change rfl dL_377 rfl rfl (fun _ => rfl) (Nat.le_of_ble_eq_true rfl) s1 (fun N' q1 => ?_)
  exact zl_eq X dL_380 (tgt := 1782) (by decide) (kk M' N' (hk M' N' q0 q1))
theorem ll_28 : zLkV R_law 28 mX11_remake := ⟨zm3 11 rfl rfl, zm3 12 rfl rfl, zm3 13 rfl rfl, zm1 1 rfl rfl⟩
theorem ll_31 : zLkV R_law 31 mX12_remake := ⟨zm6 184 rfl rfl, zm6 185 rfl rfl, zm6 186 rfl rfl, zm1 14 rfl rfl⟩
theorem la_remake {P : zPar} {i : Nat} {M N : zMem} (X : zLx P) (hL : i + 5 ≤ P.L) (hv : zInv M N) (kk : ∀ M' N', zInv M' N' → zLn P 1782 [] i M' N') : zLn P 385 [] i M N := by
  obtain ⟨r, P0, P1, s0, s1, hk⟩ := st_remake hv (P.xs (i + 1)) (P.xs (i + 2))
  refine zl_x X dL_385 ?_
  refine zl_arg X (j := 1) (by decide) (by omega) dL_386 dL_387 dL_388 dL_389 dL_390 ?_
  refine zl_arg X (j := 2) (by decide) (by omega) dL_391 dL_392 dL_393 dL_394 dL_395 ?_
  refine zl_call0 (as := [.int (P.xs (i + 1)), .int (P.xs (i + 2))]) (rest := []) X ll_28 ce_X11_remake rfl dL_396 rfl rfl (fun _ => rfl) (Nat.le_of_ble_eq_true rfl) s0 (fun M' q0 => ?_)
  refine zl_m X dL_399 ?_
  refine zl_arg X (j := 1) (by decide) (by omega) dL_400 dL_401 dL_402 dL_403 dL_404 ?_
  refine zl_arg X (j := 2) (by decide) (by omega) dL_405 dL_406 dL_407 dL_408 dL_409 ?_
  refine zl_call1 (as := [.int (P.xs (i + 1)), .int (P.xs (i + 2))]) (rest := [.int r]) X ll_31 ce_X12_remake rfl dL_410 rfl rfl (fun _ => rfl) (Nat.le_of_ble_eq_true rfl) s1 (fun N' q1 => ?_)
  exact zl_eq X dL_413 (tgt := 1782) (by decide) (kk M' N' (hk M' N' q0 q1))
theorem ll_32 : zLkV R_law 32 mX11_dusk := ⟨zm3 15 rfl rfl, zm3 16 rfl rfl, zm3 17 rfl rfl, zm1 1 rfl rfl⟩
theorem ll_35 : zLkV R_law 35 mX12_dusk := ⟨zm6 188 rfl rfl, zm6 189 rfl rfl, zm6 190 rfl rfl, zm1 14 rfl rfl⟩
theorem la_dusk {P : zPar} {i : Nat} {M N : zMem} (X : zLx P) (hL : i + 5 ≤ P.L) (hv : zInv M N) (kk : ∀ M' N', zInv M' N' → zLn P 1782 [] i M' N') : zLn P 418 [] i M N := by
  obtain ⟨r, P0, P1, s0, s1, hk⟩ := st_dusk hv (P.xs (i + 1)) (P.xs (i + 2))
  refine zl_x X dL_418 ?_
  refine zl_arg X (j := 1) (by decide) (by omega) dL_419 dL_420 dL_421 dL_422 dL_423 ?_
  refine zl_arg X (j := 2) (by decide) (by omega) dL_424 dL_425 dL_426 dL_427 dL_428 ?_
  refine zl_call0 (as := [.int (P.xs (i + 1)), .int (P.xs (i + 2))]) (rest := []) X ll_32 ce_X11_dusk rfl dL_429 rfl rfl (fun _ => rfl) (Nat.le_of_ble_eq_true rfl) s0 (fun M' q0 => ?_)
  refine zl_m X dL_432 ?_
  refine zl_arg X (j := 1) (by decide) (by omega) dL_433 dL_434 dL_435 dL_436 dL_437 ?_
  refine zl_arg X (j := 2) (by decide) (by omega) dL_438 dL_439 dL_440 dL_441 dL_442 ?_
  refine zl_call1 (as := [.int (P.xs (i + 1)), .int (P.xs (i + 2))]) (rest := [.int r]) X ll_35 ce_X12_dusk rfl dL_443 rfl rfl (fun _ => rfl) (Nat.le_of_ble_eq_true rfl) s1 (fun N' q1 => ?_)
  exact zl_eq X dL_446 (tgt := 1782) (by decide) (kk M' N' (hk M' N' q0 q1))
theorem ll_36 : zLkV R_law 36 mX11_lane := ⟨zm3 19 rfl rfl, zm3 20 rfl rfl, zm3 21 rfl rfl, zm1 1 rfl rfl⟩
theorem ll_39 : zLkV R_law 39 mX12_lane := ⟨zm6 192 rfl rfl, zm6 193 rfl rfl, zm6 194 rfl rfl, zm1 14 rfl rfl⟩
theorem la_lane {P : zPar} {i : Nat} {M N : zMem} (X : zLx P) (hL : i + 5 ≤ P.L) (hv : zInv M N) (kk : ∀ M' N', zInv M' N' → zLn P 1782 [] i M' N') : zLn P 451 [] i M N := by
  obtain ⟨r, P0, P1, s0, s1, hk⟩ := st_lane hv (P.xs (i + 1)) (P.xs (i + 2)) (P.xs (i + 3))
  refine zl_x X dL_451 ?_
  refine zl_arg X (j := 1) (by decide) (by omega) dL_452 dL_453 dL_454 dL_455 dL_456 ?_
  refine zl_arg X (j := 2) (by decide) (by omega) dL_457 dL_458 dL_459 dL_460 dL_461 ?_
  refine zl_arg X (j := 3) (by decide) (by omega) dL_462 dL_463 dL_464 dL_465 dL_466 ?_
  refine zl_call0 (as := [.int (P.xs (i + 1)), .int (P.xs (i + 2)), .int (P.xs (i + 3))]) (rest := []) X ll_36 ce_X11_lane rfl dL_467 rfl rfl (fun _ => rfl) (Nat.le_of_ble_eq_true rfl) s0 (fun M' q0 => ?_)
  refine zl_m X dL_470 ?_
  refine zl_arg X (j := 1) (by decide) (by omega) dL_471 dL_472 dL_473 dL_474 dL_475 ?_
  refine zl_arg X (j := 2) (by decide) (by omega) dL_476 dL_477 dL_478 dL_479 dL_480 ?_
  refine zl_arg X (j := 3) (by decide) (by omega) dL_481 dL_482 dL_483 dL_484 dL_485 ?_
  refine zl_call1 (as := [.int (P.xs (i + 1)), .int (P.xs (i + 2)), .int (P.xs (i + 3))]) (rest := [.int r]) X ll_39 ce_X12_lane rfl dL_486 rfl rfl (fun _ => rfl) (Nat.le_of_ble_eq_true rfl) s1 (fun N' q1 => ?_)
  exact zl_eq X dL_489 (tgt := 1782) (by decide) (kk M' N' (hk M' N' q0 q1))
theorem ll_40 : zLkV R_law 40 mX11_laneOf := ⟨zm3 27 rfl rfl, zm3 24 rfl rfl, zm3 25 rfl rfl, zm1 1 rfl rfl⟩
theorem ll_43 : zLkV R_law 43 mX12_laneOf := ⟨zm6 196 rfl rfl, zm6 197 rfl rfl, zm6 198 rfl rfl, zm1 14 rfl rfl⟩
theorem la_laneOf {P : zPar} {i : Nat} {M N : zMem} (X : zLx P) (hL : i + 5 ≤ P.L) (hv : zInv M N) (kk : ∀ M' N', zInv M' N' → zLn P 1782 [] i M' N') : zLn P 494 [] i M N := by
  obtain ⟨r, P0, P1, s0, s1, hk⟩ := st_laneOf hv (P.xs (i + 1)) (P.xs (i + 2))
  refine zl_x X dL_494 ?_
  refine zl_arg X (j := 1) (by decide) (by omega) dL_495 dL_496 dL_497 dL_498 dL_499 ?_
  refine zl_arg X (j := 2) (by decide) (by omega) dL_500 dL_501 dL_502 dL_503 dL_504 ?_
  refine zl_call0 (as := [.int (P.xs (i + 1)), .int (P.xs (i + 2))]) (rest := []) X ll_40 ce_X11_laneOf rfl dL_505 rfl rfl (fun _ => rfl) (Nat.le_of_ble_eq_true rfl) s0 (fun M' q0 => ?_)
  refine zl_m X dL_508 ?_
  refine zl_arg X (j := 1) (by decide) (by omega) dL_509 dL_510 dL_511 dL_512 dL_513 ?_
  refine zl_arg X (j := 2) (by decide) (by omega) dL_514 dL_515 dL_516 dL_517 dL_518 ?_
  refine zl_call1 (as := [.int (P.xs (i + 1)), .int (P.xs (i + 2))]) (rest := [.int r]) X ll_43 ce_X12_laneOf rfl dL_519 rfl rfl (fun _ => rfl) (Nat.le_of_ble_eq_true rfl) s1 (fun N' q1 => ?_)
  exact zl_eq X dL_522 (tgt := 1782) (by decide) (kk M' N' (hk M' N' q0 q1))
theorem ll_44 : zLkV R_law 44 mX11_shop := ⟨zm3 28 rfl rfl, zm3 29 rfl rfl, zm3 30 rfl rfl, zm1 1 rfl rfl⟩
theorem ll_47 : zLkV R_law 47 mX12_shop := ⟨zm6 200 rfl rfl, zm6 201 rfl rfl, zm6 202 rfl rfl, zm1 14 rfl rfl⟩
theorem la_shop {P : zPar} {i : Nat} {M N : zMem} (X : zLx P) (hL : i + 5 ≤ P.L) (hv : zInv M N) (kk : ∀ M' N', zInv M' N' → zLn P 1782 [] i M' N') : zLn P 527 [] i M N := by
  obtain ⟨r, P0, P1, s0, s1, hk⟩ := st_shop hv (P.xs (i + 1)) (P.xs (i + 2))
  refine zl_x X dL_527 ?_
  refine zl_arg X (j := 1) (by decide) (by omega) dL_528 dL_529 dL_530 dL_531 dL_532 ?_
  refine zl_arg X (j := 2) (by decide) (by omega) dL_533 dL_534 dL_535 dL_536 dL_537 ?_
  refine zl_call0 (as := [.int (P.xs (i + 1)), .int (P.xs (i + 2))]) (rest := []) X ll_44 ce_X11_shop rfl dL_538 rfl rfl (fun _ => rfl) (Nat.le_of_ble_eq_true rfl) s0 (fun M' q0 => ?_)
  refine zl_m X dL_541 ?_
  refine zl_arg X (j := 1) (by decide) (by omega) dL_542 dL_543 dL_544 dL_545 dL_546 ?_
  refine zl_arg X (j := 2) (by decide) (by omega) dL_547 dL_548 dL_549 dL_550 dL_551 ?_
  refine zl_call1 (as := [.int (P.xs (i + 1)), .int (P.xs (i + 2))]) (rest := [.int r]) X ll_47 ce_X12_shop rfl dL_552 rfl rfl (fun _ => rfl) (Nat.le_of_ble_eq_true rfl) s1 (fun N' q1 => ?_)
  exact zl_eq X dL_555 (tgt := 1782) (by decide) (kk M' N' (hk M' N' q0 q1))
theorem ll_48 : zLkV R_law 48 mX11_ends := ⟨zm3 32 rfl rfl, zm3 33 rfl rfl, zm3 34 rfl rfl, zm1 1 rfl rfl⟩
theorem ll_52 : zLkV R_law 52 mX12_ends := ⟨zm6 204 rfl rfl, zm6 205 rfl rfl, zm6 206 rfl rfl, zm1 14 rfl rfl⟩
theorem la_ends {P : zPar} {i : Nat} {M N : zMem} (X : zLx P) (hL : i + 5 ≤ P.L) (hv : zInv M N) (kk : ∀ M' N', zInv M' N' → zLn P 1782 [] i M' N') : zLn P 560 [] i M N := by
  obtain ⟨r, P0, P1, s0, s1, hk⟩ := st_ends hv (P.xs (i + 1))
  refine zl_x X dL_560 ?_
  refine zl_arg X (j := 1) (by decide) (by omega) dL_561 dL_562 dL_563 dL_564 dL_565 ?_
  refine zl_call0 (as := [.int (P.xs (i + 1))]) (rest := []) X ll_48 ce_X11_ends rfl dL_566 rfl rfl (fun _ => rfl) (Nat.le_of_ble_eq_true rfl) s0 (fun M' q0 => ?_)
  refine zl_m X dL_569 ?_
  refine zl_arg X (j := 1) (by decide) (by omega) dL_570 dL_571 dL_572 dL_573 dL_574 ?_
  refine zl_call1 (as := [.int (P.xs (i + 1))]) (rest := [.int r]) X ll_52 ce_X12_ends rfl dL_575 rfl rfl (fun _ => rfl) (Nat.le_of_ble_eq_true rfl) s1 (fun N' q1 => ?_)
  exact zl_eq X dL_578 (tgt := 1782) (by decide) (kk M' N' (hk M' N' q0 q1))
theorem ll_53 : zLkV R_law 53 mX11_anew := ⟨zm3 36 rfl rfl, zm3 37 rfl rfl, zm3 38 rfl rfl, zm1 1 rfl rfl⟩
theorem ll_57 : zLkV R_law 57 mX12_anew := ⟨zm6 208 rfl rfl, zm6 209 rfl rfl, zm6 210 rfl rfl, zm1 14 rfl rfl⟩
theorem la_anew {P : zPar} {i : Nat} {M N : zMem} (X : zLx P) (hL : i + 5 ≤ P.L) (hv : zInv M N) (kk : ∀ M' N', zInv M' N' → zLn P 1782 [] i M' N') : zLn P 583 [] i M N := by
  obtain ⟨r, P0, P1, s0, s1, hk⟩ := st_anew hv 
  refine zl_x X dL_583 ?_
  refine zl_call0 (as := []) (rest := []) X ll_53 ce_X11_anew rfl dL_584 rfl rfl (fun _ => rfl) (Nat.le_of_ble_eq_true rfl) s0 (fun M' q0 => ?_)
  refine zl_m X dL_587 ?_
  refine zl_call1 (as := []) (rest := [.int r]) X ll_57 ce_X12_anew rfl dL_588 rfl rfl (fun _ => rfl) (Nat.le_of_ble_eq_true rfl) s1 (fun N' q1 => ?_)
  exact zl_eq X dL_591 (tgt := 1782) (by decide) (kk M' N' (hk M' N' q0 q1))
theorem ll_58 : zLkV R_law 58 mX11_state := ⟨zm3 44 rfl rfl, zm3 45 rfl rfl, zm3 46 rfl rfl, zm1 1 rfl rfl⟩
theorem ll_61 : zLkV R_law 61 mX12_state := ⟨zm6 212 rfl rfl, zm6 213 rfl rfl, zm6 214 rfl rfl, zm1 14 rfl rfl⟩
theorem la_state {P : zPar} {i : Nat} {M N : zMem} (X : zLx P) (hL : i + 5 ≤ P.L) (hv : zInv M N) (kk : ∀ M' N', zInv M' N' → zLn P 1782 [] i M' N') : zLn P 596 [] i M N := by
  obtain ⟨r, P0, P1, s0, s1, hk⟩ := st_state hv (P.xs (i + 1))
  refine zl_x X dL_596 ?_
  refine zl_arg X (j := 1) (by decide) (by omega) dL_597 dL_598 dL_599 dL_600 dL_601 ?_
  refine zl_call0 (as := [.int (P.xs (i + 1))]) (rest := []) X ll_58 ce_X11_state rfl dL_602 rfl rfl (fun _ => rfl) (Nat.le_of_ble_eq_true rfl) s0 (fun M' q0 => ?_)
  refine zl_m X dL_605 ?_
  refine zl_arg X (j := 1) (by decide) (by omega) dL_606 dL_607 dL_608 dL_609 dL_610 ?_
  refine zl_call1 (as := [.int (P.xs (i + 1))]) (rest := [.int r]) X ll_61 ce_X12_state rfl dL_611 rfl rfl (fun _ => rfl) (Nat.le_of_ble_eq_true rfl) s1 (fun N' q1 => ?_)
  exact zl_eq X dL_614 (tgt := 1782) (by decide) (kk M' N' (hk M' N' q0 q1))
theorem ll_64 : zLkV R_law 64 mX11_feed := ⟨zm3 60 rfl rfl, zm3 61 rfl rfl, zm3 62 rfl rfl, zm1 1 rfl rfl⟩
theorem ll_68 : zLkV R_law 68 mX12_feed := ⟨zm6 36 rfl rfl, zm6 37 rfl rfl, zm6 38 rfl rfl, zm1 14 rfl rfl⟩
theorem la_feed {P : zPar} {i : Nat} {M N : zMem} (X : zLx P) (hL : i + 5 ≤ P.L) (hv : zInv M N) (kk : ∀ M' N', zInv M' N' → zLn P 1782 [] i M' N') : zLn P 619 [] i M N := by
  obtain ⟨r, P0, P1, s0, s1, hk⟩ := st_feed hv ((((P.xs (i + 1)).toInt64) <<< ((nI 32).toInt64 &&& 63)) ||| (((P.xs (i + 2)).toInt64) &&& (4294967295))) (P.xs (i + 3))
  refine zl_x X dL_619 ?_
  refine zl_arg X (j := 1) (by decide) (by omega) dL_620 dL_621 dL_622 dL_623 dL_624 ?_
  refine zl_i2l X dL_625 ?_
  refine zl_bipush X dL_626 (v := nI 32) (by decide) ?_
  refine zl_lshl X dL_628 rfl ?_
  refine zl_arg X (j := 2) (by decide) (by omega) dL_629 dL_630 dL_631 dL_632 dL_633 ?_
  refine zl_i2l X dL_634 ?_
  refine zl_ldc2 X (v := 4294967295) dL_635 (zm8 55 rfl rfl) ?_
  refine zl_land X dL_638 ?_
  refine zl_lor X dL_639 ?_
  refine zl_arg X (j := 3) (by decide) (by omega) dL_640 dL_641 dL_642 dL_643 dL_644 ?_
  refine zl_call0 (as := [.long ((((P.xs (i + 1)).toInt64) <<< ((nI 32).toInt64 &&& 63)) ||| (((P.xs (i + 2)).toInt64) &&& (4294967295))), .int (P.xs (i + 3))]) (rest := []) X ll_64 ce_X11_feed rfl dL_645 rfl rfl (fun _ => rfl) (Nat.le_of_ble_eq_true rfl) s0 (fun M' q0 => ?_)
  refine zl_m X dL_648 ?_
  refine zl_arg X (j := 1) (by decide) (by omega) dL_649 dL_650 dL_651 dL_652 dL_653 ?_
  refine zl_i2l X dL_654 ?_
  refine zl_bipush X dL_655 (v := nI 32) (by decide) ?_
  refine zl_lshl X dL_657 rfl ?_
  refine zl_arg X (j := 2) (by decide) (by omega) dL_658 dL_659 dL_660 dL_661 dL_662 ?_
  refine zl_i2l X dL_663 ?_
  refine zl_ldc2 X (v := 4294967295) dL_664 (zm8 55 rfl rfl) ?_
  refine zl_land X dL_667 ?_
  refine zl_lor X dL_668 ?_
  refine zl_arg X (j := 3) (by decide) (by omega) dL_669 dL_670 dL_671 dL_672 dL_673 ?_
  refine zl_call1 (as := [.long ((((P.xs (i + 1)).toInt64) <<< ((nI 32).toInt64 &&& 63)) ||| (((P.xs (i + 2)).toInt64) &&& (4294967295))), .int (P.xs (i + 3))]) (rest := [.int r]) X ll_68 ce_X12_feed rfl dL_674 rfl rfl (fun _ => rfl) (Nat.le_of_ble_eq_true rfl) s1 (fun N' q1 => ?_)
  exact zl_eq X dL_677 (tgt := 1782) (by decide) (kk M' N' (hk M' N' q0 q1))
theorem ll_69 : zLkV R_law 69 mX11_rules := ⟨zm3 69 rfl rfl, zm3 70 rfl rfl, zm3 71 rfl rfl, zm1 1 rfl rfl⟩
theorem ll_72 : zLkV R_law 72 mX12_rules := ⟨zm6 44 rfl rfl, zm6 45 rfl rfl, zm6 46 rfl rfl, zm1 14 rfl rfl⟩
theorem la_rules {P : zPar} {i : Nat} {M N : zMem} (X : zLx P) (hL : i + 5 ≤ P.L) (hv : zInv M N) (kk : ∀ M' N', zInv M' N' → zLn P 1782 [] i M' N') : zLn P 682 [] i M N := by
  obtain ⟨r, P0, P1, s0, s1, hk⟩ := st_rules hv 
  refine zl_x X dL_682 ?_
  refine zl_call0 (as := []) (rest := []) X ll_69 ce_X11_rules rfl dL_683 rfl rfl (fun _ => rfl) (Nat.le_of_ble_eq_true rfl) s0 (fun M' q0 => ?_)
  refine zl_m X dL_686 ?_
  refine zl_call1 (as := []) (rest := [.int r]) X ll_72 ce_X12_rules rfl dL_687 rfl rfl (fun _ => rfl) (Nat.le_of_ble_eq_true rfl) s1 (fun N' q1 => ?_)
  exact zl_eq X dL_690 (tgt := 1782) (by decide) (kk M' N' (hk M' N' q0 q1))
theorem ll_73 : zLkV R_law 73 mX11_night := ⟨zm3 186 rfl rfl, zm3 187 rfl rfl, zm3 188 rfl rfl, zm1 1 rfl rfl⟩
theorem ll_76 : zLkV R_law 76 mX12_night := ⟨zm6 224 rfl rfl, zm6 225 rfl rfl, zm6 226 rfl rfl, zm1 14 rfl rfl⟩
theorem la_night {P : zPar} {i : Nat} {M N : zMem} (X : zLx P) (hL : i + 5 ≤ P.L) (hv : zInv M N) (kk : ∀ M' N', zInv M' N' → zLn P 1782 [] i M' N') : zLn P 695 [] i M N := by
  obtain ⟨r, P0, P1, s0, s1, hk⟩ := st_night hv 
  refine zl_x X dL_695 ?_
  refine zl_call0 (as := []) (rest := []) X ll_73 ce_X11_night rfl dL_696 rfl rfl (fun _ => rfl) (Nat.le_of_ble_eq_true rfl) s0 (fun M' q0 => ?_)
  refine zl_m X dL_699 ?_
  refine zl_call1 (as := []) (rest := [.int r]) X ll_76 ce_X12_night rfl dL_700 rfl rfl (fun _ => rfl) (Nat.le_of_ble_eq_true rfl) s1 (fun N' q1 => ?_)
  exact zl_eq X dL_703 (tgt := 1782) (by decide) (kk M' N' (hk M' N' q0 q1))
theorem ll_77 : zLkV R_law 77 mX11_on := ⟨zm3 216 rfl rfl, zm3 217 rfl rfl, zm3 218 rfl rfl, zm1 1 rfl rfl⟩
theorem ll_80 : zLkV R_law 80 mX12_on := ⟨zm7 14 rfl rfl, zm7 15 rfl rfl, zm7 16 rfl rfl, zm1 14 rfl rfl⟩
theorem la_on {P : zPar} {i : Nat} {M N : zMem} (X : zLx P) (hL : i + 5 ≤ P.L) (hv : zInv M N) (kk : ∀ M' N', zInv M' N' → zLn P 1782 [] i M' N') : zLn P 708 [] i M N := by
  obtain ⟨r, P0, P1, s0, s1, hk⟩ := st_on hv (P.xs (i + 1))
  refine zl_x X dL_708 ?_
  refine zl_arg X (j := 1) (by decide) (by omega) dL_709 dL_710 dL_711 dL_712 dL_713 ?_
  refine zl_call0 (as := [.int (P.xs (i + 1))]) (rest := []) X ll_77 ce_X11_on rfl dL_714 rfl rfl (fun _ => rfl) (Nat.le_of_ble_eq_true rfl) s0 (fun M' q0 => ?_)
  refine zl_m X dL_717 ?_
  refine zl_arg X (j := 1) (by decide) (by omega) dL_718 dL_719 dL_720 dL_721 dL_722 ?_
  refine zl_call1 (as := [.int (P.xs (i + 1))]) (rest := [.int r]) X ll_80 ce_X12_on rfl dL_723 rfl rfl (fun _ => rfl) (Nat.le_of_ble_eq_true rfl) s1 (fun N' q1 => ?_)
  exact zl_eq X dL_726 (tgt := 1782) (by decide) (kk M' N' (hk M' N' q0 q1))
theorem ll_81 : zLkV R_law 81 mX11_when := ⟨zm4 1 rfl rfl, zm4 2 rfl rfl, zm4 3 rfl rfl, zm1 1 rfl rfl⟩
theorem ll_84 : zLkV R_law 84 mX12_when := ⟨zm7 30 rfl rfl, zm7 31 rfl rfl, zm7 32 rfl rfl, zm1 14 rfl rfl⟩
theorem la_when {P : zPar} {i : Nat} {M N : zMem} (X : zLx P) (hL : i + 5 ≤ P.L) (hv : zInv M N) (kk : ∀ M' N', zInv M' N' → zLn P 1782 [] i M' N') : zLn P 731 [] i M N := by
  obtain ⟨r, P0, P1, s0, s1, hk⟩ := st_when hv (P.xs (i + 1))
  refine zl_x X dL_731 ?_
  refine zl_arg X (j := 1) (by decide) (by omega) dL_732 dL_733 dL_734 dL_735 dL_736 ?_
  refine zl_call0 (as := [.int (P.xs (i + 1))]) (rest := []) X ll_81 ce_X11_when rfl dL_737 rfl rfl (fun _ => rfl) (Nat.le_of_ble_eq_true rfl) s0 (fun M' q0 => ?_)
  refine zl_m X dL_740 ?_
  refine zl_arg X (j := 1) (by decide) (by omega) dL_741 dL_742 dL_743 dL_744 dL_745 ?_
  refine zl_call1 (as := [.int (P.xs (i + 1))]) (rest := [.int r]) X ll_84 ce_X12_when rfl dL_746 rfl rfl (fun _ => rfl) (Nat.le_of_ble_eq_true rfl) s1 (fun N' q1 => ?_)
  exact zl_eq X dL_749 (tgt := 1782) (by decide) (kk M' N' (hk M' N' q0 q1))
theorem ll_85 : zLkV R_law 85 mX11_griefFor := ⟨zm4 6 rfl rfl, zm4 7 rfl rfl, zm4 8 rfl rfl, zm1 1 rfl rfl⟩
theorem ll_88 : zLkV R_law 88 mX12_griefFor := ⟨zm7 34 rfl rfl, zm7 35 rfl rfl, zm7 36 rfl rfl, zm1 14 rfl rfl⟩
theorem la_griefFor {P : zPar} {i : Nat} {M N : zMem} (X : zLx P) (hL : i + 5 ≤ P.L) (hv : zInv M N) (kk : ∀ M' N', zInv M' N' → zLn P 1782 [] i M' N') : zLn P 754 [] i M N := by
  obtain ⟨r, P0, P1, s0, s1, hk⟩ := st_griefFor hv (P.xs (i + 1))
  refine zl_x X dL_754 ?_
  refine zl_arg X (j := 1) (by decide) (by omega) dL_755 dL_756 dL_757 dL_758 dL_759 ?_
  refine zl_call0 (as := [.int (P.xs (i + 1))]) (rest := []) X ll_85 ce_X11_griefFor rfl dL_760 rfl rfl (fun _ => rfl) (Nat.le_of_ble_eq_true rfl) s0 (fun M' q0 => ?_)
  refine zl_m X dL_763 ?_
  refine zl_arg X (j := 1) (by decide) (by omega) dL_764 dL_765 dL_766 dL_767 dL_768 ?_
  refine zl_call1 (as := [.int (P.xs (i + 1))]) (rest := [.int r]) X ll_88 ce_X12_griefFor rfl dL_769 rfl rfl (fun _ => rfl) (Nat.le_of_ble_eq_true rfl) s1 (fun N' q1 => ?_)
  exact zl_eq X dL_772 (tgt := 1782) (by decide) (kk M' N' (hk M' N' q0 q1))
theorem ll_89 : zLkV R_law 89 mX11_laneFor := ⟨zm4 14 rfl rfl, zm4 15 rfl rfl, zm4 16 rfl rfl, zm1 1 rfl rfl⟩
theorem ll_92 : zLkV R_law 92 mX12_laneFor := ⟨zm7 42 rfl rfl, zm7 43 rfl rfl, zm7 44 rfl rfl, zm1 14 rfl rfl⟩
theorem la_laneFor {P : zPar} {i : Nat} {M N : zMem} (X : zLx P) (hL : i + 5 ≤ P.L) (hv : zInv M N) (kk : ∀ M' N', zInv M' N' → zLn P 1782 [] i M' N') : zLn P 777 [] i M N := by
  obtain ⟨r, P0, P1, s0, s1, hk⟩ := st_laneFor hv (P.xs (i + 1))
  refine zl_x X dL_777 ?_
  refine zl_arg X (j := 1) (by decide) (by omega) dL_778 dL_779 dL_780 dL_781 dL_782 ?_
  refine zl_call0 (as := [.int (P.xs (i + 1))]) (rest := []) X ll_89 ce_X11_laneFor rfl dL_783 rfl rfl (fun _ => rfl) (Nat.le_of_ble_eq_true rfl) s0 (fun M' q0 => ?_)
  refine zl_m X dL_786 ?_
  refine zl_arg X (j := 1) (by decide) (by omega) dL_787 dL_788 dL_789 dL_790 dL_791 ?_
  refine zl_call1 (as := [.int (P.xs (i + 1))]) (rest := [.int r]) X ll_92 ce_X12_laneFor rfl dL_792 rfl rfl (fun _ => rfl) (Nat.le_of_ble_eq_true rfl) s1 (fun N' q1 => ?_)
  exact zl_eq X dL_795 (tgt := 1782) (by decide) (kk M' N' (hk M' N' q0 q1))
theorem ll_93 : zLkV R_law 93 mX11_full := ⟨zm4 18 rfl rfl, zm4 19 rfl rfl, zm4 20 rfl rfl, zm1 1 rfl rfl⟩
theorem ll_96 : zLkV R_law 96 mX12_full := ⟨zm7 46 rfl rfl, zm7 47 rfl rfl, zm7 48 rfl rfl, zm1 14 rfl rfl⟩
theorem la_full {P : zPar} {i : Nat} {M N : zMem} (X : zLx P) (hL : i + 5 ≤ P.L) (hv : zInv M N) (kk : ∀ M' N', zInv M' N' → zLn P 1782 [] i M' N') : zLn P 800 [] i M N := by
  obtain ⟨r, P0, P1, s0, s1, hk⟩ := st_full hv (P.xs (i + 1))
  refine zl_x X dL_800 ?_
  refine zl_arg X (j := 1) (by decide) (by omega) dL_801 dL_802 dL_803 dL_804 dL_805 ?_
  refine zl_call0 (as := [.int (P.xs (i + 1))]) (rest := []) X ll_93 ce_X11_full rfl dL_806 rfl rfl (fun _ => rfl) (Nat.le_of_ble_eq_true rfl) s0 (fun M' q0 => ?_)
  refine zl_m X dL_809 ?_
  refine zl_arg X (j := 1) (by decide) (by omega) dL_810 dL_811 dL_812 dL_813 dL_814 ?_
  refine zl_call1 (as := [.int (P.xs (i + 1))]) (rest := [.int r]) X ll_96 ce_X12_full rfl dL_815 rfl rfl (fun _ => rfl) (Nat.le_of_ble_eq_true rfl) s1 (fun N' q1 => ?_)
  exact zl_eq X dL_818 (tgt := 1782) (by decide) (kk M' N' (hk M' N' q0 q1))
theorem ll_97 : zLkV R_law 97 mX11_bare := ⟨zm4 22 rfl rfl, zm4 23 rfl rfl, zm4 24 rfl rfl, zm1 1 rfl rfl⟩
theorem ll_100 : zLkV R_law 100 mX12_bare := ⟨zm7 50 rfl rfl, zm7 51 rfl rfl, zm7 52 rfl rfl, zm1 14 rfl rfl⟩
theorem la_bare {P : zPar} {i : Nat} {M N : zMem} (X : zLx P) (hL : i + 5 ≤ P.L) (hv : zInv M N) (kk : ∀ M' N', zInv M' N' → zLn P 1782 [] i M' N') : zLn P 823 [] i M N := by
  obtain ⟨r, P0, P1, s0, s1, hk⟩ := st_bare hv (P.xs (i + 1))
  refine zl_x X dL_823 ?_
  refine zl_arg X (j := 1) (by decide) (by omega) dL_824 dL_825 dL_826 dL_827 dL_828 ?_
  refine zl_call0 (as := [.int (P.xs (i + 1))]) (rest := []) X ll_97 ce_X11_bare rfl dL_829 rfl rfl (fun _ => rfl) (Nat.le_of_ble_eq_true rfl) s0 (fun M' q0 => ?_)
  refine zl_m X dL_832 ?_
  refine zl_arg X (j := 1) (by decide) (by omega) dL_833 dL_834 dL_835 dL_836 dL_837 ?_
  refine zl_call1 (as := [.int (P.xs (i + 1))]) (rest := [.int r]) X ll_100 ce_X12_bare rfl dL_838 rfl rfl (fun _ => rfl) (Nat.le_of_ble_eq_true rfl) s1 (fun N' q1 => ?_)
  exact zl_eq X dL_841 (tgt := 1782) (by decide) (kk M' N' (hk M' N' q0 q1))
theorem ll_101 : zLkV R_law 101 mX11_kin := ⟨zm4 26 rfl rfl, zm4 27 rfl rfl, zm4 28 rfl rfl, zm1 1 rfl rfl⟩
theorem ll_104 : zLkV R_law 104 mX12_kin := ⟨zm7 54 rfl rfl, zm7 55 rfl rfl, zm7 56 rfl rfl, zm1 14 rfl rfl⟩
theorem la_kin {P : zPar} {i : Nat} {M N : zMem} (X : zLx P) (hL : i + 5 ≤ P.L) (hv : zInv M N) (kk : ∀ M' N', zInv M' N' → zLn P 1782 [] i M' N') : zLn P 846 [] i M N := by
  obtain ⟨r, P0, P1, s0, s1, hk⟩ := st_kin hv (P.xs (i + 1))
  refine zl_x X dL_846 ?_
  refine zl_arg X (j := 1) (by decide) (by omega) dL_847 dL_848 dL_849 dL_850 dL_851 ?_
  refine zl_call0 (as := [.int (P.xs (i + 1))]) (rest := []) X ll_101 ce_X11_kin rfl dL_852 rfl rfl (fun _ => rfl) (Nat.le_of_ble_eq_true rfl) s0 (fun M' q0 => ?_)
  refine zl_m X dL_855 ?_
  refine zl_arg X (j := 1) (by decide) (by omega) dL_856 dL_857 dL_858 dL_859 dL_860 ?_
  refine zl_call1 (as := [.int (P.xs (i + 1))]) (rest := [.int r]) X ll_104 ce_X12_kin rfl dL_861 rfl rfl (fun _ => rfl) (Nat.le_of_ble_eq_true rfl) s1 (fun N' q1 => ?_)
  exact zl_eq X dL_864 (tgt := 1782) (by decide) (kk M' N' (hk M' N' q0 q1))
theorem ll_105 : zLkV R_law 105 mX11_walk := ⟨zm4 45 rfl rfl, zm4 46 rfl rfl, zm4 47 rfl rfl, zm1 1 rfl rfl⟩
theorem ll_108 : zLkV R_law 108 mX12_walk := ⟨zm7 66 rfl rfl, zm7 67 rfl rfl, zm7 68 rfl rfl, zm1 14 rfl rfl⟩
theorem la_walk {P : zPar} {i : Nat} {M N : zMem} (X : zLx P) (hL : i + 5 ≤ P.L) (hv : zInv M N) (kk : ∀ M' N', zInv M' N' → zLn P 1782 [] i M' N') : zLn P 869 [] i M N := by
  obtain ⟨r, P0, P1, s0, s1, hk⟩ := st_walk hv (P.xs (i + 1)) (P.xs (i + 2))
  refine zl_x X dL_869 ?_
  refine zl_arg X (j := 1) (by decide) (by omega) dL_870 dL_871 dL_872 dL_873 dL_874 ?_
  refine zl_arg X (j := 2) (by decide) (by omega) dL_875 dL_876 dL_877 dL_878 dL_879 ?_
  refine zl_call0 (as := [.int (P.xs (i + 1)), .int (P.xs (i + 2))]) (rest := []) X ll_105 ce_X11_walk rfl dL_880 rfl rfl (fun _ => rfl) (Nat.le_of_ble_eq_true rfl) s0 (fun M' q0 => ?_)
  refine zl_m X dL_883 ?_
  refine zl_arg X (j := 1) (by decide) (by omega) dL_884 dL_885 dL_886 dL_887 dL_888 ?_
  refine zl_arg X (j := 2) (by decide) (by omega) dL_889 dL_890 dL_891 dL_892 dL_893 ?_
  refine zl_call1 (as := [.int (P.xs (i + 1)), .int (P.xs (i + 2))]) (rest := [.int r]) X ll_108 ce_X12_walk rfl dL_894 rfl rfl (fun _ => rfl) (Nat.le_of_ble_eq_true rfl) s1 (fun N' q1 => ?_)
  exact zl_eq X dL_897 (tgt := 1782) (by decide) (kk M' N' (hk M' N' q0 q1))
theorem ll_109 : zLkV R_law 109 mX11_best := ⟨zm4 60 rfl rfl, zm4 61 rfl rfl, zm4 62 rfl rfl, zm1 1 rfl rfl⟩
theorem ll_112 : zLkV R_law 112 mX12_best := ⟨zm7 74 rfl rfl, zm7 75 rfl rfl, zm7 76 rfl rfl, zm1 14 rfl rfl⟩
theorem la_best {P : zPar} {i : Nat} {M N : zMem} (X : zLx P) (hL : i + 5 ≤ P.L) (hv : zInv M N) (kk : ∀ M' N', zInv M' N' → zLn P 1782 [] i M' N') : zLn P 902 [] i M N := by
  obtain ⟨r, P0, P1, s0, s1, hk⟩ := st_best hv (P.xs (i + 1))
  refine zl_x X dL_902 ?_
  refine zl_arg X (j := 1) (by decide) (by omega) dL_903 dL_904 dL_905 dL_906 dL_907 ?_
  refine zl_call0 (as := [.int (P.xs (i + 1))]) (rest := []) X ll_109 ce_X11_best rfl dL_908 rfl rfl (fun _ => rfl) (Nat.le_of_ble_eq_true rfl) s0 (fun M' q0 => ?_)
  refine zl_m X dL_911 ?_
  refine zl_arg X (j := 1) (by decide) (by omega) dL_912 dL_913 dL_914 dL_915 dL_916 ?_
  refine zl_call1 (as := [.int (P.xs (i + 1))]) (rest := [.int r]) X ll_112 ce_X12_best rfl dL_917 rfl rfl (fun _ => rfl) (Nat.le_of_ble_eq_true rfl) s1 (fun N' q1 => ?_)
  exact zl_eq X dL_920 (tgt := 1782) (by decide) (kk M' N' (hk M' N' q0 q1))
theorem ll_113 : zLkV R_law 113 mX11_ith := ⟨zm4 87 rfl rfl, zm4 88 rfl rfl, zm4 89 rfl rfl, zm1 1 rfl rfl⟩
theorem ll_116 : zLkV R_law 116 mX12_ith := ⟨zm7 105 rfl rfl, zm7 106 rfl rfl, zm7 107 rfl rfl, zm1 14 rfl rfl⟩
theorem la_ith {P : zPar} {i : Nat} {M N : zMem} (X : zLx P) (hL : i + 5 ≤ P.L) (hv : zInv M N) (kk : ∀ M' N', zInv M' N' → zLn P 1782 [] i M' N') : zLn P 925 [] i M N := by
  obtain ⟨r, P0, P1, s0, s1, hk⟩ := st_ith hv (P.xs (i + 1)) (P.xs (i + 2))
  refine zl_x X dL_925 ?_
  refine zl_arg X (j := 1) (by decide) (by omega) dL_926 dL_927 dL_928 dL_929 dL_930 ?_
  refine zl_arg X (j := 2) (by decide) (by omega) dL_931 dL_932 dL_933 dL_934 dL_935 ?_
  refine zl_call0 (as := [.int (P.xs (i + 1)), .int (P.xs (i + 2))]) (rest := []) X ll_113 ce_X11_ith rfl dL_936 rfl rfl (fun _ => rfl) (Nat.le_of_ble_eq_true rfl) s0 (fun M' q0 => ?_)
  refine zl_m X dL_939 ?_
  refine zl_arg X (j := 1) (by decide) (by omega) dL_940 dL_941 dL_942 dL_943 dL_944 ?_
  refine zl_arg X (j := 2) (by decide) (by omega) dL_945 dL_946 dL_947 dL_948 dL_949 ?_
  refine zl_call1 (as := [.int (P.xs (i + 1)), .int (P.xs (i + 2))]) (rest := [.int r]) X ll_116 ce_X12_ith rfl dL_950 rfl rfl (fun _ => rfl) (Nat.le_of_ble_eq_true rfl) s1 (fun N' q1 => ?_)
  exact zl_eq X dL_953 (tgt := 1782) (by decide) (kk M' N' (hk M' N' q0 q1))
theorem ll_117 : zLkV R_law 117 mX11_ways := ⟨zm4 91 rfl rfl, zm4 92 rfl rfl, zm4 93 rfl rfl, zm1 1 rfl rfl⟩
theorem ll_120 : zLkV R_law 120 mX12_ways := ⟨zm7 109 rfl rfl, zm7 110 rfl rfl, zm7 111 rfl rfl, zm1 14 rfl rfl⟩
theorem la_ways {P : zPar} {i : Nat} {M N : zMem} (X : zLx P) (hL : i + 5 ≤ P.L) (hv : zInv M N) (kk : ∀ M' N', zInv M' N' → zLn P 1782 [] i M' N') : zLn P 958 [] i M N := by
  obtain ⟨r, P0, P1, s0, s1, hk⟩ := st_ways hv (P.xs (i + 1))
  refine zl_x X dL_958 ?_
  refine zl_arg X (j := 1) (by decide) (by omega) dL_959 dL_960 dL_961 dL_962 dL_963 ?_
  refine zl_call0 (as := [.int (P.xs (i + 1))]) (rest := []) X ll_117 ce_X11_ways rfl dL_964 rfl rfl (fun _ => rfl) (Nat.le_of_ble_eq_true rfl) s0 (fun M' q0 => ?_)
  refine zl_m X dL_967 ?_
  refine zl_arg X (j := 1) (by decide) (by omega) dL_968 dL_969 dL_970 dL_971 dL_972 ?_
  refine zl_call1 (as := [.int (P.xs (i + 1))]) (rest := [.int r]) X ll_120 ce_X12_ways rfl dL_973 rfl rfl (fun _ => rfl) (Nat.le_of_ble_eq_true rfl) s1 (fun N' q1 => ?_)
  exact zl_eq X dL_976 (tgt := 1782) (by decide) (kk M' N' (hk M' N' q0 q1))
theorem ll_121 : zLkV R_law 121 mX11_round := ⟨zm4 95 rfl rfl, zm4 96 rfl rfl, zm4 97 rfl rfl, zm1 1 rfl rfl⟩
theorem ll_124 : zLkV R_law 124 mX12_round := ⟨zm7 113 rfl rfl, zm7 114 rfl rfl, zm7 115 rfl rfl, zm1 14 rfl rfl⟩
theorem la_round {P : zPar} {i : Nat} {M N : zMem} (X : zLx P) (hL : i + 5 ≤ P.L) (hv : zInv M N) (kk : ∀ M' N', zInv M' N' → zLn P 1782 [] i M' N') : zLn P 981 [] i M N := by
  obtain ⟨r, P0, P1, s0, s1, hk⟩ := st_round hv (P.xs (i + 1)) (P.xs (i + 2))
  refine zl_x X dL_981 ?_
  refine zl_arg X (j := 1) (by decide) (by omega) dL_982 dL_983 dL_984 dL_985 dL_986 ?_
  refine zl_arg X (j := 2) (by decide) (by omega) dL_987 dL_988 dL_989 dL_990 dL_991 ?_
  refine zl_call0 (as := [.int (P.xs (i + 1)), .int (P.xs (i + 2))]) (rest := []) X ll_121 ce_X11_round rfl dL_992 rfl rfl (fun _ => rfl) (Nat.le_of_ble_eq_true rfl) s0 (fun M' q0 => ?_)
  refine zl_m X dL_995 ?_
  refine zl_arg X (j := 1) (by decide) (by omega) dL_996 dL_997 dL_998 dL_999 dL_1000 ?_
  refine zl_arg X (j := 2) (by decide) (by omega) dL_1001 dL_1002 dL_1003 dL_1004 dL_1005 ?_
  refine zl_call1 (as := [.int (P.xs (i + 1)), .int (P.xs (i + 2))]) (rest := [.int r]) X ll_124 ce_X12_round rfl dL_1006 rfl rfl (fun _ => rfl) (Nat.le_of_ble_eq_true rfl) s1 (fun N' q1 => ?_)
  exact zl_eq X dL_1009 (tgt := 1782) (by decide) (kk M' N' (hk M' N' q0 q1))
theorem ll_125 : zLkV R_law 125 mX11_bars := ⟨zm4 99 rfl rfl, zm4 100 rfl rfl, zm4 101 rfl rfl, zm1 1 rfl rfl⟩
theorem ll_128 : zLkV R_law 128 mX12_bars := ⟨zm7 121 rfl rfl, zm7 122 rfl rfl, zm7 123 rfl rfl, zm1 14 rfl rfl⟩
theorem la_bars {P : zPar} {i : Nat} {M N : zMem} (X : zLx P) (hL : i + 5 ≤ P.L) (hv : zInv M N) (kk : ∀ M' N', zInv M' N' → zLn P 1782 [] i M' N') : zLn P 1014 [] i M N := by
  obtain ⟨r, P0, P1, s0, s1, hk⟩ := st_bars hv (P.xs (i + 1)) (P.xs (i + 2))
  refine zl_x X dL_1014 ?_
  refine zl_arg X (j := 1) (by decide) (by omega) dL_1015 dL_1016 dL_1017 dL_1018 dL_1019 ?_
  refine zl_arg X (j := 2) (by decide) (by omega) dL_1020 dL_1021 dL_1022 dL_1023 dL_1024 ?_
  refine zl_call0 (as := [.int (P.xs (i + 1)), .int (P.xs (i + 2))]) (rest := []) X ll_125 ce_X11_bars rfl dL_1025 rfl rfl (fun _ => rfl) (Nat.le_of_ble_eq_true rfl) s0 (fun M' q0 => ?_)
  refine zl_m X dL_1028 ?_
  refine zl_arg X (j := 1) (by decide) (by omega) dL_1029 dL_1030 dL_1031 dL_1032 dL_1033 ?_
  refine zl_arg X (j := 2) (by decide) (by omega) dL_1034 dL_1035 dL_1036 dL_1037 dL_1038 ?_
  refine zl_call1 (as := [.int (P.xs (i + 1)), .int (P.xs (i + 2))]) (rest := [.int r]) X ll_128 ce_X12_bars rfl dL_1039 rfl rfl (fun _ => rfl) (Nat.le_of_ble_eq_true rfl) s1 (fun N' q1 => ?_)
  exact zl_eq X dL_1042 (tgt := 1782) (by decide) (kk M' N' (hk M' N' q0 q1))
theorem ll_129 : zLkV R_law 129 mX11_game := ⟨zm4 106 rfl rfl, zm4 107 rfl rfl, zm4 108 rfl rfl, zm1 1 rfl rfl⟩
theorem ll_132 : zLkV R_law 132 mX12_game := ⟨zm7 125 rfl rfl, zm7 126 rfl rfl, zm7 127 rfl rfl, zm1 14 rfl rfl⟩
theorem la_game {P : zPar} {i : Nat} {M N : zMem} (X : zLx P) (hL : i + 5 ≤ P.L) (hv : zInv M N) (kk : ∀ M' N', zInv M' N' → zLn P 1782 [] i M' N') : zLn P 1047 [] i M N := by
  obtain ⟨r, P0, P1, s0, s1, hk⟩ := st_game hv (P.xs (i + 1))
  refine zl_x X dL_1047 ?_
  refine zl_arg X (j := 1) (by decide) (by omega) dL_1048 dL_1049 dL_1050 dL_1051 dL_1052 ?_
  refine zl_call0 (as := [.int (P.xs (i + 1))]) (rest := []) X ll_129 ce_X11_game rfl dL_1053 rfl rfl (fun _ => rfl) (Nat.le_of_ble_eq_true rfl) s0 (fun M' q0 => ?_)
  refine zl_m X dL_1056 ?_
  refine zl_arg X (j := 1) (by decide) (by omega) dL_1057 dL_1058 dL_1059 dL_1060 dL_1061 ?_
  refine zl_call1 (as := [.int (P.xs (i + 1))]) (rest := [.int r]) X ll_132 ce_X12_game rfl dL_1062 rfl rfl (fun _ => rfl) (Nat.le_of_ble_eq_true rfl) s1 (fun N' q1 => ?_)
  exact zl_eq X dL_1065 (tgt := 1782) (by decide) (kk M' N' (hk M' N' q0 q1))
theorem ll_133 : zLkV R_law 133 mX11_play := ⟨zm4 118 rfl rfl, zm4 119 rfl rfl, zm4 120 rfl rfl, zm1 1 rfl rfl⟩
theorem ll_136 : zLkV R_law 136 mX12_play := ⟨zm7 133 rfl rfl, zm7 134 rfl rfl, zm7 135 rfl rfl, zm1 14 rfl rfl⟩
theorem la_play {P : zPar} {i : Nat} {M N : zMem} (X : zLx P) (hL : i + 5 ≤ P.L) (hv : zInv M N) (kk : ∀ M' N', zInv M' N' → zLn P 1782 [] i M' N') : zLn P 1070 [] i M N := by
  obtain ⟨r, P0, P1, s0, s1, hk⟩ := st_play hv (P.xs (i + 1))
  refine zl_x X dL_1070 ?_
  refine zl_arg X (j := 1) (by decide) (by omega) dL_1071 dL_1072 dL_1073 dL_1074 dL_1075 ?_
  refine zl_call0 (as := [.int (P.xs (i + 1))]) (rest := []) X ll_133 ce_X11_play rfl dL_1076 rfl rfl (fun _ => rfl) (Nat.le_of_ble_eq_true rfl) s0 (fun M' q0 => ?_)
  refine zl_m X dL_1079 ?_
  refine zl_arg X (j := 1) (by decide) (by omega) dL_1080 dL_1081 dL_1082 dL_1083 dL_1084 ?_
  refine zl_call1 (as := [.int (P.xs (i + 1))]) (rest := [.int r]) X ll_136 ce_X12_play rfl dL_1085 rfl rfl (fun _ => rfl) (Nat.le_of_ble_eq_true rfl) s1 (fun N' q1 => ?_)
  exact zl_eq X dL_1088 (tgt := 1782) (by decide) (kk M' N' (hk M' N' q0 q1))
theorem ll_137 : zLkV R_law 137 mX11_report := ⟨zm4 122 rfl rfl, zm4 123 rfl rfl, zm4 124 rfl rfl, zm1 1 rfl rfl⟩
theorem ll_140 : zLkV R_law 140 mX12_report := ⟨zm7 137 rfl rfl, zm7 138 rfl rfl, zm7 139 rfl rfl, zm1 14 rfl rfl⟩
theorem la_report {P : zPar} {i : Nat} {M N : zMem} (X : zLx P) (hL : i + 5 ≤ P.L) (hv : zInv M N) (kk : ∀ M' N', zInv M' N' → zLn P 1782 [] i M' N') : zLn P 1093 [] i M N := by
  obtain ⟨r, P0, P1, s0, s1, hk⟩ := st_report hv (P.xs (i + 1)) (P.xs (i + 2)) (P.xs (i + 3)) (P.xs (i + 4))
  refine zl_x X dL_1093 ?_
  refine zl_arg X (j := 1) (by decide) (by omega) dL_1094 dL_1095 dL_1096 dL_1097 dL_1098 ?_
  refine zl_arg X (j := 2) (by decide) (by omega) dL_1099 dL_1100 dL_1101 dL_1102 dL_1103 ?_
  refine zl_arg X (j := 3) (by decide) (by omega) dL_1104 dL_1105 dL_1106 dL_1107 dL_1108 ?_
  refine zl_arg X (j := 4) (by decide) (by omega) dL_1109 dL_1110 dL_1111 dL_1112 dL_1113 ?_
  refine zl_call0 (as := [.int (P.xs (i + 1)), .int (P.xs (i + 2)), .int (P.xs (i + 3)), .int (P.xs (i + 4))]) (rest := []) X ll_137 ce_X11_report rfl dL_1114 rfl rfl (fun _ => rfl) (Nat.le_of_ble_eq_true rfl) s0 (fun M' q0 => ?_)
  refine zl_m X dL_1117 ?_
  refine zl_arg X (j := 1) (by decide) (by omega) dL_1118 dL_1119 dL_1120 dL_1121 dL_1122 ?_
  refine zl_arg X (j := 2) (by decide) (by omega) dL_1123 dL_1124 dL_1125 dL_1126 dL_1127 ?_
  refine zl_arg X (j := 3) (by decide) (by omega) dL_1128 dL_1129 dL_1130 dL_1131 dL_1132 ?_
  refine zl_arg X (j := 4) (by decide) (by omega) dL_1133 dL_1134 dL_1135 dL_1136 dL_1137 ?_
  refine zl_call1 (as := [.int (P.xs (i + 1)), .int (P.xs (i + 2)), .int (P.xs (i + 3)), .int (P.xs (i + 4))]) (rest := [.int r]) X ll_140 ce_X12_report rfl dL_1138 rfl rfl (fun _ => rfl) (Nat.le_of_ble_eq_true rfl) s1 (fun N' q1 => ?_)
  exact zl_eq X dL_1141 (tgt := 1782) (by decide) (kk M' N' (hk M' N' q0 q1))
theorem ll_141 : zLkV R_law 141 mX11_forget := ⟨zm4 130 rfl rfl, zm4 131 rfl rfl, zm4 132 rfl rfl, zm1 1 rfl rfl⟩
theorem ll_144 : zLkV R_law 144 mX12_forget := ⟨zm7 141 rfl rfl, zm7 142 rfl rfl, zm7 143 rfl rfl, zm1 14 rfl rfl⟩
theorem la_forget {P : zPar} {i : Nat} {M N : zMem} (X : zLx P) (hL : i + 5 ≤ P.L) (hv : zInv M N) (kk : ∀ M' N', zInv M' N' → zLn P 1782 [] i M' N') : zLn P 1146 [] i M N := by
  obtain ⟨r, P0, P1, s0, s1, hk⟩ := st_forget hv 
  refine zl_x X dL_1146 ?_
  refine zl_call0 (as := []) (rest := []) X ll_141 ce_X11_forget rfl dL_1147 rfl rfl (fun _ => rfl) (Nat.le_of_ble_eq_true rfl) s0 (fun M' q0 => ?_)
  refine zl_m X dL_1150 ?_
  refine zl_call1 (as := []) (rest := [.int r]) X ll_144 ce_X12_forget rfl dL_1151 rfl rfl (fun _ => rfl) (Nat.le_of_ble_eq_true rfl) s1 (fun N' q1 => ?_)
  exact zl_eq X dL_1154 (tgt := 1782) (by decide) (kk M' N' (hk M' N' q0 q1))
theorem ll_145 : zLkV R_law 145 mX11_stories := ⟨zm4 134 rfl rfl, zm4 135 rfl rfl, zm4 136 rfl rfl, zm1 1 rfl rfl⟩
theorem ll_148 : zLkV R_law 148 mX12_stories := ⟨zm7 145 rfl rfl, zm7 146 rfl rfl, zm7 147 rfl rfl, zm1 14 rfl rfl⟩
theorem la_stories {P : zPar} {i : Nat} {M N : zMem} (X : zLx P) (hL : i + 5 ≤ P.L) (hv : zInv M N) (kk : ∀ M' N', zInv M' N' → zLn P 1782 [] i M' N') : zLn P 1159 [] i M N := by
  obtain ⟨r, P0, P1, s0, s1, hk⟩ := st_stories hv (P.xs (i + 1))
  refine zl_x X dL_1159 ?_
  refine zl_arg X (j := 1) (by decide) (by omega) dL_1160 dL_1161 dL_1162 dL_1163 dL_1164 ?_
  refine zl_call0 (as := [.int (P.xs (i + 1))]) (rest := []) X ll_145 ce_X11_stories rfl dL_1165 rfl rfl (fun _ => rfl) (Nat.le_of_ble_eq_true rfl) s0 (fun M' q0 => ?_)
  refine zl_m X dL_1168 ?_
  refine zl_arg X (j := 1) (by decide) (by omega) dL_1169 dL_1170 dL_1171 dL_1172 dL_1173 ?_
  refine zl_call1 (as := [.int (P.xs (i + 1))]) (rest := [.int r]) X ll_148 ce_X12_stories rfl dL_1174 rfl rfl (fun _ => rfl) (Nat.le_of_ble_eq_true rfl) s1 (fun N' q1 => ?_)
  exact zl_eq X dL_1177 (tgt := 1782) (by decide) (kk M' N' (hk M' N' q0 q1))
theorem ll_149 : zLkV R_law 149 mX11_liar := ⟨zm4 164 rfl rfl, zm4 165 rfl rfl, zm4 166 rfl rfl, zm1 1 rfl rfl⟩
theorem ll_152 : zLkV R_law 152 mX12_liar := ⟨zm7 161 rfl rfl, zm7 162 rfl rfl, zm7 163 rfl rfl, zm1 14 rfl rfl⟩
theorem la_liar {P : zPar} {i : Nat} {M N : zMem} (X : zLx P) (hL : i + 5 ≤ P.L) (hv : zInv M N) (kk : ∀ M' N', zInv M' N' → zLn P 1782 [] i M' N') : zLn P 1182 [] i M N := by
  obtain ⟨r, P0, P1, s0, s1, hk⟩ := st_liar hv 
  refine zl_x X dL_1182 ?_
  refine zl_call0 (as := []) (rest := []) X ll_149 ce_X11_liar rfl dL_1183 rfl rfl (fun _ => rfl) (Nat.le_of_ble_eq_true rfl) s0 (fun M' q0 => ?_)
  refine zl_m X dL_1186 ?_
  refine zl_call1 (as := []) (rest := [.int r]) X ll_152 ce_X12_liar rfl dL_1187 rfl rfl (fun _ => rfl) (Nat.le_of_ble_eq_true rfl) s1 (fun N' q1 => ?_)
  exact zl_eq X dL_1190 (tgt := 1782) (by decide) (kk M' N' (hk M' N' q0 q1))
theorem ll_153 : zLkV R_law 153 mX11_seed := ⟨zm4 168 rfl rfl, zm4 169 rfl rfl, zm4 170 rfl rfl, zm1 1 rfl rfl⟩
theorem ll_156 : zLkV R_law 156 mX12_seed := ⟨zm7 165 rfl rfl, zm7 166 rfl rfl, zm7 167 rfl rfl, zm1 14 rfl rfl⟩
theorem la_seed {P : zPar} {i : Nat} {M N : zMem} (X : zLx P) (hL : i + 5 ≤ P.L) (hv : zInv M N) (kk : ∀ M' N', zInv M' N' → zLn P 1782 [] i M' N') : zLn P 1195 [] i M N := by
  obtain ⟨r, P0, P1, s0, s1, hk⟩ := st_seed hv (P.xs (i + 1))
  refine zl_x X dL_1195 ?_
  refine zl_arg X (j := 1) (by decide) (by omega) dL_1196 dL_1197 dL_1198 dL_1199 dL_1200 ?_
  refine zl_call0 (as := [.int (P.xs (i + 1))]) (rest := []) X ll_153 ce_X11_seed rfl dL_1201 rfl rfl (fun _ => rfl) (Nat.le_of_ble_eq_true rfl) s0 (fun M' q0 => ?_)
  refine zl_m X dL_1204 ?_
  refine zl_arg X (j := 1) (by decide) (by omega) dL_1205 dL_1206 dL_1207 dL_1208 dL_1209 ?_
  refine zl_call1 (as := [.int (P.xs (i + 1))]) (rest := [.int r]) X ll_156 ce_X12_seed rfl dL_1210 rfl rfl (fun _ => rfl) (Nat.le_of_ble_eq_true rfl) s1 (fun N' q1 => ?_)
  exact zl_eq X dL_1213 (tgt := 1782) (by decide) (kk M' N' (hk M' N' q0 q1))
theorem ll_157 : zLkV R_law 157 mX11_lot := ⟨zm4 172 rfl rfl, zm4 173 rfl rfl, zm4 174 rfl rfl, zm1 1 rfl rfl⟩
theorem ll_160 : zLkV R_law 160 mX12_lot := ⟨zm7 169 rfl rfl, zm7 170 rfl rfl, zm7 171 rfl rfl, zm1 14 rfl rfl⟩
theorem la_lot {P : zPar} {i : Nat} {M N : zMem} (X : zLx P) (hL : i + 5 ≤ P.L) (hv : zInv M N) (kk : ∀ M' N', zInv M' N' → zLn P 1782 [] i M' N') : zLn P 1218 [] i M N := by
  obtain ⟨r, P0, P1, s0, s1, hk⟩ := st_lot hv 
  refine zl_x X dL_1218 ?_
  refine zl_call0 (as := []) (rest := []) X ll_157 ce_X11_lot rfl dL_1219 rfl rfl (fun _ => rfl) (Nat.le_of_ble_eq_true rfl) s0 (fun M' q0 => ?_)
  refine zl_m X dL_1222 ?_
  refine zl_call1 (as := []) (rest := [.int r]) X ll_160 ce_X12_lot rfl dL_1223 rfl rfl (fun _ => rfl) (Nat.le_of_ble_eq_true rfl) s1 (fun N' q1 => ?_)
  exact zl_eq X dL_1226 (tgt := 1782) (by decide) (kk M' N' (hk M' N' q0 q1))
theorem ll_161 : zLkV R_law 161 mX11_times := ⟨zm4 181 rfl rfl, zm4 182 rfl rfl, zm4 183 rfl rfl, zm1 1 rfl rfl⟩
theorem ll_164 : zLkV R_law 164 mX12_times := ⟨zm7 178 rfl rfl, zm7 179 rfl rfl, zm7 180 rfl rfl, zm1 14 rfl rfl⟩
theorem la_times {P : zPar} {i : Nat} {M N : zMem} (X : zLx P) (hL : i + 5 ≤ P.L) (hv : zInv M N) (kk : ∀ M' N', zInv M' N' → zLn P 1782 [] i M' N') : zLn P 1231 [] i M N := by
  obtain ⟨r, P0, P1, s0, s1, hk⟩ := st_times hv (P.xs (i + 1)) (P.xs (i + 2))
  refine zl_x X dL_1231 ?_
  refine zl_arg X (j := 1) (by decide) (by omega) dL_1232 dL_1233 dL_1234 dL_1235 dL_1236 ?_
  refine zl_arg X (j := 2) (by decide) (by omega) dL_1237 dL_1238 dL_1239 dL_1240 dL_1241 ?_
  refine zl_call0 (as := [.int (P.xs (i + 1)), .int (P.xs (i + 2))]) (rest := []) X ll_161 ce_X11_times rfl dL_1242 rfl rfl (fun _ => rfl) (Nat.le_of_ble_eq_true rfl) s0 (fun M' q0 => ?_)
  refine zl_m X dL_1245 ?_
  refine zl_arg X (j := 1) (by decide) (by omega) dL_1246 dL_1247 dL_1248 dL_1249 dL_1250 ?_
  refine zl_arg X (j := 2) (by decide) (by omega) dL_1251 dL_1252 dL_1253 dL_1254 dL_1255 ?_
  refine zl_call1 (as := [.int (P.xs (i + 1)), .int (P.xs (i + 2))]) (rest := [.int r]) X ll_164 ce_X12_times rfl dL_1256 rfl rfl (fun _ => rfl) (Nat.le_of_ble_eq_true rfl) s1 (fun N' q1 => ?_)
  exact zl_eq X dL_1259 (tgt := 1782) (by decide) (kk M' N' (hk M' N' q0 q1))
theorem ll_165 : zLkV R_law 165 mX11_prove := ⟨zm4 185 rfl rfl, zm4 186 rfl rfl, zm4 187 rfl rfl, zm1 1 rfl rfl⟩
theorem ll_168 : zLkV R_law 168 mX12_prove := ⟨zm7 182 rfl rfl, zm7 183 rfl rfl, zm7 184 rfl rfl, zm1 14 rfl rfl⟩
theorem la_prove {P : zPar} {i : Nat} {M N : zMem} (X : zLx P) (hL : i + 5 ≤ P.L) (hv : zInv M N) (kk : ∀ M' N', zInv M' N' → zLn P 1782 [] i M' N') : zLn P 1264 [] i M N := by
  obtain ⟨r, P0, P1, s0, s1, hk⟩ := st_prove hv (P.xs (i + 1))
  refine zl_x X dL_1264 ?_
  refine zl_arg X (j := 1) (by decide) (by omega) dL_1265 dL_1266 dL_1267 dL_1268 dL_1269 ?_
  refine zl_call0 (as := [.int (P.xs (i + 1))]) (rest := []) X ll_165 ce_X11_prove rfl dL_1270 rfl rfl (fun _ => rfl) (Nat.le_of_ble_eq_true rfl) s0 (fun M' q0 => ?_)
  refine zl_m X dL_1273 ?_
  refine zl_arg X (j := 1) (by decide) (by omega) dL_1274 dL_1275 dL_1276 dL_1277 dL_1278 ?_
  refine zl_call1 (as := [.int (P.xs (i + 1))]) (rest := [.int r]) X ll_168 ce_X12_prove rfl dL_1279 rfl rfl (fun _ => rfl) (Nat.le_of_ble_eq_true rfl) s1 (fun N' q1 => ?_)
  exact zl_eq X dL_1282 (tgt := 1782) (by decide) (kk M' N' (hk M' N' q0 q1))
theorem ll_169 : zLkV R_law 169 mX11_row := ⟨zm4 189 rfl rfl, zm4 190 rfl rfl, zm4 191 rfl rfl, zm1 1 rfl rfl⟩
theorem ll_172 : zLkV R_law 172 mX12_row := ⟨zm7 186 rfl rfl, zm7 187 rfl rfl, zm7 188 rfl rfl, zm1 14 rfl rfl⟩
theorem la_row {P : zPar} {i : Nat} {M N : zMem} (X : zLx P) (hL : i + 5 ≤ P.L) (hv : zInv M N) (kk : ∀ M' N', zInv M' N' → zLn P 1782 [] i M' N') : zLn P 1287 [] i M N := by
  obtain ⟨r, P0, P1, s0, s1, hk⟩ := st_row hv (P.xs (i + 1)) (P.xs (i + 2))
  refine zl_x X dL_1287 ?_
  refine zl_arg X (j := 1) (by decide) (by omega) dL_1288 dL_1289 dL_1290 dL_1291 dL_1292 ?_
  refine zl_arg X (j := 2) (by decide) (by omega) dL_1293 dL_1294 dL_1295 dL_1296 dL_1297 ?_
  refine zl_call0 (as := [.int (P.xs (i + 1)), .int (P.xs (i + 2))]) (rest := []) X ll_169 ce_X11_row rfl dL_1298 rfl rfl (fun _ => rfl) (Nat.le_of_ble_eq_true rfl) s0 (fun M' q0 => ?_)
  refine zl_m X dL_1301 ?_
  refine zl_arg X (j := 1) (by decide) (by omega) dL_1302 dL_1303 dL_1304 dL_1305 dL_1306 ?_
  refine zl_arg X (j := 2) (by decide) (by omega) dL_1307 dL_1308 dL_1309 dL_1310 dL_1311 ?_
  refine zl_call1 (as := [.int (P.xs (i + 1)), .int (P.xs (i + 2))]) (rest := [.int r]) X ll_172 ce_X12_row rfl dL_1312 rfl rfl (fun _ => rfl) (Nat.le_of_ble_eq_true rfl) s1 (fun N' q1 => ?_)
  exact zl_eq X dL_1315 (tgt := 1782) (by decide) (kk M' N' (hk M' N' q0 q1))
theorem ll_173 : zLkV R_law 173 mX11_alterRow := ⟨zm4 197 rfl rfl, zm4 198 rfl rfl, zm4 199 rfl rfl, zm1 1 rfl rfl⟩
theorem ll_176 : zLkV R_law 176 mX12_alterRow := ⟨zm7 194 rfl rfl, zm7 195 rfl rfl, zm7 196 rfl rfl, zm1 14 rfl rfl⟩
theorem la_alterRow {P : zPar} {i : Nat} {M N : zMem} (X : zLx P) (hL : i + 5 ≤ P.L) (hv : zInv M N) (kk : ∀ M' N', zInv M' N' → zLn P 1782 [] i M' N') : zLn P 1320 [] i M N := by
  obtain ⟨r, P0, P1, s0, s1, hk⟩ := st_alterRow hv (P.xs (i + 1)) (P.xs (i + 2)) (P.xs (i + 3))
  refine zl_x X dL_1320 ?_
  refine zl_arg X (j := 1) (by decide) (by omega) dL_1321 dL_1322 dL_1323 dL_1324 dL_1325 ?_
  refine zl_arg X (j := 2) (by decide) (by omega) dL_1326 dL_1327 dL_1328 dL_1329 dL_1330 ?_
  refine zl_arg X (j := 3) (by decide) (by omega) dL_1331 dL_1332 dL_1333 dL_1334 dL_1335 ?_
  refine zl_call0 (as := [.int (P.xs (i + 1)), .int (P.xs (i + 2)), .int (P.xs (i + 3))]) (rest := []) X ll_173 ce_X11_alterRow rfl dL_1336 rfl rfl (fun _ => rfl) (Nat.le_of_ble_eq_true rfl) s0 (fun M' q0 => ?_)
  refine zl_m X dL_1339 ?_
  refine zl_arg X (j := 1) (by decide) (by omega) dL_1340 dL_1341 dL_1342 dL_1343 dL_1344 ?_
  refine zl_arg X (j := 2) (by decide) (by omega) dL_1345 dL_1346 dL_1347 dL_1348 dL_1349 ?_
  refine zl_arg X (j := 3) (by decide) (by omega) dL_1350 dL_1351 dL_1352 dL_1353 dL_1354 ?_
  refine zl_call1 (as := [.int (P.xs (i + 1)), .int (P.xs (i + 2)), .int (P.xs (i + 3))]) (rest := [.int r]) X ll_176 ce_X12_alterRow rfl dL_1355 rfl rfl (fun _ => rfl) (Nat.le_of_ble_eq_true rfl) s1 (fun N' q1 => ?_)
  exact zl_eq X dL_1358 (tgt := 1782) (by decide) (kk M' N' (hk M' N' q0 q1))
theorem ll_177 : zLkV R_law 177 mX11_judge := ⟨zm4 201 rfl rfl, zm4 202 rfl rfl, zm4 203 rfl rfl, zm1 1 rfl rfl⟩
theorem ll_180 : zLkV R_law 180 mX12_judge := ⟨zm7 198 rfl rfl, zm7 199 rfl rfl, zm7 200 rfl rfl, zm1 14 rfl rfl⟩
theorem la_judge {P : zPar} {i : Nat} {M N : zMem} (X : zLx P) (hL : i + 5 ≤ P.L) (hv : zInv M N) (kk : ∀ M' N', zInv M' N' → zLn P 1782 [] i M' N') : zLn P 1363 [] i M N := by
  obtain ⟨r, P0, P1, s0, s1, hk⟩ := st_judge hv 
  refine zl_x X dL_1363 ?_
  refine zl_call0 (as := []) (rest := []) X ll_177 ce_X11_judge rfl dL_1364 rfl rfl (fun _ => rfl) (Nat.le_of_ble_eq_true rfl) s0 (fun M' q0 => ?_)
  refine zl_m X dL_1367 ?_
  refine zl_call1 (as := []) (rest := [.int r]) X ll_180 ce_X12_judge rfl dL_1368 rfl rfl (fun _ => rfl) (Nat.le_of_ble_eq_true rfl) s1 (fun N' q1 => ?_)
  exact zl_eq X dL_1371 (tgt := 1782) (by decide) (kk M' N' (hk M' N' q0 q1))
theorem ll_181 : zLkV R_law 181 mX11_sheet := ⟨zm4 209 rfl rfl, zm4 210 rfl rfl, zm4 211 rfl rfl, zm1 1 rfl rfl⟩
theorem ll_184 : zLkV R_law 184 mX12_sheet := ⟨zm7 206 rfl rfl, zm7 207 rfl rfl, zm7 208 rfl rfl, zm1 14 rfl rfl⟩
theorem la_sheet {P : zPar} {i : Nat} {M N : zMem} (X : zLx P) (hL : i + 5 ≤ P.L) (hv : zInv M N) (kk : ∀ M' N', zInv M' N' → zLn P 1782 [] i M' N') : zLn P 1376 [] i M N := by
  obtain ⟨r, P0, P1, s0, s1, hk⟩ := st_sheet hv (P.xs (i + 1)) (P.xs (i + 2)) (P.xs (i + 3))
  refine zl_x X dL_1376 ?_
  refine zl_arg X (j := 1) (by decide) (by omega) dL_1377 dL_1378 dL_1379 dL_1380 dL_1381 ?_
  refine zl_arg X (j := 2) (by decide) (by omega) dL_1382 dL_1383 dL_1384 dL_1385 dL_1386 ?_
  refine zl_arg X (j := 3) (by decide) (by omega) dL_1387 dL_1388 dL_1389 dL_1390 dL_1391 ?_
  refine zl_call0 (as := [.int (P.xs (i + 1)), .int (P.xs (i + 2)), .int (P.xs (i + 3))]) (rest := []) X ll_181 ce_X11_sheet rfl dL_1392 rfl rfl (fun _ => rfl) (Nat.le_of_ble_eq_true rfl) s0 (fun M' q0 => ?_)
  refine zl_m X dL_1395 ?_
  refine zl_arg X (j := 1) (by decide) (by omega) dL_1396 dL_1397 dL_1398 dL_1399 dL_1400 ?_
  refine zl_arg X (j := 2) (by decide) (by omega) dL_1401 dL_1402 dL_1403 dL_1404 dL_1405 ?_
  refine zl_arg X (j := 3) (by decide) (by omega) dL_1406 dL_1407 dL_1408 dL_1409 dL_1410 ?_
  refine zl_call1 (as := [.int (P.xs (i + 1)), .int (P.xs (i + 2)), .int (P.xs (i + 3))]) (rest := [.int r]) X ll_184 ce_X12_sheet rfl dL_1411 rfl rfl (fun _ => rfl) (Nat.le_of_ble_eq_true rfl) s1 (fun N' q1 => ?_)
  exact zl_eq X dL_1414 (tgt := 1782) (by decide) (kk M' N' (hk M' N' q0 q1))
theorem ll_185 : zLkV R_law 185 mX11_write := ⟨zm4 219 rfl rfl, zm4 220 rfl rfl, zm4 221 rfl rfl, zm1 1 rfl rfl⟩
theorem ll_188 : zLkV R_law 188 mX12_write := ⟨zm7 213 rfl rfl, zm7 214 rfl rfl, zm7 215 rfl rfl, zm1 14 rfl rfl⟩
theorem la_write {P : zPar} {i : Nat} {M N : zMem} (X : zLx P) (hL : i + 5 ≤ P.L) (hv : zInv M N) (kk : ∀ M' N', zInv M' N' → zLn P 1782 [] i M' N') : zLn P 1419 [] i M N := by
  obtain ⟨r, P0, P1, s0, s1, hk⟩ := st_write hv (P.xs (i + 1)) (P.xs (i + 2)) (P.xs (i + 3))
  refine zl_x X dL_1419 ?_
  refine zl_arg X (j := 1) (by decide) (by omega) dL_1420 dL_1421 dL_1422 dL_1423 dL_1424 ?_
  refine zl_arg X (j := 2) (by decide) (by omega) dL_1425 dL_1426 dL_1427 dL_1428 dL_1429 ?_
  refine zl_arg X (j := 3) (by decide) (by omega) dL_1430 dL_1431 dL_1432 dL_1433 dL_1434 ?_
  refine zl_call0 (as := [.int (P.xs (i + 1)), .int (P.xs (i + 2)), .int (P.xs (i + 3))]) (rest := []) X ll_185 ce_X11_write rfl dL_1435 rfl rfl (fun _ => rfl) (Nat.le_of_ble_eq_true rfl) s0 (fun M' q0 => ?_)
  refine zl_m X dL_1438 ?_
  refine zl_arg X (j := 1) (by decide) (by omega) dL_1439 dL_1440 dL_1441 dL_1442 dL_1443 ?_
  refine zl_arg X (j := 2) (by decide) (by omega) dL_1444 dL_1445 dL_1446 dL_1447 dL_1448 ?_
  refine zl_arg X (j := 3) (by decide) (by omega) dL_1449 dL_1450 dL_1451 dL_1452 dL_1453 ?_
  refine zl_call1 (as := [.int (P.xs (i + 1)), .int (P.xs (i + 2)), .int (P.xs (i + 3))]) (rest := [.int r]) X ll_188 ce_X12_write rfl dL_1454 rfl rfl (fun _ => rfl) (Nat.le_of_ble_eq_true rfl) s1 (fun N' q1 => ?_)
  exact zl_eq X dL_1457 (tgt := 1782) (by decide) (kk M' N' (hk M' N' q0 q1))
theorem ll_189 : zLkV R_law 189 mX11_item := ⟨zm4 230 rfl rfl, zm4 231 rfl rfl, zm4 232 rfl rfl, zm1 1 rfl rfl⟩
theorem ll_192 : zLkV R_law 192 mX12_item := ⟨zm7 220 rfl rfl, zm7 221 rfl rfl, zm7 222 rfl rfl, zm1 14 rfl rfl⟩
theorem la_item {P : zPar} {i : Nat} {M N : zMem} (X : zLx P) (hL : i + 5 ≤ P.L) (hv : zInv M N) (kk : ∀ M' N', zInv M' N' → zLn P 1782 [] i M' N') : zLn P 1462 [] i M N := by
  obtain ⟨r, P0, P1, s0, s1, hk⟩ := st_item hv (P.xs (i + 1)) (P.xs (i + 2)) (P.xs (i + 3))
  refine zl_x X dL_1462 ?_
  refine zl_arg X (j := 1) (by decide) (by omega) dL_1463 dL_1464 dL_1465 dL_1466 dL_1467 ?_
  refine zl_arg X (j := 2) (by decide) (by omega) dL_1468 dL_1469 dL_1470 dL_1471 dL_1472 ?_
  refine zl_arg X (j := 3) (by decide) (by omega) dL_1473 dL_1474 dL_1475 dL_1476 dL_1477 ?_
  refine zl_call0 (as := [.int (P.xs (i + 1)), .int (P.xs (i + 2)), .int (P.xs (i + 3))]) (rest := []) X ll_189 ce_X11_item rfl dL_1478 rfl rfl (fun _ => rfl) (Nat.le_of_ble_eq_true rfl) s0 (fun M' q0 => ?_)
  refine zl_m X dL_1481 ?_
  refine zl_arg X (j := 1) (by decide) (by omega) dL_1482 dL_1483 dL_1484 dL_1485 dL_1486 ?_
  refine zl_arg X (j := 2) (by decide) (by omega) dL_1487 dL_1488 dL_1489 dL_1490 dL_1491 ?_
  refine zl_arg X (j := 3) (by decide) (by omega) dL_1492 dL_1493 dL_1494 dL_1495 dL_1496 ?_
  refine zl_call1 (as := [.int (P.xs (i + 1)), .int (P.xs (i + 2)), .int (P.xs (i + 3))]) (rest := [.int r]) X ll_192 ce_X12_item rfl dL_1497 rfl rfl (fun _ => rfl) (Nat.le_of_ble_eq_true rfl) s1 (fun N' q1 => ?_)
  exact zl_eq X dL_1500 (tgt := 1782) (by decide) (kk M' N' (hk M' N' q0 q1))
theorem ll_193 : zLkV R_law 193 mX11_goAll := ⟨zm4 238 rfl rfl, zm4 239 rfl rfl, zm5 0 rfl rfl, zm1 1 rfl rfl⟩
theorem ll_196 : zLkV R_law 196 mX12_goAll := ⟨zm7 228 rfl rfl, zm7 229 rfl rfl, zm7 230 rfl rfl, zm1 14 rfl rfl⟩
theorem la_goAll {P : zPar} {i : Nat} {M N : zMem} (X : zLx P) (hL : i + 5 ≤ P.L) (hv : zInv M N) (kk : ∀ M' N', zInv M' N' → zLn P 1782 [] i M' N') : zLn P 1505 [] i M N := by
  obtain ⟨r, P0, P1, s0, s1, hk⟩ := st_goAll hv (P.xs (i + 1)) (P.xs (i + 2)) (P.xs (i + 3))
  refine zl_x X dL_1505 ?_
  refine zl_arg X (j := 1) (by decide) (by omega) dL_1506 dL_1507 dL_1508 dL_1509 dL_1510 ?_
  refine zl_arg X (j := 2) (by decide) (by omega) dL_1511 dL_1512 dL_1513 dL_1514 dL_1515 ?_
  refine zl_arg X (j := 3) (by decide) (by omega) dL_1516 dL_1517 dL_1518 dL_1519 dL_1520 ?_
  refine zl_call0 (as := [.int (P.xs (i + 1)), .int (P.xs (i + 2)), .int (P.xs (i + 3))]) (rest := []) X ll_193 ce_X11_goAll rfl dL_1521 rfl rfl (fun _ => rfl) (Nat.le_of_ble_eq_true rfl) s0 (fun M' q0 => ?_)
  refine zl_m X dL_1524 ?_
  refine zl_arg X (j := 1) (by decide) (by omega) dL_1525 dL_1526 dL_1527 dL_1528 dL_1529 ?_
  refine zl_arg X (j := 2) (by decide) (by omega) dL_1530 dL_1531 dL_1532 dL_1533 dL_1534 ?_
  refine zl_arg X (j := 3) (by decide) (by omega) dL_1535 dL_1536 dL_1537 dL_1538 dL_1539 ?_
  refine zl_call1 (as := [.int (P.xs (i + 1)), .int (P.xs (i + 2)), .int (P.xs (i + 3))]) (rest := [.int r]) X ll_196 ce_X12_goAll rfl dL_1540 rfl rfl (fun _ => rfl) (Nat.le_of_ble_eq_true rfl) s1 (fun N' q1 => ?_)
  exact zl_eq X dL_1543 (tgt := 1782) (by decide) (kk M' N' (hk M' N' q0 q1))
theorem ll_197 : zLkV R_law 197 mX11_wouldBe := ⟨zm5 2 rfl rfl, zm5 3 rfl rfl, zm5 4 rfl rfl, zm1 1 rfl rfl⟩
theorem ll_200 : zLkV R_law 200 mX12_wouldBe := ⟨zm7 236 rfl rfl, zm7 237 rfl rfl, zm7 238 rfl rfl, zm1 14 rfl rfl⟩
theorem la_wouldBe {P : zPar} {i : Nat} {M N : zMem} (X : zLx P) (hL : i + 5 ≤ P.L) (hv : zInv M N) (kk : ∀ M' N', zInv M' N' → zLn P 1782 [] i M' N') : zLn P 1548 [] i M N := by
  obtain ⟨r, P0, P1, s0, s1, hk⟩ := st_wouldBe hv (P.xs (i + 1)) (P.xs (i + 2)) (P.xs (i + 3))
  refine zl_x X dL_1548 ?_
  refine zl_arg X (j := 1) (by decide) (by omega) dL_1549 dL_1550 dL_1551 dL_1552 dL_1553 ?_
  refine zl_arg X (j := 2) (by decide) (by omega) dL_1554 dL_1555 dL_1556 dL_1557 dL_1558 ?_
  refine zl_arg X (j := 3) (by decide) (by omega) dL_1559 dL_1560 dL_1561 dL_1562 dL_1563 ?_
  refine zl_call0 (as := [.int (P.xs (i + 1)), .int (P.xs (i + 2)), .int (P.xs (i + 3))]) (rest := []) X ll_197 ce_X11_wouldBe rfl dL_1564 rfl rfl (fun _ => rfl) (Nat.le_of_ble_eq_true rfl) s0 (fun M' q0 => ?_)
  refine zl_m X dL_1567 ?_
  refine zl_arg X (j := 1) (by decide) (by omega) dL_1568 dL_1569 dL_1570 dL_1571 dL_1572 ?_
  refine zl_arg X (j := 2) (by decide) (by omega) dL_1573 dL_1574 dL_1575 dL_1576 dL_1577 ?_
  refine zl_arg X (j := 3) (by decide) (by omega) dL_1578 dL_1579 dL_1580 dL_1581 dL_1582 ?_
  refine zl_call1 (as := [.int (P.xs (i + 1)), .int (P.xs (i + 2)), .int (P.xs (i + 3))]) (rest := [.int r]) X ll_200 ce_X12_wouldBe rfl dL_1583 rfl rfl (fun _ => rfl) (Nat.le_of_ble_eq_true rfl) s1 (fun N' q1 => ?_)
  exact zl_eq X dL_1586 (tgt := 1782) (by decide) (kk M' N' (hk M' N' q0 q1))
theorem ll_201 : zLkV R_law 201 mX11_shelf := ⟨zm5 6 rfl rfl, zm5 7 rfl rfl, zm5 8 rfl rfl, zm1 1 rfl rfl⟩
theorem ll_204 : zLkV R_law 204 mX12_shelf := ⟨zm8 0 rfl rfl, zm8 1 rfl rfl, zm8 2 rfl rfl, zm1 14 rfl rfl⟩
theorem la_shelf {P : zPar} {i : Nat} {M N : zMem} (X : zLx P) (hL : i + 5 ≤ P.L) (hv : zInv M N) (kk : ∀ M' N', zInv M' N' → zLn P 1782 [] i M' N') : zLn P 1591 [] i M N := by
  obtain ⟨r, P0, P1, s0, s1, hk⟩ := st_shelf hv (P.xs (i + 1)) (P.xs (i + 2)) (P.xs (i + 3))
  refine zl_x X dL_1591 ?_
  refine zl_arg X (j := 1) (by decide) (by omega) dL_1592 dL_1593 dL_1594 dL_1595 dL_1596 ?_
  refine zl_arg X (j := 2) (by decide) (by omega) dL_1597 dL_1598 dL_1599 dL_1600 dL_1601 ?_
  refine zl_arg X (j := 3) (by decide) (by omega) dL_1602 dL_1603 dL_1604 dL_1605 dL_1606 ?_
  refine zl_call0 (as := [.int (P.xs (i + 1)), .int (P.xs (i + 2)), .int (P.xs (i + 3))]) (rest := []) X ll_201 ce_X11_shelf rfl dL_1607 rfl rfl (fun _ => rfl) (Nat.le_of_ble_eq_true rfl) s0 (fun M' q0 => ?_)
  refine zl_m X dL_1610 ?_
  refine zl_arg X (j := 1) (by decide) (by omega) dL_1611 dL_1612 dL_1613 dL_1614 dL_1615 ?_
  refine zl_arg X (j := 2) (by decide) (by omega) dL_1616 dL_1617 dL_1618 dL_1619 dL_1620 ?_
  refine zl_arg X (j := 3) (by decide) (by omega) dL_1621 dL_1622 dL_1623 dL_1624 dL_1625 ?_
  refine zl_call1 (as := [.int (P.xs (i + 1)), .int (P.xs (i + 2)), .int (P.xs (i + 3))]) (rest := [.int r]) X ll_204 ce_X12_shelf rfl dL_1626 rfl rfl (fun _ => rfl) (Nat.le_of_ble_eq_true rfl) s1 (fun N' q1 => ?_)
  exact zl_eq X dL_1629 (tgt := 1782) (by decide) (kk M' N' (hk M' N' q0 q1))
theorem ll_205 : zLkV R_law 205 mX11_taken := ⟨zm5 13 rfl rfl, zm5 14 rfl rfl, zm5 15 rfl rfl, zm1 1 rfl rfl⟩
theorem ll_208 : zLkV R_law 208 mX12_taken := ⟨zm8 4 rfl rfl, zm8 5 rfl rfl, zm8 6 rfl rfl, zm1 14 rfl rfl⟩
theorem la_taken {P : zPar} {i : Nat} {M N : zMem} (X : zLx P) (hL : i + 5 ≤ P.L) (hv : zInv M N) (kk : ∀ M' N', zInv M' N' → zLn P 1782 [] i M' N') : zLn P 1634 [] i M N := by
  obtain ⟨r, P0, P1, s0, s1, hk⟩ := st_taken hv (P.xs (i + 1)) (P.xs (i + 2))
  refine zl_x X dL_1634 ?_
  refine zl_arg X (j := 1) (by decide) (by omega) dL_1635 dL_1636 dL_1637 dL_1638 dL_1639 ?_
  refine zl_arg X (j := 2) (by decide) (by omega) dL_1640 dL_1641 dL_1642 dL_1643 dL_1644 ?_
  refine zl_call0 (as := [.int (P.xs (i + 1)), .int (P.xs (i + 2))]) (rest := []) X ll_205 ce_X11_taken rfl dL_1645 rfl rfl (fun _ => rfl) (Nat.le_of_ble_eq_true rfl) s0 (fun M' q0 => ?_)
  refine zl_m X dL_1648 ?_
  refine zl_arg X (j := 1) (by decide) (by omega) dL_1649 dL_1650 dL_1651 dL_1652 dL_1653 ?_
  refine zl_arg X (j := 2) (by decide) (by omega) dL_1654 dL_1655 dL_1656 dL_1657 dL_1658 ?_
  refine zl_call1 (as := [.int (P.xs (i + 1)), .int (P.xs (i + 2))]) (rest := [.int r]) X ll_208 ce_X12_taken rfl dL_1659 rfl rfl (fun _ => rfl) (Nat.le_of_ble_eq_true rfl) s1 (fun N' q1 => ?_)
  exact zl_eq X dL_1662 (tgt := 1782) (by decide) (kk M' N' (hk M' N' q0 q1))
theorem ll_209 : zLkV R_law 209 mX11_act := ⟨zm5 22 rfl rfl, zm5 23 rfl rfl, zm5 24 rfl rfl, zm1 1 rfl rfl⟩
theorem ll_212 : zLkV R_law 212 mX12_act := ⟨zm8 12 rfl rfl, zm8 13 rfl rfl, zm8 14 rfl rfl, zm1 14 rfl rfl⟩
theorem la_act {P : zPar} {i : Nat} {M N : zMem} (X : zLx P) (hL : i + 5 ≤ P.L) (hv : zInv M N) (kk : ∀ M' N', zInv M' N' → zLn P 1782 [] i M' N') : zLn P 1667 [] i M N := by
  obtain ⟨r, P0, P1, s0, s1, hk⟩ := st_act hv (P.xs (i + 1)) (P.xs (i + 2)) (P.xs (i + 3))
  refine zl_x X dL_1667 ?_
  refine zl_arg X (j := 1) (by decide) (by omega) dL_1668 dL_1669 dL_1670 dL_1671 dL_1672 ?_
  refine zl_arg X (j := 2) (by decide) (by omega) dL_1673 dL_1674 dL_1675 dL_1676 dL_1677 ?_
  refine zl_arg X (j := 3) (by decide) (by omega) dL_1678 dL_1679 dL_1680 dL_1681 dL_1682 ?_
  refine zl_call0 (as := [.int (P.xs (i + 1)), .int (P.xs (i + 2)), .int (P.xs (i + 3))]) (rest := []) X ll_209 ce_X11_act rfl dL_1683 rfl rfl (fun _ => rfl) (Nat.le_of_ble_eq_true rfl) s0 (fun M' q0 => ?_)
  refine zl_m X dL_1686 ?_
  refine zl_arg X (j := 1) (by decide) (by omega) dL_1687 dL_1688 dL_1689 dL_1690 dL_1691 ?_
  refine zl_arg X (j := 2) (by decide) (by omega) dL_1692 dL_1693 dL_1694 dL_1695 dL_1696 ?_
  refine zl_arg X (j := 3) (by decide) (by omega) dL_1697 dL_1698 dL_1699 dL_1700 dL_1701 ?_
  refine zl_call1 (as := [.int (P.xs (i + 1)), .int (P.xs (i + 2)), .int (P.xs (i + 3))]) (rest := [.int r]) X ll_212 ce_X12_act rfl dL_1702 rfl rfl (fun _ => rfl) (Nat.le_of_ble_eq_true rfl) s1 (fun N' q1 => ?_)
  exact zl_eq X dL_1705 (tgt := 1782) (by decide) (kk M' N' (hk M' N' q0 q1))
theorem ll_213 : zLkV R_law 213 mX11_trace := ⟨zm5 134 rfl rfl, zm5 135 rfl rfl, zm5 136 rfl rfl, zm1 1 rfl rfl⟩
theorem ll_216 : zLkV R_law 216 mX12_trace := ⟨zm8 36 rfl rfl, zm8 37 rfl rfl, zm8 38 rfl rfl, zm1 14 rfl rfl⟩
theorem la_trace {P : zPar} {i : Nat} {M N : zMem} (X : zLx P) (hL : i + 5 ≤ P.L) (hv : zInv M N) (kk : ∀ M' N', zInv M' N' → zLn P 1782 [] i M' N') : zLn P 1710 [] i M N := by
  obtain ⟨r, P0, P1, s0, s1, hk⟩ := st_trace hv (P.xs (i + 1))
  refine zl_x X dL_1710 ?_
  refine zl_arg X (j := 1) (by decide) (by omega) dL_1711 dL_1712 dL_1713 dL_1714 dL_1715 ?_
  refine zl_call0 (as := [.int (P.xs (i + 1))]) (rest := []) X ll_213 ce_X11_trace rfl dL_1716 rfl rfl (fun _ => rfl) (Nat.le_of_ble_eq_true rfl) s0 (fun M' q0 => ?_)
  refine zl_m X dL_1719 ?_
  refine zl_arg X (j := 1) (by decide) (by omega) dL_1720 dL_1721 dL_1722 dL_1723 dL_1724 ?_
  refine zl_call1 (as := [.int (P.xs (i + 1))]) (rest := [.int r]) X ll_216 ce_X12_trace rfl dL_1725 rfl rfl (fun _ => rfl) (Nat.le_of_ble_eq_true rfl) s1 (fun N' q1 => ?_)
  exact zl_eq X dL_1728 (tgt := 1782) (by decide) (kk M' N' (hk M' N' q0 q1))
theorem ll_217 : zLkV R_law 217 mX11_many := ⟨zm5 138 rfl rfl, zm5 139 rfl rfl, zm5 140 rfl rfl, zm1 1 rfl rfl⟩
theorem ll_220 : zLkV R_law 220 mX12_many := ⟨zm8 40 rfl rfl, zm8 41 rfl rfl, zm8 42 rfl rfl, zm1 14 rfl rfl⟩
theorem la_many {P : zPar} {i : Nat} {M N : zMem} (X : zLx P) (hL : i + 5 ≤ P.L) (hv : zInv M N) (kk : ∀ M' N', zInv M' N' → zLn P 1782 [] i M' N') : zLn P 1733 [] i M N := by
  obtain ⟨r, P0, P1, s0, s1, hk⟩ := st_many hv (P.xs (i + 1))
  refine zl_x X dL_1733 ?_
  refine zl_arg X (j := 1) (by decide) (by omega) dL_1734 dL_1735 dL_1736 dL_1737 dL_1738 ?_
  refine zl_call0 (as := [.int (P.xs (i + 1))]) (rest := []) X ll_217 ce_X11_many rfl dL_1739 rfl rfl (fun _ => rfl) (Nat.le_of_ble_eq_true rfl) s0 (fun M' q0 => ?_)
  refine zl_m X dL_1742 ?_
  refine zl_arg X (j := 1) (by decide) (by omega) dL_1743 dL_1744 dL_1745 dL_1746 dL_1747 ?_
  refine zl_call1 (as := [.int (P.xs (i + 1))]) (rest := [.int r]) X ll_220 ce_X12_many rfl dL_1748 rfl rfl (fun _ => rfl) (Nat.le_of_ble_eq_true rfl) s1 (fun N' q1 => ?_)
  exact zl_eq X dL_1751 (tgt := 1782) (by decide) (kk M' N' (hk M' N' q0 q1))
theorem ll_221 : zLkV R_law 221 mX11_keep := ⟨zm5 143 rfl rfl, zm5 144 rfl rfl, zm5 145 rfl rfl, zm1 1 rfl rfl⟩
theorem ll_224 : zLkV R_law 224 mX12_keep := ⟨zm8 47 rfl rfl, zm8 48 rfl rfl, zm8 49 rfl rfl, zm1 14 rfl rfl⟩
theorem la_keep {P : zPar} {i : Nat} {M N : zMem} (X : zLx P) (hL : i + 5 ≤ P.L) (hv : zInv M N) (kk : ∀ M' N', zInv M' N' → zLn P 1782 [] i M' N') : zLn P 1756 [] i M N := by
  obtain ⟨r, P0, P1, s0, s1, hk⟩ := st_keep hv 
  refine zl_x X dL_1756 ?_
  refine zl_call0 (as := []) (rest := []) X ll_221 ce_X11_keep rfl dL_1757 rfl rfl (fun _ => rfl) (Nat.le_of_ble_eq_true rfl) s0 (fun M' q0 => ?_)
  refine zl_m X dL_1760 ?_
  refine zl_call1 (as := []) (rest := [.int r]) X ll_224 ce_X12_keep rfl dL_1761 rfl rfl (fun _ => rfl) (Nat.le_of_ble_eq_true rfl) s1 (fun N' q1 => ?_)
  exact zl_eq X dL_1764 (tgt := 1782) (by decide) (kk M' N' (hk M' N' q0 q1))
theorem ll_225 : zLkV R_law 225 mX11_again := ⟨zm5 147 rfl rfl, zm5 148 rfl rfl, zm5 149 rfl rfl, zm1 1 rfl rfl⟩
theorem ll_228 : zLkV R_law 228 mX12_again := ⟨zm8 51 rfl rfl, zm8 52 rfl rfl, zm8 53 rfl rfl, zm1 14 rfl rfl⟩
theorem la_again {P : zPar} {i : Nat} {M N : zMem} (X : zLx P) (hL : i + 5 ≤ P.L) (hv : zInv M N) (kk : ∀ M' N', zInv M' N' → zLn P 1782 [] i M' N') : zLn P 1769 [] i M N := by
  obtain ⟨r, P0, P1, s0, s1, hk⟩ := st_again hv 
  refine zl_x X dL_1769 ?_
  refine zl_call0 (as := []) (rest := []) X ll_225 ce_X11_again rfl dL_1770 rfl rfl (fun _ => rfl) (Nat.le_of_ble_eq_true rfl) s0 (fun M' q0 => ?_)
  refine zl_m X dL_1773 ?_
  refine zl_call1 (as := []) (rest := [.int r]) X ll_228 ce_X12_again rfl dL_1774 rfl rfl (fun _ => rfl) (Nat.le_of_ble_eq_true rfl) s1 (fun N' q1 => ?_)
  exact zl_eq X dL_1777 (tgt := 1782) (by decide) (kk M' N' (hk M' N' q0 q1))
theorem zl_sw {P : zPar} {i t : Nat} {x : Int32} {off : Int} {tgt : Nat} {M N : zMem} (X : zLx P) (e : x.toInt = (t : Int)) (h : t ≤ 51) (ho : (#[224, 277, 310, 353, 386, 419, 462, 495, 528, 551, 564, 587, 650, 663, 676, 699, 722, 745, 768, 791, 814, 837, 870, 893, 926, 949, 982, 1015, 1038, 1061, 1114, 1127, 1150, 1163, 1186, 1199, 1232, 1255, 1288, 1331, 1344, 1387, 1430, 1473, 1516, 1559, 1602, 1635, 1678, 1701, 1724, 1737] : Array Int)[t]? = some off) (ht : (32 : Int) + off = (tgt : Int)) (kk : zLn P tgt [] i M N) : zLn P 32 [.int x] i M N := by
  intro H locs ls h0 h1 hS hl
  refine lv_tableIn X.1.1 X.1.2.1 dL_32 (by rw [e]; omega) (by rw [e]; omega) ?_ ht (kk H locs ls h0 h1 hS hl)
  rw [e, Int.sub_zero, Int.toNat_natCast]
  exact ho
theorem zl_swo {P : zPar} {i t : Nat} {x : Int32} {M N : zMem} (X : zLx P) (e : x.toInt = (t : Int)) (h : 51 < t) (kk : zLn P 1782 [] i M N) : zLn P 32 [.int x] i M N := by
  intro H locs ls h0 h1 hS hl
  exact lv_tableOut X.1.1 X.1.2.1 dL_32 (.inr (by rw [e]; omega)) (by decide) (kk H locs ls h0 h1 hS hl)
theorem zl_next {P : zPar} {i : Nat} {M N : zMem} (X : zLx P) (kk : zLn P 18 [] (i + 5) M N) : zLn P 1782 [] i M N := by
  intro H locs ls h0 h1 hS hl
  have hv : nI i + Int32.ofInt 5 = nI (i + 5) := nI_add i 5
  refine lv_iinc X.1.1 X.1.2.1 dL_1782 hl (k := 0) rfl hv (by decide) (rfl : _ = zLl P (i + 5)) (fun ls' hl' => ?_)
  exact lv_goto X.1.1 X.1.2.1 dL_1785 (tgt := 18) (by decide) (kk H locs ls' h0 h1 hS hl')
theorem zl_end {P : zPar} {i : Nat} {M N : zMem} (X : zLx P) : zLn P 1788 [] i M N := by
  intro H locs ls h0 h1 hS hl
  refine lv_iconst (v := 1) X.1.1 X.1.2.1 dL_1788 (by decide) ?_
  refine va_forget (fun q hq => hS.2.2 q hq) ?_
  refine W.widen X.2.2.2.2.2.2.2.2.2.2.1 X.2.2.2.2.2.2.2.2.2.2.2.1 ?_
  exact lw_ret X.1.1 X.1.2.1 X.1.2.2.1 X.1.2.2.2.2.2.2.2.2.1 dL_1789
theorem zl_case {P : zPar} {i t : Nat} {x : Int32} {M N : zMem} (X : zLx P) (e : x.toInt = (t : Int)) (hL : i + 5 ≤ P.L) (hv : zInv M N) (kk : ∀ M' N', zInv M' N' → zLn P 1782 [] i M' N') : zLn P 32 [.int x] i M N := by
  rcases Nat.lt_or_ge 51 t with h | h
  · exact zl_swo X e h (kk M N hv)
  · have hc : t = 0 ∨ t = 1 ∨ t = 2 ∨ t = 3 ∨ t = 4 ∨ t = 5 ∨ t = 6 ∨ t = 7 ∨ t = 8 ∨ t = 9 ∨ t = 10 ∨ t = 11 ∨ t = 12 ∨ t = 13 ∨ t = 14 ∨ t = 15 ∨ t = 16 ∨ t = 17 ∨ t = 18 ∨ t = 19 ∨ t = 20 ∨ t = 21 ∨ t = 22 ∨ t = 23 ∨ t = 24 ∨ t = 25 ∨ t = 26 ∨ t = 27 ∨ t = 28 ∨ t = 29 ∨ t = 30 ∨ t = 31 ∨ t = 32 ∨ t = 33 ∨ t = 34 ∨ t = 35 ∨ t = 36 ∨ t = 37 ∨ t = 38 ∨ t = 39 ∨ t = 40 ∨ t = 41 ∨ t = 42 ∨ t = 43 ∨ t = 44 ∨ t = 45 ∨ t = 46 ∨ t = 47 ∨ t = 48 ∨ t = 49 ∨ t = 50 ∨ t = 51 := by omega
    rcases hc with rfl | rfl | rfl | rfl | rfl | rfl | rfl | rfl | rfl | rfl | rfl | rfl | rfl | rfl | rfl | rfl | rfl | rfl | rfl | rfl | rfl | rfl | rfl | rfl | rfl | rfl | rfl | rfl | rfl | rfl | rfl | rfl | rfl | rfl | rfl | rfl | rfl | rfl | rfl | rfl | rfl | rfl | rfl | rfl | rfl | rfl | rfl | rfl | rfl | rfl | rfl | rfl
    · exact zl_sw X e (by decide) rfl (tgt := 256) (by decide) (la_house X hL hv kk)
    · exact zl_sw X e (by decide) rfl (tgt := 309) (by decide) (la_houseOf X hL hv kk)
    · exact zl_sw X e (by decide) rfl (tgt := 342) (by decide) (la_change X hL hv kk)
    · exact zl_sw X e (by decide) rfl (tgt := 385) (by decide) (la_remake X hL hv kk)
    · exact zl_sw X e (by decide) rfl (tgt := 418) (by decide) (la_dusk X hL hv kk)
    · exact zl_sw X e (by decide) rfl (tgt := 451) (by decide) (la_lane X hL hv kk)
    · exact zl_sw X e (by decide) rfl (tgt := 494) (by decide) (la_laneOf X hL hv kk)
    · exact zl_sw X e (by decide) rfl (tgt := 527) (by decide) (la_shop X hL hv kk)
    · exact zl_sw X e (by decide) rfl (tgt := 560) (by decide) (la_ends X hL hv kk)
    · exact zl_sw X e (by decide) rfl (tgt := 583) (by decide) (la_anew X hL hv kk)
    · exact zl_sw X e (by decide) rfl (tgt := 596) (by decide) (la_state X hL hv kk)
    · exact zl_sw X e (by decide) rfl (tgt := 619) (by decide) (la_feed X hL hv kk)
    · exact zl_sw X e (by decide) rfl (tgt := 682) (by decide) (la_rules X hL hv kk)
    · exact zl_sw X e (by decide) rfl (tgt := 695) (by decide) (la_night X hL hv kk)
    · exact zl_sw X e (by decide) rfl (tgt := 708) (by decide) (la_on X hL hv kk)
    · exact zl_sw X e (by decide) rfl (tgt := 731) (by decide) (la_when X hL hv kk)
    · exact zl_sw X e (by decide) rfl (tgt := 754) (by decide) (la_griefFor X hL hv kk)
    · exact zl_sw X e (by decide) rfl (tgt := 777) (by decide) (la_laneFor X hL hv kk)
    · exact zl_sw X e (by decide) rfl (tgt := 800) (by decide) (la_full X hL hv kk)
    · exact zl_sw X e (by decide) rfl (tgt := 823) (by decide) (la_bare X hL hv kk)
    · exact zl_sw X e (by decide) rfl (tgt := 846) (by decide) (la_kin X hL hv kk)
    · exact zl_sw X e (by decide) rfl (tgt := 869) (by decide) (la_walk X hL hv kk)
    · exact zl_sw X e (by decide) rfl (tgt := 902) (by decide) (la_best X hL hv kk)
    · exact zl_sw X e (by decide) rfl (tgt := 925) (by decide) (la_ith X hL hv kk)
    · exact zl_sw X e (by decide) rfl (tgt := 958) (by decide) (la_ways X hL hv kk)
    · exact zl_sw X e (by decide) rfl (tgt := 981) (by decide) (la_round X hL hv kk)
    · exact zl_sw X e (by decide) rfl (tgt := 1014) (by decide) (la_bars X hL hv kk)
    · exact zl_sw X e (by decide) rfl (tgt := 1047) (by decide) (la_game X hL hv kk)
    · exact zl_sw X e (by decide) rfl (tgt := 1070) (by decide) (la_play X hL hv kk)
    · exact zl_sw X e (by decide) rfl (tgt := 1093) (by decide) (la_report X hL hv kk)
    · exact zl_sw X e (by decide) rfl (tgt := 1146) (by decide) (la_forget X hL hv kk)
    · exact zl_sw X e (by decide) rfl (tgt := 1159) (by decide) (la_stories X hL hv kk)
    · exact zl_sw X e (by decide) rfl (tgt := 1182) (by decide) (la_liar X hL hv kk)
    · exact zl_sw X e (by decide) rfl (tgt := 1195) (by decide) (la_seed X hL hv kk)
    · exact zl_sw X e (by decide) rfl (tgt := 1218) (by decide) (la_lot X hL hv kk)
    · exact zl_sw X e (by decide) rfl (tgt := 1231) (by decide) (la_times X hL hv kk)
    · exact zl_sw X e (by decide) rfl (tgt := 1264) (by decide) (la_prove X hL hv kk)
    · exact zl_sw X e (by decide) rfl (tgt := 1287) (by decide) (la_row X hL hv kk)
    · exact zl_sw X e (by decide) rfl (tgt := 1320) (by decide) (la_alterRow X hL hv kk)
    · exact zl_sw X e (by decide) rfl (tgt := 1363) (by decide) (la_judge X hL hv kk)
    · exact zl_sw X e (by decide) rfl (tgt := 1376) (by decide) (la_sheet X hL hv kk)
    · exact zl_sw X e (by decide) rfl (tgt := 1419) (by decide) (la_write X hL hv kk)
    · exact zl_sw X e (by decide) rfl (tgt := 1462) (by decide) (la_item X hL hv kk)
    · exact zl_sw X e (by decide) rfl (tgt := 1505) (by decide) (la_goAll X hL hv kk)
    · exact zl_sw X e (by decide) rfl (tgt := 1548) (by decide) (la_wouldBe X hL hv kk)
    · exact zl_sw X e (by decide) rfl (tgt := 1591) (by decide) (la_shelf X hL hv kk)
    · exact zl_sw X e (by decide) rfl (tgt := 1634) (by decide) (la_taken X hL hv kk)
    · exact zl_sw X e (by decide) rfl (tgt := 1667) (by decide) (la_act X hL hv kk)
    · exact zl_sw X e (by decide) rfl (tgt := 1710) (by decide) (la_trace X hL hv kk)
    · exact zl_sw X e (by decide) rfl (tgt := 1733) (by decide) (la_many X hL hv kk)
    · exact zl_sw X e (by decide) rfl (tgt := 1756) (by decide) (la_keep X hL hv kk)
    · exact zl_sw X e (by decide) rfl (tgt := 1769) (by decide) (la_again X hL hv kk)
theorem zl_gt {i L : Nat} (hL : L ≤ 2560) (hi : i ≤ L) (h : ¬ nI L - nI 5 < nI i) : i + 5 ≤ L := by
  rcases Nat.lt_or_ge L 5 with h5 | h5
  · refine absurd (Int32.lt_of_lt_of_le (b := 0) ?_ (nI_pos' (by omega))) h
    have hc : L = 0 ∨ L = 1 ∨ L = 2 ∨ L = 3 ∨ L = 4 := by omega
    rcases hc with rfl | rfl | rfl | rfl | rfl <;> decide
  · rw [pk_sub h5] at h
    rcases Nat.lt_or_ge L (i + 5) with q | q
    · exact absurd (nI_lt (by omega) (by omega)) h
    · exact q
theorem zl_loop {P : zPar} (X : zLx P) : ∀ (n i : Nat) (M N : zMem), P.L - i < n → i ≤ P.L → zInv M N → zLn P 18 [] i M N
  | 0, _, _, _, h, _, _ => absurd h (Nat.not_lt_zero _)
  | n + 1, i, M, N, h, hi, hv => by
    intro H locs ls h0 h1 hS hl
    have hx := X.1.1
    have hb := X.1.2.1
    refine lv_iload_n hx hb dL_18 (i := 3) rfl (lv_at hl 0 rfl) ?_
    refine lv_aload_n hx hb dL_19 (i := 0) rfl (lv_at hl 3 rfl) ?_
    refine va_slen hx hb X.1.2.2.2.2.2.2.1 X.1.2.2.2.2.2.2.2.1 (Nat.not_le.mpr X.1.2.2.2.2.2.2.2.1) hS dL_20 ?_
    refine lv_iconst (v := nI 5) hx hb dL_21 (by decide) ?_
    refine lv_isub hx hb dL_22 ?_
    refine lv_icmp_gt hx hb dL_23 (tgt := 1788) (by decide) (fun _ => zl_end X (i := i) (M := M) (N := N) H locs ls h0 h1 hS hl) (fun hc => ?_)
    have hL5 := zl_gt X.2.2.2.2.2.2.2.2.2.2.2.2 hi hc
    have e63 : (P.xs i &&& 63).toInt = (P.xs i).toInt % 2 ^ 6 := Jvm.Kit.i32_mask (P.xs i) 63 (by decide) (by decide)
    have ht : ∃ t : Nat, (P.xs i &&& 63).toInt = (t : Int) := ⟨((P.xs i).toInt % 2 ^ 6).toNat, by rw [e63]; omega⟩
    obtain ⟨t, et⟩ := ht
    have k1 : zLn P 26 [] i M N := by
      refine zl_arg0 X (by omega) dL_26 dL_27 dL_28 ?_
      refine zl_bipush X dL_29 (v := 63) (by decide) ?_
      refine zl_iand X dL_31 ?_
      exact zl_case X et hL5 hv fun M' N' hv' => zl_next X (zl_loop X n (i + 5) M' N' (by omega) hL5 hv')
    exact k1 H locs ls h0 h1 hS hl
