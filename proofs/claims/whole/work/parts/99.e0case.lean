/-! the law's cases -/
/-- ground -/
theorem lc_0 {K : LK} (C : LCx K) {σ : St} (hR : Rel σ) {i : Nat} (hi : i + 6 ≤ K.L) (kk : ∀ σ', Rel σ' → LW K σ' 1838 (lvL K i) []) : LW K σ 252 (lvL K i) [] := by
  obtain ⟨Rz1, hM1, h1⟩ := p_ground hR (K.xs (i + 1)) (K.xs (i + 2))
  refine lw_aload C 2 dL_law_252 rfl ?_
  refine lw_arg C 1 (by decide) (by omega) dL_law_253 dL_law_254 dL_law_255 dL_law_256 dL_law_257 ?_
  refine lw_arg C 2 (by decide) (by omega) dL_law_258 dL_law_259 dL_law_260 dL_law_261 dL_law_262 ?_
  refine lw_call C (b := 0) (ci := 8) [K.xs (i + 1), K.xs (i + 2)] (rest := []) hM1 lk_L_13 rfl rfl (by decide) rfl (by show (0 : Nat) ≤ 8; decide) rfl dL_law_263 rfl (fun v σ1 hq => ?_)
  obtain ⟨⟨x, rfl⟩, Rz2, hM2, h2⟩ := h1 v σ1 hq
  refine lw_aload C 3 dL_law_266 rfl ?_
  refine lw_arg C 1 (by decide) (by omega) dL_law_267 dL_law_268 dL_law_269 dL_law_270 dL_law_271 ?_
  refine lw_arg C 2 (by decide) (by omega) dL_law_272 dL_law_273 dL_law_274 dL_law_275 dL_law_276 ?_
  refine lw_call C (b := 73) (ci := 9) [K.xs (i + 1), K.xs (i + 2)] (rest := [.int x]) hM2 lk_L_17 rfl rfl (by decide) rfl (by show (1 : Nat) ≤ 8; decide) rfl dL_law_277 rfl (fun w σ2 hq2 => ?_)
  obtain ⟨rfl, hR2⟩ := h2 w σ2 hq2
  exact lw_eqI C 1838 dL_law_280 (by decide) (kk σ2 hR2)
/-- pick -/
theorem lc_1 {K : LK} (C : LCx K) {σ : St} (hR : Rel σ) {i : Nat} (hi : i + 6 ≤ K.L) (kk : ∀ σ', Rel σ' → LW K σ' 1838 (lvL K i) []) : LW K σ 285 (lvL K i) [] := by
  obtain ⟨Rz1, hM1, h1⟩ := p_pick hR (K.xs (i + 1))
  refine lw_aload C 2 dL_law_285 rfl ?_
  refine lw_arg C 1 (by decide) (by omega) dL_law_286 dL_law_287 dL_law_288 dL_law_289 dL_law_290 ?_
  refine lw_call C (b := 0) (ci := 8) [K.xs (i + 1)] (rest := []) hM1 lk_L_18 rfl rfl (by decide) rfl (by show (0 : Nat) ≤ 8; decide) rfl dL_law_291 rfl (fun v σ1 hq => ?_)
  obtain ⟨⟨x, rfl⟩, Rz2, hM2, h2⟩ := h1 v σ1 hq
  refine lw_aload C 3 dL_law_294 rfl ?_
  refine lw_arg C 1 (by decide) (by omega) dL_law_295 dL_law_296 dL_law_297 dL_law_298 dL_law_299 ?_
  refine lw_call C (b := 73) (ci := 9) [K.xs (i + 1)] (rest := [.int x]) hM2 lk_L_22 rfl rfl (by decide) rfl (by show (1 : Nat) ≤ 8; decide) rfl dL_law_300 rfl (fun w σ2 hq2 => ?_)
  obtain ⟨rfl, hR2⟩ := h2 w σ2 hq2
  exact lw_eqI C 1838 dL_law_303 (by decide) (kk σ2 hR2)
/-- runner -/
theorem lc_2 {K : LK} (C : LCx K) {σ : St} (hR : Rel σ) {i : Nat} (hi : i + 6 ≤ K.L) (kk : ∀ σ', Rel σ' → LW K σ' 1838 (lvL K i) []) : LW K σ 308 (lvL K i) [] := by
  obtain ⟨Rz1, hM1, h1⟩ := p_runner hR (K.xs (i + 1)) (K.xs (i + 2)) (K.xs (i + 3))
  refine lw_aload C 2 dL_law_308 rfl ?_
  refine lw_arg C 1 (by decide) (by omega) dL_law_309 dL_law_310 dL_law_311 dL_law_312 dL_law_313 ?_
  refine lw_arg C 2 (by decide) (by omega) dL_law_314 dL_law_315 dL_law_316 dL_law_317 dL_law_318 ?_
  refine lw_arg C 3 (by decide) (by omega) dL_law_319 dL_law_320 dL_law_321 dL_law_322 dL_law_323 ?_
  refine lw_call C (b := 0) (ci := 8) [K.xs (i + 1), K.xs (i + 2), K.xs (i + 3)] (rest := []) hM1 lk_L_23 rfl rfl (by decide) rfl (by show (0 : Nat) ≤ 8; decide) rfl dL_law_324 rfl (fun v σ1 hq => ?_)
  obtain ⟨⟨x, rfl⟩, Rz2, hM2, h2⟩ := h1 v σ1 hq
  refine lw_aload C 3 dL_law_327 rfl ?_
  refine lw_arg C 1 (by decide) (by omega) dL_law_328 dL_law_329 dL_law_330 dL_law_331 dL_law_332 ?_
  refine lw_arg C 2 (by decide) (by omega) dL_law_333 dL_law_334 dL_law_335 dL_law_336 dL_law_337 ?_
  refine lw_arg C 3 (by decide) (by omega) dL_law_338 dL_law_339 dL_law_340 dL_law_341 dL_law_342 ?_
  refine lw_call C (b := 73) (ci := 9) [K.xs (i + 1), K.xs (i + 2), K.xs (i + 3)] (rest := [.int x]) hM2 lk_L_27 rfl rfl (by decide) rfl (by show (1 : Nat) ≤ 8; decide) rfl dL_law_343 rfl (fun w σ2 hq2 => ?_)
  obtain ⟨rfl, hR2⟩ := h2 w σ2 hq2
  exact lw_eqI C 1838 dL_law_346 (by decide) (kk σ2 hR2)
/-- of -/
theorem lc_3 {K : LK} (C : LCx K) {σ : St} (hR : Rel σ) {i : Nat} (hi : i + 6 ≤ K.L) (kk : ∀ σ', Rel σ' → LW K σ' 1838 (lvL K i) []) : LW K σ 351 (lvL K i) [] := by
  obtain ⟨Rz1, hM1, h1⟩ := p_of hR (K.xs (i + 1)) (K.xs (i + 2))
  refine lw_aload C 2 dL_law_351 rfl ?_
  refine lw_arg C 1 (by decide) (by omega) dL_law_352 dL_law_353 dL_law_354 dL_law_355 dL_law_356 ?_
  refine lw_arg C 2 (by decide) (by omega) dL_law_357 dL_law_358 dL_law_359 dL_law_360 dL_law_361 ?_
  refine lw_call C (b := 0) (ci := 8) [K.xs (i + 1), K.xs (i + 2)] (rest := []) hM1 lk_L_28 rfl rfl (by decide) rfl (by show (0 : Nat) ≤ 8; decide) rfl dL_law_362 rfl (fun v σ1 hq => ?_)
  obtain ⟨⟨x, rfl⟩, Rz2, hM2, h2⟩ := h1 v σ1 hq
  refine lw_aload C 3 dL_law_365 rfl ?_
  refine lw_arg C 1 (by decide) (by omega) dL_law_366 dL_law_367 dL_law_368 dL_law_369 dL_law_370 ?_
  refine lw_arg C 2 (by decide) (by omega) dL_law_371 dL_law_372 dL_law_373 dL_law_374 dL_law_375 ?_
  refine lw_call C (b := 73) (ci := 9) [K.xs (i + 1), K.xs (i + 2)] (rest := [.int x]) hM2 lk_L_31 rfl rfl (by decide) rfl (by show (1 : Nat) ≤ 8; decide) rfl dL_law_376 rfl (fun w σ2 hq2 => ?_)
  obtain ⟨rfl, hR2⟩ := h2 w σ2 hq2
  exact lw_eqI C 1838 dL_law_379 (by decide) (kk σ2 hR2)
/-- change -/
theorem lc_4 {K : LK} (C : LCx K) {σ : St} (hR : Rel σ) {i : Nat} (hi : i + 6 ≤ K.L) (kk : ∀ σ', Rel σ' → LW K σ' 1838 (lvL K i) []) : LW K σ 384 (lvL K i) [] := by
  obtain ⟨Rz1, hM1, h1⟩ := p_change hR (K.xs (i + 1)) (K.xs (i + 2)) (K.xs (i + 3))
  refine lw_aload C 2 dL_law_384 rfl ?_
  refine lw_arg C 1 (by decide) (by omega) dL_law_385 dL_law_386 dL_law_387 dL_law_388 dL_law_389 ?_
  refine lw_arg C 2 (by decide) (by omega) dL_law_390 dL_law_391 dL_law_392 dL_law_393 dL_law_394 ?_
  refine lw_arg C 3 (by decide) (by omega) dL_law_395 dL_law_396 dL_law_397 dL_law_398 dL_law_399 ?_
  refine lw_call C (b := 0) (ci := 8) [K.xs (i + 1), K.xs (i + 2), K.xs (i + 3)] (rest := []) hM1 lk_L_32 rfl rfl (by decide) rfl (by show (0 : Nat) ≤ 8; decide) rfl dL_law_400 rfl (fun v σ1 hq => ?_)
  obtain ⟨⟨x, rfl⟩, Rz2, hM2, h2⟩ := h1 v σ1 hq
  refine lw_aload C 3 dL_law_403 rfl ?_
  refine lw_arg C 1 (by decide) (by omega) dL_law_404 dL_law_405 dL_law_406 dL_law_407 dL_law_408 ?_
  refine lw_arg C 2 (by decide) (by omega) dL_law_409 dL_law_410 dL_law_411 dL_law_412 dL_law_413 ?_
  refine lw_arg C 3 (by decide) (by omega) dL_law_414 dL_law_415 dL_law_416 dL_law_417 dL_law_418 ?_
  refine lw_call C (b := 73) (ci := 9) [K.xs (i + 1), K.xs (i + 2), K.xs (i + 3)] (rest := [.int x]) hM2 lk_L_35 rfl rfl (by decide) rfl (by show (1 : Nat) ≤ 8; decide) rfl dL_law_419 rfl (fun w σ2 hq2 => ?_)
  obtain ⟨rfl, hR2⟩ := h2 w σ2 hq2
  exact lw_eqI C 1838 dL_law_422 (by decide) (kk σ2 hR2)
/-- pace -/
theorem lc_5 {K : LK} (C : LCx K) {σ : St} (hR : Rel σ) {i : Nat} (hi : i + 6 ≤ K.L) (kk : ∀ σ', Rel σ' → LW K σ' 1838 (lvL K i) []) : LW K σ 427 (lvL K i) [] := by
  obtain ⟨Rz1, hM1, h1⟩ := p_pace hR (K.xs (i + 1)) (K.xs (i + 2)) (K.xs (i + 3)) (K.xs (i + 4))
  refine lw_aload C 2 dL_law_427 rfl ?_
  refine lw_arg C 1 (by decide) (by omega) dL_law_428 dL_law_429 dL_law_430 dL_law_431 dL_law_432 ?_
  refine lw_arg C 2 (by decide) (by omega) dL_law_433 dL_law_434 dL_law_435 dL_law_436 dL_law_437 ?_
  refine lw_arg C 3 (by decide) (by omega) dL_law_438 dL_law_439 dL_law_440 dL_law_441 dL_law_442 ?_
  refine lw_arg C 4 (by decide) (by omega) dL_law_443 dL_law_444 dL_law_445 dL_law_446 dL_law_447 ?_
  refine lw_call C (b := 0) (ci := 8) [K.xs (i + 1), K.xs (i + 2), K.xs (i + 3), K.xs (i + 4)] (rest := []) hM1 lk_L_36 rfl rfl (by decide) rfl (by show (0 : Nat) ≤ 8; decide) rfl dL_law_448 rfl (fun v σ1 hq => ?_)
  obtain ⟨⟨x, rfl⟩, Rz2, hM2, h2⟩ := h1 v σ1 hq
  refine lw_aload C 3 dL_law_451 rfl ?_
  refine lw_arg C 1 (by decide) (by omega) dL_law_452 dL_law_453 dL_law_454 dL_law_455 dL_law_456 ?_
  refine lw_arg C 2 (by decide) (by omega) dL_law_457 dL_law_458 dL_law_459 dL_law_460 dL_law_461 ?_
  refine lw_arg C 3 (by decide) (by omega) dL_law_462 dL_law_463 dL_law_464 dL_law_465 dL_law_466 ?_
  refine lw_arg C 4 (by decide) (by omega) dL_law_467 dL_law_468 dL_law_469 dL_law_470 dL_law_471 ?_
  refine lw_call C (b := 73) (ci := 9) [K.xs (i + 1), K.xs (i + 2), K.xs (i + 3), K.xs (i + 4)] (rest := [.int x]) hM2 lk_L_40 rfl rfl (by decide) rfl (by show (1 : Nat) ≤ 8; decide) rfl dL_law_472 rfl (fun w σ2 hq2 => ?_)
  obtain ⟨rfl, hR2⟩ := h2 w σ2 hq2
  exact lw_eqI C 1838 dL_law_475 (by decide) (kk σ2 hR2)
/-- paceOf -/
theorem lc_6 {K : LK} (C : LCx K) {σ : St} (hR : Rel σ) {i : Nat} (hi : i + 6 ≤ K.L) (kk : ∀ σ', Rel σ' → LW K σ' 1838 (lvL K i) []) : LW K σ 480 (lvL K i) [] := by
  obtain ⟨Rz1, hM1, h1⟩ := p_paceOf hR (K.xs (i + 1)) (K.xs (i + 2))
  refine lw_aload C 2 dL_law_480 rfl ?_
  refine lw_arg C 1 (by decide) (by omega) dL_law_481 dL_law_482 dL_law_483 dL_law_484 dL_law_485 ?_
  refine lw_arg C 2 (by decide) (by omega) dL_law_486 dL_law_487 dL_law_488 dL_law_489 dL_law_490 ?_
  refine lw_call C (b := 0) (ci := 8) [K.xs (i + 1), K.xs (i + 2)] (rest := []) hM1 lk_L_41 rfl rfl (by decide) rfl (by show (0 : Nat) ≤ 8; decide) rfl dL_law_491 rfl (fun v σ1 hq => ?_)
  obtain ⟨⟨x, rfl⟩, Rz2, hM2, h2⟩ := h1 v σ1 hq
  refine lw_aload C 3 dL_law_494 rfl ?_
  refine lw_arg C 1 (by decide) (by omega) dL_law_495 dL_law_496 dL_law_497 dL_law_498 dL_law_499 ?_
  refine lw_arg C 2 (by decide) (by omega) dL_law_500 dL_law_501 dL_law_502 dL_law_503 dL_law_504 ?_
  refine lw_call C (b := 73) (ci := 9) [K.xs (i + 1), K.xs (i + 2)] (rest := [.int x]) hM2 lk_L_44 rfl rfl (by decide) rfl (by show (1 : Nat) ≤ 8; decide) rfl dL_law_505 rfl (fun w σ2 hq2 => ?_)
  obtain ⟨rfl, hR2⟩ := h2 w σ2 hq2
  exact lw_eqI C 1838 dL_law_508 (by decide) (kk σ2 hR2)
/-- told -/
theorem lc_7 {K : LK} (C : LCx K) {σ : St} (hR : Rel σ) {i : Nat} (hi : i + 6 ≤ K.L) (kk : ∀ σ', Rel σ' → LW K σ' 1838 (lvL K i) []) : LW K σ 513 (lvL K i) [] := by
  obtain ⟨Rz1, hM1, h1⟩ := p_told hR (K.xs (i + 1)) (K.xs (i + 2)) (K.xs (i + 3))
  refine lw_aload C 2 dL_law_513 rfl ?_
  refine lw_arg C 1 (by decide) (by omega) dL_law_514 dL_law_515 dL_law_516 dL_law_517 dL_law_518 ?_
  refine lw_arg C 2 (by decide) (by omega) dL_law_519 dL_law_520 dL_law_521 dL_law_522 dL_law_523 ?_
  refine lw_arg C 3 (by decide) (by omega) dL_law_524 dL_law_525 dL_law_526 dL_law_527 dL_law_528 ?_
  refine lw_call C (b := 0) (ci := 8) [K.xs (i + 1), K.xs (i + 2), K.xs (i + 3)] (rest := []) hM1 lk_L_45 rfl rfl (by decide) rfl (by show (0 : Nat) ≤ 8; decide) rfl dL_law_529 rfl (fun v σ1 hq => ?_)
  obtain ⟨⟨x, rfl⟩, Rz2, hM2, h2⟩ := h1 v σ1 hq
  refine lw_aload C 3 dL_law_532 rfl ?_
  refine lw_arg C 1 (by decide) (by omega) dL_law_533 dL_law_534 dL_law_535 dL_law_536 dL_law_537 ?_
  refine lw_arg C 2 (by decide) (by omega) dL_law_538 dL_law_539 dL_law_540 dL_law_541 dL_law_542 ?_
  refine lw_arg C 3 (by decide) (by omega) dL_law_543 dL_law_544 dL_law_545 dL_law_546 dL_law_547 ?_
  refine lw_call C (b := 73) (ci := 9) [K.xs (i + 1), K.xs (i + 2), K.xs (i + 3)] (rest := [.int x]) hM2 lk_L_48 rfl rfl (by decide) rfl (by show (1 : Nat) ≤ 8; decide) rfl dL_law_548 rfl (fun w σ2 hq2 => ?_)
  obtain ⟨rfl, hR2⟩ := h2 w σ2 hq2
  exact lw_eqI C 1838 dL_law_551 (by decide) (kk σ2 hR2)
/-- odds -/
theorem lc_8 {K : LK} (C : LCx K) {σ : St} (hR : Rel σ) {i : Nat} (hi : i + 6 ≤ K.L) (kk : ∀ σ', Rel σ' → LW K σ' 1838 (lvL K i) []) : LW K σ 556 (lvL K i) [] := by
  obtain ⟨Rz1, hM1, h1⟩ := p_odds hR (K.xs (i + 1)) (K.xs (i + 2)) (K.xs (i + 3)) (K.xs (i + 4))
  refine lw_aload C 2 dL_law_556 rfl ?_
  refine lw_arg C 1 (by decide) (by omega) dL_law_557 dL_law_558 dL_law_559 dL_law_560 dL_law_561 ?_
  refine lw_arg C 2 (by decide) (by omega) dL_law_562 dL_law_563 dL_law_564 dL_law_565 dL_law_566 ?_
  refine lw_arg C 3 (by decide) (by omega) dL_law_567 dL_law_568 dL_law_569 dL_law_570 dL_law_571 ?_
  refine lw_arg C 4 (by decide) (by omega) dL_law_572 dL_law_573 dL_law_574 dL_law_575 dL_law_576 ?_
  refine lw_call C (b := 0) (ci := 8) [K.xs (i + 1), K.xs (i + 2), K.xs (i + 3), K.xs (i + 4)] (rest := []) hM1 lk_L_49 rfl rfl (by decide) rfl (by show (0 : Nat) ≤ 8; decide) rfl dL_law_577 rfl (fun v σ1 hq => ?_)
  obtain ⟨⟨x, rfl⟩, Rz2, hM2, h2⟩ := h1 v σ1 hq
  refine lw_aload C 3 dL_law_580 rfl ?_
  refine lw_arg C 1 (by decide) (by omega) dL_law_581 dL_law_582 dL_law_583 dL_law_584 dL_law_585 ?_
  refine lw_arg C 2 (by decide) (by omega) dL_law_586 dL_law_587 dL_law_588 dL_law_589 dL_law_590 ?_
  refine lw_arg C 3 (by decide) (by omega) dL_law_591 dL_law_592 dL_law_593 dL_law_594 dL_law_595 ?_
  refine lw_arg C 4 (by decide) (by omega) dL_law_596 dL_law_597 dL_law_598 dL_law_599 dL_law_600 ?_
  refine lw_call C (b := 73) (ci := 9) [K.xs (i + 1), K.xs (i + 2), K.xs (i + 3), K.xs (i + 4)] (rest := [.int x]) hM2 lk_L_52 rfl rfl (by decide) rfl (by show (1 : Nat) ≤ 8; decide) rfl dL_law_601 rfl (fun w σ2 hq2 => ?_)
  obtain ⟨rfl, hR2⟩ := h2 w σ2 hq2
  exact lw_eqI C 1838 dL_law_604 (by decide) (kk σ2 hR2)
/-- now -/
theorem lc_9 {K : LK} (C : LCx K) {σ : St} (hR : Rel σ) {i : Nat} (hi : i + 6 ≤ K.L) (kk : ∀ σ', Rel σ' → LW K σ' 1838 (lvL K i) []) : LW K σ 609 (lvL K i) [] := by
  obtain ⟨Rz1, hM1, h1⟩ := p_now hR (K.xs (i + 1))
  refine lw_aload C 2 dL_law_609 rfl ?_
  refine lw_arg C 1 (by decide) (by omega) dL_law_610 dL_law_611 dL_law_612 dL_law_613 dL_law_614 ?_
  refine lw_call C (b := 0) (ci := 8) [K.xs (i + 1)] (rest := []) hM1 lk_L_53 rfl rfl (by decide) rfl (by show (0 : Nat) ≤ 8; decide) rfl dL_law_615 rfl (fun v σ1 hq => ?_)
  obtain ⟨⟨x, rfl⟩, Rz2, hM2, h2⟩ := h1 v σ1 hq
  refine lw_aload C 3 dL_law_618 rfl ?_
  refine lw_arg C 1 (by decide) (by omega) dL_law_619 dL_law_620 dL_law_621 dL_law_622 dL_law_623 ?_
  refine lw_call C (b := 73) (ci := 9) [K.xs (i + 1)] (rest := [.int x]) hM2 lk_L_56 rfl rfl (by decide) rfl (by show (1 : Nat) ≤ 8; decide) rfl dL_law_624 rfl (fun w σ2 hq2 => ?_)
  obtain ⟨rfl, hR2⟩ := h2 w σ2 hq2
  exact lw_eqI C 1838 dL_law_627 (by decide) (kk σ2 hR2)
/-- nerves -/
theorem lc_10 {K : LK} (C : LCx K) {σ : St} (hR : Rel σ) {i : Nat} (hi : i + 6 ≤ K.L) (kk : ∀ σ', Rel σ' → LW K σ' 1838 (lvL K i) []) : LW K σ 632 (lvL K i) [] := by
  obtain ⟨Rz1, hM1, h1⟩ := p_nerves hR (K.xs (i + 1))
  refine lw_aload C 2 dL_law_632 rfl ?_
  refine lw_arg C 1 (by decide) (by omega) dL_law_633 dL_law_634 dL_law_635 dL_law_636 dL_law_637 ?_
  refine lw_call C (b := 0) (ci := 8) [K.xs (i + 1)] (rest := []) hM1 lk_L_57 rfl rfl (by decide) rfl (by show (0 : Nat) ≤ 8; decide) rfl dL_law_638 rfl (fun v σ1 hq => ?_)
  obtain ⟨⟨x, rfl⟩, Rz2, hM2, h2⟩ := h1 v σ1 hq
  refine lw_aload C 3 dL_law_641 rfl ?_
  refine lw_arg C 1 (by decide) (by omega) dL_law_642 dL_law_643 dL_law_644 dL_law_645 dL_law_646 ?_
  refine lw_call C (b := 73) (ci := 9) [K.xs (i + 1)] (rest := [.int x]) hM2 lk_L_60 rfl rfl (by decide) rfl (by show (1 : Nat) ≤ 8; decide) rfl dL_law_647 rfl (fun w σ2 hq2 => ?_)
  obtain ⟨rfl, hR2⟩ := h2 w σ2 hq2
  exact lw_eqI C 1838 dL_law_650 (by decide) (kk σ2 hR2)
/-- next -/
theorem lc_11 {K : LK} (C : LCx K) {σ : St} (hR : Rel σ) {i : Nat} (hi : i + 6 ≤ K.L) (kk : ∀ σ', Rel σ' → LW K σ' 1838 (lvL K i) []) : LW K σ 655 (lvL K i) [] := by
  obtain ⟨Rz1, hM1, h1⟩ := p_next hR 
  refine lw_aload C 2 dL_law_655 rfl ?_
  refine lw_call C (b := 0) (ci := 8) [] (rest := []) hM1 lk_L_61 rfl rfl (by decide) rfl (by show (0 : Nat) ≤ 8; decide) rfl dL_law_656 rfl (fun v σ1 hq => ?_)
  obtain ⟨⟨x, rfl⟩, Rz2, hM2, h2⟩ := h1 v σ1 hq
  refine lw_aload C 3 dL_law_659 rfl ?_
  refine lw_call C (b := 73) (ci := 9) [] (rest := [.int x]) hM2 lk_L_65 rfl rfl (by decide) rfl (by show (1 : Nat) ≤ 8; decide) rfl dL_law_660 rfl (fun w σ2 hq2 => ?_)
  obtain ⟨rfl, hR2⟩ := h2 w σ2 hq2
  exact lw_eqI C 1838 dL_law_663 (by decide) (kk σ2 hR2)
/-- steps -/
theorem lc_12 {K : LK} (C : LCx K) {σ : St} (hR : Rel σ) {i : Nat} (hi : i + 6 ≤ K.L) (kk : ∀ σ', Rel σ' → LW K σ' 1838 (lvL K i) []) : LW K σ 668 (lvL K i) [] := by
  obtain ⟨Rz1, hM1, h1⟩ := p_steps hR (K.xs (i + 1))
  refine lw_aload C 2 dL_law_668 rfl ?_
  refine lw_arg C 1 (by decide) (by omega) dL_law_669 dL_law_670 dL_law_671 dL_law_672 dL_law_673 ?_
  refine lw_call C (b := 0) (ci := 8) [K.xs (i + 1)] (rest := []) hM1 lk_L_66 rfl rfl (by decide) rfl (by show (0 : Nat) ≤ 8; decide) rfl dL_law_674 rfl (fun v σ1 hq => ?_)
  obtain ⟨⟨x, rfl⟩, Rz2, hM2, h2⟩ := h1 v σ1 hq
  refine lw_aload C 3 dL_law_677 rfl ?_
  refine lw_arg C 1 (by decide) (by omega) dL_law_678 dL_law_679 dL_law_680 dL_law_681 dL_law_682 ?_
  refine lw_call C (b := 73) (ci := 9) [K.xs (i + 1)] (rest := [.int x]) hM2 lk_L_69 rfl rfl (by decide) rfl (by show (1 : Nat) ≤ 8; decide) rfl dL_law_683 rfl (fun w σ2 hq2 => ?_)
  obtain ⟨rfl, hR2⟩ := h2 w σ2 hq2
  exact lw_eqI C 1838 dL_law_686 (by decide) (kk σ2 hR2)
