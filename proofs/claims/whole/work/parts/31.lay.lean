/-! THE LAYOUT, cell by cell (wip/whole/gen/lay.py) -/
theorem tg_1 : f_tg 1 = 10 := by decide +kernel
theorem rf_1_0 : f_rf 1 0 = 2 := by decide +kernel
theorem rf_1_1 : f_rf 1 1 = 123 := by decide +kernel
theorem rf_1_2 : f_rf 1 2 = 322 := by decide +kernel
theorem rf_1_3 : f_rf 1 3 = 325 := by decide +kernel
theorem rf_1_4 : f_rf 1 4 = 330 := by decide +kernel
theorem rf_1_5 : f_rf 1 5 = 335 := by decide +kernel
theorem rf_1_6 : f_rf 1 6 = 336 := by decide +kernel
theorem tg_2 : f_tg 2 = 5 := by decide +kernel
theorem rf_2_0 : f_rf 2 0 = 3 := by decide +kernel
theorem rf_2_1 : f_rf 2 1 = 4 := by decide +kernel
theorem rf_2_2 : f_rf 2 2 = 5 := by decide +kernel
theorem rf_2_3 : f_rf 2 3 = 7 := by decide +kernel
theorem tg_3 : f_tg 3 = 103 := by decide +kernel
theorem ln_3 : f_ln 3 = 6 := by decide +kernel
theorem tg_4 : f_tg 4 = 104 := by decide +kernel
theorem ln_4 : f_ln 4 = 12 := by decide +kernel
theorem tg_5 : f_tg 5 = 0 := by decide +kernel
theorem rf_5_0 : f_rf 5 0 = 6 := by decide +kernel
theorem tg_6 : f_tg 6 = 100 := by decide +kernel
theorem ln_6 : f_ln 6 = 6 := by decide +kernel
theorem tg_7 : f_tg 7 = 0 := by decide +kernel
theorem rf_7_0 : f_rf 7 0 = 8 := by decide +kernel
theorem tg_8 : f_tg 8 = 100 := by decide +kernel
theorem ln_8 : f_ln 8 = 6 := by decide +kernel
theorem tg_123 : f_tg 123 = 7 := by decide +kernel
theorem rf_123_0 : f_rf 123 0 = 2 := by decide +kernel
theorem rf_123_1 : f_rf 123 1 = 124 := by decide +kernel
theorem rf_123_2 : f_rf 123 2 = 125 := by decide +kernel
theorem rf_123_3 : f_rf 123 3 = 127 := by decide +kernel
theorem rf_123_4 : f_rf 123 4 = 129 := by decide +kernel
theorem tg_124 : f_tg 124 = 105 := by decide +kernel
theorem ln_124 : f_ln 124 = 64 := by decide +kernel
theorem tg_125 : f_tg 125 = 0 := by decide +kernel
theorem rf_125_0 : f_rf 125 0 = 126 := by decide +kernel
theorem tg_126 : f_tg 126 = 100 := by decide +kernel
theorem ln_126 : f_ln 126 = 6 := by decide +kernel
theorem tg_127 : f_tg 127 = 0 := by decide +kernel
theorem rf_127_0 : f_rf 127 0 = 128 := by decide +kernel
theorem tg_128 : f_tg 128 = 100 := by decide +kernel
theorem ln_128 : f_ln 128 = 6 := by decide +kernel
theorem tg_129 : f_tg 129 = 102 := by decide +kernel
theorem ln_129 : f_ln 129 = 41 := by decide +kernel
theorem tg_322 : f_tg 322 = 9 := by decide +kernel
theorem rf_322_0 : f_rf 322 0 = 2 := by decide +kernel
theorem rf_322_1 : f_rf 322 1 = 123 := by decide +kernel
theorem rf_322_2 : f_rf 322 2 = 323 := by decide +kernel
theorem rf_322_3 : f_rf 322 3 = 324 := by decide +kernel
theorem tg_323 : f_tg 323 = 100 := by decide +kernel
theorem ln_323 : f_ln 323 = 64 := by decide +kernel
theorem tg_324 : f_tg 324 = 100 := by decide +kernel
theorem ln_324 : f_ln 324 = 192 := by decide +kernel
theorem tg_325 : f_tg 325 = 1 := by decide +kernel
theorem rf_325_0 : f_rf 325 0 = 2 := by decide +kernel
theorem rf_325_1 : f_rf 325 1 = 326 := by decide +kernel
theorem rf_325_2 : f_rf 325 2 = 328 := by decide +kernel
theorem tg_326 : f_tg 326 = 0 := by decide +kernel
theorem rf_326_0 : f_rf 326 0 = 327 := by decide +kernel
theorem tg_327 : f_tg 327 = 100 := by decide +kernel
theorem ln_327 : f_ln 327 = 6 := by decide +kernel
theorem tg_328 : f_tg 328 = 0 := by decide +kernel
theorem rf_328_0 : f_rf 328 0 = 329 := by decide +kernel
theorem tg_329 : f_tg 329 = 100 := by decide +kernel
theorem ln_329 : f_ln 329 = 6 := by decide +kernel
theorem tg_330 : f_tg 330 = 2 := by decide +kernel
theorem rf_330_0 : f_rf 330 0 = 2 := by decide +kernel
theorem rf_330_1 : f_rf 330 1 = 331 := by decide +kernel
theorem rf_330_2 : f_rf 330 2 = 333 := by decide +kernel
theorem tg_331 : f_tg 331 = 0 := by decide +kernel
theorem rf_331_0 : f_rf 331 0 = 332 := by decide +kernel
theorem tg_332 : f_tg 332 = 100 := by decide +kernel
theorem ln_332 : f_ln 332 = 6 := by decide +kernel
theorem tg_333 : f_tg 333 = 0 := by decide +kernel
theorem rf_333_0 : f_rf 333 0 = 334 := by decide +kernel
theorem tg_334 : f_tg 334 = 100 := by decide +kernel
theorem ln_334 : f_ln 334 = 6 := by decide +kernel
theorem tg_335 : f_tg 335 = 106 := by decide +kernel
theorem ln_335 : f_ln 335 = 4 := by decide +kernel
theorem tg_336 : f_tg 336 = 0 := by decide +kernel
theorem rf_336_0 : f_rf 336 0 = 337 := by decide +kernel
theorem tg_337 : f_tg 337 = 100 := by decide +kernel
theorem ln_337 : f_ln 337 = 6 := by decide +kernel
theorem tg_339 : f_tg 339 = 100 := by decide +kernel
theorem ln_339 : f_ln 339 = 60 := by decide +kernel
theorem tg_346 : f_tg 346 = 11 := by decide +kernel
theorem rf_346_1 : f_rf 346 1 = 347 := by decide +kernel
theorem rf_346_2 : f_rf 346 2 = 348 := by decide +kernel
theorem rf_346_4 : f_rf 346 4 = 349 := by decide +kernel
theorem rf_346_5 : f_rf 346 5 = 350 := by decide +kernel
theorem rf_346_6 : f_rf 346 6 = 351 := by decide +kernel
theorem rf_346_7 : f_rf 346 7 = 352 := by decide +kernel
theorem rf_346_8 : f_rf 346 8 = 353 := by decide +kernel
theorem rf_346_11 : f_rf 346 11 = 354 := by decide +kernel
theorem rf_346_13 : f_rf 346 13 = 355 := by decide +kernel
theorem rf_346_14 : f_rf 346 14 = 356 := by decide +kernel
theorem rf_346_15 : f_rf 346 15 = 357 := by decide +kernel
theorem rf_346_17 : f_rf 346 17 = 358 := by decide +kernel
theorem rf_346_18 : f_rf 346 18 = 359 := by decide +kernel
theorem rf_346_19 : f_rf 346 19 = 360 := by decide +kernel
theorem rf_346_20 : f_rf 346 20 = 361 := by decide +kernel
theorem rf_346_21 : f_rf 346 21 = 362 := by decide +kernel
theorem rf_346_22 : f_rf 346 22 = 363 := by decide +kernel
theorem rf_346_26 : f_rf 346 26 = 364 := by decide +kernel
theorem rf_346_28 : f_rf 346 28 = 365 := by decide +kernel
theorem rf_346_29 : f_rf 346 29 = 366 := by decide +kernel
theorem rf_346_32 : f_rf 346 32 = 367 := by decide +kernel
theorem rf_346_34 : f_rf 346 34 = 368 := by decide +kernel
theorem rf_346_35 : f_rf 346 35 = 369 := by decide +kernel
theorem rf_346_36 : f_rf 346 36 = 370 := by decide +kernel
theorem tg_347 : f_tg 347 = 100 := by decide +kernel
theorem ln_347 : f_ln 347 = 36 := by decide +kernel
theorem tg_348 : f_tg 348 = 100 := by decide +kernel
theorem ln_348 : f_ln 348 = 36 := by decide +kernel
theorem tg_349 : f_tg 349 = 100 := by decide +kernel
theorem ln_349 : f_ln 349 = 12 := by decide +kernel
theorem tg_350 : f_tg 350 = 100 := by decide +kernel
theorem ln_350 : f_ln 350 = 12 := by decide +kernel
theorem tg_351 : f_tg 351 = 100 := by decide +kernel
theorem ln_351 : f_ln 351 = 72 := by decide +kernel
theorem tg_352 : f_tg 352 = 100 := by decide +kernel
theorem ln_352 : f_ln 352 = 72 := by decide +kernel
theorem tg_353 : f_tg 353 = 101 := by decide +kernel
theorem ln_353 : f_ln 353 = 36 := by decide +kernel
theorem tg_354 : f_tg 354 = 100 := by decide +kernel
theorem ln_354 : f_ln 354 = 12 := by decide +kernel
theorem tg_355 : f_tg 355 = 101 := by decide +kernel
theorem ln_355 : f_ln 355 = 6 := by decide +kernel
theorem tg_356 : f_tg 356 = 100 := by decide +kernel
theorem ln_356 : f_ln 356 = 36 := by decide +kernel
theorem tg_357 : f_tg 357 = 100 := by decide +kernel
theorem ln_357 : f_ln 357 = 6 := by decide +kernel
theorem tg_358 : f_tg 358 = 100 := by decide +kernel
theorem ln_358 : f_ln 358 = 64 := by decide +kernel
theorem tg_359 : f_tg 359 = 100 := by decide +kernel
theorem ln_359 : f_ln 359 = 384 := by decide +kernel
theorem tg_360 : f_tg 360 = 100 := by decide +kernel
theorem ln_360 : f_ln 360 = 64 := by decide +kernel
theorem tg_361 : f_tg 361 = 100 := by decide +kernel
theorem ln_361 : f_ln 361 = 64 := by decide +kernel
theorem tg_362 : f_tg 362 = 101 := by decide +kernel
theorem ln_362 : f_ln 362 = 64 := by decide +kernel
theorem tg_363 : f_tg 363 = 101 := by decide +kernel
theorem ln_363 : f_ln 363 = 64 := by decide +kernel
theorem tg_364 : f_tg 364 = 100 := by decide +kernel
theorem ln_364 : f_ln 364 = 6 := by decide +kernel
theorem tg_365 : f_tg 365 = 100 := by decide +kernel
theorem ln_365 : f_ln 365 = 256 := by decide +kernel
theorem tg_366 : f_tg 366 = 100 := by decide +kernel
theorem ln_366 : f_ln 366 = 64 := by decide +kernel
theorem tg_367 : f_tg 367 = 100 := by decide +kernel
theorem ln_367 : f_ln 367 = 3 := by decide +kernel
theorem tg_368 : f_tg 368 = 100 := by decide +kernel
theorem ln_368 : f_ln 368 = 4 := by decide +kernel
theorem tg_369 : f_tg 369 = 100 := by decide +kernel
theorem ln_369 : f_ln 369 = 4 := by decide +kernel
theorem tg_370 : f_tg 370 = 100 := by decide +kernel
theorem ln_370 : f_ln 370 = 240 := by decide +kernel
theorem lay_M : ∀ m, m < 6 → f_rf 3 m = 9 + 7 * m ∧ f_tg (9 + 7 * m) = 6 ∧ f_rf (9 + 7 * m) 0 = 10 + 7 * m ∧ f_rf (9 + 7 * m) 1 = 12 + 7 * m ∧ f_rf (9 + 7 * m) 2 = 14 + 7 * m := by decide +kernel
theorem lay_J : ∀ j, j < 12 → f_rf 4 j = 51 + 6 * j ∧ f_tg (51 + 6 * j) = 4 ∧ f_rf (51 + 6 * j) 0 = 52 + 6 * j ∧ f_rf (51 + 6 * j) 1 = 54 + 6 * j ∧ f_rf (51 + 6 * j) 2 = 56 + 6 * j ∧ f_tg (56 + 6 * j) = 101 ∧ f_ln (56 + 6 * j) = 3 := by decide +kernel
theorem lay_H : ∀ h, h < 64 → f_rf 124 h = 130 + 3 * h ∧ f_tg (130 + 3 * h) = 3 ∧ f_rf (130 + 3 * h) 0 = 131 + 3 * h := by decide +kernel
theorem lay_S : ∀ k, k < 4 → f_rf 335 k = 338 + 2 * k ∧ f_tg (338 + 2 * k) = 8 ∧ f_rf (338 + 2 * k) 0 = 339 + 2 * k ∧ f_tg (339 + 2 * k) = 100 ∧ f_ln (339 + 2 * k) = 60 := by decide +kernel
def bxB (b : Nat) : Bool := f_tg b == 0 && f_tg (b + 1) == 100 && f_ln (b + 1) == 6 && f_rf b 0 == b + 1
theorem bxB_ok {b : Nat} (h : bxB b = true) : bx b := by
  unfold bxB at h
  simp only [Bool.and_eq_true, beq_iff_eq] at h
  exact ⟨h.1.1.1, h.1.1.2, h.1.2, h.2⟩
theorem bxM_all : ∀ m, m < 6 → bxB (10 + 7 * m) = true ∧ bxB (12 + 7 * m) = true ∧ bxB (14 + 7 * m) = true := by decide +kernel
theorem bxJ_all : ∀ j, j < 12 → bxB (52 + 6 * j) = true ∧ bxB (54 + 6 * j) = true := by decide +kernel
theorem bxH_all : ∀ h, h < 64 → bxB (131 + 3 * h) = true := by decide +kernel
theorem bx_sp {m : Nat} (h : m < 6) : bx (10 + 7 * m) := bxB_ok (bxM_all m h).1
theorem bx_sl {m : Nat} (h : m < 6) : bx (12 + 7 * m) := bxB_ok (bxM_all m h).2.1
theorem bx_pa {m : Nat} (h : m < 6) : bx (14 + 7 * m) := bxB_ok (bxM_all m h).2.2
theorem bx_ga {j : Nat} (h : j < 12) : bx (52 + 6 * j) := bxB_ok (bxJ_all j h).1
theorem bx_to {j : Nat} (h : j < 12) : bx (54 + 6 * j) := bxB_ok (bxJ_all j h).2
theorem bx_hp {h : Nat} (hh : h < 64) : bx (131 + 3 * h) := bxB_ok (bxH_all h hh)
theorem bx_5 : bx 5 := bxB_ok (by decide +kernel)
theorem bx_7 : bx 7 := bxB_ok (by decide +kernel)
theorem bx_125 : bx 125 := bxB_ok (by decide +kernel)
theorem bx_127 : bx 127 := bxB_ok (by decide +kernel)
theorem bx_326 : bx 326 := bxB_ok (by decide +kernel)
theorem bx_328 : bx 328 := bxB_ok (by decide +kernel)
theorem bx_331 : bx 331 := bxB_ok (by decide +kernel)
theorem bx_333 : bx 333 := bxB_ok (by decide +kernel)
theorem bx_336 : bx 336 := bxB_ok (by decide +kernel)
