section
variable {p : Program} {l : Launch} {e : Env} {s : State} {m : MethodId} {below : List Frame} {meth : Method} {c : Code} {b L : Nat} {xs : Nat → Int32}
variable {D : va_G} {cA : Nat → ClassId} {ad adR : Nat → Nat} {Q : State → Prop}
theorem zw_c0 (X : zw_Fx p s m meth c b L xs D cA ad) (Wd : zw_Wd l s D cA ad adR) {t : Nat} (ht : 7 * t + 7 ≤ L) (hL : L ≤ 3584) : zw_Case p l e s m below meth c b L D cA ad adR Q 220 t := by
  intro M R H ls cells slots hcs HR w hl kk
  have hx := X.1
  have hb := X.2.1
  obtain ⟨k, v, M2, R2, h1, h2, h3, h4, h5⟩ := zw_agree (b := false) (c_make HR (xs (7 * t + 1)) (xs (7 * t + 2)))
  refine lv_aload_n hx hb dw_220 rfl (lv_at hl 2 rfl) ?_
  refine zw_arg (t := t) (j := 1) X w.1 ht (by decide) hL (lv_at hl 1 rfl) (lv_at hl 0 rfl) dw_221 dw_222 dw_224 (by decide) dw_225 dw_226 ?_
  refine zw_arg (t := t) (j := 2) X w.1 ht (by decide) hL (lv_at hl 1 rfl) (lv_at hl 0 rfl) dw_227 dw_228 dw_230 (by decide) dw_231 dw_232 ?_
  refine lv_aload_n hx hb dw_233 rfl (lv_at hl 4 rfl) ?_
  refine zw_wrap X (n := 4) (As := [.ref 0, .int (xs (7 * t + 1)), .int (xs (7 * t + 2)), .ref 73]) (rest := []) (lw_make Wd.1 (zEx_XOk ad) h1) (zz_inl (by decide +kernel)) ⟨by decide, by decide, by decide +kernel⟩ (by decide) rfl hl.1 (Nat.le_of_ble_eq_true rfl) hcs Wd.2.2.1 w.1 w.2.1 w.2.2 (zw_disC Wd) dw_234 (fun H1 hS hP hPR => ?_)
  refine lv_istore (lv' := (5, .int k) :: zw_lv b ad adR t) hx hb dw_237 hl (by decide) rfl (fun ls hl => ?_)
  refine lv_aload_n hx hb dw_239 rfl (lv_at hl 4 rfl) ?_
  refine zw_arg (t := t) (j := 1) X hS ht (by decide) hL (lv_at hl 2 rfl) (lv_at hl 1 rfl) dw_240 dw_241 dw_243 (by decide) dw_244 dw_245 ?_
  refine zw_arg (t := t) (j := 2) X hS ht (by decide) hL (lv_at hl 2 rfl) (lv_at hl 1 rfl) dw_246 dw_247 dw_249 (by decide) dw_250 dw_251 ?_
  refine zw_virt X (n := 2) (S := zzSR) (ax := adR) (As := [.int (xs (7 * t + 1)), .int (xs (7 * t + 2))]) (rest := []) (v := some (.int v)) (mm_X12_make Wd.2.1).1 h2 (ci := 10) rfl rfl (zz_inl (by decide +kernel)) ⟨rfl, by decide, by decide, by decide +kernel⟩ (by decide) rfl hl.1 (Nat.le_of_ble_eq_true rfl) hcs Wd.2.2.2.1 hS hPR hP (zw_disR Wd) dw_252 (fun H1 hS hPR hP => ?_)
  refine lv_istore (lv' := (6, .int v) :: (5, .int k) :: zw_lv b ad adR t) hx hb dw_255 hl (by decide) rfl (fun ls hl => ?_)
  exact zw_finI X Wd h3 h5 hcs ⟨hS, hP, hPR⟩ hl dw_257 dw_258 dw_261 dw_263 dw_268 dw_270 dw_273 dw_274 dw_275 dw_276 dw_278 dw_279 dw_280 dw_285 (by decide) (fun H1 w hl => kk M2 R2 H1 ls h4 w hl)
theorem zw_c1 (X : zw_Fx p s m meth c b L xs D cA ad) (Wd : zw_Wd l s D cA ad adR) {t : Nat} (ht : 7 * t + 7 ≤ L) (hL : L ≤ 3584) : zw_Case p l e s m below meth c b L D cA ad adR Q 288 t := by
  intro M R H ls cells slots hcs HR w hl kk
  have hx := X.1
  have hb := X.2.1
  obtain ⟨k, v, M2, R2, h1, h2, h3, h4, h5⟩ := zw_agree (b := false) (c_apply HR (xs (7 * t + 1)) (xs (7 * t + 2)) (xs (7 * t + 3)) (xs (7 * t + 4)) (xs (7 * t + 5)) (zw_b (xs (7 * t + 6))))
  refine lv_aload_n hx hb dw_288 rfl (lv_at hl 2 rfl) ?_
  refine zw_arg (t := t) (j := 1) X w.1 ht (by decide) hL (lv_at hl 1 rfl) (lv_at hl 0 rfl) dw_289 dw_290 dw_292 (by decide) dw_293 dw_294 ?_
  refine zw_arg (t := t) (j := 2) X w.1 ht (by decide) hL (lv_at hl 1 rfl) (lv_at hl 0 rfl) dw_295 dw_296 dw_298 (by decide) dw_299 dw_300 ?_
  refine zw_arg (t := t) (j := 3) X w.1 ht (by decide) hL (lv_at hl 1 rfl) (lv_at hl 0 rfl) dw_301 dw_302 dw_304 (by decide) dw_305 dw_306 ?_
  refine zw_arg (t := t) (j := 4) X w.1 ht (by decide) hL (lv_at hl 1 rfl) (lv_at hl 0 rfl) dw_307 dw_308 dw_310 (by decide) dw_311 dw_312 ?_
  refine zw_arg (t := t) (j := 5) X w.1 ht (by decide) hL (lv_at hl 1 rfl) (lv_at hl 0 rfl) dw_313 dw_314 dw_316 (by decide) dw_317 dw_318 ?_
  refine zw_arg6 (t := t) (j := 6) X w.1 ht (by decide) hL (lv_at hl 1 rfl) (lv_at hl 0 rfl) dw_319 dw_320 dw_322 (by decide) dw_324 dw_325 ?_
  refine zw_bool X dw_326 dw_329 dw_330 dw_333 ?_
  refine lv_aload_n hx hb dw_334 rfl (lv_at hl 4 rfl) ?_
  refine zw_wrap X (n := 8) (As := [.ref 0, .int (xs (7 * t + 1)), .int (xs (7 * t + 2)), .int (xs (7 * t + 3)), .int (xs (7 * t + 4)), .int (xs (7 * t + 5)), .int (zw_b (xs (7 * t + 6))), .ref 73]) (rest := []) (lw_apply Wd.1 (zEx_XOk ad) h1) (zz_inl (by decide +kernel)) ⟨by decide, by decide, by decide +kernel⟩ (by decide) rfl hl.1 (Nat.le_of_ble_eq_true rfl) hcs Wd.2.2.1 w.1 w.2.1 w.2.2 (zw_disC Wd) dw_335 (fun H1 hS hP hPR => ?_)
  refine lv_istore (lv' := (5, .int k) :: zw_lv b ad adR t) hx hb dw_338 hl (by decide) rfl (fun ls hl => ?_)
  refine lv_aload_n hx hb dw_340 rfl (lv_at hl 4 rfl) ?_
  refine zw_arg (t := t) (j := 1) X hS ht (by decide) hL (lv_at hl 2 rfl) (lv_at hl 1 rfl) dw_341 dw_342 dw_344 (by decide) dw_345 dw_346 ?_
  refine zw_arg (t := t) (j := 2) X hS ht (by decide) hL (lv_at hl 2 rfl) (lv_at hl 1 rfl) dw_347 dw_348 dw_350 (by decide) dw_351 dw_352 ?_
  refine zw_arg (t := t) (j := 3) X hS ht (by decide) hL (lv_at hl 2 rfl) (lv_at hl 1 rfl) dw_353 dw_354 dw_356 (by decide) dw_357 dw_358 ?_
  refine zw_arg (t := t) (j := 4) X hS ht (by decide) hL (lv_at hl 2 rfl) (lv_at hl 1 rfl) dw_359 dw_360 dw_362 (by decide) dw_363 dw_364 ?_
  refine zw_arg (t := t) (j := 5) X hS ht (by decide) hL (lv_at hl 2 rfl) (lv_at hl 1 rfl) dw_365 dw_366 dw_368 (by decide) dw_369 dw_370 ?_
  refine zw_arg6 (t := t) (j := 6) X hS ht (by decide) hL (lv_at hl 2 rfl) (lv_at hl 1 rfl) dw_371 dw_372 dw_374 (by decide) dw_376 dw_377 ?_
  refine zw_bool X dw_378 dw_381 dw_382 dw_385 ?_
  refine zw_virt X (n := 6) (S := zzSR) (ax := adR) (As := [.int (xs (7 * t + 1)), .int (xs (7 * t + 2)), .int (xs (7 * t + 3)), .int (xs (7 * t + 4)), .int (xs (7 * t + 5)), .int (zw_b (xs (7 * t + 6)))]) (rest := []) (v := some (.int v)) (mm_X12_apply Wd.2.1).1 h2 (ci := 10) rfl rfl (zz_inl (by decide +kernel)) ⟨rfl, by decide, by decide, by decide +kernel⟩ (by decide) rfl hl.1 (Nat.le_of_ble_eq_true rfl) hcs Wd.2.2.2.1 hS hPR hP (zw_disR Wd) dw_386 (fun H1 hS hPR hP => ?_)
  refine lv_istore (lv' := (6, .int v) :: (5, .int k) :: zw_lv b ad adR t) hx hb dw_389 hl (by decide) rfl (fun ls hl => ?_)
  exact zw_finI X Wd h3 h5 hcs ⟨hS, hP, hPR⟩ hl dw_391 dw_392 dw_395 dw_397 dw_402 dw_404 dw_407 dw_408 dw_409 dw_410 dw_412 dw_413 dw_414 dw_419 (by decide) (fun H1 w hl => kk M2 R2 H1 ls h4 w hl)
theorem zw_c2 (X : zw_Fx p s m meth c b L xs D cA ad) (Wd : zw_Wd l s D cA ad adR) {t : Nat} (ht : 7 * t + 7 ≤ L) (hL : L ≤ 3584) : zw_Case p l e s m below meth c b L D cA ad adR Q 422 t := by
  intro M R H ls cells slots hcs HR w hl kk
  have hx := X.1
  have hb := X.2.1
  obtain ⟨k, v, M2, R2, h1, h2, h3, h4, h5⟩ := zw_agree (b := false) (c_applyBudget HR (xs (7 * t + 1)) (xs (7 * t + 2)) (xs (7 * t + 3)) (zw_b (xs (7 * t + 4))))
  refine lv_aload_n hx hb dw_422 rfl (lv_at hl 2 rfl) ?_
  refine zw_arg (t := t) (j := 1) X w.1 ht (by decide) hL (lv_at hl 1 rfl) (lv_at hl 0 rfl) dw_423 dw_424 dw_426 (by decide) dw_427 dw_428 ?_
  refine zw_arg (t := t) (j := 2) X w.1 ht (by decide) hL (lv_at hl 1 rfl) (lv_at hl 0 rfl) dw_429 dw_430 dw_432 (by decide) dw_433 dw_434 ?_
  refine zw_arg (t := t) (j := 3) X w.1 ht (by decide) hL (lv_at hl 1 rfl) (lv_at hl 0 rfl) dw_435 dw_436 dw_438 (by decide) dw_439 dw_440 ?_
  refine zw_arg (t := t) (j := 4) X w.1 ht (by decide) hL (lv_at hl 1 rfl) (lv_at hl 0 rfl) dw_441 dw_442 dw_444 (by decide) dw_445 dw_446 ?_
  refine zw_bool X dw_447 dw_450 dw_451 dw_454 ?_
  refine lv_aload_n hx hb dw_455 rfl (lv_at hl 4 rfl) ?_
  refine zw_wrap X (n := 6) (As := [.ref 0, .int (xs (7 * t + 1)), .int (xs (7 * t + 2)), .int (xs (7 * t + 3)), .int (zw_b (xs (7 * t + 4))), .ref 73]) (rest := []) (lw_applyBudget Wd.1 (zEx_XOk ad) h1) (zz_inl (by decide +kernel)) ⟨by decide, by decide, by decide +kernel⟩ (by decide) rfl hl.1 (Nat.le_of_ble_eq_true rfl) hcs Wd.2.2.1 w.1 w.2.1 w.2.2 (zw_disC Wd) dw_456 (fun H1 hS hP hPR => ?_)
  refine lv_istore (lv' := (5, .int k) :: zw_lv b ad adR t) hx hb dw_459 hl (by decide) rfl (fun ls hl => ?_)
  refine lv_aload_n hx hb dw_461 rfl (lv_at hl 4 rfl) ?_
  refine zw_arg (t := t) (j := 1) X hS ht (by decide) hL (lv_at hl 2 rfl) (lv_at hl 1 rfl) dw_462 dw_463 dw_465 (by decide) dw_466 dw_467 ?_
  refine zw_arg (t := t) (j := 2) X hS ht (by decide) hL (lv_at hl 2 rfl) (lv_at hl 1 rfl) dw_468 dw_469 dw_471 (by decide) dw_472 dw_473 ?_
  refine zw_arg (t := t) (j := 3) X hS ht (by decide) hL (lv_at hl 2 rfl) (lv_at hl 1 rfl) dw_474 dw_475 dw_477 (by decide) dw_478 dw_479 ?_
  refine zw_arg (t := t) (j := 4) X hS ht (by decide) hL (lv_at hl 2 rfl) (lv_at hl 1 rfl) dw_480 dw_481 dw_483 (by decide) dw_484 dw_485 ?_
  refine zw_bool X dw_486 dw_489 dw_490 dw_493 ?_
  refine zw_virt X (n := 4) (S := zzSR) (ax := adR) (As := [.int (xs (7 * t + 1)), .int (xs (7 * t + 2)), .int (xs (7 * t + 3)), .int (zw_b (xs (7 * t + 4)))]) (rest := []) (v := some (.int v)) (mm_X12_applyBudget Wd.2.1).1 h2 (ci := 10) rfl rfl (zz_inl (by decide +kernel)) ⟨rfl, by decide, by decide, by decide +kernel⟩ (by decide) rfl hl.1 (Nat.le_of_ble_eq_true rfl) hcs Wd.2.2.2.1 hS hPR hP (zw_disR Wd) dw_494 (fun H1 hS hPR hP => ?_)
  refine lv_istore (lv' := (6, .int v) :: (5, .int k) :: zw_lv b ad adR t) hx hb dw_497 hl (by decide) rfl (fun ls hl => ?_)
  exact zw_finI X Wd h3 h5 hcs ⟨hS, hP, hPR⟩ hl dw_499 dw_500 dw_503 dw_505 dw_510 dw_512 dw_515 dw_516 dw_517 dw_518 dw_520 dw_521 dw_522 dw_527 (by decide) (fun H1 w hl => kk M2 R2 H1 ls h4 w hl)
theorem zw_c3 (X : zw_Fx p s m meth c b L xs D cA ad) (Wd : zw_Wd l s D cA ad adR) {t : Nat} (ht : 7 * t + 7 ≤ L) (hL : L ≤ 3584) : zw_Case p l e s m below meth c b L D cA ad adR Q 530 t := by
  intro M R H ls cells slots hcs HR w hl kk
  have hx := X.1
  have hb := X.2.1
  obtain ⟨k, v, M2, R2, h1, h2, h3, h4, h5⟩ := zw_agree (b := false) (c_delete HR (xs (7 * t + 1)) (xs (7 * t + 2)))
  refine lv_aload_n hx hb dw_530 rfl (lv_at hl 2 rfl) ?_
  refine zw_arg (t := t) (j := 1) X w.1 ht (by decide) hL (lv_at hl 1 rfl) (lv_at hl 0 rfl) dw_531 dw_532 dw_534 (by decide) dw_535 dw_536 ?_
  refine zw_arg (t := t) (j := 2) X w.1 ht (by decide) hL (lv_at hl 1 rfl) (lv_at hl 0 rfl) dw_537 dw_538 dw_540 (by decide) dw_541 dw_542 ?_
  refine lv_aload_n hx hb dw_543 rfl (lv_at hl 4 rfl) ?_
  refine zw_wrap X (n := 4) (As := [.ref 0, .int (xs (7 * t + 1)), .int (xs (7 * t + 2)), .ref 73]) (rest := []) (lw_delete Wd.1 (zEx_XOk ad) h1) (zz_inl (by decide +kernel)) ⟨by decide, by decide, by decide +kernel⟩ (by decide) rfl hl.1 (Nat.le_of_ble_eq_true rfl) hcs Wd.2.2.1 w.1 w.2.1 w.2.2 (zw_disC Wd) dw_544 (fun H1 hS hP hPR => ?_)
  refine lv_istore (lv' := (5, .int k) :: zw_lv b ad adR t) hx hb dw_547 hl (by decide) rfl (fun ls hl => ?_)
  refine lv_aload_n hx hb dw_549 rfl (lv_at hl 4 rfl) ?_
  refine zw_arg (t := t) (j := 1) X hS ht (by decide) hL (lv_at hl 2 rfl) (lv_at hl 1 rfl) dw_550 dw_551 dw_553 (by decide) dw_554 dw_555 ?_
  refine zw_arg (t := t) (j := 2) X hS ht (by decide) hL (lv_at hl 2 rfl) (lv_at hl 1 rfl) dw_556 dw_557 dw_559 (by decide) dw_560 dw_561 ?_
  refine zw_virt X (n := 2) (S := zzSR) (ax := adR) (As := [.int (xs (7 * t + 1)), .int (xs (7 * t + 2))]) (rest := []) (v := some (.int v)) (mm_X12_delete Wd.2.1).1 h2 (ci := 10) rfl rfl (zz_inl (by decide +kernel)) ⟨rfl, by decide, by decide, by decide +kernel⟩ (by decide) rfl hl.1 (Nat.le_of_ble_eq_true rfl) hcs Wd.2.2.2.1 hS hPR hP (zw_disR Wd) dw_562 (fun H1 hS hPR hP => ?_)
  refine lv_istore (lv' := (6, .int v) :: (5, .int k) :: zw_lv b ad adR t) hx hb dw_565 hl (by decide) rfl (fun ls hl => ?_)
  exact zw_finI X Wd h3 h5 hcs ⟨hS, hP, hPR⟩ hl dw_567 dw_568 dw_571 dw_573 dw_578 dw_580 dw_583 dw_584 dw_585 dw_586 dw_588 dw_589 dw_590 dw_595 (by decide) (fun H1 w hl => kk M2 R2 H1 ls h4 w hl)
theorem zw_c4 (X : zw_Fx p s m meth c b L xs D cA ad) (Wd : zw_Wd l s D cA ad adR) {t : Nat} (ht : 7 * t + 7 ≤ L) (hL : L ≤ 3584) : zw_Case p l e s m below meth c b L D cA ad adR Q 598 t := by
  intro M R H ls cells slots hcs HR w hl kk
  have hx := X.1
  have hb := X.2.1
  obtain ⟨k, v, M2, R2, h1, h2, h3, h4, h5⟩ := zw_agree (b := true) (c_hold HR (xs (7 * t + 1)) (zw_b (xs (7 * t + 2))))
  refine lv_aload_n hx hb dw_598 rfl (lv_at hl 2 rfl) ?_
  refine zw_arg (t := t) (j := 1) X w.1 ht (by decide) hL (lv_at hl 1 rfl) (lv_at hl 0 rfl) dw_599 dw_600 dw_602 (by decide) dw_603 dw_604 ?_
  refine zw_arg (t := t) (j := 2) X w.1 ht (by decide) hL (lv_at hl 1 rfl) (lv_at hl 0 rfl) dw_605 dw_606 dw_608 (by decide) dw_609 dw_610 ?_
  refine zw_bool X dw_611 dw_614 dw_615 dw_618 ?_
  refine lv_aload_n hx hb dw_619 rfl (lv_at hl 4 rfl) ?_
  refine zw_wrap X (n := 4) (As := [.ref 0, .int (xs (7 * t + 1)), .int (zw_b (xs (7 * t + 2))), .ref 73]) (rest := []) (lw_hold Wd.1 (zEx_XOk ad) h1) (zz_inl (by decide +kernel)) ⟨by decide, by decide, by decide +kernel⟩ (by decide) rfl hl.1 (Nat.le_of_ble_eq_true rfl) hcs Wd.2.2.1 w.1 w.2.1 w.2.2 (zw_disC Wd) dw_620 (fun H1 hS hP hPR => ?_)
  refine lv_istore (lv' := (5, .int k) :: zw_lv b ad adR t) hx hb dw_623 hl (by decide) rfl (fun ls hl => ?_)
  refine lv_aload_n hx hb dw_625 rfl (lv_at hl 4 rfl) ?_
  refine zw_arg (t := t) (j := 1) X hS ht (by decide) hL (lv_at hl 2 rfl) (lv_at hl 1 rfl) dw_626 dw_627 dw_629 (by decide) dw_630 dw_631 ?_
  refine zw_arg (t := t) (j := 2) X hS ht (by decide) hL (lv_at hl 2 rfl) (lv_at hl 1 rfl) dw_632 dw_633 dw_635 (by decide) dw_636 dw_637 ?_
  refine zw_bool X dw_638 dw_641 dw_642 dw_645 ?_
  refine zw_virt X (n := 2) (S := zzSR) (ax := adR) (As := [.int (xs (7 * t + 1)), .int (zw_b (xs (7 * t + 2)))]) (rest := []) (v := some (.int v)) (mm_X12_hold Wd.2.1).1 h2 (ci := 10) rfl rfl (zz_inl (by decide +kernel)) ⟨rfl, by decide, by decide, by decide +kernel⟩ (by decide) rfl hl.1 (Nat.le_of_ble_eq_true rfl) hcs Wd.2.2.2.1 hS hPR hP (zw_disR Wd) dw_646 (fun H1 hS hPR hP => ?_)
  refine lv_istore (lv' := (6, .int v) :: (5, .int k) :: zw_lv b ad adR t) hx hb dw_649 hl (by decide) rfl (fun ls hl => ?_)
  exact zw_finB X Wd h3 h5 hcs ⟨hS, hP, hPR⟩ hl dw_651 dw_652 dw_655 dw_657 dw_662 dw_664 dw_667 dw_668 dw_669 dw_670 dw_672 dw_675 dw_676 dw_679 dw_680 dw_681 dw_686 (by decide) (fun H1 w hl => kk M2 R2 H1 ls h4 w hl)
theorem zw_c5 (X : zw_Fx p s m meth c b L xs D cA ad) (Wd : zw_Wd l s D cA ad adR) {t : Nat} (ht : 7 * t + 7 ≤ L) (hL : L ≤ 3584) : zw_Case p l e s m below meth c b L D cA ad adR Q 689 t := by
  intro M R H ls cells slots hcs HR w hl kk
  have hx := X.1
  have hb := X.2.1
  obtain ⟨k, v, M2, R2, h1, h2, h3, h4, h5⟩ := zw_agree (b := false) (c_finish HR (xs (7 * t + 1)) (zw_b (xs (7 * t + 2))))
  refine lv_aload_n hx hb dw_689 rfl (lv_at hl 2 rfl) ?_
  refine zw_arg (t := t) (j := 1) X w.1 ht (by decide) hL (lv_at hl 1 rfl) (lv_at hl 0 rfl) dw_690 dw_691 dw_693 (by decide) dw_694 dw_695 ?_
  refine zw_arg (t := t) (j := 2) X w.1 ht (by decide) hL (lv_at hl 1 rfl) (lv_at hl 0 rfl) dw_696 dw_697 dw_699 (by decide) dw_700 dw_701 ?_
  refine zw_bool X dw_702 dw_705 dw_706 dw_709 ?_
  refine lv_aload_n hx hb dw_710 rfl (lv_at hl 4 rfl) ?_
  refine zw_wrap X (n := 4) (As := [.ref 0, .int (xs (7 * t + 1)), .int (zw_b (xs (7 * t + 2))), .ref 73]) (rest := []) (lw_finish Wd.1 (zEx_XOk ad) h1) (zz_inl (by decide +kernel)) ⟨by decide, by decide, by decide +kernel⟩ (by decide) rfl hl.1 (Nat.le_of_ble_eq_true rfl) hcs Wd.2.2.1 w.1 w.2.1 w.2.2 (zw_disC Wd) dw_711 (fun H1 hS hP hPR => ?_)
  refine lv_istore (lv' := (5, .int k) :: zw_lv b ad adR t) hx hb dw_714 hl (by decide) rfl (fun ls hl => ?_)
  refine lv_aload_n hx hb dw_716 rfl (lv_at hl 4 rfl) ?_
  refine zw_arg (t := t) (j := 1) X hS ht (by decide) hL (lv_at hl 2 rfl) (lv_at hl 1 rfl) dw_717 dw_718 dw_720 (by decide) dw_721 dw_722 ?_
  refine zw_arg (t := t) (j := 2) X hS ht (by decide) hL (lv_at hl 2 rfl) (lv_at hl 1 rfl) dw_723 dw_724 dw_726 (by decide) dw_727 dw_728 ?_
  refine zw_bool X dw_729 dw_732 dw_733 dw_736 ?_
  refine zw_virt X (n := 2) (S := zzSR) (ax := adR) (As := [.int (xs (7 * t + 1)), .int (zw_b (xs (7 * t + 2)))]) (rest := []) (v := some (.int v)) (mm_X12_finish Wd.2.1).1 h2 (ci := 10) rfl rfl (zz_inl (by decide +kernel)) ⟨rfl, by decide, by decide, by decide +kernel⟩ (by decide) rfl hl.1 (Nat.le_of_ble_eq_true rfl) hcs Wd.2.2.2.1 hS hPR hP (zw_disR Wd) dw_737 (fun H1 hS hPR hP => ?_)
  refine lv_istore (lv' := (6, .int v) :: (5, .int k) :: zw_lv b ad adR t) hx hb dw_740 hl (by decide) rfl (fun ls hl => ?_)
  exact zw_finI X Wd h3 h5 hcs ⟨hS, hP, hPR⟩ hl dw_742 dw_743 dw_746 dw_748 dw_753 dw_755 dw_758 dw_759 dw_760 dw_761 dw_763 dw_764 dw_765 dw_770 (by decide) (fun H1 w hl => kk M2 R2 H1 ls h4 w hl)
theorem zw_c6 (X : zw_Fx p s m meth c b L xs D cA ad) (Wd : zw_Wd l s D cA ad adR) {t : Nat} (ht : 7 * t + 7 ≤ L) (hL : L ≤ 3584) : zw_Case p l e s m below meth c b L D cA ad adR Q 773 t := by
  intro M R H ls cells slots hcs HR w hl kk
  have hx := X.1
  have hb := X.2.1
  obtain ⟨k, v, M2, R2, h1, h2, h3, h4, h5⟩ := zw_agree (b := false) (c_rule HR (xs (7 * t + 1)) (xs (7 * t + 2)) (xs (7 * t + 3)) (xs (7 * t + 4)) (xs (7 * t + 5)) (xs (7 * t + 6)))
  refine lv_aload_n hx hb dw_773 rfl (lv_at hl 2 rfl) ?_
  refine zw_arg (t := t) (j := 1) X w.1 ht (by decide) hL (lv_at hl 1 rfl) (lv_at hl 0 rfl) dw_774 dw_775 dw_777 (by decide) dw_778 dw_779 ?_
  refine zw_arg (t := t) (j := 2) X w.1 ht (by decide) hL (lv_at hl 1 rfl) (lv_at hl 0 rfl) dw_780 dw_781 dw_783 (by decide) dw_784 dw_785 ?_
  refine zw_arg (t := t) (j := 3) X w.1 ht (by decide) hL (lv_at hl 1 rfl) (lv_at hl 0 rfl) dw_786 dw_787 dw_789 (by decide) dw_790 dw_791 ?_
  refine zw_arg (t := t) (j := 4) X w.1 ht (by decide) hL (lv_at hl 1 rfl) (lv_at hl 0 rfl) dw_792 dw_793 dw_795 (by decide) dw_796 dw_797 ?_
  refine zw_arg (t := t) (j := 5) X w.1 ht (by decide) hL (lv_at hl 1 rfl) (lv_at hl 0 rfl) dw_798 dw_799 dw_801 (by decide) dw_802 dw_803 ?_
  refine zw_arg6 (t := t) (j := 6) X w.1 ht (by decide) hL (lv_at hl 1 rfl) (lv_at hl 0 rfl) dw_804 dw_805 dw_807 (by decide) dw_809 dw_810 ?_
  refine lv_aload_n hx hb dw_811 rfl (lv_at hl 4 rfl) ?_
  refine zw_wrap X (n := 8) (As := [.ref 0, .int (xs (7 * t + 1)), .int (xs (7 * t + 2)), .int (xs (7 * t + 3)), .int (xs (7 * t + 4)), .int (xs (7 * t + 5)), .int (xs (7 * t + 6)), .ref 73]) (rest := []) (lw_rule Wd.1 (zEx_XOk ad) h1) (zz_inl (by decide +kernel)) ⟨by decide, by decide, by decide +kernel⟩ (by decide) rfl hl.1 (Nat.le_of_ble_eq_true rfl) hcs Wd.2.2.1 w.1 w.2.1 w.2.2 (zw_disC Wd) dw_812 (fun H1 hS hP hPR => ?_)
  refine lv_istore (lv' := (5, .int k) :: zw_lv b ad adR t) hx hb dw_815 hl (by decide) rfl (fun ls hl => ?_)
  refine lv_aload_n hx hb dw_817 rfl (lv_at hl 4 rfl) ?_
  refine zw_arg (t := t) (j := 1) X hS ht (by decide) hL (lv_at hl 2 rfl) (lv_at hl 1 rfl) dw_818 dw_819 dw_821 (by decide) dw_822 dw_823 ?_
  refine zw_arg (t := t) (j := 2) X hS ht (by decide) hL (lv_at hl 2 rfl) (lv_at hl 1 rfl) dw_824 dw_825 dw_827 (by decide) dw_828 dw_829 ?_
  refine zw_arg (t := t) (j := 3) X hS ht (by decide) hL (lv_at hl 2 rfl) (lv_at hl 1 rfl) dw_830 dw_831 dw_833 (by decide) dw_834 dw_835 ?_
  refine zw_arg (t := t) (j := 4) X hS ht (by decide) hL (lv_at hl 2 rfl) (lv_at hl 1 rfl) dw_836 dw_837 dw_839 (by decide) dw_840 dw_841 ?_
  refine zw_arg (t := t) (j := 5) X hS ht (by decide) hL (lv_at hl 2 rfl) (lv_at hl 1 rfl) dw_842 dw_843 dw_845 (by decide) dw_846 dw_847 ?_
  refine zw_arg6 (t := t) (j := 6) X hS ht (by decide) hL (lv_at hl 2 rfl) (lv_at hl 1 rfl) dw_848 dw_849 dw_851 (by decide) dw_853 dw_854 ?_
  refine zw_virt X (n := 6) (S := zzSR) (ax := adR) (As := [.int (xs (7 * t + 1)), .int (xs (7 * t + 2)), .int (xs (7 * t + 3)), .int (xs (7 * t + 4)), .int (xs (7 * t + 5)), .int (xs (7 * t + 6))]) (rest := []) (v := some (.int v)) (mm_X12_rule Wd.2.1).1 h2 (ci := 10) rfl rfl (zz_inl (by decide +kernel)) ⟨rfl, by decide, by decide, by decide +kernel⟩ (by decide) rfl hl.1 (Nat.le_of_ble_eq_true rfl) hcs Wd.2.2.2.1 hS hPR hP (zw_disR Wd) dw_855 (fun H1 hS hPR hP => ?_)
  refine lv_istore (lv' := (6, .int v) :: (5, .int k) :: zw_lv b ad adR t) hx hb dw_858 hl (by decide) rfl (fun ls hl => ?_)
  exact zw_finI X Wd h3 h5 hcs ⟨hS, hP, hPR⟩ hl dw_860 dw_861 dw_864 dw_866 dw_871 dw_873 dw_876 dw_877 dw_878 dw_879 dw_881 dw_882 dw_883 dw_888 (by decide) (fun H1 w hl => kk M2 R2 H1 ls h4 w hl)
theorem zw_c7 (X : zw_Fx p s m meth c b L xs D cA ad) (Wd : zw_Wd l s D cA ad adR) {t : Nat} (ht : 7 * t + 7 ≤ L) (hL : L ≤ 3584) : zw_Case p l e s m below meth c b L D cA ad adR Q 891 t := by
  intro M R H ls cells slots hcs HR w hl kk
  have hx := X.1
  have hb := X.2.1
  obtain ⟨k, v, M2, R2, h1, h2, h3, h4, h5⟩ := zw_agree (b := false) (c_check HR (xs (7 * t + 1)) (xs (7 * t + 2)) (xs (7 * t + 3)))
  refine lv_aload_n hx hb dw_891 rfl (lv_at hl 2 rfl) ?_
  refine zw_arg (t := t) (j := 1) X w.1 ht (by decide) hL (lv_at hl 1 rfl) (lv_at hl 0 rfl) dw_892 dw_893 dw_895 (by decide) dw_896 dw_897 ?_
  refine zw_arg (t := t) (j := 2) X w.1 ht (by decide) hL (lv_at hl 1 rfl) (lv_at hl 0 rfl) dw_898 dw_899 dw_901 (by decide) dw_902 dw_903 ?_
  refine zw_arg (t := t) (j := 3) X w.1 ht (by decide) hL (lv_at hl 1 rfl) (lv_at hl 0 rfl) dw_904 dw_905 dw_907 (by decide) dw_908 dw_909 ?_
  refine lv_aload_n hx hb dw_910 rfl (lv_at hl 4 rfl) ?_
  refine zw_wrap X (n := 5) (As := [.ref 0, .int (xs (7 * t + 1)), .int (xs (7 * t + 2)), .int (xs (7 * t + 3)), .ref 73]) (rest := []) (lw_check Wd.1 (zEx_XOk ad) h1) (zz_inl (by decide +kernel)) ⟨by decide, by decide, by decide +kernel⟩ (by decide) rfl hl.1 (Nat.le_of_ble_eq_true rfl) hcs Wd.2.2.1 w.1 w.2.1 w.2.2 (zw_disC Wd) dw_911 (fun H1 hS hP hPR => ?_)
  refine lv_istore (lv' := (5, .int k) :: zw_lv b ad adR t) hx hb dw_914 hl (by decide) rfl (fun ls hl => ?_)
  refine lv_aload_n hx hb dw_916 rfl (lv_at hl 4 rfl) ?_
  refine zw_arg (t := t) (j := 1) X hS ht (by decide) hL (lv_at hl 2 rfl) (lv_at hl 1 rfl) dw_917 dw_918 dw_920 (by decide) dw_921 dw_922 ?_
  refine zw_arg (t := t) (j := 2) X hS ht (by decide) hL (lv_at hl 2 rfl) (lv_at hl 1 rfl) dw_923 dw_924 dw_926 (by decide) dw_927 dw_928 ?_
  refine zw_arg (t := t) (j := 3) X hS ht (by decide) hL (lv_at hl 2 rfl) (lv_at hl 1 rfl) dw_929 dw_930 dw_932 (by decide) dw_933 dw_934 ?_
  refine zw_virt X (n := 3) (S := zzSR) (ax := adR) (As := [.int (xs (7 * t + 1)), .int (xs (7 * t + 2)), .int (xs (7 * t + 3))]) (rest := []) (v := some (.int v)) (mm_X12_check Wd.2.1).1 h2 (ci := 10) rfl rfl (zz_inl (by decide +kernel)) ⟨rfl, by decide, by decide, by decide +kernel⟩ (by decide) rfl hl.1 (Nat.le_of_ble_eq_true rfl) hcs Wd.2.2.2.1 hS hPR hP (zw_disR Wd) dw_935 (fun H1 hS hPR hP => ?_)
  refine lv_istore (lv' := (6, .int v) :: (5, .int k) :: zw_lv b ad adR t) hx hb dw_938 hl (by decide) rfl (fun ls hl => ?_)
  exact zw_finI X Wd h3 h5 hcs ⟨hS, hP, hPR⟩ hl dw_940 dw_941 dw_944 dw_946 dw_951 dw_953 dw_956 dw_957 dw_958 dw_959 dw_961 dw_962 dw_963 dw_968 (by decide) (fun H1 w hl => kk M2 R2 H1 ls h4 w hl)
theorem zw_c8 (X : zw_Fx p s m meth c b L xs D cA ad) (Wd : zw_Wd l s D cA ad adR) {t : Nat} (ht : 7 * t + 7 ≤ L) (hL : L ≤ 3584) : zw_Case p l e s m below meth c b L D cA ad adR Q 971 t := by
  intro M R H ls cells slots hcs HR w hl kk
  have hx := X.1
  have hb := X.2.1
  obtain ⟨M2, R2, h4, ⟨v, h1, h2, -⟩ | ⟨e, v, -, -, -, h⟩⟩ := c_clear HR
  · refine lv_aload_n hx hb dw_971 rfl (lv_at hl 2 rfl) ?_
    refine zw_virt X (n := 0) (S := zzSC) (ax := ad) (As := []) (rest := []) (v := some (.int v)) (mm_X11_clear Wd.1).1 h1 (ci := 9) rfl rfl (zz_inl (by decide +kernel)) ⟨rfl, by decide, by decide, by decide +kernel⟩ (by decide) rfl hl.1 (Nat.le_of_ble_eq_true rfl) ⟨Nat.le_trans (Nat.le_succ _) hcs.1, Nat.le_trans (Nat.le_add_right _ _) hcs.2⟩ Wd.2.2.1 w.1 w.2.1 w.2.2 (zw_disC Wd) dw_972 (fun H1 hS hP hPR => ?_)
    refine lv_aload_n hx hb dw_975 rfl (lv_at hl 3 rfl) ?_
    refine zw_virt X (n := 0) (S := zzSR) (ax := adR) (As := []) (rest := [.int v]) (v := some (.int v)) (mm_X12_clear Wd.2.1).1 h2 (ci := 10) rfl rfl (zz_inl (by decide +kernel)) ⟨rfl, by decide, by decide, by decide +kernel⟩ (by decide) rfl hl.1 (Nat.le_of_ble_eq_true rfl) ⟨Nat.le_trans (Nat.le_succ _) hcs.1, Nat.le_trans (Nat.le_add_right _ _) hcs.2⟩ Wd.2.2.2.1 hS hPR hP (zw_disR Wd) dw_976 (fun H1 hS hPR hP => ?_)
    exact lv_icmp_eq (tgt := 2801) hx hb dw_979 (by decide) (fun _ => fun T hT Y => kk M2 R2 H1 ls h4 ⟨hS, hP, hPR⟩ hl T hT (stand_widen Y (Nat.le_succ _) (Nat.le_add_right _ _))) (fun h => absurd rfl h)
  · exact absurd rfl h
end
