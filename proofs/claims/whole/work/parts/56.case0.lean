/-! by program: wip/whole/genl.py: cases of the law's switch -/
theorem dL_law_244 : decode code 244 = .ok (.aload_n 1, 1) := by decide +kernel
theorem dL_law_245 : decode code 245 = .ok (.aload_n 0, 1) := by decide +kernel
theorem dL_law_246 : decode code 246 = .ok (.iload 4, 2) := by decide +kernel
theorem dL_law_248 : decode code 248 = .ok (.iconst 1, 1) := by decide +kernel
theorem dL_law_249 : decode code 249 = .ok (.iadd, 1) := by decide +kernel
theorem dL_law_250 : decode code 250 = .ok (.iaload, 1) := by decide +kernel
theorem dL_law_251 : decode code 251 = .ok (.aload_n 3, 1) := by decide +kernel
theorem dL_law_252 : decode code 252 = .ok (.invokestatic 125, 3) := by decide +kernel
theorem dL_law_255 : decode code 255 = .ok (.istore 5, 2) := by decide +kernel
theorem dL_law_257 : decode code 257 = .ok (.aload_n 2, 1) := by decide +kernel
theorem dL_law_258 : decode code 258 = .ok (.aload_n 0, 1) := by decide +kernel
theorem dL_law_259 : decode code 259 = .ok (.iload 4, 2) := by decide +kernel
theorem dL_law_261 : decode code 261 = .ok (.iconst 1, 1) := by decide +kernel
theorem dL_law_262 : decode code 262 = .ok (.iadd, 1) := by decide +kernel
theorem dL_law_263 : decode code 263 = .ok (.iaload, 1) := by decide +kernel
theorem dL_law_264 : decode code 264 = .ok (.invokevirtual 130, 3) := by decide +kernel
theorem dL_law_267 : decode code 267 = .ok (.istore 6, 2) := by decide +kernel
theorem dL_law_269 : decode code 269 = .ok (.aload_n 2, 1) := by decide +kernel
theorem dL_law_270 : decode code 270 = .ok (.invokevirtual 131, 3) := by decide +kernel
theorem dL_law_273 : decode code 273 = .ok (.iload 5, 2) := by decide +kernel
theorem dL_law_275 : decode code 275 = .ok (.if_icmp .eq 5, 3) := by decide +kernel
theorem dL_law_280 : decode code 280 = .ok (.iload 5, 2) := by decide +kernel
theorem dL_law_282 : decode code 282 = .ok (.ifCond .ne 15, 3) := by decide +kernel
theorem dL_law_285 : decode code 285 = .ok (.aload_n 3, 1) := by decide +kernel
theorem dL_law_286 : decode code 286 = .ok (.iconst 0, 1) := by decide +kernel
theorem dL_law_287 : decode code 287 = .ok (.laload, 1) := by decide +kernel
theorem dL_law_288 : decode code 288 = .ok (.iload 6, 2) := by decide +kernel
theorem dL_law_290 : decode code 290 = .ok (.i2l, 1) := by decide +kernel
theorem dL_law_291 : decode code 291 = .ok (.lcmp, 1) := by decide +kernel
theorem dL_law_292 : decode code 292 = .ok (.ifCond .eq 5, 3) := by decide +kernel
theorem dL_law_297 : decode code 297 = .ok (.goto 2281, 3) := by decide +kernel
theorem dL_law_300 : decode code 300 = .ok (.aload_n 1, 1) := by decide +kernel
theorem dL_law_301 : decode code 301 = .ok (.aload_n 0, 1) := by decide +kernel
theorem dL_law_302 : decode code 302 = .ok (.iload 4, 2) := by decide +kernel
theorem dL_law_304 : decode code 304 = .ok (.iconst 1, 1) := by decide +kernel
theorem dL_law_305 : decode code 305 = .ok (.iadd, 1) := by decide +kernel
theorem dL_law_306 : decode code 306 = .ok (.iaload, 1) := by decide +kernel
theorem dL_law_307 : decode code 307 = .ok (.aload_n 0, 1) := by decide +kernel
theorem dL_law_308 : decode code 308 = .ok (.iload 4, 2) := by decide +kernel
theorem dL_law_310 : decode code 310 = .ok (.iconst 2, 1) := by decide +kernel
theorem dL_law_311 : decode code 311 = .ok (.iadd, 1) := by decide +kernel
theorem dL_law_312 : decode code 312 = .ok (.iaload, 1) := by decide +kernel
theorem dL_law_313 : decode code 313 = .ok (.aload_n 3, 1) := by decide +kernel
theorem dL_law_314 : decode code 314 = .ok (.invokestatic 134, 3) := by decide +kernel
theorem dL_law_317 : decode code 317 = .ok (.istore 5, 2) := by decide +kernel
theorem dL_law_319 : decode code 319 = .ok (.aload_n 2, 1) := by decide +kernel
theorem dL_law_320 : decode code 320 = .ok (.aload_n 0, 1) := by decide +kernel
theorem dL_law_321 : decode code 321 = .ok (.iload 4, 2) := by decide +kernel
theorem dL_law_323 : decode code 323 = .ok (.iconst 1, 1) := by decide +kernel
theorem dL_law_324 : decode code 324 = .ok (.iadd, 1) := by decide +kernel
theorem dL_law_325 : decode code 325 = .ok (.iaload, 1) := by decide +kernel
theorem dL_law_326 : decode code 326 = .ok (.aload_n 0, 1) := by decide +kernel
theorem dL_law_327 : decode code 327 = .ok (.iload 4, 2) := by decide +kernel
theorem dL_law_329 : decode code 329 = .ok (.iconst 2, 1) := by decide +kernel
theorem dL_law_330 : decode code 330 = .ok (.iadd, 1) := by decide +kernel
theorem dL_law_331 : decode code 331 = .ok (.iaload, 1) := by decide +kernel
theorem dL_law_332 : decode code 332 = .ok (.invokevirtual 137, 3) := by decide +kernel
theorem dL_law_335 : decode code 335 = .ok (.istore 6, 2) := by decide +kernel
theorem dL_law_337 : decode code 337 = .ok (.aload_n 2, 1) := by decide +kernel
theorem dL_law_338 : decode code 338 = .ok (.invokevirtual 131, 3) := by decide +kernel
theorem dL_law_341 : decode code 341 = .ok (.iload 5, 2) := by decide +kernel
theorem dL_law_343 : decode code 343 = .ok (.if_icmp .eq 5, 3) := by decide +kernel
theorem dL_law_348 : decode code 348 = .ok (.iload 5, 2) := by decide +kernel
theorem dL_law_350 : decode code 350 = .ok (.ifCond .ne 15, 3) := by decide +kernel
theorem dL_law_353 : decode code 353 = .ok (.aload_n 3, 1) := by decide +kernel
theorem dL_law_354 : decode code 354 = .ok (.iconst 0, 1) := by decide +kernel
theorem dL_law_355 : decode code 355 = .ok (.laload, 1) := by decide +kernel
theorem dL_law_356 : decode code 356 = .ok (.iload 6, 2) := by decide +kernel
theorem dL_law_358 : decode code 358 = .ok (.i2l, 1) := by decide +kernel
theorem dL_law_359 : decode code 359 = .ok (.lcmp, 1) := by decide +kernel
theorem dL_law_360 : decode code 360 = .ok (.ifCond .eq 5, 3) := by decide +kernel
theorem dL_law_365 : decode code 365 = .ok (.goto 2213, 3) := by decide +kernel
theorem dL_law_368 : decode code 368 = .ok (.aload_n 1, 1) := by decide +kernel
theorem dL_law_369 : decode code 369 = .ok (.aload_n 0, 1) := by decide +kernel
theorem dL_law_370 : decode code 370 = .ok (.iload 4, 2) := by decide +kernel
theorem dL_law_372 : decode code 372 = .ok (.iconst 1, 1) := by decide +kernel
theorem dL_law_373 : decode code 373 = .ok (.iadd, 1) := by decide +kernel
theorem dL_law_374 : decode code 374 = .ok (.iaload, 1) := by decide +kernel
theorem dL_law_375 : decode code 375 = .ok (.aload_n 0, 1) := by decide +kernel
theorem dL_law_376 : decode code 376 = .ok (.iload 4, 2) := by decide +kernel
theorem dL_law_378 : decode code 378 = .ok (.iconst 2, 1) := by decide +kernel
theorem dL_law_379 : decode code 379 = .ok (.iadd, 1) := by decide +kernel
theorem dL_law_380 : decode code 380 = .ok (.iaload, 1) := by decide +kernel
theorem dL_law_381 : decode code 381 = .ok (.aload_n 0, 1) := by decide +kernel
theorem dL_law_382 : decode code 382 = .ok (.iload 4, 2) := by decide +kernel
theorem dL_law_384 : decode code 384 = .ok (.iconst 3, 1) := by decide +kernel
theorem dL_law_385 : decode code 385 = .ok (.iadd, 1) := by decide +kernel
theorem dL_law_386 : decode code 386 = .ok (.iaload, 1) := by decide +kernel
theorem dL_law_387 : decode code 387 = .ok (.aload_n 3, 1) := by decide +kernel
theorem dL_law_388 : decode code 388 = .ok (.invokestatic 138, 3) := by decide +kernel
theorem dL_law_391 : decode code 391 = .ok (.istore 5, 2) := by decide +kernel
theorem dL_law_393 : decode code 393 = .ok (.aload_n 2, 1) := by decide +kernel
theorem dL_law_394 : decode code 394 = .ok (.aload_n 0, 1) := by decide +kernel
theorem dL_law_395 : decode code 395 = .ok (.iload 4, 2) := by decide +kernel
theorem dL_law_397 : decode code 397 = .ok (.iconst 1, 1) := by decide +kernel
theorem dL_law_398 : decode code 398 = .ok (.iadd, 1) := by decide +kernel
theorem dL_law_399 : decode code 399 = .ok (.iaload, 1) := by decide +kernel
theorem dL_law_400 : decode code 400 = .ok (.aload_n 0, 1) := by decide +kernel
theorem dL_law_401 : decode code 401 = .ok (.iload 4, 2) := by decide +kernel
theorem dL_law_403 : decode code 403 = .ok (.iconst 2, 1) := by decide +kernel
theorem dL_law_404 : decode code 404 = .ok (.iadd, 1) := by decide +kernel
theorem dL_law_405 : decode code 405 = .ok (.iaload, 1) := by decide +kernel
theorem dL_law_406 : decode code 406 = .ok (.aload_n 0, 1) := by decide +kernel
theorem dL_law_407 : decode code 407 = .ok (.iload 4, 2) := by decide +kernel
theorem dL_law_409 : decode code 409 = .ok (.iconst 3, 1) := by decide +kernel
theorem dL_law_410 : decode code 410 = .ok (.iadd, 1) := by decide +kernel
theorem dL_law_411 : decode code 411 = .ok (.iaload, 1) := by decide +kernel
theorem dL_law_412 : decode code 412 = .ok (.invokevirtual 141, 3) := by decide +kernel
theorem dL_law_415 : decode code 415 = .ok (.istore 6, 2) := by decide +kernel
theorem dL_law_417 : decode code 417 = .ok (.aload_n 2, 1) := by decide +kernel
theorem dL_law_418 : decode code 418 = .ok (.invokevirtual 131, 3) := by decide +kernel
theorem dL_law_421 : decode code 421 = .ok (.iload 5, 2) := by decide +kernel
theorem dL_law_423 : decode code 423 = .ok (.if_icmp .eq 5, 3) := by decide +kernel
theorem dL_law_428 : decode code 428 = .ok (.iload 5, 2) := by decide +kernel
theorem dL_law_430 : decode code 430 = .ok (.ifCond .ne 15, 3) := by decide +kernel
theorem dL_law_433 : decode code 433 = .ok (.aload_n 3, 1) := by decide +kernel
theorem dL_law_434 : decode code 434 = .ok (.iconst 0, 1) := by decide +kernel
theorem dL_law_435 : decode code 435 = .ok (.laload, 1) := by decide +kernel
theorem dL_law_436 : decode code 436 = .ok (.iload 6, 2) := by decide +kernel
theorem dL_law_438 : decode code 438 = .ok (.i2l, 1) := by decide +kernel
theorem dL_law_439 : decode code 439 = .ok (.lcmp, 1) := by decide +kernel
theorem dL_law_440 : decode code 440 = .ok (.ifCond .eq 5, 3) := by decide +kernel
theorem dL_law_445 : decode code 445 = .ok (.goto 2133, 3) := by decide +kernel
theorem dL_law_448 : decode code 448 = .ok (.aload_n 1, 1) := by decide +kernel
theorem dL_law_449 : decode code 449 = .ok (.invokevirtual 142, 3) := by decide +kernel
theorem dL_law_452 : decode code 452 = .ok (.aload_n 2, 1) := by decide +kernel
theorem dL_law_453 : decode code 453 = .ok (.invokevirtual 145, 3) := by decide +kernel
theorem dL_law_456 : decode code 456 = .ok (.if_icmp .eq 2122, 3) := by decide +kernel
theorem dL_law_461 : decode code 461 = .ok (.aload_n 1, 1) := by decide +kernel
theorem dL_law_462 : decode code 462 = .ok (.aload_n 0, 1) := by decide +kernel
theorem dL_law_463 : decode code 463 = .ok (.iload 4, 2) := by decide +kernel
theorem dL_law_465 : decode code 465 = .ok (.iconst 1, 1) := by decide +kernel
theorem dL_law_466 : decode code 466 = .ok (.iadd, 1) := by decide +kernel
theorem dL_law_467 : decode code 467 = .ok (.iaload, 1) := by decide +kernel
theorem dL_law_468 : decode code 468 = .ok (.aload_n 3, 1) := by decide +kernel
theorem dL_law_469 : decode code 469 = .ok (.invokestatic 146, 3) := by decide +kernel
theorem dL_law_472 : decode code 472 = .ok (.istore 5, 2) := by decide +kernel
theorem dL_law_474 : decode code 474 = .ok (.aload_n 2, 1) := by decide +kernel
theorem dL_law_475 : decode code 475 = .ok (.aload_n 0, 1) := by decide +kernel
theorem dL_law_476 : decode code 476 = .ok (.iload 4, 2) := by decide +kernel
theorem dL_law_478 : decode code 478 = .ok (.iconst 1, 1) := by decide +kernel
theorem dL_law_479 : decode code 479 = .ok (.iadd, 1) := by decide +kernel
theorem dL_law_480 : decode code 480 = .ok (.iaload, 1) := by decide +kernel
theorem dL_law_481 : decode code 481 = .ok (.invokevirtual 148, 3) := by decide +kernel
theorem dL_law_484 : decode code 484 = .ok (.istore 6, 2) := by decide +kernel
theorem dL_law_486 : decode code 486 = .ok (.aload_n 2, 1) := by decide +kernel
theorem dL_law_487 : decode code 487 = .ok (.invokevirtual 131, 3) := by decide +kernel
theorem dL_law_490 : decode code 490 = .ok (.iload 5, 2) := by decide +kernel
theorem dL_law_492 : decode code 492 = .ok (.if_icmp .eq 5, 3) := by decide +kernel
theorem dL_law_497 : decode code 497 = .ok (.iload 5, 2) := by decide +kernel
theorem dL_law_499 : decode code 499 = .ok (.ifCond .ne 15, 3) := by decide +kernel
theorem dL_law_502 : decode code 502 = .ok (.aload_n 3, 1) := by decide +kernel
theorem dL_law_503 : decode code 503 = .ok (.iconst 0, 1) := by decide +kernel
theorem dL_law_504 : decode code 504 = .ok (.laload, 1) := by decide +kernel
theorem dL_law_505 : decode code 505 = .ok (.iload 6, 2) := by decide +kernel
theorem dL_law_507 : decode code 507 = .ok (.i2l, 1) := by decide +kernel
theorem dL_law_508 : decode code 508 = .ok (.lcmp, 1) := by decide +kernel
theorem dL_law_509 : decode code 509 = .ok (.ifCond .eq 5, 3) := by decide +kernel
theorem dL_law_514 : decode code 514 = .ok (.goto 2064, 3) := by decide +kernel
theorem dL_law_517 : decode code 517 = .ok (.aload_n 1, 1) := by decide +kernel
theorem dL_law_518 : decode code 518 = .ok (.aload_n 0, 1) := by decide +kernel
theorem dL_law_519 : decode code 519 = .ok (.iload 4, 2) := by decide +kernel
theorem dL_law_521 : decode code 521 = .ok (.iconst 1, 1) := by decide +kernel
theorem dL_law_522 : decode code 522 = .ok (.iadd, 1) := by decide +kernel
theorem dL_law_523 : decode code 523 = .ok (.iaload, 1) := by decide +kernel
theorem dL_law_524 : decode code 524 = .ok (.aload_n 0, 1) := by decide +kernel
theorem dL_law_525 : decode code 525 = .ok (.iload 4, 2) := by decide +kernel
theorem dL_law_527 : decode code 527 = .ok (.iconst 2, 1) := by decide +kernel
theorem dL_law_528 : decode code 528 = .ok (.iadd, 1) := by decide +kernel
theorem dL_law_529 : decode code 529 = .ok (.iaload, 1) := by decide +kernel
theorem dL_law_530 : decode code 530 = .ok (.aload_n 3, 1) := by decide +kernel
theorem dL_law_531 : decode code 531 = .ok (.invokestatic 149, 3) := by decide +kernel
theorem dL_law_534 : decode code 534 = .ok (.istore 5, 2) := by decide +kernel
theorem dL_law_536 : decode code 536 = .ok (.aload_n 2, 1) := by decide +kernel
theorem dL_law_537 : decode code 537 = .ok (.aload_n 0, 1) := by decide +kernel
theorem dL_law_538 : decode code 538 = .ok (.iload 4, 2) := by decide +kernel
theorem dL_law_540 : decode code 540 = .ok (.iconst 1, 1) := by decide +kernel
theorem dL_law_541 : decode code 541 = .ok (.iadd, 1) := by decide +kernel
theorem dL_law_542 : decode code 542 = .ok (.iaload, 1) := by decide +kernel
theorem dL_law_543 : decode code 543 = .ok (.aload_n 0, 1) := by decide +kernel
theorem dL_law_544 : decode code 544 = .ok (.iload 4, 2) := by decide +kernel
theorem dL_law_546 : decode code 546 = .ok (.iconst 2, 1) := by decide +kernel
theorem dL_law_547 : decode code 547 = .ok (.iadd, 1) := by decide +kernel
theorem dL_law_548 : decode code 548 = .ok (.iaload, 1) := by decide +kernel
theorem dL_law_549 : decode code 549 = .ok (.invokevirtual 151, 3) := by decide +kernel
theorem dL_law_552 : decode code 552 = .ok (.istore 6, 2) := by decide +kernel
theorem dL_law_554 : decode code 554 = .ok (.aload_n 2, 1) := by decide +kernel
theorem dL_law_555 : decode code 555 = .ok (.invokevirtual 131, 3) := by decide +kernel
theorem dL_law_558 : decode code 558 = .ok (.iload 5, 2) := by decide +kernel
theorem dL_law_560 : decode code 560 = .ok (.if_icmp .eq 5, 3) := by decide +kernel
theorem dL_law_565 : decode code 565 = .ok (.iload 5, 2) := by decide +kernel
theorem dL_law_567 : decode code 567 = .ok (.ifCond .ne 15, 3) := by decide +kernel
theorem dL_law_570 : decode code 570 = .ok (.aload_n 3, 1) := by decide +kernel
theorem dL_law_571 : decode code 571 = .ok (.iconst 0, 1) := by decide +kernel
theorem dL_law_572 : decode code 572 = .ok (.laload, 1) := by decide +kernel
theorem dL_law_573 : decode code 573 = .ok (.iload 6, 2) := by decide +kernel
theorem dL_law_575 : decode code 575 = .ok (.i2l, 1) := by decide +kernel
theorem dL_law_576 : decode code 576 = .ok (.lcmp, 1) := by decide +kernel
theorem dL_law_577 : decode code 577 = .ok (.ifCond .eq 5, 3) := by decide +kernel
theorem dL_law_582 : decode code 582 = .ok (.goto 1996, 3) := by decide +kernel
set_option maxRecDepth 100000 in
set_option maxHeartbeats 8000000 in
theorem case_0 {p : Program} {l : Launch} {e : Env} {s : State} {m : MethodId} {below : List Frame} {meth : Method} {c : Code} {Q : State → Prop} {D : va_G} {cys : Nat → ClassId} {ad : Nat → Int → Nat} {b Ls : Nat} {xs : Nat → Int32} (hi : injA ad) (hst : l.stackTraces = false) (G : GG p l s m #[Value.ref b] meth c D cys ad (fun q => s.heap.size ≤ q) code RL 9) (hN : NCS s) (hk4 : HK4 cys s) (hX : va_X b Ls xs s s.heap) (hbl : b < s.heap.size) (hL : Ls ≤ 2560) {L : List Nat} {g : Nat → va_E} {X : Int64} {Z : ZT} {ao : Nat} (hI : INV cys ad ao L g Z) {i : Int} (hi0 : 0 ≤ i) (hi5 : i + 5 ≤ Ls) {cells slots : Nat} (hc : cells + 200 ≤ 601024) (hs : slots + 3000 ≤ 7293034)
    (K : ∀ (L1 : List Nat) (g1 : Nat → va_E) (X1 : Int64) (Z1 : ZT), INV cys ad ao L1 g1 Z1 → JJ p l e room_1 s m #[Value.ref b] below meth c D cys ad (fun q => s.heap.size ≤ q) Q 9 (cells + 200) (slots + 3000) L1 g1 X1 Z1 2578 (LV5 b ad ao i) []) :
    JJ p l e room_1 s m #[Value.ref b] below meth c D cys ad (fun q => s.heap.size ≤ q) Q 9 cells slots L g X Z 244 (LV5 b ad ao i) [] := by
  obtain ⟨hG, hRL, ⟨hao, hns, h33⟩, v0, hgo⟩ := hI
  have hW := hG.1.1
  have hbA : ¬ (fun q => s.heap.size ≤ q) b := Nat.not_le.mpr hbl
  refine j_aload_n G dL_law_244 rfl ?_
  refine j_aload_n G dL_law_245 rfl ?_
  refine j_iload G dL_law_246 rfl ?_
  refine j_iconst G dL_law_248 ?_
  refine j_iadd G dL_law_249 ?_
  refine j_sld G hX hbl hbA dL_law_250 (by omega) (by omega) hL ?_
  refine j_aload_n G dL_law_251 rfl ?_
  refine j_callW (n := 3) G hN (TW_of 515 (by decide +kernel) (by decide +kernel)) (TW_of 71 (by decide +kernel) (by decide +kernel)) (TW_of 516 (by decide +kernel) (by decide +kernel)) ⟨by decide +kernel, by decide +kernel, by decide +kernel⟩ (TW_of 514 (by decide +kernel) (by decide +kernel)) (cw_addDimension hi hst (SP.rf Z) hW (sv_in _ _) hao hns hgo) dL_law_252 ⟨by decide, by decide⟩ ⟨by rw [r1c]; omega, by rw [r1s]; omega⟩ rfl rfl (Nat.le_of_ble_eq_true rfl) (fun k L1 g1 X1 Z1 h => ?_)
  obtain ⟨eL, eX, v9, eg, hA⟩ := h
  subst L1 X1 g1
  have hR1 : RMZ Z Z1 := hG.2.hi (hi_addDimension hA)
  have hRL1 := hRL.out h33 hgo v9
  have hgo1 : va_up g ao (OUT cys v9) ao = OUT cys v9 := va_up_self _ _ _
  refine j_istore G dL_law_255 (by decide) rfl ?_
  refine j_aload_n G dL_law_257 rfl ?_
  refine j_aload_n G dL_law_258 rfl ?_
  refine j_iload G dL_law_259 rfl ?_
  refine j_iconst G dL_law_261 ?_
  refine j_iadd G dL_law_262 ?_
  refine j_sld G hX hbl hbA dL_law_263 (by omega) (by omega) hL ?_
  refine j_cVIZ G cvX7_addDimension mlL_130 (c_X7_addDimension hi hR1 hW (sv_in _ _)) dL_law_264 ⟨by decide, by decide⟩ ⟨by rw [r1c]; omega, by rw [r1s]; omega⟩ rfl rfl (Nat.le_of_ble_eq_true rfl) (by decide) rfl rfl rfl (fun x Z2 hB => ?_)
  have hag := ag_addDimension hG hA hB
  have hRL2 := hag.2.1 cys ad _ _ hRL1
  refine j_istore G dL_law_267 (by decide) rfl ?_
  refine j_aload_n G dL_law_269 rfl ?_
  refine j_cVI G cvX7_thrown mlL_131 (c_X7_thrown hi) dL_law_270 ⟨by decide, by decide⟩ ⟨by rw [r1c]; omega, by rw [r1s]; omega⟩ rfl rfl (Nat.le_of_ble_eq_true rfl) (by decide) rfl rfl rfl (fun t ht => ?_)
  refine j_iload G dL_law_273 rfl ?_
  refine j_icmpS G 280 dL_law_275 (by decide) (ht.trans hag.2.2.1) ?_
  refine j_iload G dL_law_280 rfl ?_
  have hk02 := hag.2.2.2.2
  refine j_if_ne G 297 dL_law_282 (by decide) (by omega) (fun c0 => ?_) (fun c0 => ?_)
  · refine j_goto G 2578 dL_law_297 (by decide) ?_
    refine j_keep [0, 1, 2, 3, 4] ?_
    refine j_wid (cells' := cells + 200) (slots' := slots + 3000) (by omega) (by omega) ?_
    exact K _ _ _ _ ⟨hag.1, hRL2, ⟨hao, hns, h33⟩, v9, hgo1⟩
  · refine j_aload_n G dL_law_285 rfl ?_
    refine j_iconst G dL_law_286 ?_
    refine j_laldO G dL_law_287 hao hns hgo1 ?_
    refine j_iload G dL_law_288 rfl ?_
    refine j_i2l G dL_law_290 ?_
    refine j_lcmpS G dL_law_291 (hag.2.2.2.1 c0) ?_
    refine j_if_eq G 297 dL_law_292 (by decide) (by decide) (fun _ => ?_) (fun h => absurd rfl h)
    refine j_goto G 2578 dL_law_297 (by decide) ?_
    refine j_keep [0, 1, 2, 3, 4] ?_
    refine j_wid (cells' := cells + 200) (slots' := slots + 3000) (by omega) (by omega) ?_
    exact K _ _ _ _ ⟨hag.1, hRL2, ⟨hao, hns, h33⟩, v9, hgo1⟩
set_option maxRecDepth 100000 in
set_option maxHeartbeats 8000000 in
theorem case_1 {p : Program} {l : Launch} {e : Env} {s : State} {m : MethodId} {below : List Frame} {meth : Method} {c : Code} {Q : State → Prop} {D : va_G} {cys : Nat → ClassId} {ad : Nat → Int → Nat} {b Ls : Nat} {xs : Nat → Int32} (hi : injA ad) (hst : l.stackTraces = false) (G : GG p l s m #[Value.ref b] meth c D cys ad (fun q => s.heap.size ≤ q) code RL 9) (hN : NCS s) (hk4 : HK4 cys s) (hX : va_X b Ls xs s s.heap) (hbl : b < s.heap.size) (hL : Ls ≤ 2560) {L : List Nat} {g : Nat → va_E} {X : Int64} {Z : ZT} {ao : Nat} (hI : INV cys ad ao L g Z) {i : Int} (hi0 : 0 ≤ i) (hi5 : i + 5 ≤ Ls) {cells slots : Nat} (hc : cells + 200 ≤ 601024) (hs : slots + 3000 ≤ 7293034)
    (K : ∀ (L1 : List Nat) (g1 : Nat → va_E) (X1 : Int64) (Z1 : ZT), INV cys ad ao L1 g1 Z1 → JJ p l e room_1 s m #[Value.ref b] below meth c D cys ad (fun q => s.heap.size ≤ q) Q 9 (cells + 200) (slots + 3000) L1 g1 X1 Z1 2578 (LV5 b ad ao i) []) :
    JJ p l e room_1 s m #[Value.ref b] below meth c D cys ad (fun q => s.heap.size ≤ q) Q 9 cells slots L g X Z 300 (LV5 b ad ao i) [] := by
  obtain ⟨hG, hRL, ⟨hao, hns, h33⟩, v0, hgo⟩ := hI
  have hW := hG.1.1
  have hbA : ¬ (fun q => s.heap.size ≤ q) b := Nat.not_le.mpr hbl
  refine j_aload_n G dL_law_300 rfl ?_
  refine j_aload_n G dL_law_301 rfl ?_
  refine j_iload G dL_law_302 rfl ?_
  refine j_iconst G dL_law_304 ?_
  refine j_iadd G dL_law_305 ?_
  refine j_sld G hX hbl hbA dL_law_306 (by omega) (by omega) hL ?_
  refine j_aload_n G dL_law_307 rfl ?_
  refine j_iload G dL_law_308 rfl ?_
  refine j_iconst G dL_law_310 ?_
  refine j_iadd G dL_law_311 ?_
  refine j_sld G hX hbl hbA dL_law_312 (by omega) (by omega) hL ?_
  refine j_aload_n G dL_law_313 rfl ?_
  refine j_callW (n := 4) G hN (TW_of 620 (by decide +kernel) (by decide +kernel)) (TW_of 71 (by decide +kernel) (by decide +kernel)) (TW_of 621 (by decide +kernel) (by decide +kernel)) ⟨by decide +kernel, by decide +kernel, by decide +kernel⟩ (TW_of 619 (by decide +kernel) (by decide +kernel)) (cw_addMember hi hst (SP.rf Z) hW (sv_in _ _) (sv_in _ _) hao hns hgo) dL_law_314 ⟨by decide, by decide⟩ ⟨by rw [r1c]; omega, by rw [r1s]; omega⟩ rfl rfl (Nat.le_of_ble_eq_true rfl) (fun k L1 g1 X1 Z1 h => ?_)
  obtain ⟨eL, eX, v9, eg, hA⟩ := h
  subst L1 X1 g1
  have hR1 : RMZ Z Z1 := hG.2.hi (hi_addMember hA)
  have hRL1 := hRL.out h33 hgo v9
  have hgo1 : va_up g ao (OUT cys v9) ao = OUT cys v9 := va_up_self _ _ _
  refine j_istore G dL_law_317 (by decide) rfl ?_
  refine j_aload_n G dL_law_319 rfl ?_
  refine j_aload_n G dL_law_320 rfl ?_
  refine j_iload G dL_law_321 rfl ?_
  refine j_iconst G dL_law_323 ?_
  refine j_iadd G dL_law_324 ?_
  refine j_sld G hX hbl hbA dL_law_325 (by omega) (by omega) hL ?_
  refine j_aload_n G dL_law_326 rfl ?_
  refine j_iload G dL_law_327 rfl ?_
  refine j_iconst G dL_law_329 ?_
  refine j_iadd G dL_law_330 ?_
  refine j_sld G hX hbl hbA dL_law_331 (by omega) (by omega) hL ?_
  refine j_cVIZ G cvX7_addMember mlL_137 (c_X7_addMember hi hR1 hW (sv_in _ _) (sv_in _ _)) dL_law_332 ⟨by decide, by decide⟩ ⟨by rw [r1c]; omega, by rw [r1s]; omega⟩ rfl rfl (Nat.le_of_ble_eq_true rfl) (by decide) rfl rfl rfl (fun x Z2 hB => ?_)
  have hag := ag_addMember hG hA hB
  have hRL2 := hag.2.1 cys ad _ _ hRL1
  refine j_istore G dL_law_335 (by decide) rfl ?_
  refine j_aload_n G dL_law_337 rfl ?_
  refine j_cVI G cvX7_thrown mlL_131 (c_X7_thrown hi) dL_law_338 ⟨by decide, by decide⟩ ⟨by rw [r1c]; omega, by rw [r1s]; omega⟩ rfl rfl (Nat.le_of_ble_eq_true rfl) (by decide) rfl rfl rfl (fun t ht => ?_)
  refine j_iload G dL_law_341 rfl ?_
  refine j_icmpS G 348 dL_law_343 (by decide) (ht.trans hag.2.2.1) ?_
  refine j_iload G dL_law_348 rfl ?_
  have hk02 := hag.2.2.2.2
  refine j_if_ne G 365 dL_law_350 (by decide) (by omega) (fun c0 => ?_) (fun c0 => ?_)
  · refine j_goto G 2578 dL_law_365 (by decide) ?_
    refine j_keep [0, 1, 2, 3, 4] ?_
    refine j_wid (cells' := cells + 200) (slots' := slots + 3000) (by omega) (by omega) ?_
    exact K _ _ _ _ ⟨hag.1, hRL2, ⟨hao, hns, h33⟩, v9, hgo1⟩
  · refine j_aload_n G dL_law_353 rfl ?_
    refine j_iconst G dL_law_354 ?_
    refine j_laldO G dL_law_355 hao hns hgo1 ?_
    refine j_iload G dL_law_356 rfl ?_
    refine j_i2l G dL_law_358 ?_
    refine j_lcmpS G dL_law_359 (hag.2.2.2.1 c0) ?_
    refine j_if_eq G 365 dL_law_360 (by decide) (by decide) (fun _ => ?_) (fun h => absurd rfl h)
    refine j_goto G 2578 dL_law_365 (by decide) ?_
    refine j_keep [0, 1, 2, 3, 4] ?_
    refine j_wid (cells' := cells + 200) (slots' := slots + 3000) (by omega) (by omega) ?_
    exact K _ _ _ _ ⟨hag.1, hRL2, ⟨hao, hns, h33⟩, v9, hgo1⟩
set_option maxRecDepth 100000 in
set_option maxHeartbeats 8000000 in
theorem case_2 {p : Program} {l : Launch} {e : Env} {s : State} {m : MethodId} {below : List Frame} {meth : Method} {c : Code} {Q : State → Prop} {D : va_G} {cys : Nat → ClassId} {ad : Nat → Int → Nat} {b Ls : Nat} {xs : Nat → Int32} (hi : injA ad) (hst : l.stackTraces = false) (G : GG p l s m #[Value.ref b] meth c D cys ad (fun q => s.heap.size ≤ q) code RL 9) (hN : NCS s) (hk4 : HK4 cys s) (hX : va_X b Ls xs s s.heap) (hbl : b < s.heap.size) (hL : Ls ≤ 2560) {L : List Nat} {g : Nat → va_E} {X : Int64} {Z : ZT} {ao : Nat} (hI : INV cys ad ao L g Z) {i : Int} (hi0 : 0 ≤ i) (hi5 : i + 5 ≤ Ls) {cells slots : Nat} (hc : cells + 200 ≤ 601024) (hs : slots + 3000 ≤ 7293034)
    (K : ∀ (L1 : List Nat) (g1 : Nat → va_E) (X1 : Int64) (Z1 : ZT), INV cys ad ao L1 g1 Z1 → JJ p l e room_1 s m #[Value.ref b] below meth c D cys ad (fun q => s.heap.size ≤ q) Q 9 (cells + 200) (slots + 3000) L1 g1 X1 Z1 2578 (LV5 b ad ao i) []) :
    JJ p l e room_1 s m #[Value.ref b] below meth c D cys ad (fun q => s.heap.size ≤ q) Q 9 cells slots L g X Z 368 (LV5 b ad ao i) [] := by
  obtain ⟨hG, hRL, ⟨hao, hns, h33⟩, v0, hgo⟩ := hI
  have hW := hG.1.1
  have hbA : ¬ (fun q => s.heap.size ≤ q) b := Nat.not_le.mpr hbl
  refine j_aload_n G dL_law_368 rfl ?_
  refine j_aload_n G dL_law_369 rfl ?_
  refine j_iload G dL_law_370 rfl ?_
  refine j_iconst G dL_law_372 ?_
  refine j_iadd G dL_law_373 ?_
  refine j_sld G hX hbl hbA dL_law_374 (by omega) (by omega) hL ?_
  refine j_aload_n G dL_law_375 rfl ?_
  refine j_iload G dL_law_376 rfl ?_
  refine j_iconst G dL_law_378 ?_
  refine j_iadd G dL_law_379 ?_
  refine j_sld G hX hbl hbA dL_law_380 (by omega) (by omega) hL ?_
  refine j_aload_n G dL_law_381 rfl ?_
  refine j_iload G dL_law_382 rfl ?_
  refine j_iconst G dL_law_384 ?_
  refine j_iadd G dL_law_385 ?_
  refine j_sld G hX hbl hbA dL_law_386 (by omega) (by omega) hL ?_
  refine j_aload_n G dL_law_387 rfl ?_
  refine j_callW (n := 5) G hN (TW_of 669 (by decide +kernel) (by decide +kernel)) (TW_of 71 (by decide +kernel) (by decide +kernel)) (TW_of 670 (by decide +kernel) (by decide +kernel)) ⟨by decide +kernel, by decide +kernel, by decide +kernel⟩ (TW_of 668 (by decide +kernel) (by decide +kernel)) (cw_move hi hst (SP.rf Z) hW (sv_in _ _) (sv_in _ _) (sv_in _ _) hao hns hgo) dL_law_388 ⟨by decide, by decide⟩ ⟨by rw [r1c]; omega, by rw [r1s]; omega⟩ rfl rfl (Nat.le_of_ble_eq_true rfl) (fun k L1 g1 X1 Z1 h => ?_)
  obtain ⟨eL, eX, v9, eg, hA⟩ := h
  subst L1 X1 g1
  have hR1 : RMZ Z Z1 := hG.2.hi (hi_move hA)
  have hRL1 := hRL.out h33 hgo v9
  have hgo1 : va_up g ao (OUT cys v9) ao = OUT cys v9 := va_up_self _ _ _
  refine j_istore G dL_law_391 (by decide) rfl ?_
  refine j_aload_n G dL_law_393 rfl ?_
  refine j_aload_n G dL_law_394 rfl ?_
  refine j_iload G dL_law_395 rfl ?_
  refine j_iconst G dL_law_397 ?_
  refine j_iadd G dL_law_398 ?_
  refine j_sld G hX hbl hbA dL_law_399 (by omega) (by omega) hL ?_
  refine j_aload_n G dL_law_400 rfl ?_
  refine j_iload G dL_law_401 rfl ?_
  refine j_iconst G dL_law_403 ?_
  refine j_iadd G dL_law_404 ?_
  refine j_sld G hX hbl hbA dL_law_405 (by omega) (by omega) hL ?_
  refine j_aload_n G dL_law_406 rfl ?_
  refine j_iload G dL_law_407 rfl ?_
  refine j_iconst G dL_law_409 ?_
  refine j_iadd G dL_law_410 ?_
  refine j_sld G hX hbl hbA dL_law_411 (by omega) (by omega) hL ?_
  refine j_cVIZ G cvX7_move mlL_141 (c_X7_move hi hR1 hW (sv_in _ _) (sv_in _ _) (sv_in _ _)) dL_law_412 ⟨by decide, by decide⟩ ⟨by rw [r1c]; omega, by rw [r1s]; omega⟩ rfl rfl (Nat.le_of_ble_eq_true rfl) (by decide) rfl rfl rfl (fun x Z2 hB => ?_)
  have hag := ag_move hG hA hB
  have hRL2 := hag.2.1 cys ad _ _ hRL1
  refine j_istore G dL_law_415 (by decide) rfl ?_
  refine j_aload_n G dL_law_417 rfl ?_
  refine j_cVI G cvX7_thrown mlL_131 (c_X7_thrown hi) dL_law_418 ⟨by decide, by decide⟩ ⟨by rw [r1c]; omega, by rw [r1s]; omega⟩ rfl rfl (Nat.le_of_ble_eq_true rfl) (by decide) rfl rfl rfl (fun t ht => ?_)
  refine j_iload G dL_law_421 rfl ?_
  refine j_icmpS G 428 dL_law_423 (by decide) (ht.trans hag.2.2.1) ?_
  refine j_iload G dL_law_428 rfl ?_
  have hk02 := hag.2.2.2.2
  refine j_if_ne G 445 dL_law_430 (by decide) (by omega) (fun c0 => ?_) (fun c0 => ?_)
  · refine j_goto G 2578 dL_law_445 (by decide) ?_
    refine j_keep [0, 1, 2, 3, 4] ?_
    refine j_wid (cells' := cells + 200) (slots' := slots + 3000) (by omega) (by omega) ?_
    exact K _ _ _ _ ⟨hag.1, hRL2, ⟨hao, hns, h33⟩, v9, hgo1⟩
  · refine j_aload_n G dL_law_433 rfl ?_
    refine j_iconst G dL_law_434 ?_
    refine j_laldO G dL_law_435 hao hns hgo1 ?_
    refine j_iload G dL_law_436 rfl ?_
    refine j_i2l G dL_law_438 ?_
    refine j_lcmpS G dL_law_439 (hag.2.2.2.1 c0) ?_
    refine j_if_eq G 445 dL_law_440 (by decide) (by decide) (fun _ => ?_) (fun h => absurd rfl h)
    refine j_goto G 2578 dL_law_445 (by decide) ?_
    refine j_keep [0, 1, 2, 3, 4] ?_
    refine j_wid (cells' := cells + 200) (slots' := slots + 3000) (by omega) (by omega) ?_
    exact K _ _ _ _ ⟨hag.1, hRL2, ⟨hao, hns, h33⟩, v9, hgo1⟩
set_option maxRecDepth 100000 in
set_option maxHeartbeats 8000000 in
theorem case_3 {p : Program} {l : Launch} {e : Env} {s : State} {m : MethodId} {below : List Frame} {meth : Method} {c : Code} {Q : State → Prop} {D : va_G} {cys : Nat → ClassId} {ad : Nat → Int → Nat} {b Ls : Nat} {xs : Nat → Int32} (hi : injA ad) (hst : l.stackTraces = false) (G : GG p l s m #[Value.ref b] meth c D cys ad (fun q => s.heap.size ≤ q) code RL 9) (hN : NCS s) (hk4 : HK4 cys s) (hX : va_X b Ls xs s s.heap) (hbl : b < s.heap.size) (hL : Ls ≤ 2560) {L : List Nat} {g : Nat → va_E} {X : Int64} {Z : ZT} {ao : Nat} (hI : INV cys ad ao L g Z) {i : Int} (hi0 : 0 ≤ i) (hi5 : i + 5 ≤ Ls) {cells slots : Nat} (hc : cells + 200 ≤ 601024) (hs : slots + 3000 ≤ 7293034)
    (K : ∀ (L1 : List Nat) (g1 : Nat → va_E) (X1 : Int64) (Z1 : ZT), INV cys ad ao L1 g1 Z1 → JJ p l e room_1 s m #[Value.ref b] below meth c D cys ad (fun q => s.heap.size ≤ q) Q 9 (cells + 200) (slots + 3000) L1 g1 X1 Z1 2578 (LV5 b ad ao i) []) :
    JJ p l e room_1 s m #[Value.ref b] below meth c D cys ad (fun q => s.heap.size ≤ q) Q 9 cells slots L g X Z 448 (LV5 b ad ao i) [] := by
  obtain ⟨hG, hRL, ⟨hao, hns, h33⟩, v0, hgo⟩ := hI
  have hW := hG.1.1
  have hbA : ¬ (fun q => s.heap.size ≤ q) b := Nat.not_le.mpr hbl
  refine j_aload_n G dL_law_448 rfl ?_
  refine j_cVI G cvX6_dimensions mlL_142 (c_X6_dimensions hi ) dL_law_449 ⟨by decide, by decide⟩ ⟨by rw [r1c]; omega, by rw [r1s]; omega⟩ rfl rfl (Nat.le_of_ble_eq_true rfl) (by decide) rfl rfl rfl (fun r h => ?_)
  have hS : SP Z Z := SP.rf Z
  have hR1 : RMZ Z Z := hG.2.hi (HI.sp hS)
  have hRL1 := hRL
  refine j_aload_n G dL_law_452 rfl ?_
  refine j_cVIZ G cvX7_dimensions mlL_145 (c_X7_dimensions hi hR1) dL_law_453 ⟨by decide, by decide⟩ ⟨by rw [r1c]; omega, by rw [r1s]; omega⟩ rfl rfl (Nat.le_of_ble_eq_true rfl) (by decide) rfl rfl rfl (fun x Z2 h2 => ?_)
  obtain ⟨hx, hM⟩ := h2
  have hq := ag_ask hG hS hM
  have hrx : r = x := h.trans hx.symm
  refine j_icmpS G 2578 dL_law_456 (by decide) hrx ?_
  refine j_keep [0, 1, 2, 3, 4] ?_
  refine j_wid (cells' := cells + 200) (slots' := slots + 3000) (by omega) (by omega) ?_
  exact K _ _ _ _ ⟨hq.1, hq.2.1 cys ad _ _ hRL, ⟨hao, hns, h33⟩, v0, hgo⟩
set_option maxRecDepth 100000 in
set_option maxHeartbeats 8000000 in
theorem case_4 {p : Program} {l : Launch} {e : Env} {s : State} {m : MethodId} {below : List Frame} {meth : Method} {c : Code} {Q : State → Prop} {D : va_G} {cys : Nat → ClassId} {ad : Nat → Int → Nat} {b Ls : Nat} {xs : Nat → Int32} (hi : injA ad) (hst : l.stackTraces = false) (G : GG p l s m #[Value.ref b] meth c D cys ad (fun q => s.heap.size ≤ q) code RL 9) (hN : NCS s) (hk4 : HK4 cys s) (hX : va_X b Ls xs s s.heap) (hbl : b < s.heap.size) (hL : Ls ≤ 2560) {L : List Nat} {g : Nat → va_E} {X : Int64} {Z : ZT} {ao : Nat} (hI : INV cys ad ao L g Z) {i : Int} (hi0 : 0 ≤ i) (hi5 : i + 5 ≤ Ls) {cells slots : Nat} (hc : cells + 200 ≤ 601024) (hs : slots + 3000 ≤ 7293034)
    (K : ∀ (L1 : List Nat) (g1 : Nat → va_E) (X1 : Int64) (Z1 : ZT), INV cys ad ao L1 g1 Z1 → JJ p l e room_1 s m #[Value.ref b] below meth c D cys ad (fun q => s.heap.size ≤ q) Q 9 (cells + 200) (slots + 3000) L1 g1 X1 Z1 2578 (LV5 b ad ao i) []) :
    JJ p l e room_1 s m #[Value.ref b] below meth c D cys ad (fun q => s.heap.size ≤ q) Q 9 cells slots L g X Z 461 (LV5 b ad ao i) [] := by
  obtain ⟨hG, hRL, ⟨hao, hns, h33⟩, v0, hgo⟩ := hI
  have hW := hG.1.1
  have hbA : ¬ (fun q => s.heap.size ≤ q) b := Nat.not_le.mpr hbl
  refine j_aload_n G dL_law_461 rfl ?_
  refine j_aload_n G dL_law_462 rfl ?_
  refine j_iload G dL_law_463 rfl ?_
  refine j_iconst G dL_law_465 ?_
  refine j_iadd G dL_law_466 ?_
  refine j_sld G hX hbl hbA dL_law_467 (by omega) (by omega) hL ?_
  refine j_aload_n G dL_law_468 rfl ?_
  refine j_callW (n := 3) G hN (TW_of 683 (by decide +kernel) (by decide +kernel)) (TW_of 71 (by decide +kernel) (by decide +kernel)) (TW_of 684 (by decide +kernel) (by decide +kernel)) ⟨by decide +kernel, by decide +kernel, by decide +kernel⟩ (TW_of 682 (by decide +kernel) (by decide +kernel)) (cw_members hi hst (SP.rf Z) hW (sv_in _ _) hao hns hgo) dL_law_469 ⟨by decide, by decide⟩ ⟨by rw [r1c]; omega, by rw [r1s]; omega⟩ rfl rfl (Nat.le_of_ble_eq_true rfl) (fun k L1 g1 X1 Z1 h => ?_)
  obtain ⟨eL, eX, v9, eg, hA⟩ := h
  subst L1 X1 g1
  have hR1 : RMZ Z Z1 := hG.2.hi (hi_members hA)
  have hRL1 := hRL.out h33 hgo v9
  have hgo1 : va_up g ao (OUT cys v9) ao = OUT cys v9 := va_up_self _ _ _
  refine j_istore G dL_law_472 (by decide) rfl ?_
  refine j_aload_n G dL_law_474 rfl ?_
  refine j_aload_n G dL_law_475 rfl ?_
  refine j_iload G dL_law_476 rfl ?_
  refine j_iconst G dL_law_478 ?_
  refine j_iadd G dL_law_479 ?_
  refine j_sld G hX hbl hbA dL_law_480 (by omega) (by omega) hL ?_
  refine j_cVIZ G cvX7_members mlL_148 (c_X7_members hi hR1 hW (sv_in _ _)) dL_law_481 ⟨by decide, by decide⟩ ⟨by rw [r1c]; omega, by rw [r1s]; omega⟩ rfl rfl (Nat.le_of_ble_eq_true rfl) (by decide) rfl rfl rfl (fun x Z2 hB => ?_)
  have hag := ag_members hG hA hB
  have hRL2 := hag.2.1 cys ad _ _ hRL1
  refine j_istore G dL_law_484 (by decide) rfl ?_
  refine j_aload_n G dL_law_486 rfl ?_
  refine j_cVI G cvX7_thrown mlL_131 (c_X7_thrown hi) dL_law_487 ⟨by decide, by decide⟩ ⟨by rw [r1c]; omega, by rw [r1s]; omega⟩ rfl rfl (Nat.le_of_ble_eq_true rfl) (by decide) rfl rfl rfl (fun t ht => ?_)
  refine j_iload G dL_law_490 rfl ?_
  refine j_icmpS G 497 dL_law_492 (by decide) (ht.trans hag.2.2.1) ?_
  refine j_iload G dL_law_497 rfl ?_
  have hk02 := hag.2.2.2.2
  refine j_if_ne G 514 dL_law_499 (by decide) (by omega) (fun c0 => ?_) (fun c0 => ?_)
  · refine j_goto G 2578 dL_law_514 (by decide) ?_
    refine j_keep [0, 1, 2, 3, 4] ?_
    refine j_wid (cells' := cells + 200) (slots' := slots + 3000) (by omega) (by omega) ?_
    exact K _ _ _ _ ⟨hag.1, hRL2, ⟨hao, hns, h33⟩, v9, hgo1⟩
  · refine j_aload_n G dL_law_502 rfl ?_
    refine j_iconst G dL_law_503 ?_
    refine j_laldO G dL_law_504 hao hns hgo1 ?_
    refine j_iload G dL_law_505 rfl ?_
    refine j_i2l G dL_law_507 ?_
    refine j_lcmpS G dL_law_508 (hag.2.2.2.1 c0) ?_
    refine j_if_eq G 514 dL_law_509 (by decide) (by decide) (fun _ => ?_) (fun h => absurd rfl h)
    refine j_goto G 2578 dL_law_514 (by decide) ?_
    refine j_keep [0, 1, 2, 3, 4] ?_
    refine j_wid (cells' := cells + 200) (slots' := slots + 3000) (by omega) (by omega) ?_
    exact K _ _ _ _ ⟨hag.1, hRL2, ⟨hao, hns, h33⟩, v9, hgo1⟩
set_option maxRecDepth 100000 in
set_option maxHeartbeats 8000000 in
theorem case_5 {p : Program} {l : Launch} {e : Env} {s : State} {m : MethodId} {below : List Frame} {meth : Method} {c : Code} {Q : State → Prop} {D : va_G} {cys : Nat → ClassId} {ad : Nat → Int → Nat} {b Ls : Nat} {xs : Nat → Int32} (hi : injA ad) (hst : l.stackTraces = false) (G : GG p l s m #[Value.ref b] meth c D cys ad (fun q => s.heap.size ≤ q) code RL 9) (hN : NCS s) (hk4 : HK4 cys s) (hX : va_X b Ls xs s s.heap) (hbl : b < s.heap.size) (hL : Ls ≤ 2560) {L : List Nat} {g : Nat → va_E} {X : Int64} {Z : ZT} {ao : Nat} (hI : INV cys ad ao L g Z) {i : Int} (hi0 : 0 ≤ i) (hi5 : i + 5 ≤ Ls) {cells slots : Nat} (hc : cells + 200 ≤ 601024) (hs : slots + 3000 ≤ 7293034)
    (K : ∀ (L1 : List Nat) (g1 : Nat → va_E) (X1 : Int64) (Z1 : ZT), INV cys ad ao L1 g1 Z1 → JJ p l e room_1 s m #[Value.ref b] below meth c D cys ad (fun q => s.heap.size ≤ q) Q 9 (cells + 200) (slots + 3000) L1 g1 X1 Z1 2578 (LV5 b ad ao i) []) :
    JJ p l e room_1 s m #[Value.ref b] below meth c D cys ad (fun q => s.heap.size ≤ q) Q 9 cells slots L g X Z 517 (LV5 b ad ao i) [] := by
  obtain ⟨hG, hRL, ⟨hao, hns, h33⟩, v0, hgo⟩ := hI
  have hW := hG.1.1
  have hbA : ¬ (fun q => s.heap.size ≤ q) b := Nat.not_le.mpr hbl
  refine j_aload_n G dL_law_517 rfl ?_
  refine j_aload_n G dL_law_518 rfl ?_
  refine j_iload G dL_law_519 rfl ?_
  refine j_iconst G dL_law_521 ?_
  refine j_iadd G dL_law_522 ?_
  refine j_sld G hX hbl hbA dL_law_523 (by omega) (by omega) hL ?_
  refine j_aload_n G dL_law_524 rfl ?_
  refine j_iload G dL_law_525 rfl ?_
  refine j_iconst G dL_law_527 ?_
  refine j_iadd G dL_law_528 ?_
  refine j_sld G hX hbl hbA dL_law_529 (by omega) (by omega) hL ?_
  refine j_aload_n G dL_law_530 rfl ?_
  refine j_callW (n := 4) G hN (TW_of 690 (by decide +kernel) (by decide +kernel)) (TW_of 71 (by decide +kernel) (by decide +kernel)) (TW_of 691 (by decide +kernel) (by decide +kernel)) ⟨by decide +kernel, by decide +kernel, by decide +kernel⟩ (TW_of 689 (by decide +kernel) (by decide +kernel)) (cw_parentOf hi hst (SP.rf Z) hW (sv_in _ _) (sv_in _ _) hao hns hgo) dL_law_531 ⟨by decide, by decide⟩ ⟨by rw [r1c]; omega, by rw [r1s]; omega⟩ rfl rfl (Nat.le_of_ble_eq_true rfl) (fun k L1 g1 X1 Z1 h => ?_)
  obtain ⟨eL, eX, v9, eg, hA⟩ := h
  subst L1 X1 g1
  have hR1 : RMZ Z Z1 := hG.2.hi (hi_parentOf hA)
  have hRL1 := hRL.out h33 hgo v9
  have hgo1 : va_up g ao (OUT cys v9) ao = OUT cys v9 := va_up_self _ _ _
  refine j_istore G dL_law_534 (by decide) rfl ?_
  refine j_aload_n G dL_law_536 rfl ?_
  refine j_aload_n G dL_law_537 rfl ?_
  refine j_iload G dL_law_538 rfl ?_
  refine j_iconst G dL_law_540 ?_
  refine j_iadd G dL_law_541 ?_
  refine j_sld G hX hbl hbA dL_law_542 (by omega) (by omega) hL ?_
  refine j_aload_n G dL_law_543 rfl ?_
  refine j_iload G dL_law_544 rfl ?_
  refine j_iconst G dL_law_546 ?_
  refine j_iadd G dL_law_547 ?_
  refine j_sld G hX hbl hbA dL_law_548 (by omega) (by omega) hL ?_
  refine j_cVIZ G cvX7_parentOf mlL_151 (c_X7_parentOf hi hR1 hW (sv_in _ _) (sv_in _ _)) dL_law_549 ⟨by decide, by decide⟩ ⟨by rw [r1c]; omega, by rw [r1s]; omega⟩ rfl rfl (Nat.le_of_ble_eq_true rfl) (by decide) rfl rfl rfl (fun x Z2 hB => ?_)
  have hag := ag_parentOf hG hA hB
  have hRL2 := hag.2.1 cys ad _ _ hRL1
  refine j_istore G dL_law_552 (by decide) rfl ?_
  refine j_aload_n G dL_law_554 rfl ?_
  refine j_cVI G cvX7_thrown mlL_131 (c_X7_thrown hi) dL_law_555 ⟨by decide, by decide⟩ ⟨by rw [r1c]; omega, by rw [r1s]; omega⟩ rfl rfl (Nat.le_of_ble_eq_true rfl) (by decide) rfl rfl rfl (fun t ht => ?_)
  refine j_iload G dL_law_558 rfl ?_
  refine j_icmpS G 565 dL_law_560 (by decide) (ht.trans hag.2.2.1) ?_
  refine j_iload G dL_law_565 rfl ?_
  have hk02 := hag.2.2.2.2
  refine j_if_ne G 582 dL_law_567 (by decide) (by omega) (fun c0 => ?_) (fun c0 => ?_)
  · refine j_goto G 2578 dL_law_582 (by decide) ?_
    refine j_keep [0, 1, 2, 3, 4] ?_
    refine j_wid (cells' := cells + 200) (slots' := slots + 3000) (by omega) (by omega) ?_
    exact K _ _ _ _ ⟨hag.1, hRL2, ⟨hao, hns, h33⟩, v9, hgo1⟩
  · refine j_aload_n G dL_law_570 rfl ?_
    refine j_iconst G dL_law_571 ?_
    refine j_laldO G dL_law_572 hao hns hgo1 ?_
    refine j_iload G dL_law_573 rfl ?_
    refine j_i2l G dL_law_575 ?_
    refine j_lcmpS G dL_law_576 (hag.2.2.2.1 c0) ?_
    refine j_if_eq G 582 dL_law_577 (by decide) (by decide) (fun _ => ?_) (fun h => absurd rfl h)
    refine j_goto G 2578 dL_law_582 (by decide) ?_
    refine j_keep [0, 1, 2, 3, 4] ?_
    refine j_wid (cells' := cells + 200) (slots' := slots + 3000) (by omega) (by omega) ?_
    exact K _ _ _ _ ⟨hag.1, hRL2, ⟨hao, hns, h33⟩, v9, hgo1⟩
