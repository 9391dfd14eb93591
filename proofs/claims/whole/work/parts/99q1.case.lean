theorem dW_law_338 : decode code 338 = .ok (.aload_n 1, 1) := by decide +kernel
theorem dW_law_339 : decode code 339 = .ok (.invokevirtual 28, 3) := by decide +kernel
theorem dW_law_342 : decode code 342 = .ok (.aload_n 2, 1) := by decide +kernel
theorem dW_law_343 : decode code 343 = .ok (.invokevirtual 32, 3) := by decide +kernel
theorem dW_law_346 : decode code 346 = .ok (.if_icmp .eq 1306, 3) := by decide +kernel
theorem dW_law_349 : decode code 349 = .ok (.iconst 0, 1) := by decide +kernel
theorem dW_law_350 : decode code 350 = .ok (.ireturn, 1) := by decide +kernel
theorem dW_law_351 : decode code 351 = .ok (.aload_n 1, 1) := by decide +kernel
theorem dW_law_352 : decode code 352 = .ok (.invokevirtual 33, 3) := by decide +kernel
theorem dW_law_355 : decode code 355 = .ok (.aload_n 2, 1) := by decide +kernel
theorem dW_law_356 : decode code 356 = .ok (.invokevirtual 36, 3) := by decide +kernel
theorem dW_law_359 : decode code 359 = .ok (.if_icmp .eq 1293, 3) := by decide +kernel
theorem dW_law_362 : decode code 362 = .ok (.iconst 0, 1) := by decide +kernel
theorem dW_law_363 : decode code 363 = .ok (.ireturn, 1) := by decide +kernel
theorem dW_law_364 : decode code 364 = .ok (.aload_n 1, 1) := by decide +kernel
theorem dW_law_365 : decode code 365 = .ok (.aload_n 0, 1) := by decide +kernel
theorem dW_law_366 : decode code 366 = .ok (.iload 4, 2) := by decide +kernel
theorem dW_law_368 : decode code 368 = .ok (.iconst 1, 1) := by decide +kernel
theorem dW_law_369 : decode code 369 = .ok (.iadd, 1) := by decide +kernel
theorem dW_law_370 : decode code 370 = .ok (.iaload, 1) := by decide +kernel
theorem dW_law_371 : decode code 371 = .ok (.aload_n 0, 1) := by decide +kernel
theorem dW_law_372 : decode code 372 = .ok (.iload 4, 2) := by decide +kernel
theorem dW_law_374 : decode code 374 = .ok (.iconst 2, 1) := by decide +kernel
theorem dW_law_375 : decode code 375 = .ok (.iadd, 1) := by decide +kernel
theorem dW_law_376 : decode code 376 = .ok (.iaload, 1) := by decide +kernel
theorem dW_law_377 : decode code 377 = .ok (.invokevirtual 37, 3) := by decide +kernel
theorem dW_law_380 : decode code 380 = .ok (.aload_n 2, 1) := by decide +kernel
theorem dW_law_381 : decode code 381 = .ok (.aload_n 0, 1) := by decide +kernel
theorem dW_law_382 : decode code 382 = .ok (.iload 4, 2) := by decide +kernel
theorem dW_law_384 : decode code 384 = .ok (.iconst 1, 1) := by decide +kernel
theorem dW_law_385 : decode code 385 = .ok (.iadd, 1) := by decide +kernel
theorem dW_law_386 : decode code 386 = .ok (.iaload, 1) := by decide +kernel
theorem dW_law_387 : decode code 387 = .ok (.aload_n 0, 1) := by decide +kernel
theorem dW_law_388 : decode code 388 = .ok (.iload 4, 2) := by decide +kernel
theorem dW_law_390 : decode code 390 = .ok (.iconst 2, 1) := by decide +kernel
theorem dW_law_391 : decode code 391 = .ok (.iadd, 1) := by decide +kernel
theorem dW_law_392 : decode code 392 = .ok (.iaload, 1) := by decide +kernel
theorem dW_law_393 : decode code 393 = .ok (.invokevirtual 41, 3) := by decide +kernel
theorem dW_law_396 : decode code 396 = .ok (.if_icmp .eq 1256, 3) := by decide +kernel
theorem dW_law_399 : decode code 399 = .ok (.iconst 0, 1) := by decide +kernel
theorem dW_law_400 : decode code 400 = .ok (.ireturn, 1) := by decide +kernel
theorem dW_law_401 : decode code 401 = .ok (.aload_n 1, 1) := by decide +kernel
theorem dW_law_402 : decode code 402 = .ok (.aload_n 0, 1) := by decide +kernel
theorem dW_law_403 : decode code 403 = .ok (.iload 4, 2) := by decide +kernel
theorem dW_law_405 : decode code 405 = .ok (.iconst 1, 1) := by decide +kernel
theorem dW_law_406 : decode code 406 = .ok (.iadd, 1) := by decide +kernel
theorem dW_law_407 : decode code 407 = .ok (.iaload, 1) := by decide +kernel
theorem dW_law_408 : decode code 408 = .ok (.aload_n 0, 1) := by decide +kernel
theorem dW_law_409 : decode code 409 = .ok (.iload 4, 2) := by decide +kernel
theorem dW_law_411 : decode code 411 = .ok (.iconst 2, 1) := by decide +kernel
theorem dW_law_412 : decode code 412 = .ok (.iadd, 1) := by decide +kernel
theorem dW_law_413 : decode code 413 = .ok (.iaload, 1) := by decide +kernel
theorem dW_law_414 : decode code 414 = .ok (.invokevirtual 42, 3) := by decide +kernel
theorem dW_law_417 : decode code 417 = .ok (.aload_n 2, 1) := by decide +kernel
theorem dW_law_418 : decode code 418 = .ok (.aload_n 0, 1) := by decide +kernel
theorem dW_law_419 : decode code 419 = .ok (.iload 4, 2) := by decide +kernel
theorem dW_law_421 : decode code 421 = .ok (.iconst 1, 1) := by decide +kernel
theorem dW_law_422 : decode code 422 = .ok (.iadd, 1) := by decide +kernel
theorem dW_law_423 : decode code 423 = .ok (.iaload, 1) := by decide +kernel
theorem dW_law_424 : decode code 424 = .ok (.aload_n 0, 1) := by decide +kernel
theorem dW_law_425 : decode code 425 = .ok (.iload 4, 2) := by decide +kernel
theorem dW_law_427 : decode code 427 = .ok (.iconst 2, 1) := by decide +kernel
theorem dW_law_428 : decode code 428 = .ok (.iadd, 1) := by decide +kernel
theorem dW_law_429 : decode code 429 = .ok (.iaload, 1) := by decide +kernel
theorem dW_law_430 : decode code 430 = .ok (.invokevirtual 45, 3) := by decide +kernel
theorem dW_law_433 : decode code 433 = .ok (.if_icmp .eq 1219, 3) := by decide +kernel
theorem dW_law_436 : decode code 436 = .ok (.iconst 0, 1) := by decide +kernel
theorem dW_law_437 : decode code 437 = .ok (.ireturn, 1) := by decide +kernel
theorem dW_law_438 : decode code 438 = .ok (.aload_n 1, 1) := by decide +kernel
theorem dW_law_439 : decode code 439 = .ok (.invokevirtual 46, 3) := by decide +kernel
theorem dW_law_442 : decode code 442 = .ok (.aload_n 2, 1) := by decide +kernel
theorem dW_law_443 : decode code 443 = .ok (.invokevirtual 49, 3) := by decide +kernel
theorem dW_law_446 : decode code 446 = .ok (.if_icmp .eq 1206, 3) := by decide +kernel
theorem dW_law_449 : decode code 449 = .ok (.iconst 0, 1) := by decide +kernel
theorem dW_law_450 : decode code 450 = .ok (.ireturn, 1) := by decide +kernel
theorem dW_law_451 : decode code 451 = .ok (.aload_n 1, 1) := by decide +kernel
theorem dW_law_452 : decode code 452 = .ok (.aload_n 0, 1) := by decide +kernel
theorem dW_law_453 : decode code 453 = .ok (.iload 4, 2) := by decide +kernel
theorem dW_law_455 : decode code 455 = .ok (.iconst 1, 1) := by decide +kernel
theorem dW_law_456 : decode code 456 = .ok (.iadd, 1) := by decide +kernel
theorem dW_law_457 : decode code 457 = .ok (.iaload, 1) := by decide +kernel
theorem dW_law_458 : decode code 458 = .ok (.invokevirtual 50, 3) := by decide +kernel
theorem dW_law_461 : decode code 461 = .ok (.aload_n 2, 1) := by decide +kernel
theorem dW_law_462 : decode code 462 = .ok (.aload_n 0, 1) := by decide +kernel
theorem dW_law_463 : decode code 463 = .ok (.iload 4, 2) := by decide +kernel
theorem dW_law_465 : decode code 465 = .ok (.iconst 1, 1) := by decide +kernel
theorem dW_law_466 : decode code 466 = .ok (.iadd, 1) := by decide +kernel
theorem dW_law_467 : decode code 467 = .ok (.iaload, 1) := by decide +kernel
theorem dW_law_468 : decode code 468 = .ok (.invokevirtual 53, 3) := by decide +kernel
theorem dW_law_471 : decode code 471 = .ok (.if_icmp .eq 1181, 3) := by decide +kernel
theorem dW_law_474 : decode code 474 = .ok (.iconst 0, 1) := by decide +kernel
theorem dW_law_475 : decode code 475 = .ok (.ireturn, 1) := by decide +kernel
theorem dW_law_476 : decode code 476 = .ok (.aload_n 1, 1) := by decide +kernel
theorem dW_law_477 : decode code 477 = .ok (.invokevirtual 54, 3) := by decide +kernel
theorem dW_law_480 : decode code 480 = .ok (.aload_n 2, 1) := by decide +kernel
theorem dW_law_481 : decode code 481 = .ok (.invokevirtual 57, 3) := by decide +kernel
theorem dW_law_484 : decode code 484 = .ok (.if_icmp .eq 1168, 3) := by decide +kernel
theorem dW_law_487 : decode code 487 = .ok (.iconst 0, 1) := by decide +kernel
theorem dW_law_488 : decode code 488 = .ok (.ireturn, 1) := by decide +kernel
section Caser
variable {X : CT} {b L : Nat} {xs : Nat → Int32} {V : Nat → Nat → Int} {σ : Shp} {ow : Nat → Nat} {y : Dy} {l : Nat} {S : PS} {kn : Bool} {k n c : Nat} {i : Int}
theorem ca_fault {nm : String} (hX : CX X nm b L xs) (hP : PX V σ ow y l S kn k n c i L) (nx : NX X i c) : AW X 338 [some (vR (BG + 39)), some (vR 1), some (vR 53), some (vR 64), some (vI i), none, none] [] (V, σ) k n := by
  obtain ⟨F, hm, HS, hA, hL⟩ := hX
  obtain ⟨h, hk, hn, hc, h0, hi⟩ := hP
  have hBG : BG = 1000000000 := rfl
  have hcr : crd kn ≤ 95000 := crd_le kn
  have h1 := h.o1
  refine aw_sz hA (fun hz => ?_)
  have hz : sX σ ≤ k + 1 := hz
  refine aw_aload_1 (q := 339) F dW_law_338 rfl ?_
  refine av_callV0 (q := 342) (ci := 7) F hm mL_fault_i mL_fault_n lW_28 dW_law_339 rfl rfl rfl (by first | exact h1 | exact hM.mo.o) (by decide) (by omega) (by omega) (Nat.le_of_ble_eq_true rfl) (wL_fault h.cw (fun v339 sg339 w339 y339 d339 f339 => ?_))
  have hM := h.m1 f339
  refine aw_aload_2 (q := 343) F dW_law_342 rfl ?_
  refine av_callV0 (q := 346) (ci := 9) F hm mM_fault_i mM_fault_n lW_32 dW_law_343 rfl rfl rfl (by first | exact h1 | exact hM.mo.o) (by decide) (by omega) (by omega) (Nat.le_of_ble_eq_true rfl) (wM_fault hM (fun v343 m343 r343 => ?_))
  refine aw_icmp_eq (q := 349) (t := 1652) F dW_law_346 rfl (by decide) (fun c346 => ?_) (fun c346 => by exact absurd rfl c346)
  exact nx _ _ _ _ _ _ _ _ _ (h.st d339 f339 m343 r343) (by omega) (by omega)
theorem ca_where {nm : String} (hX : CX X nm b L xs) (hP : PX V σ ow y l S kn k n c i L) (nx : NX X i c) : AW X 351 [some (vR (BG + 39)), some (vR 1), some (vR 53), some (vR 64), some (vI i), none, none] [] (V, σ) k n := by
  obtain ⟨F, hm, HS, hA, hL⟩ := hX
  obtain ⟨h, hk, hn, hc, h0, hi⟩ := hP
  have hBG : BG = 1000000000 := rfl
  have hcr : crd kn ≤ 95000 := crd_le kn
  have h1 := h.o1
  refine aw_sz hA (fun hz => ?_)
  have hz : sX σ ≤ k + 1 := hz
  refine aw_aload_1 (q := 352) F dW_law_351 rfl ?_
  refine av_callV0 (q := 355) (ci := 7) F hm mL_where_i mL_where_n lW_33 dW_law_352 rfl rfl rfl (by first | exact h1 | exact hM.mo.o) (by decide) (by omega) (by omega) (Nat.le_of_ble_eq_true rfl) (wL_where h.cw (fun v352 sg352 w352 y352 d352 f352 => ?_))
  have hM := h.m1 f352
  refine aw_aload_2 (q := 356) F dW_law_355 rfl ?_
  refine av_callV0 (q := 359) (ci := 9) F hm mM_where_i mM_where_n lW_36 dW_law_356 rfl rfl rfl (by first | exact h1 | exact hM.mo.o) (by decide) (by omega) (by omega) (Nat.le_of_ble_eq_true rfl) (wM_where hM (fun v356 m356 r356 => ?_))
  refine aw_icmp_eq (q := 362) (t := 1652) F dW_law_359 rfl (by decide) (fun c359 => ?_) (fun c359 => by exact absurd rfl c359)
  exact nx _ _ _ _ _ _ _ _ _ (h.st d352 f352 m356 r356) (by omega) (by omega)
theorem ca_door {nm : String} (hX : CX X nm b L xs) (hP : PX V σ ow y l S kn k n c i L) (nx : NX X i c) : AW X 364 [some (vR (BG + 39)), some (vR 1), some (vR 53), some (vR 64), some (vI i), none, none] [] (V, σ) k n := by
  obtain ⟨F, hm, HS, hA, hL⟩ := hX
  obtain ⟨h, hk, hn, hc, h0, hi⟩ := hP
  have hBG : BG = 1000000000 := rfl
  have hcr : crd kn ≤ 95000 := crd_le kn
  have h1 := h.o1
  refine aw_sz hA (fun hz => ?_)
  have hz : sX σ ≤ k + 1 := hz
  refine aw_aload_1 (q := 365) F dW_law_364 rfl ?_
  refine aw_aload_0 (q := 366) F dW_law_365 rfl ?_
  refine aw_iload_4 (q := 368) F dW_law_366 rfl ?_
  refine aw_iconst (q := 369) F dW_law_368 rfl (by decide) ?_
  refine aw_iadd (q := 370) F dW_law_369 rfl (by constructor <;> omega) ?_
  refine aw_sld (q := 371) F HS dW_law_370 rfl (by omega) (by omega) ?_
  refine aw_aload_0 (q := 372) F dW_law_371 rfl ?_
  refine aw_iload_4 (q := 374) F dW_law_372 rfl ?_
  refine aw_iconst (q := 375) F dW_law_374 rfl (by decide) ?_
  refine aw_iadd (q := 376) F dW_law_375 rfl (by constructor <;> omega) ?_
  refine aw_sld (q := 377) F HS dW_law_376 rfl (by omega) (by omega) ?_
  refine av_callV2 (q := 380) (ci := 7) F hm mL_door_i mL_door_n lW_37 dW_law_377 rfl rfl rfl (by first | exact h1 | exact hM.mo.o) (by decide) (by omega) (by omega) (Nat.le_of_ble_eq_true rfl) (wL_door h.cw (fun v377 sg377 w377 y377 d377 f377 => ?_))
  have hM := h.m1 f377
  refine aw_aload_2 (q := 381) F dW_law_380 rfl ?_
  refine aw_aload_0 (q := 382) F dW_law_381 rfl ?_
  refine aw_iload_4 (q := 384) F dW_law_382 rfl ?_
  refine aw_iconst (q := 385) F dW_law_384 rfl (by decide) ?_
  refine aw_iadd (q := 386) F dW_law_385 rfl (by constructor <;> omega) ?_
  refine aw_sld (q := 387) F HS dW_law_386 rfl (by omega) (by omega) ?_
  refine aw_aload_0 (q := 388) F dW_law_387 rfl ?_
  refine aw_iload_4 (q := 390) F dW_law_388 rfl ?_
  refine aw_iconst (q := 391) F dW_law_390 rfl (by decide) ?_
  refine aw_iadd (q := 392) F dW_law_391 rfl (by constructor <;> omega) ?_
  refine aw_sld (q := 393) F HS dW_law_392 rfl (by omega) (by omega) ?_
  refine av_callV2 (q := 396) (ci := 9) F hm mM_door_i mM_door_n lW_41 dW_law_393 rfl rfl rfl (by first | exact h1 | exact hM.mo.o) (by decide) (by omega) (by omega) (Nat.le_of_ble_eq_true rfl) (wM_door hM (fun v393 m393 r393 => ?_))
  refine aw_icmp_eq (q := 399) (t := 1652) F dW_law_396 rfl (by decide) (fun c396 => ?_) (fun c396 => by exact absurd rfl c396)
  exact nx _ _ _ _ _ _ _ _ _ (h.st d377 f377 m393 r393) (by omega) (by omega)
theorem ca_person {nm : String} (hX : CX X nm b L xs) (hP : PX V σ ow y l S kn k n c i L) (nx : NX X i c) : AW X 401 [some (vR (BG + 39)), some (vR 1), some (vR 53), some (vR 64), some (vI i), none, none] [] (V, σ) k n := by
  obtain ⟨F, hm, HS, hA, hL⟩ := hX
  obtain ⟨h, hk, hn, hc, h0, hi⟩ := hP
  have hBG : BG = 1000000000 := rfl
  have hcr : crd kn ≤ 95000 := crd_le kn
  have h1 := h.o1
  refine aw_sz hA (fun hz => ?_)
  have hz : sX σ ≤ k + 1 := hz
  refine aw_aload_1 (q := 402) F dW_law_401 rfl ?_
  refine aw_aload_0 (q := 403) F dW_law_402 rfl ?_
  refine aw_iload_4 (q := 405) F dW_law_403 rfl ?_
  refine aw_iconst (q := 406) F dW_law_405 rfl (by decide) ?_
  refine aw_iadd (q := 407) F dW_law_406 rfl (by constructor <;> omega) ?_
  refine aw_sld (q := 408) F HS dW_law_407 rfl (by omega) (by omega) ?_
  refine aw_aload_0 (q := 409) F dW_law_408 rfl ?_
  refine aw_iload_4 (q := 411) F dW_law_409 rfl ?_
  refine aw_iconst (q := 412) F dW_law_411 rfl (by decide) ?_
  refine aw_iadd (q := 413) F dW_law_412 rfl (by constructor <;> omega) ?_
  refine aw_sld (q := 414) F HS dW_law_413 rfl (by omega) (by omega) ?_
  refine av_callV2 (q := 417) (ci := 7) F hm mL_person_i mL_person_n lW_42 dW_law_414 rfl rfl rfl (by first | exact h1 | exact hM.mo.o) (by decide) (by omega) (by omega) (Nat.le_of_ble_eq_true rfl) (wL_person h.cw (fun v414 sg414 w414 y414 d414 f414 => ?_))
  have hM := h.m1 f414
  refine aw_aload_2 (q := 418) F dW_law_417 rfl ?_
  refine aw_aload_0 (q := 419) F dW_law_418 rfl ?_
  refine aw_iload_4 (q := 421) F dW_law_419 rfl ?_
  refine aw_iconst (q := 422) F dW_law_421 rfl (by decide) ?_
  refine aw_iadd (q := 423) F dW_law_422 rfl (by constructor <;> omega) ?_
  refine aw_sld (q := 424) F HS dW_law_423 rfl (by omega) (by omega) ?_
  refine aw_aload_0 (q := 425) F dW_law_424 rfl ?_
  refine aw_iload_4 (q := 427) F dW_law_425 rfl ?_
  refine aw_iconst (q := 428) F dW_law_427 rfl (by decide) ?_
  refine aw_iadd (q := 429) F dW_law_428 rfl (by constructor <;> omega) ?_
  refine aw_sld (q := 430) F HS dW_law_429 rfl (by omega) (by omega) ?_
  refine av_callV2 (q := 433) (ci := 9) F hm mM_person_i mM_person_n lW_45 dW_law_430 rfl rfl rfl (by first | exact h1 | exact hM.mo.o) (by decide) (by omega) (by omega) (Nat.le_of_ble_eq_true rfl) (wM_person hM (fun v430 m430 r430 => ?_))
  refine aw_icmp_eq (q := 436) (t := 1652) F dW_law_433 rfl (by decide) (fun c433 => ?_) (fun c433 => by exact absurd rfl c433)
  exact nx _ _ _ _ _ _ _ _ _ (h.st d414 f414 m430 r430) (by omega) (by omega)
theorem ca_last {nm : String} (hX : CX X nm b L xs) (hP : PX V σ ow y l S kn k n c i L) (nx : NX X i c) : AW X 438 [some (vR (BG + 39)), some (vR 1), some (vR 53), some (vR 64), some (vI i), none, none] [] (V, σ) k n := by
  obtain ⟨F, hm, HS, hA, hL⟩ := hX
  obtain ⟨h, hk, hn, hc, h0, hi⟩ := hP
  have hBG : BG = 1000000000 := rfl
  have hcr : crd kn ≤ 95000 := crd_le kn
  have h1 := h.o1
  refine aw_sz hA (fun hz => ?_)
  have hz : sX σ ≤ k + 1 := hz
  refine aw_aload_1 (q := 439) F dW_law_438 rfl ?_
  refine av_callV0 (q := 442) (ci := 7) F hm mL_last_i mL_last_n lW_46 dW_law_439 rfl rfl rfl (by first | exact h1 | exact hM.mo.o) (by decide) (by omega) (by omega) (Nat.le_of_ble_eq_true rfl) (wL_last h.cw (fun v439 sg439 w439 y439 d439 f439 => ?_))
  have hM := h.m1 f439
  refine aw_aload_2 (q := 443) F dW_law_442 rfl ?_
  refine av_callV0 (q := 446) (ci := 9) F hm mM_last_i mM_last_n lW_49 dW_law_443 rfl rfl rfl (by first | exact h1 | exact hM.mo.o) (by decide) (by omega) (by omega) (Nat.le_of_ble_eq_true rfl) (wM_last hM (fun v443 m443 r443 => ?_))
  refine aw_icmp_eq (q := 449) (t := 1652) F dW_law_446 rfl (by decide) (fun c446 => ?_) (fun c446 => by exact absurd rfl c446)
  exact nx _ _ _ _ _ _ _ _ _ (h.st d439 f439 m443 r443) (by omega) (by omega)
theorem ca_can {nm : String} (hX : CX X nm b L xs) (hP : PX V σ ow y l S kn k n c i L) (nx : NX X i c) : AW X 451 [some (vR (BG + 39)), some (vR 1), some (vR 53), some (vR 64), some (vI i), none, none] [] (V, σ) k n := by
  obtain ⟨F, hm, HS, hA, hL⟩ := hX
  obtain ⟨h, hk, hn, hc, h0, hi⟩ := hP
  have hBG : BG = 1000000000 := rfl
  have hcr : crd kn ≤ 95000 := crd_le kn
  have h1 := h.o1
  refine aw_sz hA (fun hz => ?_)
  have hz : sX σ ≤ k + 1 := hz
  refine aw_aload_1 (q := 452) F dW_law_451 rfl ?_
  refine aw_aload_0 (q := 453) F dW_law_452 rfl ?_
  refine aw_iload_4 (q := 455) F dW_law_453 rfl ?_
  refine aw_iconst (q := 456) F dW_law_455 rfl (by decide) ?_
  refine aw_iadd (q := 457) F dW_law_456 rfl (by constructor <;> omega) ?_
  refine aw_sld (q := 458) F HS dW_law_457 rfl (by omega) (by omega) ?_
  refine av_callV1 (q := 461) (ci := 7) F hm mL_can_i mL_can_n lW_50 dW_law_458 rfl rfl rfl (by first | exact h1 | exact hM.mo.o) (by decide) (by omega) (by omega) (Nat.le_of_ble_eq_true rfl) (wL_can h.cw (fun v458 sg458 w458 y458 d458 f458 => ?_))
  have hM := h.m1 f458
  refine aw_aload_2 (q := 462) F dW_law_461 rfl ?_
  refine aw_aload_0 (q := 463) F dW_law_462 rfl ?_
  refine aw_iload_4 (q := 465) F dW_law_463 rfl ?_
  refine aw_iconst (q := 466) F dW_law_465 rfl (by decide) ?_
  refine aw_iadd (q := 467) F dW_law_466 rfl (by constructor <;> omega) ?_
  refine aw_sld (q := 468) F HS dW_law_467 rfl (by omega) (by omega) ?_
  refine av_callV1 (q := 471) (ci := 9) F hm mM_can_i mM_can_n lW_53 dW_law_468 rfl rfl rfl (by first | exact h1 | exact hM.mo.o) (by decide) (by omega) (by omega) (Nat.le_of_ble_eq_true rfl) (wM_can hM (fun v468 m468 r468 => ?_))
  refine aw_icmp_eq (q := 474) (t := 1652) F dW_law_471 rfl (by decide) (fun c471 => ?_) (fun c471 => by exact absurd rfl c471)
  exact nx _ _ _ _ _ _ _ _ _ (h.st d458 f458 m468 r468) (by omega) (by omega)
theorem ca_choices {nm : String} (hX : CX X nm b L xs) (hP : PX V σ ow y l S kn k n c i L) (nx : NX X i c) : AW X 476 [some (vR (BG + 39)), some (vR 1), some (vR 53), some (vR 64), some (vI i), none, none] [] (V, σ) k n := by
  obtain ⟨F, hm, HS, hA, hL⟩ := hX
  obtain ⟨h, hk, hn, hc, h0, hi⟩ := hP
  have hBG : BG = 1000000000 := rfl
  have hcr : crd kn ≤ 95000 := crd_le kn
  have h1 := h.o1
  refine aw_sz hA (fun hz => ?_)
  have hz : sX σ ≤ k + 1 := hz
  refine aw_aload_1 (q := 477) F dW_law_476 rfl ?_
  refine av_callV0 (q := 480) (ci := 7) F hm mL_choices_i mL_choices_n lW_54 dW_law_477 rfl rfl rfl (by first | exact h1 | exact hM.mo.o) (by decide) (by omega) (by omega) (Nat.le_of_ble_eq_true rfl) (wL_choices h.cw (fun v477 sg477 w477 y477 d477 f477 => ?_))
  have hM := h.m1 f477
  refine aw_aload_2 (q := 481) F dW_law_480 rfl ?_
  refine av_callV0 (q := 484) (ci := 9) F hm mM_choices_i mM_choices_n lW_57 dW_law_481 rfl rfl rfl (by first | exact h1 | exact hM.mo.o) (by decide) (by omega) (by omega) (Nat.le_of_ble_eq_true rfl) (wM_choices hM (fun v481 m481 r481 => ?_))
  refine aw_icmp_eq (q := 487) (t := 1652) F dW_law_484 rfl (by decide) (fun c484 => ?_) (fun c484 => by exact absurd rfl c484)
  exact nx _ _ _ _ _ _ _ _ _ (h.st d477 f477 m481 r481) (by omega) (by omega)
end Caser
