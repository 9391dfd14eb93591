theorem dW_law_489 : decode code 489 = .ok (.aload_n 1, 1) := by decide +kernel
theorem dW_law_490 : decode code 490 = .ok (.invokevirtual 58, 3) := by decide +kernel
theorem dW_law_493 : decode code 493 = .ok (.aload_n 2, 1) := by decide +kernel
theorem dW_law_494 : decode code 494 = .ok (.invokevirtual 61, 3) := by decide +kernel
theorem dW_law_497 : decode code 497 = .ok (.if_icmp .eq 1155, 3) := by decide +kernel
theorem dW_law_500 : decode code 500 = .ok (.iconst 0, 1) := by decide +kernel
theorem dW_law_501 : decode code 501 = .ok (.ireturn, 1) := by decide +kernel
theorem dW_law_502 : decode code 502 = .ok (.aload_n 1, 1) := by decide +kernel
theorem dW_law_503 : decode code 503 = .ok (.invokevirtual 62, 3) := by decide +kernel
theorem dW_law_506 : decode code 506 = .ok (.aload_n 2, 1) := by decide +kernel
theorem dW_law_507 : decode code 507 = .ok (.invokevirtual 65, 3) := by decide +kernel
theorem dW_law_510 : decode code 510 = .ok (.if_icmp .eq 1142, 3) := by decide +kernel
theorem dW_law_513 : decode code 513 = .ok (.iconst 0, 1) := by decide +kernel
theorem dW_law_514 : decode code 514 = .ok (.ireturn, 1) := by decide +kernel
theorem dW_law_515 : decode code 515 = .ok (.aload_n 1, 1) := by decide +kernel
theorem dW_law_516 : decode code 516 = .ok (.aload_n 0, 1) := by decide +kernel
theorem dW_law_517 : decode code 517 = .ok (.iload 4, 2) := by decide +kernel
theorem dW_law_519 : decode code 519 = .ok (.iconst 1, 1) := by decide +kernel
theorem dW_law_520 : decode code 520 = .ok (.iadd, 1) := by decide +kernel
theorem dW_law_521 : decode code 521 = .ok (.iaload, 1) := by decide +kernel
theorem dW_law_522 : decode code 522 = .ok (.invokevirtual 66, 3) := by decide +kernel
theorem dW_law_525 : decode code 525 = .ok (.aload_n 2, 1) := by decide +kernel
theorem dW_law_526 : decode code 526 = .ok (.aload_n 0, 1) := by decide +kernel
theorem dW_law_527 : decode code 527 = .ok (.iload 4, 2) := by decide +kernel
theorem dW_law_529 : decode code 529 = .ok (.iconst 1, 1) := by decide +kernel
theorem dW_law_530 : decode code 530 = .ok (.iadd, 1) := by decide +kernel
theorem dW_law_531 : decode code 531 = .ok (.iaload, 1) := by decide +kernel
theorem dW_law_532 : decode code 532 = .ok (.invokevirtual 69, 3) := by decide +kernel
theorem dW_law_535 : decode code 535 = .ok (.if_icmp .eq 1117, 3) := by decide +kernel
theorem dW_law_538 : decode code 538 = .ok (.iconst 0, 1) := by decide +kernel
theorem dW_law_539 : decode code 539 = .ok (.ireturn, 1) := by decide +kernel
theorem dW_law_540 : decode code 540 = .ok (.aload_n 1, 1) := by decide +kernel
theorem dW_law_541 : decode code 541 = .ok (.aload_n 0, 1) := by decide +kernel
theorem dW_law_542 : decode code 542 = .ok (.iload 4, 2) := by decide +kernel
theorem dW_law_544 : decode code 544 = .ok (.iconst 1, 1) := by decide +kernel
theorem dW_law_545 : decode code 545 = .ok (.iadd, 1) := by decide +kernel
theorem dW_law_546 : decode code 546 = .ok (.iaload, 1) := by decide +kernel
theorem dW_law_547 : decode code 547 = .ok (.aload_n 0, 1) := by decide +kernel
theorem dW_law_548 : decode code 548 = .ok (.iload 4, 2) := by decide +kernel
theorem dW_law_550 : decode code 550 = .ok (.iconst 2, 1) := by decide +kernel
theorem dW_law_551 : decode code 551 = .ok (.iadd, 1) := by decide +kernel
theorem dW_law_552 : decode code 552 = .ok (.iaload, 1) := by decide +kernel
theorem dW_law_553 : decode code 553 = .ok (.invokevirtual 70, 3) := by decide +kernel
theorem dW_law_556 : decode code 556 = .ok (.aload_n 2, 1) := by decide +kernel
theorem dW_law_557 : decode code 557 = .ok (.aload_n 0, 1) := by decide +kernel
theorem dW_law_558 : decode code 558 = .ok (.iload 4, 2) := by decide +kernel
theorem dW_law_560 : decode code 560 = .ok (.iconst 1, 1) := by decide +kernel
theorem dW_law_561 : decode code 561 = .ok (.iadd, 1) := by decide +kernel
theorem dW_law_562 : decode code 562 = .ok (.iaload, 1) := by decide +kernel
theorem dW_law_563 : decode code 563 = .ok (.aload_n 0, 1) := by decide +kernel
theorem dW_law_564 : decode code 564 = .ok (.iload 4, 2) := by decide +kernel
theorem dW_law_566 : decode code 566 = .ok (.iconst 2, 1) := by decide +kernel
theorem dW_law_567 : decode code 567 = .ok (.iadd, 1) := by decide +kernel
theorem dW_law_568 : decode code 568 = .ok (.iaload, 1) := by decide +kernel
theorem dW_law_569 : decode code 569 = .ok (.invokevirtual 73, 3) := by decide +kernel
theorem dW_law_572 : decode code 572 = .ok (.if_icmp .eq 1080, 3) := by decide +kernel
theorem dW_law_575 : decode code 575 = .ok (.iconst 0, 1) := by decide +kernel
theorem dW_law_576 : decode code 576 = .ok (.ireturn, 1) := by decide +kernel
theorem dW_law_577 : decode code 577 = .ok (.aload_n 1, 1) := by decide +kernel
theorem dW_law_578 : decode code 578 = .ok (.aload_n 0, 1) := by decide +kernel
theorem dW_law_579 : decode code 579 = .ok (.iload 4, 2) := by decide +kernel
theorem dW_law_581 : decode code 581 = .ok (.iconst 1, 1) := by decide +kernel
theorem dW_law_582 : decode code 582 = .ok (.iadd, 1) := by decide +kernel
theorem dW_law_583 : decode code 583 = .ok (.iaload, 1) := by decide +kernel
theorem dW_law_584 : decode code 584 = .ok (.invokevirtual 74, 3) := by decide +kernel
theorem dW_law_587 : decode code 587 = .ok (.aload_n 2, 1) := by decide +kernel
theorem dW_law_588 : decode code 588 = .ok (.aload_n 0, 1) := by decide +kernel
theorem dW_law_589 : decode code 589 = .ok (.iload 4, 2) := by decide +kernel
theorem dW_law_591 : decode code 591 = .ok (.iconst 1, 1) := by decide +kernel
theorem dW_law_592 : decode code 592 = .ok (.iadd, 1) := by decide +kernel
theorem dW_law_593 : decode code 593 = .ok (.iaload, 1) := by decide +kernel
theorem dW_law_594 : decode code 594 = .ok (.invokevirtual 77, 3) := by decide +kernel
theorem dW_law_597 : decode code 597 = .ok (.if_icmp .eq 1055, 3) := by decide +kernel
theorem dW_law_600 : decode code 600 = .ok (.iconst 0, 1) := by decide +kernel
theorem dW_law_601 : decode code 601 = .ok (.ireturn, 1) := by decide +kernel
section Cases
variable {X : CT} {b L : Nat} {xs : Nat → Int32} {V : Nat → Nat → Int} {σ : Shp} {ow : Nat → Nat} {y : Dy} {l : Nat} {S : PS} {kn : Bool} {k n c : Nat} {i : Int}
theorem ca_seen {nm : String} (hX : CX X nm b L xs) (hP : PX V σ ow y l S kn k n c i L) (nx : NX X i c) : AW X 489 [some (vR (BG + 39)), some (vR 1), some (vR 53), some (vR 64), some (vI i), none, none] [] (V, σ) k n := by
  obtain ⟨F, hm, HS, hA, hL⟩ := hX
  obtain ⟨h, hk, hn, hc, h0, hi⟩ := hP
  have hBG : BG = 1000000000 := rfl
  have hcr : crd kn ≤ 95000 := crd_le kn
  have h1 := h.o1
  refine aw_sz hA (fun hz => ?_)
  have hz : sX σ ≤ k + 1 := hz
  refine aw_aload_1 (q := 490) F dW_law_489 rfl ?_
  refine av_callV0 (q := 493) (ci := 7) F hm mL_seen_i mL_seen_n lW_58 dW_law_490 rfl rfl rfl (by first | exact h1 | exact hM.mo.o) (by decide) (by omega) (by omega) (Nat.le_of_ble_eq_true rfl) (wL_seen h.cw (fun v490 sg490 w490 y490 d490 f490 => ?_))
  have hM := h.m1 f490
  refine aw_aload_2 (q := 494) F dW_law_493 rfl ?_
  refine av_callV0 (q := 497) (ci := 9) F hm mM_seen_i mM_seen_n lW_61 dW_law_494 rfl rfl rfl (by first | exact h1 | exact hM.mo.o) (by decide) (by omega) (by omega) (Nat.le_of_ble_eq_true rfl) (wM_seen hM (fun v494 m494 r494 => ?_))
  refine aw_icmp_eq (q := 500) (t := 1652) F dW_law_497 rfl (by decide) (fun c497 => ?_) (fun c497 => by exact absurd rfl c497)
  exact nx _ _ _ _ _ _ _ _ _ (h.st d490 f490 m494 r494) (by omega) (by omega)
theorem ca_shutIn {nm : String} (hX : CX X nm b L xs) (hP : PX V σ ow y l S kn k n c i L) (nx : NX X i c) : AW X 502 [some (vR (BG + 39)), some (vR 1), some (vR 53), some (vR 64), some (vI i), none, none] [] (V, σ) k n := by
  obtain ⟨F, hm, HS, hA, hL⟩ := hX
  obtain ⟨h, hk, hn, hc, h0, hi⟩ := hP
  have hBG : BG = 1000000000 := rfl
  have hcr : crd kn ≤ 95000 := crd_le kn
  have h1 := h.o1
  refine aw_sz hA (fun hz => ?_)
  have hz : sX σ ≤ k + 1 := hz
  refine aw_aload_1 (q := 503) F dW_law_502 rfl ?_
  refine av_callV0 (q := 506) (ci := 7) F hm mL_shutIn_i mL_shutIn_n lW_62 dW_law_503 rfl rfl rfl (by first | exact h1 | exact hM.mo.o) (by decide) (by omega) (by omega) (Nat.le_of_ble_eq_true rfl) (wL_shutIn h.cw (fun v503 sg503 w503 y503 d503 f503 => ?_))
  have hM := h.m1 f503
  refine aw_aload_2 (q := 507) F dW_law_506 rfl ?_
  refine av_callV0 (q := 510) (ci := 9) F hm mM_shutIn_i mM_shutIn_n lW_65 dW_law_507 rfl rfl rfl (by first | exact h1 | exact hM.mo.o) (by decide) (by omega) (by omega) (Nat.le_of_ble_eq_true rfl) (wM_shutIn hM (fun v507 m507 r507 => ?_))
  refine aw_icmp_eq (q := 513) (t := 1652) F dW_law_510 rfl (by decide) (fun c510 => ?_) (fun c510 => by exact absurd rfl c510)
  exact nx _ _ _ _ _ _ _ _ _ (h.st d503 f503 m507 r507) (by omega) (by omega)
theorem ca_errand {nm : String} (hX : CX X nm b L xs) (hP : PX V σ ow y l S kn k n c i L) (nx : NX X i c) : AW X 515 [some (vR (BG + 39)), some (vR 1), some (vR 53), some (vR 64), some (vI i), none, none] [] (V, σ) k n := by
  obtain ⟨F, hm, HS, hA, hL⟩ := hX
  obtain ⟨h, hk, hn, hc, h0, hi⟩ := hP
  have hBG : BG = 1000000000 := rfl
  have hcr : crd kn ≤ 95000 := crd_le kn
  have h1 := h.o1
  refine aw_sz hA (fun hz => ?_)
  have hz : sX σ ≤ k + 1 := hz
  refine aw_aload_1 (q := 516) F dW_law_515 rfl ?_
  refine aw_aload_0 (q := 517) F dW_law_516 rfl ?_
  refine aw_iload_4 (q := 519) F dW_law_517 rfl ?_
  refine aw_iconst (q := 520) F dW_law_519 rfl (by decide) ?_
  refine aw_iadd (q := 521) F dW_law_520 rfl (by constructor <;> omega) ?_
  refine aw_sld (q := 522) F HS dW_law_521 rfl (by omega) (by omega) ?_
  refine av_callV1 (q := 525) (ci := 7) F hm mL_errand_i mL_errand_n lW_66 dW_law_522 rfl rfl rfl (by first | exact h1 | exact hM.mo.o) (by decide) (by omega) (by omega) (Nat.le_of_ble_eq_true rfl) (wL_errand (by omega) h.cw (fun v522 sg522 w522 y522 d522 f522 => ?_))
  have hM := h.m1 f522
  refine aw_aload_2 (q := 526) F dW_law_525 rfl ?_
  refine aw_aload_0 (q := 527) F dW_law_526 rfl ?_
  refine aw_iload_4 (q := 529) F dW_law_527 rfl ?_
  refine aw_iconst (q := 530) F dW_law_529 rfl (by decide) ?_
  refine aw_iadd (q := 531) F dW_law_530 rfl (by constructor <;> omega) ?_
  refine aw_sld (q := 532) F HS dW_law_531 rfl (by omega) (by omega) ?_
  refine av_callV1 (q := 535) (ci := 9) F hm mM_errand_i mM_errand_n lW_69 dW_law_532 rfl rfl rfl (by first | exact h1 | exact hM.mo.o) (by decide) (by omega) (by omega) (Nat.le_of_ble_eq_true rfl) (wM_errand hM (fun v532 m532 r532 => ?_))
  refine aw_icmp_eq (q := 538) (t := 1652) F dW_law_535 rfl (by decide) (fun c535 => ?_) (fun c535 => by exact absurd rfl c535)
  exact nx _ _ _ _ _ _ _ _ _ (h.st d522 f522 m532 r532) (by omega) (by omega)
theorem ca_errandAt {nm : String} (hX : CX X nm b L xs) (hP : PX V σ ow y l S kn k n c i L) (nx : NX X i c) : AW X 540 [some (vR (BG + 39)), some (vR 1), some (vR 53), some (vR 64), some (vI i), none, none] [] (V, σ) k n := by
  obtain ⟨F, hm, HS, hA, hL⟩ := hX
  obtain ⟨h, hk, hn, hc, h0, hi⟩ := hP
  have hBG : BG = 1000000000 := rfl
  have hcr : crd kn ≤ 95000 := crd_le kn
  have h1 := h.o1
  refine aw_sz hA (fun hz => ?_)
  have hz : sX σ ≤ k + 1 := hz
  refine aw_aload_1 (q := 541) F dW_law_540 rfl ?_
  refine aw_aload_0 (q := 542) F dW_law_541 rfl ?_
  refine aw_iload_4 (q := 544) F dW_law_542 rfl ?_
  refine aw_iconst (q := 545) F dW_law_544 rfl (by decide) ?_
  refine aw_iadd (q := 546) F dW_law_545 rfl (by constructor <;> omega) ?_
  refine aw_sld (q := 547) F HS dW_law_546 rfl (by omega) (by omega) ?_
  refine aw_aload_0 (q := 548) F dW_law_547 rfl ?_
  refine aw_iload_4 (q := 550) F dW_law_548 rfl ?_
  refine aw_iconst (q := 551) F dW_law_550 rfl (by decide) ?_
  refine aw_iadd (q := 552) F dW_law_551 rfl (by constructor <;> omega) ?_
  refine aw_sld (q := 553) F HS dW_law_552 rfl (by omega) (by omega) ?_
  refine av_callV2 (q := 556) (ci := 7) F hm mL_errandAt_i mL_errandAt_n lW_70 dW_law_553 rfl rfl rfl (by first | exact h1 | exact hM.mo.o) (by decide) (by omega) (by omega) (Nat.le_of_ble_eq_true rfl) (wL_errandAt (by omega) h.cw (fun v553 sg553 w553 y553 d553 f553 => ?_))
  have hM := h.m1 f553
  refine aw_aload_2 (q := 557) F dW_law_556 rfl ?_
  refine aw_aload_0 (q := 558) F dW_law_557 rfl ?_
  refine aw_iload_4 (q := 560) F dW_law_558 rfl ?_
  refine aw_iconst (q := 561) F dW_law_560 rfl (by decide) ?_
  refine aw_iadd (q := 562) F dW_law_561 rfl (by constructor <;> omega) ?_
  refine aw_sld (q := 563) F HS dW_law_562 rfl (by omega) (by omega) ?_
  refine aw_aload_0 (q := 564) F dW_law_563 rfl ?_
  refine aw_iload_4 (q := 566) F dW_law_564 rfl ?_
  refine aw_iconst (q := 567) F dW_law_566 rfl (by decide) ?_
  refine aw_iadd (q := 568) F dW_law_567 rfl (by constructor <;> omega) ?_
  refine aw_sld (q := 569) F HS dW_law_568 rfl (by omega) (by omega) ?_
  refine av_callV2 (q := 572) (ci := 9) F hm mM_errandAt_i mM_errandAt_n lW_73 dW_law_569 rfl rfl rfl (by first | exact h1 | exact hM.mo.o) (by decide) (by omega) (by omega) (Nat.le_of_ble_eq_true rfl) (wM_errandAt hM (fun v569 m569 r569 => ?_))
  refine aw_icmp_eq (q := 575) (t := 1652) F dW_law_572 rfl (by decide) (fun c572 => ?_) (fun c572 => by exact absurd rfl c572)
  exact nx _ _ _ _ _ _ _ _ _ (h.st d553 f553 m569 r569) (by omega) (by omega)
theorem ca_shuttings {nm : String} (hX : CX X nm b L xs) (hP : PX V σ ow y l S kn k n c i L) (nx : NX X i c) : AW X 577 [some (vR (BG + 39)), some (vR 1), some (vR 53), some (vR 64), some (vI i), none, none] [] (V, σ) k n := by
  obtain ⟨F, hm, HS, hA, hL⟩ := hX
  obtain ⟨h, hk, hn, hc, h0, hi⟩ := hP
  have hBG : BG = 1000000000 := rfl
  have hcr : crd kn ≤ 95000 := crd_le kn
  have h1 := h.o1
  refine aw_sz hA (fun hz => ?_)
  have hz : sX σ ≤ k + 1 := hz
  refine aw_aload_1 (q := 578) F dW_law_577 rfl ?_
  refine aw_aload_0 (q := 579) F dW_law_578 rfl ?_
  refine aw_iload_4 (q := 581) F dW_law_579 rfl ?_
  refine aw_iconst (q := 582) F dW_law_581 rfl (by decide) ?_
  refine aw_iadd (q := 583) F dW_law_582 rfl (by constructor <;> omega) ?_
  refine aw_sld (q := 584) F HS dW_law_583 rfl (by omega) (by omega) ?_
  refine av_callV1 (q := 587) (ci := 7) F hm mL_shuttings_i mL_shuttings_n lW_74 dW_law_584 rfl rfl rfl (by first | exact h1 | exact hM.mo.o) (by decide) (by omega) (by omega) (Nat.le_of_ble_eq_true rfl) (wL_shuttings (by omega) h.cw (fun v584 sg584 w584 y584 d584 f584 => ?_))
  have hM := h.m1 f584
  refine aw_aload_2 (q := 588) F dW_law_587 rfl ?_
  refine aw_aload_0 (q := 589) F dW_law_588 rfl ?_
  refine aw_iload_4 (q := 591) F dW_law_589 rfl ?_
  refine aw_iconst (q := 592) F dW_law_591 rfl (by decide) ?_
  refine aw_iadd (q := 593) F dW_law_592 rfl (by constructor <;> omega) ?_
  refine aw_sld (q := 594) F HS dW_law_593 rfl (by omega) (by omega) ?_
  refine av_callV1 (q := 597) (ci := 9) F hm mM_shuttings_i mM_shuttings_n lW_77 dW_law_594 rfl rfl rfl (by first | exact h1 | exact hM.mo.o) (by decide) (by omega) (by omega) (Nat.le_of_ble_eq_true rfl) (wM_shuttings (Q := mxQ (dL2 y) (spc (psC S))) (mxQ_le _ _) hM (fun v594 m594 r594 => ?_))
  refine aw_icmp_eq (q := 600) (t := 1652) F dW_law_597 rfl (by decide) (fun c597 => ?_) (fun c597 => by exact absurd rfl c597)
  exact nx _ _ _ _ _ _ _ _ _ (h.st d584 f584 m594 r594) (by omega) (by omega)
end Cases
