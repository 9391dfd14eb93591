theorem dW_law_602 : decode code 602 = .ok (.aload_n 1, 1) := by decide +kernel
theorem dW_law_603 : decode code 603 = .ok (.aload_n 0, 1) := by decide +kernel
theorem dW_law_604 : decode code 604 = .ok (.iload 4, 2) := by decide +kernel
theorem dW_law_606 : decode code 606 = .ok (.iconst 1, 1) := by decide +kernel
theorem dW_law_607 : decode code 607 = .ok (.iadd, 1) := by decide +kernel
theorem dW_law_608 : decode code 608 = .ok (.iaload, 1) := by decide +kernel
theorem dW_law_609 : decode code 609 = .ok (.aload_n 0, 1) := by decide +kernel
theorem dW_law_610 : decode code 610 = .ok (.iload 4, 2) := by decide +kernel
theorem dW_law_612 : decode code 612 = .ok (.iconst 2, 1) := by decide +kernel
theorem dW_law_613 : decode code 613 = .ok (.iadd, 1) := by decide +kernel
theorem dW_law_614 : decode code 614 = .ok (.iaload, 1) := by decide +kernel
theorem dW_law_615 : decode code 615 = .ok (.invokevirtual 78, 3) := by decide +kernel
theorem dW_law_618 : decode code 618 = .ok (.aload_n 2, 1) := by decide +kernel
theorem dW_law_619 : decode code 619 = .ok (.aload_n 0, 1) := by decide +kernel
theorem dW_law_620 : decode code 620 = .ok (.iload 4, 2) := by decide +kernel
theorem dW_law_622 : decode code 622 = .ok (.iconst 1, 1) := by decide +kernel
theorem dW_law_623 : decode code 623 = .ok (.iadd, 1) := by decide +kernel
theorem dW_law_624 : decode code 624 = .ok (.iaload, 1) := by decide +kernel
theorem dW_law_625 : decode code 625 = .ok (.aload_n 0, 1) := by decide +kernel
theorem dW_law_626 : decode code 626 = .ok (.iload 4, 2) := by decide +kernel
theorem dW_law_628 : decode code 628 = .ok (.iconst 2, 1) := by decide +kernel
theorem dW_law_629 : decode code 629 = .ok (.iadd, 1) := by decide +kernel
theorem dW_law_630 : decode code 630 = .ok (.iaload, 1) := by decide +kernel
theorem dW_law_631 : decode code 631 = .ok (.invokevirtual 81, 3) := by decide +kernel
theorem dW_law_634 : decode code 634 = .ok (.if_icmp .eq 1018, 3) := by decide +kernel
theorem dW_law_637 : decode code 637 = .ok (.iconst 0, 1) := by decide +kernel
theorem dW_law_638 : decode code 638 = .ok (.ireturn, 1) := by decide +kernel
theorem dW_law_639 : decode code 639 = .ok (.aload_n 1, 1) := by decide +kernel
theorem dW_law_640 : decode code 640 = .ok (.aload_n 0, 1) := by decide +kernel
theorem dW_law_641 : decode code 641 = .ok (.iload 4, 2) := by decide +kernel
theorem dW_law_643 : decode code 643 = .ok (.iconst 1, 1) := by decide +kernel
theorem dW_law_644 : decode code 644 = .ok (.iadd, 1) := by decide +kernel
theorem dW_law_645 : decode code 645 = .ok (.iaload, 1) := by decide +kernel
theorem dW_law_646 : decode code 646 = .ok (.invokevirtual 82, 3) := by decide +kernel
theorem dW_law_649 : decode code 649 = .ok (.aload_n 2, 1) := by decide +kernel
theorem dW_law_650 : decode code 650 = .ok (.aload_n 0, 1) := by decide +kernel
theorem dW_law_651 : decode code 651 = .ok (.iload 4, 2) := by decide +kernel
theorem dW_law_653 : decode code 653 = .ok (.iconst 1, 1) := by decide +kernel
theorem dW_law_654 : decode code 654 = .ok (.iadd, 1) := by decide +kernel
theorem dW_law_655 : decode code 655 = .ok (.iaload, 1) := by decide +kernel
theorem dW_law_656 : decode code 656 = .ok (.invokevirtual 85, 3) := by decide +kernel
theorem dW_law_659 : decode code 659 = .ok (.if_icmp .eq 993, 3) := by decide +kernel
theorem dW_law_662 : decode code 662 = .ok (.iconst 0, 1) := by decide +kernel
theorem dW_law_663 : decode code 663 = .ok (.ireturn, 1) := by decide +kernel
theorem dW_law_664 : decode code 664 = .ok (.aload_n 1, 1) := by decide +kernel
theorem dW_law_665 : decode code 665 = .ok (.invokevirtual 86, 3) := by decide +kernel
theorem dW_law_668 : decode code 668 = .ok (.aload_n 2, 1) := by decide +kernel
theorem dW_law_669 : decode code 669 = .ok (.invokevirtual 89, 3) := by decide +kernel
theorem dW_law_672 : decode code 672 = .ok (.if_icmp .eq 980, 3) := by decide +kernel
theorem dW_law_675 : decode code 675 = .ok (.iconst 0, 1) := by decide +kernel
theorem dW_law_676 : decode code 676 = .ok (.ireturn, 1) := by decide +kernel
theorem dW_law_677 : decode code 677 = .ok (.aload_n 1, 1) := by decide +kernel
theorem dW_law_678 : decode code 678 = .ok (.invokevirtual 90, 3) := by decide +kernel
theorem dW_law_681 : decode code 681 = .ok (.aload_n 2, 1) := by decide +kernel
theorem dW_law_682 : decode code 682 = .ok (.invokevirtual 93, 3) := by decide +kernel
theorem dW_law_685 : decode code 685 = .ok (.if_icmp .eq 967, 3) := by decide +kernel
theorem dW_law_688 : decode code 688 = .ok (.iconst 0, 1) := by decide +kernel
theorem dW_law_689 : decode code 689 = .ok (.ireturn, 1) := by decide +kernel
theorem dW_law_690 : decode code 690 = .ok (.aload_n 1, 1) := by decide +kernel
theorem dW_law_691 : decode code 691 = .ok (.invokevirtual 94, 3) := by decide +kernel
theorem dW_law_694 : decode code 694 = .ok (.aload_n 2, 1) := by decide +kernel
theorem dW_law_695 : decode code 695 = .ok (.invokevirtual 97, 3) := by decide +kernel
theorem dW_law_698 : decode code 698 = .ok (.if_icmp .eq 954, 3) := by decide +kernel
theorem dW_law_701 : decode code 701 = .ok (.iconst 0, 1) := by decide +kernel
theorem dW_law_702 : decode code 702 = .ok (.ireturn, 1) := by decide +kernel
theorem dW_law_703 : decode code 703 = .ok (.aload_n 1, 1) := by decide +kernel
theorem dW_law_704 : decode code 704 = .ok (.invokevirtual 98, 3) := by decide +kernel
theorem dW_law_707 : decode code 707 = .ok (.aload_n 2, 1) := by decide +kernel
theorem dW_law_708 : decode code 708 = .ok (.invokevirtual 101, 3) := by decide +kernel
theorem dW_law_711 : decode code 711 = .ok (.if_icmp .eq 941, 3) := by decide +kernel
theorem dW_law_714 : decode code 714 = .ok (.iconst 0, 1) := by decide +kernel
theorem dW_law_715 : decode code 715 = .ok (.ireturn, 1) := by decide +kernel
section Caset
variable {X : CT} {b L : Nat} {xs : Nat → Int32} {V : Nat → Nat → Int} {σ : Shp} {ow : Nat → Nat} {y : Dy} {l : Nat} {S : PS} {kn : Bool} {k n c : Nat} {i : Int}
theorem ca_wayTo {nm : String} (hX : CX X nm b L xs) (hP : PX V σ ow y l S kn k n c i L) (nx : NX X i c) : AW X 602 [some (vR (BG + 39)), some (vR 1), some (vR 53), some (vR 64), some (vI i), none, none] [] (V, σ) k n := by
  obtain ⟨F, hm, HS, hA, hL⟩ := hX
  obtain ⟨h, hk, hn, hc, h0, hi⟩ := hP
  have hBG : BG = 1000000000 := rfl
  have hcr : crd kn ≤ 95000 := crd_le kn
  have h1 := h.o1
  refine aw_sz hA (fun hz => ?_)
  have hz : sX σ ≤ k + 1 := hz
  refine aw_aload_1 (q := 603) F dW_law_602 rfl ?_
  refine aw_aload_0 (q := 604) F dW_law_603 rfl ?_
  refine aw_iload_4 (q := 606) F dW_law_604 rfl ?_
  refine aw_iconst (q := 607) F dW_law_606 rfl (by decide) ?_
  refine aw_iadd (q := 608) F dW_law_607 rfl (by constructor <;> omega) ?_
  refine aw_sld (q := 609) F HS dW_law_608 rfl (by omega) (by omega) ?_
  refine aw_aload_0 (q := 610) F dW_law_609 rfl ?_
  refine aw_iload_4 (q := 612) F dW_law_610 rfl ?_
  refine aw_iconst (q := 613) F dW_law_612 rfl (by decide) ?_
  refine aw_iadd (q := 614) F dW_law_613 rfl (by constructor <;> omega) ?_
  refine aw_sld (q := 615) F HS dW_law_614 rfl (by omega) (by omega) ?_
  refine av_callV2 (q := 618) (ci := 7) F hm mL_wayTo_i mL_wayTo_n lW_78 dW_law_615 rfl rfl rfl (by first | exact h1 | exact hM.mo.o) (by decide) (by omega) (by omega) (Nat.le_of_ble_eq_true rfl) (wL_wayTo (by omega) h.cw (fun v615 sg615 w615 y615 d615 f615 => ?_))
  have hM := h.m1 f615
  refine aw_aload_2 (q := 619) F dW_law_618 rfl ?_
  refine aw_aload_0 (q := 620) F dW_law_619 rfl ?_
  refine aw_iload_4 (q := 622) F dW_law_620 rfl ?_
  refine aw_iconst (q := 623) F dW_law_622 rfl (by decide) ?_
  refine aw_iadd (q := 624) F dW_law_623 rfl (by constructor <;> omega) ?_
  refine aw_sld (q := 625) F HS dW_law_624 rfl (by omega) (by omega) ?_
  refine aw_aload_0 (q := 626) F dW_law_625 rfl ?_
  refine aw_iload_4 (q := 628) F dW_law_626 rfl ?_
  refine aw_iconst (q := 629) F dW_law_628 rfl (by decide) ?_
  refine aw_iadd (q := 630) F dW_law_629 rfl (by constructor <;> omega) ?_
  refine aw_sld (q := 631) F HS dW_law_630 rfl (by omega) (by omega) ?_
  refine av_callV2 (q := 634) (ci := 9) F hm mM_wayTo_i mM_wayTo_n lW_81 dW_law_631 rfl rfl rfl (by first | exact h1 | exact hM.mo.o) (by decide) (by omega) (by omega) (Nat.le_of_ble_eq_true rfl) (wM_wayTo hM (fun v631 m631 r631 => ?_))
  refine aw_icmp_eq (q := 637) (t := 1652) F dW_law_634 rfl (by decide) (fun c634 => ?_) (fun c634 => by exact absurd rfl c634)
  exact nx _ _ _ _ _ _ _ _ _ (h.st d615 f615 m631 r631) (by omega) (by omega)
theorem ca_comes {nm : String} (hX : CX X nm b L xs) (hP : PX V σ ow y l S kn k n c i L) (nx : NX X i c) : AW X 639 [some (vR (BG + 39)), some (vR 1), some (vR 53), some (vR 64), some (vI i), none, none] [] (V, σ) k n := by
  obtain ⟨F, hm, HS, hA, hL⟩ := hX
  obtain ⟨h, hk, hn, hc, h0, hi⟩ := hP
  have hBG : BG = 1000000000 := rfl
  have hcr : crd kn ≤ 95000 := crd_le kn
  have h1 := h.o1
  refine aw_sz hA (fun hz => ?_)
  have hz : sX σ ≤ k + 1 := hz
  refine aw_aload_1 (q := 640) F dW_law_639 rfl ?_
  refine aw_aload_0 (q := 641) F dW_law_640 rfl ?_
  refine aw_iload_4 (q := 643) F dW_law_641 rfl ?_
  refine aw_iconst (q := 644) F dW_law_643 rfl (by decide) ?_
  refine aw_iadd (q := 645) F dW_law_644 rfl (by constructor <;> omega) ?_
  refine aw_sld (q := 646) F HS dW_law_645 rfl (by omega) (by omega) ?_
  refine av_callV1 (q := 649) (ci := 7) F hm mL_comes_i mL_comes_n lW_82 dW_law_646 rfl rfl rfl (by first | exact h1 | exact hM.mo.o) (by decide) (by omega) (by omega) (Nat.le_of_ble_eq_true rfl) (wL_comes (by omega) h.cw (fun v646 sg646 w646 y646 d646 f646 => ?_))
  have hM := h.m1 f646
  refine aw_aload_2 (q := 650) F dW_law_649 rfl ?_
  refine aw_aload_0 (q := 651) F dW_law_650 rfl ?_
  refine aw_iload_4 (q := 653) F dW_law_651 rfl ?_
  refine aw_iconst (q := 654) F dW_law_653 rfl (by decide) ?_
  refine aw_iadd (q := 655) F dW_law_654 rfl (by constructor <;> omega) ?_
  refine aw_sld (q := 656) F HS dW_law_655 rfl (by omega) (by omega) ?_
  refine av_callV1 (q := 659) (ci := 9) F hm mM_comes_i mM_comes_n lW_85 dW_law_656 rfl rfl rfl (by first | exact h1 | exact hM.mo.o) (by decide) (by omega) (by omega) (Nat.le_of_ble_eq_true rfl) (wM_comes hM (fun v656 m656 r656 => ?_))
  refine aw_icmp_eq (q := 662) (t := 1652) F dW_law_659 rfl (by decide) (fun c659 => ?_) (fun c659 => by exact absurd rfl c659)
  exact nx _ _ _ _ _ _ _ _ _ (h.st d646 f646 m656 r656) (by omega) (by omega)
theorem ca_reach {nm : String} (hX : CX X nm b L xs) (hP : PX V σ ow y l S kn k n c i L) (nx : NX X i c) : AW X 664 [some (vR (BG + 39)), some (vR 1), some (vR 53), some (vR 64), some (vI i), none, none] [] (V, σ) k n := by
  obtain ⟨F, hm, HS, hA, hL⟩ := hX
  obtain ⟨h, hk, hn, hc, h0, hi⟩ := hP
  have hBG : BG = 1000000000 := rfl
  have hcr : crd kn ≤ 95000 := crd_le kn
  have h1 := h.o1
  refine aw_sz hA (fun hz => ?_)
  have hz : sX σ ≤ k + 1 := hz
  refine aw_aload_1 (q := 665) F dW_law_664 rfl ?_
  refine av_callV0 (q := 668) (ci := 7) F hm mL_reach_i mL_reach_n lW_86 dW_law_665 rfl rfl rfl (by first | exact h1 | exact hM.mo.o) (by decide) (by omega) (by omega) (Nat.le_of_ble_eq_true rfl) (wL_reach (by omega) h.cw (fun v665 sg665 w665 y665 d665 f665 => ?_))
  have hM := h.m1 f665
  refine aw_aload_2 (q := 669) F dW_law_668 rfl ?_
  refine av_callV0 (q := 672) (ci := 9) F hm mM_reach_i mM_reach_n lW_89 dW_law_669 rfl rfl rfl (by first | exact h1 | exact hM.mo.o) (by decide) (by omega) (by omega) (Nat.le_of_ble_eq_true rfl) (wM_reach hM (fun v669 m669 r669 => ?_))
  refine aw_icmp_eq (q := 675) (t := 1652) F dW_law_672 rfl (by decide) (fun c672 => ?_) (fun c672 => by exact absurd rfl c672)
  exact nx _ _ _ _ _ _ _ _ _ (h.st d665 f665 m669 r669) (by omega) (by omega)
theorem ca_placings {nm : String} (hX : CX X nm b L xs) (hP : PX V σ ow y l S kn k n c i L) (nx : NX X i c) : AW X 677 [some (vR (BG + 39)), some (vR 1), some (vR 53), some (vR 64), some (vI i), none, none] [] (V, σ) k n := by
  obtain ⟨F, hm, HS, hA, hL⟩ := hX
  obtain ⟨h, hk, hn, hc, h0, hi⟩ := hP
  have hBG : BG = 1000000000 := rfl
  have hcr : crd kn ≤ 95000 := crd_le kn
  have h1 := h.o1
  refine aw_sz hA (fun hz => ?_)
  have hz : sX σ ≤ k + 1 := hz
  refine aw_aload_1 (q := 678) F dW_law_677 rfl ?_
  refine av_callV0 (q := 681) (ci := 7) F hm mL_placings_i mL_placings_n lW_90 dW_law_678 rfl rfl rfl (by first | exact h1 | exact hM.mo.o) (by decide) (by omega) (by omega) (Nat.le_of_ble_eq_true rfl) (wL_placings (by omega) h.cw (fun v678 sg678 w678 y678 d678 f678 => ?_))
  have hM := h.m1 f678
  refine aw_aload_2 (q := 682) F dW_law_681 rfl ?_
  refine av_callV0 (q := 685) (ci := 9) F hm mM_placings_i mM_placings_n lW_93 dW_law_682 rfl rfl rfl (by first | exact h1 | exact hM.mo.o) (by decide) (by omega) (by omega) (Nat.le_of_ble_eq_true rfl) (wM_placings hM (fun v682 m682 r682 => ?_))
  refine aw_icmp_eq (q := 688) (t := 1652) F dW_law_685 rfl (by decide) (fun c685 => ?_) (fun c685 => by exact absurd rfl c685)
  exact nx _ _ _ _ _ _ _ _ _ (h.st d678 f678 m682 r682) (by omega) (by omega)
theorem ca_deepest {nm : String} (hX : CX X nm b L xs) (hP : PX V σ ow y l S kn k n c i L) (nx : NX X i c) : AW X 690 [some (vR (BG + 39)), some (vR 1), some (vR 53), some (vR 64), some (vI i), none, none] [] (V, σ) k n := by
  obtain ⟨F, hm, HS, hA, hL⟩ := hX
  obtain ⟨h, hk, hn, hc, h0, hi⟩ := hP
  have hBG : BG = 1000000000 := rfl
  have hcr : crd kn ≤ 95000 := crd_le kn
  have h1 := h.o1
  refine aw_sz hA (fun hz => ?_)
  have hz : sX σ ≤ k + 1 := hz
  refine aw_aload_1 (q := 691) F dW_law_690 rfl ?_
  refine av_callV0 (q := 694) (ci := 7) F hm mL_deepest_i mL_deepest_n lW_94 dW_law_691 rfl rfl rfl (by first | exact h1 | exact hM.mo.o) (by decide) (by omega) (by omega) (Nat.le_of_ble_eq_true rfl) (wL_deepest (by omega) h.cw (fun v691 sg691 w691 y691 d691 f691 => ?_))
  have hM := h.m1 f691
  refine aw_aload_2 (q := 695) F dW_law_694 rfl ?_
  refine av_callV0 (q := 698) (ci := 9) F hm mM_deepest_i mM_deepest_n lW_97 dW_law_695 rfl rfl rfl (by first | exact h1 | exact hM.mo.o) (by decide) (by omega) (by omega) (Nat.le_of_ble_eq_true rfl) (wM_deepest hM (fun v695 m695 r695 => ?_))
  refine aw_icmp_eq (q := 701) (t := 1652) F dW_law_698 rfl (by decide) (fun c698 => ?_) (fun c698 => by exact absurd rfl c698)
  exact nx _ _ _ _ _ _ _ _ _ (h.st d691 f691 m695 r695) (by omega) (by omega)
theorem ca_stuckOnes {nm : String} (hX : CX X nm b L xs) (hP : PX V σ ow y l S kn k n c i L) (nx : NX X i c) : AW X 703 [some (vR (BG + 39)), some (vR 1), some (vR 53), some (vR 64), some (vI i), none, none] [] (V, σ) k n := by
  obtain ⟨F, hm, HS, hA, hL⟩ := hX
  obtain ⟨h, hk, hn, hc, h0, hi⟩ := hP
  have hBG : BG = 1000000000 := rfl
  have hcr : crd kn ≤ 95000 := crd_le kn
  have h1 := h.o1
  refine aw_sz hA (fun hz => ?_)
  have hz : sX σ ≤ k + 1 := hz
  refine aw_aload_1 (q := 704) F dW_law_703 rfl ?_
  refine av_callV0 (q := 707) (ci := 7) F hm mL_stuckOnes_i mL_stuckOnes_n lW_98 dW_law_704 rfl rfl rfl (by first | exact h1 | exact hM.mo.o) (by decide) (by omega) (by omega) (Nat.le_of_ble_eq_true rfl) (wL_stuckOnes (by omega) h.cw (fun v704 sg704 w704 y704 d704 f704 => ?_))
  have hM := h.m1 f704
  refine aw_aload_2 (q := 708) F dW_law_707 rfl ?_
  refine av_callV0 (q := 711) (ci := 9) F hm mM_stuckOnes_i mM_stuckOnes_n lW_101 dW_law_708 rfl rfl rfl (by first | exact h1 | exact hM.mo.o) (by decide) (by omega) (by omega) (Nat.le_of_ble_eq_true rfl) (wM_stuckOnes hM (fun v708 m708 r708 => ?_))
  refine aw_icmp_eq (q := 714) (t := 1652) F dW_law_711 rfl (by decide) (fun c711 => ?_) (fun c711 => by exact absurd rfl c711)
  exact nx _ _ _ _ _ _ _ _ _ (h.st d704 f704 m708 r708) (by omega) (by omega)
end Caset
