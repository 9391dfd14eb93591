theorem dW_law_716 : decode code 716 = .ok (.aload_n 1, 1) := by decide +kernel
theorem dW_law_717 : decode code 717 = .ok (.aload_n 0, 1) := by decide +kernel
theorem dW_law_718 : decode code 718 = .ok (.iload 4, 2) := by decide +kernel
theorem dW_law_720 : decode code 720 = .ok (.iconst 1, 1) := by decide +kernel
theorem dW_law_721 : decode code 721 = .ok (.iadd, 1) := by decide +kernel
theorem dW_law_722 : decode code 722 = .ok (.iaload, 1) := by decide +kernel
theorem dW_law_723 : decode code 723 = .ok (.invokevirtual 102, 3) := by decide +kernel
theorem dW_law_726 : decode code 726 = .ok (.aload_n 2, 1) := by decide +kernel
theorem dW_law_727 : decode code 727 = .ok (.aload_n 0, 1) := by decide +kernel
theorem dW_law_728 : decode code 728 = .ok (.iload 4, 2) := by decide +kernel
theorem dW_law_730 : decode code 730 = .ok (.iconst 1, 1) := by decide +kernel
theorem dW_law_731 : decode code 731 = .ok (.iadd, 1) := by decide +kernel
theorem dW_law_732 : decode code 732 = .ok (.iaload, 1) := by decide +kernel
theorem dW_law_733 : decode code 733 = .ok (.invokevirtual 105, 3) := by decide +kernel
theorem dW_law_736 : decode code 736 = .ok (.if_icmp .eq 916, 3) := by decide +kernel
theorem dW_law_739 : decode code 739 = .ok (.iconst 0, 1) := by decide +kernel
theorem dW_law_740 : decode code 740 = .ok (.ireturn, 1) := by decide +kernel
theorem dW_law_741 : decode code 741 = .ok (.aload_n 1, 1) := by decide +kernel
theorem dW_law_742 : decode code 742 = .ok (.aload_n 0, 1) := by decide +kernel
theorem dW_law_743 : decode code 743 = .ok (.iload 4, 2) := by decide +kernel
theorem dW_law_745 : decode code 745 = .ok (.iconst 1, 1) := by decide +kernel
theorem dW_law_746 : decode code 746 = .ok (.iadd, 1) := by decide +kernel
theorem dW_law_747 : decode code 747 = .ok (.iaload, 1) := by decide +kernel
theorem dW_law_748 : decode code 748 = .ok (.invokevirtual 106, 3) := by decide +kernel
theorem dW_law_751 : decode code 751 = .ok (.aload_n 2, 1) := by decide +kernel
theorem dW_law_752 : decode code 752 = .ok (.aload_n 0, 1) := by decide +kernel
theorem dW_law_753 : decode code 753 = .ok (.iload 4, 2) := by decide +kernel
theorem dW_law_755 : decode code 755 = .ok (.iconst 1, 1) := by decide +kernel
theorem dW_law_756 : decode code 756 = .ok (.iadd, 1) := by decide +kernel
theorem dW_law_757 : decode code 757 = .ok (.iaload, 1) := by decide +kernel
theorem dW_law_758 : decode code 758 = .ok (.invokevirtual 109, 3) := by decide +kernel
theorem dW_law_761 : decode code 761 = .ok (.if_icmp .eq 891, 3) := by decide +kernel
theorem dW_law_764 : decode code 764 = .ok (.iconst 0, 1) := by decide +kernel
theorem dW_law_765 : decode code 765 = .ok (.ireturn, 1) := by decide +kernel
theorem dW_law_766 : decode code 766 = .ok (.aload_n 1, 1) := by decide +kernel
theorem dW_law_767 : decode code 767 = .ok (.aload_n 0, 1) := by decide +kernel
theorem dW_law_768 : decode code 768 = .ok (.iload 4, 2) := by decide +kernel
theorem dW_law_770 : decode code 770 = .ok (.iconst 1, 1) := by decide +kernel
theorem dW_law_771 : decode code 771 = .ok (.iadd, 1) := by decide +kernel
theorem dW_law_772 : decode code 772 = .ok (.iaload, 1) := by decide +kernel
theorem dW_law_773 : decode code 773 = .ok (.aload_n 0, 1) := by decide +kernel
theorem dW_law_774 : decode code 774 = .ok (.iload 4, 2) := by decide +kernel
theorem dW_law_776 : decode code 776 = .ok (.iconst 2, 1) := by decide +kernel
theorem dW_law_777 : decode code 777 = .ok (.iadd, 1) := by decide +kernel
theorem dW_law_778 : decode code 778 = .ok (.iaload, 1) := by decide +kernel
theorem dW_law_779 : decode code 779 = .ok (.invokevirtual 110, 3) := by decide +kernel
theorem dW_law_782 : decode code 782 = .ok (.aload_n 2, 1) := by decide +kernel
theorem dW_law_783 : decode code 783 = .ok (.aload_n 0, 1) := by decide +kernel
theorem dW_law_784 : decode code 784 = .ok (.iload 4, 2) := by decide +kernel
theorem dW_law_786 : decode code 786 = .ok (.iconst 1, 1) := by decide +kernel
theorem dW_law_787 : decode code 787 = .ok (.iadd, 1) := by decide +kernel
theorem dW_law_788 : decode code 788 = .ok (.iaload, 1) := by decide +kernel
theorem dW_law_789 : decode code 789 = .ok (.aload_n 0, 1) := by decide +kernel
theorem dW_law_790 : decode code 790 = .ok (.iload 4, 2) := by decide +kernel
theorem dW_law_792 : decode code 792 = .ok (.iconst 2, 1) := by decide +kernel
theorem dW_law_793 : decode code 793 = .ok (.iadd, 1) := by decide +kernel
theorem dW_law_794 : decode code 794 = .ok (.iaload, 1) := by decide +kernel
theorem dW_law_795 : decode code 795 = .ok (.invokevirtual 113, 3) := by decide +kernel
theorem dW_law_798 : decode code 798 = .ok (.if_icmp .eq 854, 3) := by decide +kernel
theorem dW_law_801 : decode code 801 = .ok (.iconst 0, 1) := by decide +kernel
theorem dW_law_802 : decode code 802 = .ok (.ireturn, 1) := by decide +kernel
theorem dW_law_803 : decode code 803 = .ok (.aload_n 1, 1) := by decide +kernel
theorem dW_law_804 : decode code 804 = .ok (.invokevirtual 114, 3) := by decide +kernel
theorem dW_law_807 : decode code 807 = .ok (.aload_n 2, 1) := by decide +kernel
theorem dW_law_808 : decode code 808 = .ok (.invokevirtual 117, 3) := by decide +kernel
theorem dW_law_811 : decode code 811 = .ok (.if_icmp .eq 841, 3) := by decide +kernel
theorem dW_law_814 : decode code 814 = .ok (.iconst 0, 1) := by decide +kernel
theorem dW_law_815 : decode code 815 = .ok (.ireturn, 1) := by decide +kernel
section Caseu
variable {X : CT} {b L : Nat} {xs : Nat → Int32} {V : Nat → Nat → Int} {σ : Shp} {ow : Nat → Nat} {y : Dy} {l : Nat} {S : PS} {kn : Bool} {k n c : Nat} {i : Int}
theorem ca_rows {nm : String} (hX : CX X nm b L xs) (hP : PX V σ ow y l S kn k n c i L) (nx : NX X i c) : AW X 716 [some (vR (BG + 39)), some (vR 1), some (vR 53), some (vR 64), some (vI i), none, none] [] (V, σ) k n := by
  obtain ⟨F, hm, HS, hA, hL⟩ := hX
  obtain ⟨h, hk, hn, hc, h0, hi⟩ := hP
  have hBG : BG = 1000000000 := rfl
  have hcr : crd kn ≤ 95000 := crd_le kn
  have h1 := h.o1
  refine aw_sz hA (fun hz => ?_)
  have hz : sX σ ≤ k + 1 := hz
  by_cases hr : 0 < tDn (psT S) ∧ 0 ≤ sv xs (i + 1) ∧ sv xs (i + 1) ≤ 6
  · have hkn : crd (knW (wy (0 < tDn (psT S)) (0 ≤ sv xs (i + 1) ∧ sv xs (i + 1) ≤ 6)) kn) = 0 := by rw [wy_1 hr.1 hr.2]; rfl
    have h5 := kn5 kn
    have h19 := kn19 kn
    refine aw_aload_1 (q := 717) F dW_law_716 rfl ?_
    refine aw_aload_0 (q := 718) F dW_law_717 rfl ?_
    refine aw_iload_4 (q := 720) F dW_law_718 rfl ?_
    refine aw_iconst (q := 721) F dW_law_720 rfl (by decide) ?_
    refine aw_iadd (q := 722) F dW_law_721 rfl (by constructor <;> omega) ?_
    refine aw_sld (q := 723) F HS dW_law_722 rfl (by omega) (by omega) ?_
    refine av_callV1 (q := 726) (ci := 7) F hm mL_rows_i mL_rows_n lW_102 dW_law_723 rfl rfl rfl (by first | exact h1 | exact hM.mo.o) (by decide) (by omega) (by omega) (Nat.le_of_ble_eq_true rfl) (wL_rows (by omega) h.cw (fun v723 sg723 w723 y723 d723 f723 => ?_))
    have hM := h.m1 f723
    refine aw_aload_2 (q := 727) F dW_law_726 rfl ?_
    refine aw_aload_0 (q := 728) F dW_law_727 rfl ?_
    refine aw_iload_4 (q := 730) F dW_law_728 rfl ?_
    refine aw_iconst (q := 731) F dW_law_730 rfl (by decide) ?_
    refine aw_iadd (q := 732) F dW_law_731 rfl (by constructor <;> omega) ?_
    refine aw_sld (q := 733) F HS dW_law_732 rfl (by omega) (by omega) ?_
    refine av_callV1 (q := 736) (ci := 9) F hm mM_rows_i mM_rows_n lW_105 dW_law_733 rfl rfl rfl (by first | exact h1 | exact hM.mo.o) (by decide) (by omega) (by omega) (Nat.le_of_ble_eq_true rfl) (wM_rows hM (fun v733 m733 r733 => ?_))
    refine aw_icmp_eq (q := 739) (t := 1652) F dW_law_736 rfl (by decide) (fun c736 => ?_) (fun c736 => by exact absurd rfl c736)
    exact nx _ _ _ _ _ _ _ _ _ (h.st d723 f723 m733 r733) (by omega) (by omega)
  · have hkn : crd (knW (wy (0 < tDn (psT S)) (0 ≤ sv xs (i + 1) ∧ sv xs (i + 1) ≤ 6)) kn) ≤ crd kn := crd_kn _ kn
    refine aw_aload_1 (q := 717) F dW_law_716 rfl ?_
    refine aw_aload_0 (q := 718) F dW_law_717 rfl ?_
    refine aw_iload_4 (q := 720) F dW_law_718 rfl ?_
    refine aw_iconst (q := 721) F dW_law_720 rfl (by decide) ?_
    refine aw_iadd (q := 722) F dW_law_721 rfl (by constructor <;> omega) ?_
    refine aw_sld (q := 723) F HS dW_law_722 rfl (by omega) (by omega) ?_
    refine av_callV1 (q := 726) (ci := 7) F hm mL_rows_i mL_rows_n lW_102 dW_law_723 rfl rfl rfl (by first | exact h1 | exact hM.mo.o) (by decide) (by omega) (by omega) (Nat.le_of_ble_eq_true rfl) (wL_rows0 hr h.cw (fun v723 sg723 w723 y723 d723 f723 => ?_))
    have hM := h.m1 f723
    refine aw_aload_2 (q := 727) F dW_law_726 rfl ?_
    refine aw_aload_0 (q := 728) F dW_law_727 rfl ?_
    refine aw_iload_4 (q := 730) F dW_law_728 rfl ?_
    refine aw_iconst (q := 731) F dW_law_730 rfl (by decide) ?_
    refine aw_iadd (q := 732) F dW_law_731 rfl (by constructor <;> omega) ?_
    refine aw_sld (q := 733) F HS dW_law_732 rfl (by omega) (by omega) ?_
    refine av_callV1 (q := 736) (ci := 9) F hm mM_rows_i mM_rows_n lW_105 dW_law_733 rfl rfl rfl (by first | exact h1 | exact hM.mo.o) (by decide) (by omega) (by omega) (Nat.le_of_ble_eq_true rfl) (wM_rows hM (fun v733 m733 r733 => ?_))
    refine aw_icmp_eq (q := 739) (t := 1652) F dW_law_736 rfl (by decide) (fun c736 => ?_) (fun c736 => by exact absurd rfl c736)
    exact nx _ _ _ _ _ _ _ _ _ (h.st d723 f723 m733 r733) (by omega) (by omega)
theorem ca_lastBy {nm : String} (hX : CX X nm b L xs) (hP : PX V σ ow y l S kn k n c i L) (nx : NX X i c) : AW X 741 [some (vR (BG + 39)), some (vR 1), some (vR 53), some (vR 64), some (vI i), none, none] [] (V, σ) k n := by
  obtain ⟨F, hm, HS, hA, hL⟩ := hX
  obtain ⟨h, hk, hn, hc, h0, hi⟩ := hP
  have hBG : BG = 1000000000 := rfl
  have hcr : crd kn ≤ 95000 := crd_le kn
  have h1 := h.o1
  refine aw_sz hA (fun hz => ?_)
  have hz : sX σ ≤ k + 1 := hz
  by_cases hr : 0 < tDn (psT S) ∧ 0 ≤ sv xs (i + 1) ∧ sv xs (i + 1) ≤ 6
  · have hkn : crd (knW (wy (0 < tDn (psT S)) (0 ≤ sv xs (i + 1) ∧ sv xs (i + 1) ≤ 6)) kn) = 0 := by rw [wy_1 hr.1 hr.2]; rfl
    have h5 := kn5 kn
    have h19 := kn19 kn
    refine aw_aload_1 (q := 742) F dW_law_741 rfl ?_
    refine aw_aload_0 (q := 743) F dW_law_742 rfl ?_
    refine aw_iload_4 (q := 745) F dW_law_743 rfl ?_
    refine aw_iconst (q := 746) F dW_law_745 rfl (by decide) ?_
    refine aw_iadd (q := 747) F dW_law_746 rfl (by constructor <;> omega) ?_
    refine aw_sld (q := 748) F HS dW_law_747 rfl (by omega) (by omega) ?_
    refine av_callV1 (q := 751) (ci := 7) F hm mL_lastBy_i mL_lastBy_n lW_106 dW_law_748 rfl rfl rfl (by first | exact h1 | exact hM.mo.o) (by decide) (by omega) (by omega) (Nat.le_of_ble_eq_true rfl) (wL_lastBy (by omega) h.cw (fun v748 sg748 w748 y748 d748 f748 => ?_))
    have hM := h.m1 f748
    refine aw_aload_2 (q := 752) F dW_law_751 rfl ?_
    refine aw_aload_0 (q := 753) F dW_law_752 rfl ?_
    refine aw_iload_4 (q := 755) F dW_law_753 rfl ?_
    refine aw_iconst (q := 756) F dW_law_755 rfl (by decide) ?_
    refine aw_iadd (q := 757) F dW_law_756 rfl (by constructor <;> omega) ?_
    refine aw_sld (q := 758) F HS dW_law_757 rfl (by omega) (by omega) ?_
    refine av_callV1 (q := 761) (ci := 9) F hm mM_lastBy_i mM_lastBy_n lW_109 dW_law_758 rfl rfl rfl (by first | exact h1 | exact hM.mo.o) (by decide) (by omega) (by omega) (Nat.le_of_ble_eq_true rfl) (wM_lastBy hM (fun v758 m758 r758 => ?_))
    refine aw_icmp_eq (q := 764) (t := 1652) F dW_law_761 rfl (by decide) (fun c761 => ?_) (fun c761 => by exact absurd rfl c761)
    exact nx _ _ _ _ _ _ _ _ _ (h.st d748 f748 m758 r758) (by omega) (by omega)
  · have hkn : crd (knW (wy (0 < tDn (psT S)) (0 ≤ sv xs (i + 1) ∧ sv xs (i + 1) ≤ 6)) kn) ≤ crd kn := crd_kn _ kn
    refine aw_aload_1 (q := 742) F dW_law_741 rfl ?_
    refine aw_aload_0 (q := 743) F dW_law_742 rfl ?_
    refine aw_iload_4 (q := 745) F dW_law_743 rfl ?_
    refine aw_iconst (q := 746) F dW_law_745 rfl (by decide) ?_
    refine aw_iadd (q := 747) F dW_law_746 rfl (by constructor <;> omega) ?_
    refine aw_sld (q := 748) F HS dW_law_747 rfl (by omega) (by omega) ?_
    refine av_callV1 (q := 751) (ci := 7) F hm mL_lastBy_i mL_lastBy_n lW_106 dW_law_748 rfl rfl rfl (by first | exact h1 | exact hM.mo.o) (by decide) (by omega) (by omega) (Nat.le_of_ble_eq_true rfl) (wL_lastBy0 hr h.cw (fun v748 sg748 w748 y748 d748 f748 => ?_))
    have hM := h.m1 f748
    refine aw_aload_2 (q := 752) F dW_law_751 rfl ?_
    refine aw_aload_0 (q := 753) F dW_law_752 rfl ?_
    refine aw_iload_4 (q := 755) F dW_law_753 rfl ?_
    refine aw_iconst (q := 756) F dW_law_755 rfl (by decide) ?_
    refine aw_iadd (q := 757) F dW_law_756 rfl (by constructor <;> omega) ?_
    refine aw_sld (q := 758) F HS dW_law_757 rfl (by omega) (by omega) ?_
    refine av_callV1 (q := 761) (ci := 9) F hm mM_lastBy_i mM_lastBy_n lW_109 dW_law_758 rfl rfl rfl (by first | exact h1 | exact hM.mo.o) (by decide) (by omega) (by omega) (Nat.le_of_ble_eq_true rfl) (wM_lastBy hM (fun v758 m758 r758 => ?_))
    refine aw_icmp_eq (q := 764) (t := 1652) F dW_law_761 rfl (by decide) (fun c761 => ?_) (fun c761 => by exact absurd rfl c761)
    exact nx _ _ _ _ _ _ _ _ _ (h.st d748 f748 m758 r758) (by omega) (by omega)
theorem ca_firstBy {nm : String} (hX : CX X nm b L xs) (hP : PX V σ ow y l S kn k n c i L) (nx : NX X i c) : AW X 766 [some (vR (BG + 39)), some (vR 1), some (vR 53), some (vR 64), some (vI i), none, none] [] (V, σ) k n := by
  obtain ⟨F, hm, HS, hA, hL⟩ := hX
  obtain ⟨h, hk, hn, hc, h0, hi⟩ := hP
  have hBG : BG = 1000000000 := rfl
  have hcr : crd kn ≤ 95000 := crd_le kn
  have h1 := h.o1
  refine aw_sz hA (fun hz => ?_)
  have hz : sX σ ≤ k + 1 := hz
  by_cases hr : (0 ≤ sv xs (i + 1) ∧ sv xs (i + 1) < stN (psC S)) ∧ 1 ≤ sv xs (i + 2) ∧ sv xs (i + 2) ≤ 6
  · have hkn : crd (knW (wy (0 ≤ sv xs (i + 1) ∧ sv xs (i + 1) < stN (psC S)) (1 ≤ sv xs (i + 2) ∧ sv xs (i + 2) ≤ 6)) kn) = 0 := by rw [wy_1 hr.1 hr.2]; rfl
    have h5 := kn5 kn
    have h19 := kn19 kn
    refine aw_aload_1 (q := 767) F dW_law_766 rfl ?_
    refine aw_aload_0 (q := 768) F dW_law_767 rfl ?_
    refine aw_iload_4 (q := 770) F dW_law_768 rfl ?_
    refine aw_iconst (q := 771) F dW_law_770 rfl (by decide) ?_
    refine aw_iadd (q := 772) F dW_law_771 rfl (by constructor <;> omega) ?_
    refine aw_sld (q := 773) F HS dW_law_772 rfl (by omega) (by omega) ?_
    refine aw_aload_0 (q := 774) F dW_law_773 rfl ?_
    refine aw_iload_4 (q := 776) F dW_law_774 rfl ?_
    refine aw_iconst (q := 777) F dW_law_776 rfl (by decide) ?_
    refine aw_iadd (q := 778) F dW_law_777 rfl (by constructor <;> omega) ?_
    refine aw_sld (q := 779) F HS dW_law_778 rfl (by omega) (by omega) ?_
    refine av_callV2 (q := 782) (ci := 7) F hm mL_firstBy_i mL_firstBy_n lW_110 dW_law_779 rfl rfl rfl (by first | exact h1 | exact hM.mo.o) (by decide) (by omega) (by omega) (Nat.le_of_ble_eq_true rfl) (wL_firstBy (by omega) h.cw (fun v779 sg779 w779 y779 d779 f779 => ?_))
    have hM := h.m1 f779
    refine aw_aload_2 (q := 783) F dW_law_782 rfl ?_
    refine aw_aload_0 (q := 784) F dW_law_783 rfl ?_
    refine aw_iload_4 (q := 786) F dW_law_784 rfl ?_
    refine aw_iconst (q := 787) F dW_law_786 rfl (by decide) ?_
    refine aw_iadd (q := 788) F dW_law_787 rfl (by constructor <;> omega) ?_
    refine aw_sld (q := 789) F HS dW_law_788 rfl (by omega) (by omega) ?_
    refine aw_aload_0 (q := 790) F dW_law_789 rfl ?_
    refine aw_iload_4 (q := 792) F dW_law_790 rfl ?_
    refine aw_iconst (q := 793) F dW_law_792 rfl (by decide) ?_
    refine aw_iadd (q := 794) F dW_law_793 rfl (by constructor <;> omega) ?_
    refine aw_sld (q := 795) F HS dW_law_794 rfl (by omega) (by omega) ?_
    refine av_callV2 (q := 798) (ci := 9) F hm mM_firstBy_i mM_firstBy_n lW_113 dW_law_795 rfl rfl rfl (by first | exact h1 | exact hM.mo.o) (by decide) (by omega) (by omega) (Nat.le_of_ble_eq_true rfl) (wM_firstBy hM (fun v795 m795 r795 => ?_))
    refine aw_icmp_eq (q := 801) (t := 1652) F dW_law_798 rfl (by decide) (fun c798 => ?_) (fun c798 => by exact absurd rfl c798)
    exact nx _ _ _ _ _ _ _ _ _ (h.st d779 f779 m795 r795) (by omega) (by omega)
  · have hkn : crd (knW (wy (0 ≤ sv xs (i + 1) ∧ sv xs (i + 1) < stN (psC S)) (1 ≤ sv xs (i + 2) ∧ sv xs (i + 2) ≤ 6)) kn) ≤ crd kn := crd_kn _ kn
    refine aw_aload_1 (q := 767) F dW_law_766 rfl ?_
    refine aw_aload_0 (q := 768) F dW_law_767 rfl ?_
    refine aw_iload_4 (q := 770) F dW_law_768 rfl ?_
    refine aw_iconst (q := 771) F dW_law_770 rfl (by decide) ?_
    refine aw_iadd (q := 772) F dW_law_771 rfl (by constructor <;> omega) ?_
    refine aw_sld (q := 773) F HS dW_law_772 rfl (by omega) (by omega) ?_
    refine aw_aload_0 (q := 774) F dW_law_773 rfl ?_
    refine aw_iload_4 (q := 776) F dW_law_774 rfl ?_
    refine aw_iconst (q := 777) F dW_law_776 rfl (by decide) ?_
    refine aw_iadd (q := 778) F dW_law_777 rfl (by constructor <;> omega) ?_
    refine aw_sld (q := 779) F HS dW_law_778 rfl (by omega) (by omega) ?_
    refine av_callV2 (q := 782) (ci := 7) F hm mL_firstBy_i mL_firstBy_n lW_110 dW_law_779 rfl rfl rfl (by first | exact h1 | exact hM.mo.o) (by decide) (by omega) (by omega) (Nat.le_of_ble_eq_true rfl) (wL_firstBy0 hr h.cw (fun v779 sg779 w779 y779 d779 f779 => ?_))
    have hM := h.m1 f779
    refine aw_aload_2 (q := 783) F dW_law_782 rfl ?_
    refine aw_aload_0 (q := 784) F dW_law_783 rfl ?_
    refine aw_iload_4 (q := 786) F dW_law_784 rfl ?_
    refine aw_iconst (q := 787) F dW_law_786 rfl (by decide) ?_
    refine aw_iadd (q := 788) F dW_law_787 rfl (by constructor <;> omega) ?_
    refine aw_sld (q := 789) F HS dW_law_788 rfl (by omega) (by omega) ?_
    refine aw_aload_0 (q := 790) F dW_law_789 rfl ?_
    refine aw_iload_4 (q := 792) F dW_law_790 rfl ?_
    refine aw_iconst (q := 793) F dW_law_792 rfl (by decide) ?_
    refine aw_iadd (q := 794) F dW_law_793 rfl (by constructor <;> omega) ?_
    refine aw_sld (q := 795) F HS dW_law_794 rfl (by omega) (by omega) ?_
    refine av_callV2 (q := 798) (ci := 9) F hm mM_firstBy_i mM_firstBy_n lW_113 dW_law_795 rfl rfl rfl (by first | exact h1 | exact hM.mo.o) (by decide) (by omega) (by omega) (Nat.le_of_ble_eq_true rfl) (wM_firstBy hM (fun v795 m795 r795 => ?_))
    refine aw_icmp_eq (q := 801) (t := 1652) F dW_law_798 rfl (by decide) (fun c798 => ?_) (fun c798 => by exact absurd rfl c798)
    exact nx _ _ _ _ _ _ _ _ _ (h.st d779 f779 m795 r795) (by omega) (by omega)
theorem ca_fewestSeen {nm : String} (hX : CX X nm b L xs) (hP : PX V σ ow y l S kn k n c i L) (nx : NX X i c) : AW X 803 [some (vR (BG + 39)), some (vR 1), some (vR 53), some (vR 64), some (vI i), none, none] [] (V, σ) k n := by
  obtain ⟨F, hm, HS, hA, hL⟩ := hX
  obtain ⟨h, hk, hn, hc, h0, hi⟩ := hP
  have hBG : BG = 1000000000 := rfl
  have hcr : crd kn ≤ 95000 := crd_le kn
  have h1 := h.o1
  refine aw_sz hA (fun hz => ?_)
  have hz : sX σ ≤ k + 1 := hz
  by_cases hr : 0 < tDn (psT S)
  · have hkn : crd (knW (wy (0 < tDn (psT S)) True) kn) = 0 := by rw [wy_1 hr trivial]; rfl
    have h5 := kn5 kn
    have h19 := kn19 kn
    refine aw_aload_1 (q := 804) F dW_law_803 rfl ?_
    refine av_callV0 (q := 807) (ci := 7) F hm mL_fewestSeen_i mL_fewestSeen_n lW_114 dW_law_804 rfl rfl rfl (by first | exact h1 | exact hM.mo.o) (by decide) (by omega) (by omega) (Nat.le_of_ble_eq_true rfl) (wL_fewestSeen (by omega) h.cw (fun v804 sg804 w804 y804 d804 f804 => ?_))
    have hM := h.m1 f804
    refine aw_aload_2 (q := 808) F dW_law_807 rfl ?_
    refine av_callV0 (q := 811) (ci := 9) F hm mM_fewestSeen_i mM_fewestSeen_n lW_117 dW_law_808 rfl rfl rfl (by first | exact h1 | exact hM.mo.o) (by decide) (by omega) (by omega) (Nat.le_of_ble_eq_true rfl) (wM_fewestSeen hM (fun v808 m808 r808 => ?_))
    refine aw_icmp_eq (q := 814) (t := 1652) F dW_law_811 rfl (by decide) (fun c811 => ?_) (fun c811 => by exact absurd rfl c811)
    exact nx _ _ _ _ _ _ _ _ _ (h.st d804 f804 m808 r808) (by omega) (by omega)
  · have hkn : crd (knW (wy (0 < tDn (psT S)) True) kn) ≤ crd kn := crd_kn _ kn
    refine aw_aload_1 (q := 804) F dW_law_803 rfl ?_
    refine av_callV0 (q := 807) (ci := 7) F hm mL_fewestSeen_i mL_fewestSeen_n lW_114 dW_law_804 rfl rfl rfl (by first | exact h1 | exact hM.mo.o) (by decide) (by omega) (by omega) (Nat.le_of_ble_eq_true rfl) (wL_fewestSeen0 hr h.cw (fun v804 sg804 w804 y804 d804 f804 => ?_))
    have hM := h.m1 f804
    refine aw_aload_2 (q := 808) F dW_law_807 rfl ?_
    refine av_callV0 (q := 811) (ci := 9) F hm mM_fewestSeen_i mM_fewestSeen_n lW_117 dW_law_808 rfl rfl rfl (by first | exact h1 | exact hM.mo.o) (by decide) (by omega) (by omega) (Nat.le_of_ble_eq_true rfl) (wM_fewestSeen hM (fun v808 m808 r808 => ?_))
    refine aw_icmp_eq (q := 814) (t := 1652) F dW_law_811 rfl (by decide) (fun c811 => ?_) (fun c811 => by exact absurd rfl c811)
    exact nx _ _ _ _ _ _ _ _ _ (h.st d804 f804 m808 r808) (by omega) (by omega)
end Caseu
