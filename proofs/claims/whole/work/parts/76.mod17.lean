section Mod17
variable {G : GE} {V : Nat → Nat → Int} {σ : Shp} {K : Option AV → Mem → Prop} {l : Nat} {c : Cfg} {n : Nat} {S : PS}
theorem wM_reach (h : MW V σ l S) (hK : MK K V σ l (setR S (wy (0 < tDn (psT S)) True)) (some (vI (rfD (wy (0 < tDn (psT S)) True) (fuS (psC S) (psA S)).1.length (-1))))) : Wp G 6 mM_reach [vR 53] (V, σ) 0 0 K := by
  obtain ⟨g, r1, -⟩ := m3 vI hK
  have hM := h.mo
  refine wp_intro mM_reach_i.1 [some (vR 53)] rfl rfl (Nat.le_of_ble_eq_true rfl) ?_
  intro X hG F C
  have hm := C.rm
  refine aw_aload_0 (q := 1) F dM_reach_0 rfl ?_
  refine aw_iconst (q := 2) F dM_reach_1 rfl (by decide) ?_
  refine av_puti (q := 5) F fM_46 dM_reach_2 rfl rfl (wr_9_0 _) (by first | exact hM.o | exact hl.o | exact hM.a55 | exact hM.a56 | exact hM.a59 | exact hM.a60 | exact hM.a61 | exact hM.a62 | exact hl.a4) ?_
  refine aw_aload_0 (q := 6) F dM_reach_5 rfl ?_
  refine av_getaE (q := 9) F fM_281 dM_reach_6 rfl rfl (by first | exact hM.o | exact hl.o | exact hM.a55 | exact hM.a56 | exact hM.a59 | exact hM.a60 | exact hM.a61 | exact hM.a62 | exact hl.a4) hM.p3 ?_
  refine aw_ifnonnull (q := 12) (t := 18) F dM_reach_9 rfl (by decide) (fun c9 => ?_) (fun c9 => ?_)
  · refine aw_aload_0 (q := 19) F dM_reach_18 rfl ?_
    refine av_callV0 (q := 22) (ci := 9) F hm mM_reachesNow_i mM_reachesNow_n lM_373 dM_reach_19 rfl rfl rfl (by first | exact hM.o | exact hl.o | exact hM.a55 | exact hM.a56 | exact hM.a59 | exact hM.a60 | exact hM.a61 | exact hM.a62 | exact hl.a4) (by decide) (Nat.le_refl _) (Nat.le_refl _) (Nat.le_of_ble_eq_true rfl) (wM_reachesNow h.th (h.pos c9) (fun V2 m19 f19 o19 A z19 R => ?_))
    refine aw_aload_0 (q := 23) F dM_reach_22 rfl ?_
    refine aw_aload_0 (q := 24) F dM_reach_23 rfl ?_
    refine av_geti (q := 27) F fM_333 dM_reach_24 rfl rfl (by first | exact hM.o | exact hl.o | exact hM.a55 | exact hM.a56 | exact hM.a59 | exact hM.a60 | exact hM.a61 | exact hM.a62 | exact hl.a4) ?_
    rw [R.1]
    refine av_callV1 (q := 30) (ci := 9) F hm mM_good_i mM_good_n lM_56 dM_reach_27 rfl rfl rfl (by first | exact hM.o | exact hl.o | exact hM.a55 | exact hM.a56 | exact hM.a59 | exact hM.a60 | exact hM.a61 | exact hM.a62 | exact hl.a4) (by decide) (Nat.le_refl _) (Nat.le_refl _) (Nat.le_of_ble_eq_true rfl) (wM_good hM ?_)
    refine aw_iret F C dM_reach_30 rfl (Nat.le_refl _) (Nat.le_refl _) ?_
    exact MK.fin (S := S) (g (h.pos c9) trivial) h (by decide) f19 (Or.inr ⟨o19, R⟩)
  · refine aw_aload_0 (q := 13) F dM_reach_12 rfl ?_
    refine aw_iconst (q := 14) F dM_reach_13 rfl (by decide) ?_
    refine av_callV1 (q := 17) (ci := 9) F hm mM_refused_i mM_refused_n lM_52 dM_reach_14 rfl rfl rfl (by first | exact hM.o | exact hl.o | exact hM.a55 | exact hM.a56 | exact hM.a59 | exact hM.a60 | exact hM.a61 | exact hM.a62 | exact hl.a4) (by decide) (Nat.le_refl _) (Nat.le_refl _) (Nat.le_of_ble_eq_true rfl) (wM_refused hM ?_)
    refine aw_iret F C dM_reach_17 rfl (Nat.le_refl _) (Nat.le_refl _) ?_
    exact MK.fin0 (r1 (by rw [h.zer c9]; decide)) h (by decide)
theorem wM_deepest (h : MW V σ l S) (hK : MK K V σ l (setR S (wy (0 < tDn (psT S)) True)) (some (vI (rfD (wy (0 < tDn (psT S)) True) (dpE (fuS (psC S) (psA S)).1 ((fuS (psC S) (psA S)).1.length - 1)) (-1))))) : Wp G 6 mM_deepest [vR 53] (V, σ) 0 0 K := by
  obtain ⟨g, r1, -⟩ := m3 vI hK
  have hM := h.mo
  refine wp_intro mM_deepest_i.1 [some (vR 53)] rfl rfl (Nat.le_of_ble_eq_true rfl) ?_
  intro X hG F C
  have hm := C.rm
  refine aw_aload_0 (q := 1) F dM_deepest_0 rfl ?_
  refine aw_iconst (q := 2) F dM_deepest_1 rfl (by decide) ?_
  refine av_puti (q := 5) F fM_46 dM_deepest_2 rfl rfl (wr_9_0 _) (by first | exact hM.o | exact hl.o | exact hM.a55 | exact hM.a56 | exact hM.a59 | exact hM.a60 | exact hM.a61 | exact hM.a62 | exact hl.a4) ?_
  refine aw_aload_0 (q := 6) F dM_deepest_5 rfl ?_
  refine av_getaE (q := 9) F fM_281 dM_deepest_6 rfl rfl (by first | exact hM.o | exact hl.o | exact hM.a55 | exact hM.a56 | exact hM.a59 | exact hM.a60 | exact hM.a61 | exact hM.a62 | exact hl.a4) hM.p3 ?_
  refine aw_ifnonnull (q := 12) (t := 18) F dM_deepest_9 rfl (by decide) (fun c9 => ?_) (fun c9 => ?_)
  · refine aw_aload_0 (q := 19) F dM_deepest_18 rfl ?_
    refine av_callV0 (q := 22) (ci := 9) F hm mM_reachesNow_i mM_reachesNow_n lM_373 dM_deepest_19 rfl rfl rfl (by first | exact hM.o | exact hl.o | exact hM.a55 | exact hM.a56 | exact hM.a59 | exact hM.a60 | exact hM.a61 | exact hM.a62 | exact hl.a4) (by decide) (Nat.le_refl _) (Nat.le_refl _) (Nat.le_of_ble_eq_true rfl) (wM_reachesNow h.th (h.pos c9) (fun V2 m19 f19 o19 A z19 R => ?_))
    have hn := h.hn (h.pos c9)
    have hok := fu_ok hn
    have hl1 := okQ_len hok
    have hl0 := fu_len hn
    have hsp := spc_le h.hc
    have hq := List.getElem?_eq_getElem (show (fuS (psC S) (psA S)).1.length - 1 < (fuS (psC S) (psA S)).1.length by omega)
    generalize (fuS (psC S) (psA S)).1[(fuS (psC S) (psA S)).1.length - 1] = q at hq
    have hqs := mnN_lt (hok.2.1 q (List.mem_of_getElem? hq))
    refine aw_aload_0 (q := 23) F dM_deepest_22 rfl ?_
    refine aw_aload_0 (q := 24) F dM_deepest_23 rfl ?_
    refine av_getaE (q := 27) F fM_31 dM_deepest_24 rfl rfl (by first | exact hM.o | exact hl.o | exact hM.a55 | exact hM.a56 | exact hM.a59 | exact hM.a60 | exact hM.a61 | exact hM.a62 | exact hl.a4) hM.p21 ?_
    refine aw_aload_0 (q := 28) F dM_deepest_27 rfl ?_
    refine av_getaE (q := 31) F fM_37 dM_deepest_28 rfl rfl (by first | exact hM.o | exact hl.o | exact hM.a55 | exact hM.a56 | exact hM.a59 | exact hM.a60 | exact hM.a61 | exact hM.a62 | exact hl.a4) hM.p23 ?_
    refine aw_aload_0 (q := 32) F dM_deepest_31 rfl ?_
    refine av_geti (q := 35) F fM_333 dM_deepest_32 rfl rfl (by first | exact hM.o | exact hl.o | exact hM.a55 | exact hM.a56 | exact hM.a59 | exact hM.a60 | exact hM.a61 | exact hM.a62 | exact hl.a4) ?_
    rw [R.1]
    refine aw_iconst (q := 36) F dM_deepest_35 rfl (by decide) ?_
    refine aw_isub (q := 37) F dM_deepest_36 rfl (by constructor <;> omega) ?_
    refine av_iaload (q := 38) F dM_deepest_37 rfl (by first | exact hM.o | exact hl.o | exact hM.a55 | exact hM.a56 | exact hM.a59 | exact hM.a60 | exact hM.a61 | exact hM.a62 | exact hl.a4) (by omega) (by omega) ?_
    rw [show (((fuS (psC S) (psA S)).1.length : Int) - 1).toNat = (fuS (psC S) (psA S)).1.length - 1 by omega, (R.2.2 _ q hq).1]
    refine av_iaload (q := 39) F dM_deepest_38 rfl (by first | exact hM.o | exact hl.o | exact hM.a55 | exact hM.a56 | exact hM.a59 | exact hM.a60 | exact hM.a61 | exact hM.a62 | exact hl.a4) (by omega) (by omega) ?_
    rw [Int.toNat_natCast, R.dp hok _ q hq]
    refine av_callV1 (q := 42) (ci := 9) F hm mM_good_i mM_good_n lM_56 dM_deepest_39 rfl rfl rfl (by first | exact hM.o | exact hl.o | exact hM.a55 | exact hM.a56 | exact hM.a59 | exact hM.a60 | exact hM.a61 | exact hM.a62 | exact hl.a4) (by decide) (Nat.le_refl _) (Nat.le_refl _) (Nat.le_of_ble_eq_true rfl) (wM_good hM ?_)
    refine aw_iret F C dM_deepest_42 rfl (Nat.le_refl _) (Nat.le_refl _) ?_
    exact MK.fin (S := S) (g (h.pos c9) trivial) h (by decide) f19 (Or.inr ⟨o19, R⟩)
  · refine aw_aload_0 (q := 13) F dM_deepest_12 rfl ?_
    refine aw_iconst (q := 14) F dM_deepest_13 rfl (by decide) ?_
    refine av_callV1 (q := 17) (ci := 9) F hm mM_refused_i mM_refused_n lM_52 dM_deepest_14 rfl rfl rfl (by first | exact hM.o | exact hl.o | exact hM.a55 | exact hM.a56 | exact hM.a59 | exact hM.a60 | exact hM.a61 | exact hM.a62 | exact hl.a4) (by decide) (Nat.le_refl _) (Nat.le_refl _) (Nat.le_of_ble_eq_true rfl) (wM_refused hM ?_)
    refine aw_iret F C dM_deepest_17 rfl (Nat.le_refl _) (Nat.le_refl _) ?_
    exact MK.fin0 (r1 (by rw [h.zer c9]; decide)) h (by decide)
theorem wM_wayTo {p x : Int} (h : MW V σ l S) (hK : MK K V σ l (setR S (wy ((0 ≤ p ∧ p < tPn (psT S)) ∧ 0 ≤ x ∧ x ≤ tDn (psT S)) True)) (some (vI (rfD (wy ((0 ≤ p ∧ p < tPn (psT S)) ∧ 0 ≤ x ∧ x ≤ tDn (psT S)) True) (erF (psC S) (psA S) (plW S p x)) (-1))))) : Wp G 6 mM_wayTo [vR 53, vI p, vI x] (V, σ) 0 0 K := by
  obtain ⟨g, r1, -⟩ := m3 vI hK
  have hM := h.mo
  have hc := h.hc
  have hsp := spc_le hc
  refine wp_intro mM_wayTo_i.1 [some (vR 53), some (vI p), some (vI x), none] rfl rfl (Nat.le_of_ble_eq_true rfl) ?_
  intro X hG F C
  have hm := C.rm
  have go : ∀ (hd : 0 < tDn (psT S)), (0 ≤ p ∧ p < tPn (psT S)) → (0 ≤ x ∧ x ≤ tDn (psT S)) → ∀ (j i : Nat), i + j = (fuS (psC S) (psA S)).1.length → ∀ (V1 : Nat → Nat → Int) (z : Int) (m : Nat), FN (up2 V 53 0 0) V1 S → AR (V1 56) (psC S) m → z = i → (∀ j q, j < i → (fuS (psC S) (psA S)).1[j]? = some q → fitP (psC S) (plW S p x) q = false) → AW X 40 [some (vR 53), some (vI p), some (vI x), some (vI z)] [] (V1, σ) 0 0 := by
    intro hd hp hx j
    have hl := h.la hd
    have h64 := h.h64 hd
    have hn := h.hn hd
    have hok := fu_ok hn
    have hlen := okQ_len hok
    have hp2 : tPn (psT S) ≤ 2 := hc.2.1
    have g' := g ⟨hp, hx⟩ trivial
    have hpw : ∀ q : Nat × Nat, fitP (psC S) (plW S p x) q = (pl (psC S) q.1 p.toNat == x.toNat) := fun q => by
      have := plW_iff (S := S) (p := p.toNat) (r := x.toNat) (q := q) hc (show p.toNat < tPn (psT S) by omega)
      rw [show ((p.toNat : Nat) : Int) = p by omega, show ((x.toNat : Nat) : Int) = x by omega] at this
      exact this
    induction j with
    | zero =>
      intro i hi V1 z m hF hA hz hI
      have h25 := hF.2.2.1
      refine aw_iload_3 (q := 41) F dM_wayTo_40 rfl ?_
      refine aw_aload_0 (q := 42) F dM_wayTo_41 rfl ?_
      refine av_geti (q := 45) F fM_333 dM_wayTo_42 rfl rfl (by first | exact hM.o | exact hl.o | exact hM.a55 | exact hM.a56 | exact hM.a59 | exact hM.a60 | exact hM.a61 | exact hM.a62 | exact hl.a4) ?_
      rw [h25]
      refine aw_icmp_ge (q := 48) (t := 90) F dM_wayTo_45 rfl (by decide) (fun c45 => ?_) (fun c45 => by omega)
      refine aw_aload_0 (q := 91) F dM_wayTo_90 rfl ?_
      refine aw_bipush (q := 93) F dM_wayTo_91 rfl (by decide) ?_
      refine av_callV1 (q := 96) (ci := 9) F hm mM_good_i mM_good_n lM_56 dM_wayTo_93 rfl rfl rfl (by first | exact hM.o | exact hl.o | exact hM.a55 | exact hM.a56 | exact hM.a59 | exact hM.a60 | exact hM.a61 | exact hM.a62 | exact hl.a4) (by decide) (Nat.le_refl _) (Nat.le_refl _) (Nat.le_of_ble_eq_true rfl) (wM_good hM ?_)
      refine aw_iret F C dM_wayTo_96 rfl (Nat.le_refl _) (Nat.le_refl _) ?_
      refine MK.fin (S := S) ?_ h (by decide) hF.1 hF.q; rw [erF_n (ffO_all fun j q hq => hI j q (by have := (List.getElem?_eq_some_iff.mp hq).1; omega) hq)] at g'; exact g'
    | succ j ih =>
      intro i hi V1 z m hF hA hz hI
      have h25 := hF.2.2.1
      have hq : (fuS (psC S) (psA S)).1[i]? = some (fuS (psC S) (psA S)).1[i] := List.getElem?_eq_getElem (by omega)
      generalize (fuS (psC S) (psA S)).1[i] = q at hq
      have hqs := hok.2.1 q (List.mem_of_getElem? hq)
      have hmq := mnN_lt hqs
      have e61 : V1 61 z.toNat = mnN (psC S) q.1 := by rw [show z.toNat = i by omega]; exact (hF.2.2.2.2 i q hq).1
      have e59 : V1 59 (mnN (psC S) q.1) = dpE (fuS (psC S) (psA S)).1 i := hF.2.2.dp hok i q hq
      refine aw_iload_3 (q := 41) F dM_wayTo_40 rfl ?_
      refine aw_aload_0 (q := 42) F dM_wayTo_41 rfl ?_
      refine av_geti (q := 45) F fM_333 dM_wayTo_42 rfl rfl (by first | exact hM.o | exact hl.o | exact hM.a55 | exact hM.a56 | exact hM.a59 | exact hM.a60 | exact hM.a61 | exact hM.a62 | exact hl.a4) ?_
      rw [h25]
      refine aw_icmp_ge (q := 48) (t := 90) F dM_wayTo_45 rfl (by decide) (fun c45 => by omega) (fun c45 => ?_)
      refine aw_aload_0 (q := 49) F dM_wayTo_48 rfl ?_
      refine aw_aload_0 (q := 50) F dM_wayTo_49 rfl ?_
      refine av_getaE (q := 53) F fM_37 dM_wayTo_50 rfl rfl (by first | exact hM.o | exact hl.o | exact hM.a55 | exact hM.a56 | exact hM.a59 | exact hM.a60 | exact hM.a61 | exact hM.a62 | exact hl.a4) hM.p23 ?_
      refine aw_iload_3 (q := 54) F dM_wayTo_53 rfl ?_
      refine av_iaload (q := 55) F dM_wayTo_54 rfl (by first | exact hM.o | exact hl.o | exact hM.a55 | exact hM.a56 | exact hM.a59 | exact hM.a60 | exact hM.a61 | exact hM.a62 | exact hl.a4) (by omega) (by omega) ?_
      rw [e61]
      refine av_callV1 (q := 58) (ci := 9) F hm mM_lays_i mM_lays_n lM_339 dM_wayTo_55 rfl rfl rfl (by first | exact hM.o | exact hl.o | exact hM.a55 | exact hM.a56 | exact hM.a59 | exact hM.a60 | exact hM.a61 | exact hM.a62 | exact hl.a4) (by decide) (Nat.le_refl _) (Nat.le_refl _) (Nat.le_of_ble_eq_true rfl) (wM_lays (n := q.1) rfl hqs hM hl (hF.1.lc h64 (h.th.lc hd)) hA hc (by omega) (fun V2 f55 g55 => ?_))
      have e0 : V2 56 p.toNat = (pl (psC S) q.1 p.toNat : Int) := ar_pl g55 (by omega) (show p.toNat < tPn (psT S) by omega)
      refine aw_aload_0 (q := 59) F dM_wayTo_58 rfl ?_
      refine av_getaE (q := 62) F fM_21 dM_wayTo_59 rfl rfl (by first | exact hM.o | exact hl.o | exact hM.a55 | exact hM.a56 | exact hM.a59 | exact hM.a60 | exact hM.a61 | exact hM.a62 | exact hl.a4) hM.p16 ?_
      refine aw_iload_1 (q := 63) F dM_wayTo_62 rfl ?_
      refine av_iaload (q := 64) F dM_wayTo_63 rfl (by first | exact hM.o | exact hl.o | exact hM.a55 | exact hM.a56 | exact hM.a59 | exact hM.a60 | exact hM.a61 | exact hM.a62 | exact hl.a4) (by omega) (by omega) ?_
      rw [e0]
      refine aw_iload_2 (q := 65) F dM_wayTo_64 rfl ?_
      refine aw_icmp_ne (q := 68) (t := 84) F dM_wayTo_65 rfl (by decide) (fun c65 => ?_) (fun c65 => ?_)
      · refine aw_iinc_3 (q := 87) F dM_wayTo_84 rfl trivial (by constructor <;> omega) ?_
        refine aw_goto (t := 40) F dM_wayTo_87 (by decide) ?_
        refine ih (i + 1) (by omega) V2 _ q.1 (hF.xf f55) g55 (by omega) (fun j' q' hj hq' => ?_)
        by_cases e : j' = i
        · rw [e, hq] at hq'; cases hq'; rw [hpw]; exact beq_eq_false_iff_ne.mpr (by omega)
        · exact hI j' q' (by omega) hq'
      · refine aw_aload_0 (q := 69) F dM_wayTo_68 rfl ?_
        refine aw_aload_0 (q := 70) F dM_wayTo_69 rfl ?_
        refine av_getaE (q := 73) F fM_31 dM_wayTo_70 rfl rfl (by first | exact hM.o | exact hl.o | exact hM.a55 | exact hM.a56 | exact hM.a59 | exact hM.a60 | exact hM.a61 | exact hM.a62 | exact hl.a4) hM.p21 ?_
        refine aw_aload_0 (q := 74) F dM_wayTo_73 rfl ?_
        refine av_getaE (q := 77) F fM_37 dM_wayTo_74 rfl rfl (by first | exact hM.o | exact hl.o | exact hM.a55 | exact hM.a56 | exact hM.a59 | exact hM.a60 | exact hM.a61 | exact hM.a62 | exact hl.a4) hM.p23 ?_
        refine aw_iload_3 (q := 78) F dM_wayTo_77 rfl ?_
        refine av_iaload (q := 79) F dM_wayTo_78 rfl (by first | exact hM.o | exact hl.o | exact hM.a55 | exact hM.a56 | exact hM.a59 | exact hM.a60 | exact hM.a61 | exact hM.a62 | exact hl.a4) (by omega) (by omega) ?_
        rw [f55 61 (by decide), e61]
        refine av_iaload (q := 80) F dM_wayTo_79 rfl (by first | exact hM.o | exact hl.o | exact hM.a55 | exact hM.a56 | exact hM.a59 | exact hM.a60 | exact hM.a61 | exact hM.a62 | exact hl.a4) (by omega) (by omega) ?_
        rw [f55 59 (by decide), Int.toNat_natCast, e59]
        refine av_callV1 (q := 83) (ci := 9) F hm mM_good_i mM_good_n lM_56 dM_wayTo_80 rfl rfl rfl (by first | exact hM.o | exact hl.o | exact hM.a55 | exact hM.a56 | exact hM.a59 | exact hM.a60 | exact hM.a61 | exact hM.a62 | exact hl.a4) (by decide) (Nat.le_refl _) (Nat.le_refl _) (Nat.le_of_ble_eq_true rfl) (wM_good hM ?_)
        refine aw_iret F C dM_wayTo_83 rfl (Nat.le_refl _) (Nat.le_refl _) ?_
        refine MK.fin (S := S) ?_ h (by decide) (hF.xf f55).1 (hF.xf f55).q
        rw [erF_s (ffO_some hq (by rw [hpw]; exact beq_iff_eq.mpr (by omega)) hI)] at g'
        exact g'
  refine aw_aload_0 (q := 1) F dM_wayTo_0 rfl ?_
  refine aw_iconst (q := 2) F dM_wayTo_1 rfl (by decide) ?_
  refine av_puti (q := 5) F fM_46 dM_wayTo_2 rfl rfl (wr_9_0 _) (by first | exact hM.o | exact hl.o | exact hM.a55 | exact hM.a56 | exact hM.a59 | exact hM.a60 | exact hM.a61 | exact hM.a62 | exact hl.a4) ?_
  refine aw_aload_0 (q := 6) F dM_wayTo_5 rfl ?_
  refine aw_iload_1 (q := 7) F dM_wayTo_6 rfl ?_
  refine av_callV1 (q := 10) (ci := 9) F hm mM_isPerson_i mM_isPerson_n lM_361 dM_wayTo_7 rfl rfl rfl (by first | exact hM.o | exact hl.o | exact hM.a55 | exact hM.a56 | exact hM.a59 | exact hM.a60 | exact hM.a61 | exact hM.a62 | exact hl.a4) (by decide) (Nat.le_refl _) (Nat.le_refl _) (Nat.le_of_ble_eq_true rfl) (wM_isPerson (D := tPn (psT S)) hM h.pz h.th.pr (fun c7 => ?_) (fun c7 => ?_))
  · refine aw_if_eq (q := 13) (t := 28) F dM_wayTo_10 rfl (by decide) (fun c10 => absurd c10 (by decide)) (fun c10 => ?_)
    refine aw_iload_2 (q := 14) F dM_wayTo_13 rfl ?_
    refine aw_if_lt (q := 17) (t := 28) F dM_wayTo_14 rfl (by decide) (fun c14 => ?_) (fun c14 => ?_)
    · refine aw_aload_0 (q := 29) F dM_wayTo_28 rfl ?_
      refine aw_iconst (q := 30) F dM_wayTo_29 rfl (by decide) ?_
      refine av_callV1 (q := 33) (ci := 9) F hm mM_refused_i mM_refused_n lM_52 dM_wayTo_30 rfl rfl rfl (by first | exact hM.o | exact hl.o | exact hM.a55 | exact hM.a56 | exact hM.a59 | exact hM.a60 | exact hM.a61 | exact hM.a62 | exact hl.a4) (by decide) (Nat.le_refl _) (Nat.le_refl _) (Nat.le_of_ble_eq_true rfl) (wM_refused hM ?_)
      refine aw_iret F C dM_wayTo_33 rfl (Nat.le_refl _) (Nat.le_refl _) ?_
      exact MK.fin0 (r1 (by omega)) h (by decide)
    · refine aw_iload_2 (q := 18) F dM_wayTo_17 rfl ?_
      have hln : l ≠ 0 := fun e => by have := h.pz e; omega
      refine aw_aload_0 (q := 19) F dM_wayTo_18 rfl ?_
      refine av_getaE (q := 22) F fM_281 dM_wayTo_19 rfl rfl (by first | exact hM.o | exact hl.o | exact hM.a55 | exact hM.a56 | exact hM.a59 | exact hM.a60 | exact hM.a61 | exact hM.a62 | exact hl.a4) hM.p3 ?_
      refine av_geti (q := 25) F fM_183 dM_wayTo_22 rfl rfl (h.dr hln).1 ?_
      rw [(h.th.dr hln).2]
      refine aw_icmp_le (q := 28) (t := 34) F dM_wayTo_25 rfl (by decide) (fun c25 => ?_) (fun c25 => ?_)
      · refine aw_aload_0 (q := 35) F dM_wayTo_34 rfl ?_
        refine av_callV0 (q := 38) (ci := 9) F hm mM_reachesNow_i mM_reachesNow_n lM_373 dM_wayTo_35 rfl rfl rfl (by first | exact hM.o | exact hl.o | exact hM.a55 | exact hM.a56 | exact hM.a59 | exact hM.a60 | exact hM.a61 | exact hM.a62 | exact hl.a4) (by decide) (Nat.le_refl _) (Nat.le_refl _) (Nat.le_of_ble_eq_true rfl) (wM_reachesNow h.th (h.pos hln) (fun V2 m35 f35 o35 A z35 R => ?_))
        refine aw_iconst (q := 39) F dM_wayTo_38 rfl (by decide) ?_
        refine aw_istore_3 (q := 40) F dM_wayTo_39 rfl trivial ?_
        exact go (h.pos hln) c7 (by omega) _ 0 (Nat.zero_add _) V2 _ m35 ⟨f35, o35, R⟩ A rfl (fun j q hj => absurd hj (by omega))
      · refine aw_aload_0 (q := 29) F dM_wayTo_28 rfl ?_
        refine aw_iconst (q := 30) F dM_wayTo_29 rfl (by decide) ?_
        refine av_callV1 (q := 33) (ci := 9) F hm mM_refused_i mM_refused_n lM_52 dM_wayTo_30 rfl rfl rfl (by first | exact hM.o | exact hl.o | exact hM.a55 | exact hM.a56 | exact hM.a59 | exact hM.a60 | exact hM.a61 | exact hM.a62 | exact hl.a4) (by decide) (Nat.le_refl _) (Nat.le_refl _) (Nat.le_of_ble_eq_true rfl) (wM_refused hM ?_)
        refine aw_iret F C dM_wayTo_33 rfl (Nat.le_refl _) (Nat.le_refl _) ?_
        exact MK.fin0 (r1 (by omega)) h (by decide)
  · refine aw_if_eq (q := 13) (t := 28) F dM_wayTo_10 rfl (by decide) (fun c10 => ?_) (fun c10 => absurd c10 (by decide))
    refine aw_aload_0 (q := 29) F dM_wayTo_28 rfl ?_
    refine aw_iconst (q := 30) F dM_wayTo_29 rfl (by decide) ?_
    refine av_callV1 (q := 33) (ci := 9) F hm mM_refused_i mM_refused_n lM_52 dM_wayTo_30 rfl rfl rfl (by first | exact hM.o | exact hl.o | exact hM.a55 | exact hM.a56 | exact hM.a59 | exact hM.a60 | exact hM.a61 | exact hM.a62 | exact hl.a4) (by decide) (Nat.le_refl _) (Nat.le_refl _) (Nat.le_of_ble_eq_true rfl) (wM_refused hM ?_)
    refine aw_iret F C dM_wayTo_33 rfl (Nat.le_refl _) (Nat.le_refl _) ?_
    exact MK.fin0 (r1 (by omega)) h (by decide)
theorem wM_comes {p : Int} (h : MW V σ l S) (hK : MK K V σ l (setR S (wy (0 ≤ p ∧ p < tPn (psT S)) True)) (some (vI (rfD (wy (0 ≤ p ∧ p < tPn (psT S)) True) (bsum (fun l => (fuS (psC S) (psA S)).1.any (fitP (psC S) (plW S p l))) (tDn (psT S) + 1)) (-1))))) : Wp G 6 mM_comes [vR 53, vI p] (V, σ) 0 0 K := by
  obtain ⟨g, r1, -⟩ := m3 vI hK
  have hM := h.mo
  have hc := h.hc
  have hsp := spc_le hc
  have hd4 : tDn (psT S) ≤ 4 := hc.1
  refine wp_intro mM_comes_i.1 [some (vR 53), some (vI p), none, none] rfl rfl (Nat.le_of_ble_eq_true rfl) ?_
  intro X hG F C
  have hm := C.rm
  have go : ∀ (hd : 0 < tDn (psT S)), (0 ≤ p ∧ p < tPn (psT S)) → ∀ (j i : Nat), i + j = (fuS (psC S) (psA S)).1.length → ∀ (V1 : Nat → Nat → Int) (y z : Int) (m : Nat), FN (up2 V 53 0 0) V1 S → AR (V1 56) (psC S) m → z = i → y = bsum (fun r => ((fuS (psC S) (psA S)).1.take i).any (fitP (psC S) (plW S p r))) (tDn (psT S) + 1) → AW X 27 [some (vR 53), some (vI p), some (vI y), some (vI z)] [] (V1, σ) 0 0 := by
    intro hd hp j
    have hl := h.la hd
    have h64 := h.h64 hd
    have hn := h.hn hd
    have hok := fu_ok hn
    have hlen := okQ_len hok
    have hp2 : tPn (psT S) ≤ 2 := hc.2.1
    have g' := g hp trivial
    have hpw : ∀ (r : Nat) (q : Nat × Nat), fitP (psC S) (plW S p r) q = (pl (psC S) q.1 p.toNat == r) := fun r q => by
      have := plW_iff (S := S) (p := p.toNat) (r := r) (q := q) hc (show p.toNat < tPn (psT S) by omega)
      rw [show ((p.toNat : Nat) : Int) = p by omega] at this
      exact this
    induction j with
    | zero =>
      intro i hi V1 y z m hF hA hz hy
      have h25 := hF.2.2.1
      rw [List.take_of_length_le (by omega)] at hy
      refine aw_iload_3 (q := 28) F dM_comes_27 rfl ?_
      refine aw_aload_0 (q := 29) F dM_comes_28 rfl ?_
      refine av_geti (q := 32) F fM_333 dM_comes_29 rfl rfl (by first | exact hM.o | exact hl.o | exact hM.a55 | exact hM.a56 | exact hM.a59 | exact hM.a60 | exact hM.a61 | exact hM.a62 | exact hl.a4) ?_
      rw [h25]
      refine aw_icmp_ge (q := 35) (t := 62) F dM_comes_32 rfl (by decide) (fun c32 => ?_) (fun c32 => by omega)
      refine aw_aload_0 (q := 63) F dM_comes_62 rfl ?_
      refine aw_iload_2 (q := 64) F dM_comes_63 rfl ?_
      refine av_callV1 (q := 67) (ci := 9) F hm mM_good_i mM_good_n lM_56 dM_comes_64 rfl rfl rfl (by first | exact hM.o | exact hl.o | exact hM.a55 | exact hM.a56 | exact hM.a59 | exact hM.a60 | exact hM.a61 | exact hM.a62 | exact hl.a4) (by decide) (Nat.le_refl _) (Nat.le_refl _) (Nat.le_of_ble_eq_true rfl) (wM_good hM ?_)
      refine aw_iret F C dM_comes_67 rfl (Nat.le_refl _) (Nat.le_refl _) ?_
      refine MK.fin (S := S) ?_ h (by decide) hF.1 hF.q; rw [hy]; exact g'
    | succ j ih =>
      intro i hi V1 y z m hF hA hz hy
      have h25 := hF.2.2.1
      have hq : (fuS (psC S) (psA S)).1[i]? = some (fuS (psC S) (psA S)).1[i] := List.getElem?_eq_getElem (by omega)
      generalize (fuS (psC S) (psA S)).1[i] = q at hq
      have hqs := hok.2.1 q (List.mem_of_getElem? hq)
      have e61 : V1 61 z.toNat = mnN (psC S) q.1 := by rw [show z.toNat = i by omega]; exact (hF.2.2.2.2 i q hq).1
      have hpl := pl_lt (psC S) q.1 p.toNat
      have hBs : Bs (psC S) = tDn (psT S) + 1 := rfl
      refine aw_iload_3 (q := 28) F dM_comes_27 rfl ?_
      refine aw_aload_0 (q := 29) F dM_comes_28 rfl ?_
      refine av_geti (q := 32) F fM_333 dM_comes_29 rfl rfl (by first | exact hM.o | exact hl.o | exact hM.a55 | exact hM.a56 | exact hM.a59 | exact hM.a60 | exact hM.a61 | exact hM.a62 | exact hl.a4) ?_
      rw [h25]
      refine aw_icmp_ge (q := 35) (t := 62) F dM_comes_32 rfl (by decide) (fun c32 => by omega) (fun c32 => ?_)
      refine aw_aload_0 (q := 36) F dM_comes_35 rfl ?_
      refine aw_aload_0 (q := 37) F dM_comes_36 rfl ?_
      refine av_getaE (q := 40) F fM_37 dM_comes_37 rfl rfl (by first | exact hM.o | exact hl.o | exact hM.a55 | exact hM.a56 | exact hM.a59 | exact hM.a60 | exact hM.a61 | exact hM.a62 | exact hl.a4) hM.p23 ?_
      refine aw_iload_3 (q := 41) F dM_comes_40 rfl ?_
      refine av_iaload (q := 42) F dM_comes_41 rfl (by first | exact hM.o | exact hl.o | exact hM.a55 | exact hM.a56 | exact hM.a59 | exact hM.a60 | exact hM.a61 | exact hM.a62 | exact hl.a4) (by omega) (by omega) ?_
      rw [e61]
      refine av_callV1 (q := 45) (ci := 9) F hm mM_lays_i mM_lays_n lM_339 dM_comes_42 rfl rfl rfl (by first | exact hM.o | exact hl.o | exact hM.a55 | exact hM.a56 | exact hM.a59 | exact hM.a60 | exact hM.a61 | exact hM.a62 | exact hl.a4) (by decide) (Nat.le_refl _) (Nat.le_refl _) (Nat.le_of_ble_eq_true rfl) (wM_lays (n := q.1) rfl hqs hM hl (hF.1.lc h64 (h.th.lc hd)) hA hc (by omega) (fun V2 f42 g42 => ?_))
      have e0 : V2 56 p.toNat = (pl (psC S) q.1 p.toNat : Int) := ar_pl g42 (by omega) (show p.toNat < tPn (psT S) by omega)
      refine aw_iload_2 (q := 46) F dM_comes_45 rfl ?_
      refine aw_iconst (q := 47) F dM_comes_46 rfl (by decide) ?_
      refine aw_aload_0 (q := 48) F dM_comes_47 rfl ?_
      refine av_getaE (q := 51) F fM_21 dM_comes_48 rfl rfl (by first | exact hM.o | exact hl.o | exact hM.a55 | exact hM.a56 | exact hM.a59 | exact hM.a60 | exact hM.a61 | exact hM.a62 | exact hl.a4) hM.p16 ?_
      refine aw_iload_1 (q := 52) F dM_comes_51 rfl ?_
      refine av_iaload (q := 53) F dM_comes_52 rfl (by first | exact hM.o | exact hl.o | exact hM.a55 | exact hM.a56 | exact hM.a59 | exact hM.a60 | exact hM.a61 | exact hM.a62 | exact hl.a4) (by omega) (by omega) ?_
      rw [e0]
      refine aw_ishl (q := 54) F dM_comes_53 rfl ?_
      rw [shl1 (by omega) (by omega), Int.toNat_natCast, hy]
      refine aw_ior (q := 55) F dM_comes_54 rfl ?_
      rw [zor_n (Nat.lt_of_lt_of_le (Nat.or_lt_two_pow (n := 5) (Nat.lt_of_lt_of_le (bsum_lt _ _) (Nat.pow_le_pow_right (by decide) (by omega))) (Nat.pow_lt_pow_right (by decide) (by omega))) (by decide))]
      refine aw_istore_2 (q := 56) F dM_comes_55 rfl trivial ?_
      refine aw_iinc_3 (q := 59) F dM_comes_56 rfl trivial (by constructor <;> omega) ?_
      refine aw_goto (t := 27) F dM_comes_59 (by decide) ?_
      refine ih (i + 1) (by omega) V2 _ _ q.1 (hF.xf f42) g42 (by omega) ?_
      refine congrArg Nat.cast (Nat.eq_of_testBit_eq fun b => ?_)
      rw [Nat.testBit_or, bsum_tb, bsum_tb, List.take_add_one, hq, Option.toList_some, List.any_append, List.any_cons, List.any_nil, Bool.or_false, hpw, Nat.testBit_two_pow]
      by_cases e : pl (psC S) q.1 p.toNat = b
      · rw [decide_eq_true e, beq_iff_eq.mpr e, Bool.or_true, Bool.or_true, Bool.and_true, decide_eq_true (show b < tDn (psT S) + 1 by omega)]
      · rw [decide_eq_false e, beq_eq_false_iff_ne.mpr e, Bool.or_false, Bool.or_false]
  refine aw_aload_0 (q := 1) F dM_comes_0 rfl ?_
  refine aw_iconst (q := 2) F dM_comes_1 rfl (by decide) ?_
  refine av_puti (q := 5) F fM_46 dM_comes_2 rfl rfl (wr_9_0 _) (by first | exact hM.o | exact hl.o | exact hM.a55 | exact hM.a56 | exact hM.a59 | exact hM.a60 | exact hM.a61 | exact hM.a62 | exact hl.a4) ?_
  refine aw_aload_0 (q := 6) F dM_comes_5 rfl ?_
  refine aw_iload_1 (q := 7) F dM_comes_6 rfl ?_
  refine av_callV1 (q := 10) (ci := 9) F hm mM_isPerson_i mM_isPerson_n lM_361 dM_comes_7 rfl rfl rfl (by first | exact hM.o | exact hl.o | exact hM.a55 | exact hM.a56 | exact hM.a59 | exact hM.a60 | exact hM.a61 | exact hM.a62 | exact hl.a4) (by decide) (Nat.le_refl _) (Nat.le_refl _) (Nat.le_of_ble_eq_true rfl) (wM_isPerson (D := tPn (psT S)) hM h.pz h.th.pr (fun c7 => ?_) (fun c7 => ?_))
  · refine aw_if_ne (q := 13) (t := 19) F dM_comes_10 rfl (by decide) (fun c10 => ?_) (fun c10 => absurd c10 (by decide))
    have hln : l ≠ 0 := fun e => by have := h.pz e; omega
    refine aw_aload_0 (q := 20) F dM_comes_19 rfl ?_
    refine av_callV0 (q := 23) (ci := 9) F hm mM_reachesNow_i mM_reachesNow_n lM_373 dM_comes_20 rfl rfl rfl (by first | exact hM.o | exact hl.o | exact hM.a55 | exact hM.a56 | exact hM.a59 | exact hM.a60 | exact hM.a61 | exact hM.a62 | exact hl.a4) (by decide) (Nat.le_refl _) (Nat.le_refl _) (Nat.le_of_ble_eq_true rfl) (wM_reachesNow h.th (h.pos hln) (fun V2 m20 f20 o20 A z20 R => ?_))
    refine aw_iconst (q := 24) F dM_comes_23 rfl (by decide) ?_
    refine aw_istore_2 (q := 25) F dM_comes_24 rfl trivial ?_
    refine aw_iconst (q := 26) F dM_comes_25 rfl (by decide) ?_
    refine aw_istore_3 (q := 27) F dM_comes_26 rfl trivial ?_
    refine go (h.pos hln) c7 _ 0 (Nat.zero_add _) V2 _ _ m20 ⟨f20, o20, R⟩ A rfl ?_
    rw [List.take_zero]
    refine (congrArg Nat.cast (?_ : (0 : Nat) = _))
    exact (Nat.eq_of_testBit_eq fun b => by rw [bsum_tb, List.any_nil, Bool.and_false, Nat.zero_testBit])
  · refine aw_if_ne (q := 13) (t := 19) F dM_comes_10 rfl (by decide) (fun c10 => absurd c10 (by decide)) (fun c10 => ?_)
    refine aw_aload_0 (q := 14) F dM_comes_13 rfl ?_
    refine aw_iconst (q := 15) F dM_comes_14 rfl (by decide) ?_
    refine av_callV1 (q := 18) (ci := 9) F hm mM_refused_i mM_refused_n lM_52 dM_comes_15 rfl rfl rfl (by first | exact hM.o | exact hl.o | exact hM.a55 | exact hM.a56 | exact hM.a59 | exact hM.a60 | exact hM.a61 | exact hM.a62 | exact hl.a4) (by decide) (Nat.le_refl _) (Nat.le_refl _) (Nat.le_of_ble_eq_true rfl) (wM_refused hM ?_)
    refine aw_iret F C dM_comes_18 rfl (Nat.le_refl _) (Nat.le_refl _) ?_
    exact MK.fin0 (r1 (by omega)) h (by decide)
end Mod17
