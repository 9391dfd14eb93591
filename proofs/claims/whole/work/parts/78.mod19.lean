section Mod19
variable {G : GE} {V : Nat → Nat → Int} {σ : Shp} {K : Option AV → Mem → Prop} {l : Nat} {c : Cfg} {n : Nat} {S : PS}
theorem wM_choicesNow (hM : moS σ l) (hl : laS σ l) (hC : LC V l c) (hA : AR (V 56) c n) (hc : okC c) (hK : K (some (vI (cntB (mayN c n (allP c)) (stN c)))) (V, σ)) : Wp G 3 mM_choicesNow [vR 53] (V, σ) 0 0 K := by
  have hst := stN_le hc
  refine wp_intro mM_choicesNow_i.1 [some (vR 53), none, none] rfl rfl (Nat.le_of_ble_eq_true rfl) ?_
  intro X hG F C
  have hm := C.rm
  have loop : ∀ (j s : Nat), s + j = stN c → ∀ (y z : Int), y = cntB (mayN c n (allP c)) s → z = s → AW X 4 [some (vR 53), some (vI y), some (vI z)] [] (V, σ) 0 0 := by
    intro j
    induction j with
    | zero =>
      intro s hs y z hy hz
      refine aw_iload_2 (q := 5) F dM_choicesNow_4 rfl ?_
      refine aw_aload_0 (q := 6) F dM_choicesNow_5 rfl ?_
      refine av_callV0 (q := 9) (ci := 9) F hm mM_stepsMany_i mM_stepsMany_n lM_336 dM_choicesNow_6 rfl rfl rfl (by first | exact hM.o | exact hl.o | exact hM.a55 | exact hM.a56 | exact hM.a59 | exact hM.a60 | exact hM.a61 | exact hM.a62 | exact hl.a4) (by decide) (Nat.le_refl _) (Nat.le_refl _) (Nat.le_of_ble_eq_true rfl) (wM_stepsMany hM hl hC hc ?_)
      refine aw_icmp_ge (q := 12) (t := 34) F dM_choicesNow_9 rfl (by decide) (fun c9 => ?_) (fun c9 => by omega)
      refine aw_iload_1 (q := 35) F dM_choicesNow_34 rfl ?_
      refine aw_iret F C dM_choicesNow_35 rfl (Nat.le_refl _) (Nat.le_refl _) ?_
      refine kI hK ?_; rw [hy, show s = stN c by omega]
    | succ j ih =>
      intro s hs y z hy hz
      have hle := cntB_le (mayN c n (allP c)) s
      refine aw_iload_2 (q := 5) F dM_choicesNow_4 rfl ?_
      refine aw_aload_0 (q := 6) F dM_choicesNow_5 rfl ?_
      refine av_callV0 (q := 9) (ci := 9) F hm mM_stepsMany_i mM_stepsMany_n lM_336 dM_choicesNow_6 rfl rfl rfl (by first | exact hM.o | exact hl.o | exact hM.a55 | exact hM.a56 | exact hM.a59 | exact hM.a60 | exact hM.a61 | exact hM.a62 | exact hl.a4) (by decide) (Nat.le_refl _) (Nat.le_refl _) (Nat.le_of_ble_eq_true rfl) (wM_stepsMany hM hl hC hc ?_)
      refine aw_icmp_ge (q := 12) (t := 34) F dM_choicesNow_9 rfl (by decide) (fun c9 => by omega) (fun c9 => ?_)
      refine aw_iload_1 (q := 13) F dM_choicesNow_12 rfl ?_
      refine aw_aload_0 (q := 14) F dM_choicesNow_13 rfl ?_
      refine aw_iload_2 (q := 15) F dM_choicesNow_14 rfl ?_
      refine av_callV1 (q := 18) (ci := 9) F hm mM_canStep_i mM_canStep_n lM_342 dM_choicesNow_15 rfl rfl rfl (by first | exact hM.o | exact hl.o | exact hM.a55 | exact hM.a56 | exact hM.a59 | exact hM.a60 | exact hM.a61 | exact hM.a62 | exact hl.a4) (by decide) (Nat.le_refl _) (Nat.le_refl _) (Nat.le_of_ble_eq_true rfl) (wM_canStep (s := s) hz (by omega) hM hl hC hA hc (fun c15 => ?_) (fun c15 => ?_))
      · refine aw_if_eq (q := 21) (t := 25) F dM_choicesNow_18 rfl (by decide) (fun c18 => absurd c18 (by decide)) (fun c18 => ?_)
        refine aw_iconst (q := 22) F dM_choicesNow_21 rfl (by decide) ?_
        refine aw_goto (t := 26) F dM_choicesNow_22 (by decide) ?_
        refine aw_iadd (q := 27) F dM_choicesNow_26 rfl (by constructor <;> omega) ?_
        refine aw_istore_1 (q := 28) F dM_choicesNow_27 rfl trivial ?_
        refine aw_iinc_2 (q := 31) F dM_choicesNow_28 rfl trivial (by constructor <;> omega) ?_
        refine aw_goto (t := 4) F dM_choicesNow_31 (by decide) ?_
        first | exact ih (s + 1) (by omega) _ _ (by rw [cntB_1 c15]; omega) (by omega) | exact ih (s + 1) (by omega) _ _ (by rw [cntB_0 c15]; omega) (by omega)
      · refine aw_if_eq (q := 21) (t := 25) F dM_choicesNow_18 rfl (by decide) (fun c18 => ?_) (fun c18 => absurd c18 (by decide))
        refine aw_iconst (q := 26) F dM_choicesNow_25 rfl (by decide) ?_
        refine aw_iadd (q := 27) F dM_choicesNow_26 rfl (by constructor <;> omega) ?_
        refine aw_istore_1 (q := 28) F dM_choicesNow_27 rfl trivial ?_
        refine aw_iinc_2 (q := 31) F dM_choicesNow_28 rfl trivial (by constructor <;> omega) ?_
        refine aw_goto (t := 4) F dM_choicesNow_31 (by decide) ?_
        first | exact ih (s + 1) (by omega) _ _ (by rw [cntB_1 c15]; omega) (by omega) | exact ih (s + 1) (by omega) _ _ (by rw [cntB_0 c15]; omega) (by omega)
  refine aw_iconst (q := 1) F dM_choicesNow_0 rfl (by decide) ?_
  refine aw_istore_1 (q := 2) F dM_choicesNow_1 rfl trivial ?_
  refine aw_iconst (q := 3) F dM_choicesNow_2 rfl (by decide) ?_
  refine aw_istore_2 (q := 4) F dM_choicesNow_3 rfl trivial ?_
  exact loop _ 0 (Nat.zero_add _) _ _ rfl rfl
theorem AR.now (h : MW V σ l S) (hd : 0 < tDn (psT S)) {V2 : Nat → Nat → Int} (g : ∀ k, k < 12 → V2 56 k = V 55 k) : AR (V2 56) (psC S) (psA S) := (h.wa hd).1.same g
theorem MWq.xf {V V2 : Nat → Nat → Int} (h : MWq V S) (f : XF V V2) : MWq V2 S := h.fl (by rw [f 53 (by decide)]) (by rw [f 53 (by decide)]) (f 59 (by decide)) (f 60 (by decide)) (f 61 (by decide))
theorem wM_choices (h : MW V σ l S) (hK : MK K V σ l (noS S) (some (vI (noL S (cntB (mayN (psC S) (psA S) (allP (psC S))) (stN (psC S))))))) : Wp G 4 mM_choices [vR 53] (V, σ) 0 0 K := by
  have hM := h.mo
  refine wp_intro mM_choices_i.1 [some (vR 53)] rfl rfl (Nat.le_of_ble_eq_true rfl) ?_
  intro X hG F C
  have hm := C.rm
  refine aw_aload_0 (q := 1) F dM_choices_0 rfl ?_
  refine aw_iconst (q := 2) F dM_choices_1 rfl (by decide) ?_
  refine av_puti (q := 5) F fM_46 dM_choices_2 rfl rfl (wr_9_0 _) (by first | exact hM.o | exact hl.o | exact hM.a55 | exact hM.a56 | exact hM.a59 | exact hM.a60 | exact hM.a61 | exact hM.a62 | exact hl.a4) ?_
  refine aw_aload_0 (q := 6) F dM_choices_5 rfl ?_
  refine av_getaE (q := 9) F fM_281 dM_choices_6 rfl rfl (by first | exact hM.o | exact hl.o | exact hM.a55 | exact hM.a56 | exact hM.a59 | exact hM.a60 | exact hM.a61 | exact hM.a62 | exact hl.a4) hM.p3 ?_
  refine aw_ifnonnull (q := 12) (t := 18) F dM_choices_9 rfl (by decide) (fun c9 => ?_) (fun c9 => ?_)
  · have hd := h.pos c9
    have hl := h.la hd
    refine aw_aload_0 (q := 19) F dM_choices_18 rfl ?_
    refine av_callV0 (q := 22) (ci := 9) F hm mM_works_i mM_works_n lM_348 dM_choices_19 rfl rfl rfl (by first | exact hM.o | exact hl.o | exact hM.a55 | exact hM.a56 | exact hM.a59 | exact hM.a60 | exact hM.a61 | exact hM.a62 | exact hl.a4) (by decide) (Nat.le_refl _) (Nat.le_refl _) (Nat.le_of_ble_eq_true rfl) (wM_works hM (fun V2 f19 g19 => ?_))
    have hX : XF (up2 V 53 0 0) V2 := f19
    refine aw_aload_0 (q := 23) F dM_choices_22 rfl ?_
    refine aw_aload_0 (q := 24) F dM_choices_23 rfl ?_
    refine av_callV0 (q := 27) (ci := 9) F hm mM_choicesNow_i mM_choicesNow_n lM_364 dM_choices_24 rfl rfl rfl (by first | exact hM.o | exact hl.o | exact hM.a55 | exact hM.a56 | exact hM.a59 | exact hM.a60 | exact hM.a61 | exact hM.a62 | exact hl.a4) (by decide) (Nat.le_refl _) (Nat.le_refl _) (Nat.le_of_ble_eq_true rfl) (wM_choicesNow hM hl (hX.lc (h.h64 hd) (h.th.lc hd)) (AR.now h.th hd g19) h.hc ?_)
    refine av_callV1 (q := 30) (ci := 9) F hm mM_good_i mM_good_n lM_56 dM_choices_27 rfl rfl rfl (by first | exact hM.o | exact hl.o | exact hM.a55 | exact hM.a56 | exact hM.a59 | exact hM.a60 | exact hM.a61 | exact hM.a62 | exact hl.a4) (by decide) (Nat.le_refl _) (Nat.le_refl _) (Nat.le_of_ble_eq_true rfl) (wM_good hM ?_)
    refine aw_iret F C dM_choices_30 rfl (Nat.le_refl _) (Nat.le_refl _) ?_
    unfold noS noL at hK
    rw [if_pos hd, if_pos hd] at hK
    exact MK.fin (S := S) hK h (by decide) ((MF.rf _).xf hX) (h.th.q.xf hX)
  · refine aw_aload_0 (q := 13) F dM_choices_12 rfl ?_
    refine aw_iconst (q := 14) F dM_choices_13 rfl (by decide) ?_
    refine av_callV1 (q := 17) (ci := 9) F hm mM_refused_i mM_refused_n lM_52 dM_choices_14 rfl rfl rfl (by first | exact hM.o | exact hl.o | exact hM.a55 | exact hM.a56 | exact hM.a59 | exact hM.a60 | exact hM.a61 | exact hM.a62 | exact hl.a4) (by decide) (Nat.le_refl _) (Nat.le_refl _) (Nat.le_of_ble_eq_true rfl) (wM_refused hM ?_)
    refine aw_iret F C dM_choices_17 rfl (Nat.le_refl _) (Nat.le_refl _) ?_
    have hz : ¬ 0 < tDn (psT S) := by rw [h.zer c9]; decide
    unfold noS noL at hK
    rw [if_neg hz, if_neg hz] at hK
    exact MK.fin0 hK h (by decide)
theorem wM_stuckOnes (h : MW V σ l S) (hK : MK K V σ l (setR S (wy (0 < tDn (psT S)) True)) (some (vI (rfD (wy (0 < tDn (psT S)) True) (fuS (psC S) (psA S)).2.2 (-1))))) : Wp G 6 mM_stuckOnes [vR 53] (V, σ) 0 0 K := by
  obtain ⟨g, r1, -⟩ := m3 vI hK
  have hM := h.mo
  have hc := h.hc
  have hsp := spc_le hc
  refine wp_intro mM_stuckOnes_i.1 [some (vR 53), none, none] rfl rfl (Nat.le_of_ble_eq_true rfl) ?_
  intro X hG F C
  have hm := C.rm
  have go : ∀ (hd : 0 < tDn (psT S)) (j i : Nat), i + j = (fuS (psC S) (psA S)).1.length → ∀ (V1 : Nat → Nat → Int) (y z : Int) (m : Nat), FN (up2 V 53 0 0) V1 S → AR (V1 56) (psC S) m → z = i → y = stk (psC S) ((fuS (psC S) (psA S)).1.take i) → AW X 26 [some (vR 53), some (vI y), some (vI z)] [] (V1, σ) 0 0 := by
    intro hd j
    have hl := h.la hd
    have h64 := h.h64 hd
    have hn := h.hn hd
    have hok := fu_ok hn
    have hlen := okQ_len hok
    have g' := g hd trivial
    induction j with
    | zero =>
      intro i hi V1 y z m hF hA hz hy
      have h25 := hF.2.2.1
      rw [List.take_of_length_le (by omega), ← stk_fu hn] at hy
      refine aw_iload_2 (q := 27) F dM_stuckOnes_26 rfl ?_
      refine aw_aload_0 (q := 28) F dM_stuckOnes_27 rfl ?_
      refine av_geti (q := 31) F fM_333 dM_stuckOnes_28 rfl rfl (by first | exact hM.o | exact hl.o | exact hM.a55 | exact hM.a56 | exact hM.a59 | exact hM.a60 | exact hM.a61 | exact hM.a62 | exact hl.a4) ?_
      rw [h25]
      refine aw_icmp_ge (q := 34) (t := 65) F dM_stuckOnes_31 rfl (by decide) (fun c31 => ?_) (fun c31 => by omega)
      refine aw_aload_0 (q := 66) F dM_stuckOnes_65 rfl ?_
      refine aw_iload_1 (q := 67) F dM_stuckOnes_66 rfl ?_
      refine av_callV1 (q := 70) (ci := 9) F hm mM_good_i mM_good_n lM_56 dM_stuckOnes_67 rfl rfl rfl (by first | exact hM.o | exact hl.o | exact hM.a55 | exact hM.a56 | exact hM.a59 | exact hM.a60 | exact hM.a61 | exact hM.a62 | exact hl.a4) (by decide) (Nat.le_refl _) (Nat.le_refl _) (Nat.le_of_ble_eq_true rfl) (wM_good hM ?_)
      refine aw_iret F C dM_stuckOnes_70 rfl (Nat.le_refl _) (Nat.le_refl _) ?_
      refine MK.fin (S := S) ?_ h (by decide) hF.1 hF.q; rw [hy]; exact g'
    | succ j ih =>
      intro i hi V1 y z m hF hA hz hy
      have h25 := hF.2.2.1
      have hq : (fuS (psC S) (psA S)).1[i]? = some (fuS (psC S) (psA S)).1[i] := List.getElem?_eq_getElem (by omega)
      generalize (fuS (psC S) (psA S)).1[i] = q at hq
      have hqs := hok.2.1 q (List.mem_of_getElem? hq)
      have e61 : V1 61 z.toNat = mnN (psC S) q.1 := by rw [show z.toNat = i by omega]; exact (hF.2.2.2.2 i q hq).1
      have hyl : stk (psC S) ((fuS (psC S) (psA S)).1.take i) ≤ i := Nat.le_trans List.countP_le_length (by rw [List.length_take]; omega)
      have hnx : stk (psC S) ((fuS (psC S) (psA S)).1.take (i + 1)) = stk (psC S) ((fuS (psC S) (psA S)).1.take i) + if cntB (mayN (psC S) q.1 (allP (psC S))) (stN (psC S)) = 0 then 1 else 0 := by
        rw [List.take_add_one, hq, Option.toList_some]
        unfold stk
        rw [List.countP_append, List.countP_singleton]
        congr 1
        by_cases e : cntB (mayN (psC S) q.1 (allP (psC S))) (stN (psC S)) = 0
        · rw [if_pos e, if_pos (beq_iff_eq.mpr e)]
        · rw [if_neg e, if_neg (fun z => e (beq_iff_eq.mp z))]
      refine aw_iload_2 (q := 27) F dM_stuckOnes_26 rfl ?_
      refine aw_aload_0 (q := 28) F dM_stuckOnes_27 rfl ?_
      refine av_geti (q := 31) F fM_333 dM_stuckOnes_28 rfl rfl (by first | exact hM.o | exact hl.o | exact hM.a55 | exact hM.a56 | exact hM.a59 | exact hM.a60 | exact hM.a61 | exact hM.a62 | exact hl.a4) ?_
      rw [h25]
      refine aw_icmp_ge (q := 34) (t := 65) F dM_stuckOnes_31 rfl (by decide) (fun c31 => by omega) (fun c31 => ?_)
      refine aw_aload_0 (q := 35) F dM_stuckOnes_34 rfl ?_
      refine aw_aload_0 (q := 36) F dM_stuckOnes_35 rfl ?_
      refine av_getaE (q := 39) F fM_37 dM_stuckOnes_36 rfl rfl (by first | exact hM.o | exact hl.o | exact hM.a55 | exact hM.a56 | exact hM.a59 | exact hM.a60 | exact hM.a61 | exact hM.a62 | exact hl.a4) hM.p23 ?_
      refine aw_iload_2 (q := 40) F dM_stuckOnes_39 rfl ?_
      refine av_iaload (q := 41) F dM_stuckOnes_40 rfl (by first | exact hM.o | exact hl.o | exact hM.a55 | exact hM.a56 | exact hM.a59 | exact hM.a60 | exact hM.a61 | exact hM.a62 | exact hl.a4) (by omega) (by omega) ?_
      rw [e61]
      refine av_callV1 (q := 44) (ci := 9) F hm mM_lays_i mM_lays_n lM_339 dM_stuckOnes_41 rfl rfl rfl (by first | exact hM.o | exact hl.o | exact hM.a55 | exact hM.a56 | exact hM.a59 | exact hM.a60 | exact hM.a61 | exact hM.a62 | exact hl.a4) (by decide) (Nat.le_refl _) (Nat.le_refl _) (Nat.le_of_ble_eq_true rfl) (wM_lays (n := q.1) rfl hqs hM hl (hF.1.lc h64 (h.th.lc hd)) hA hc (by omega) (fun V2 f41 g41 => ?_))
      refine aw_iload_1 (q := 45) F dM_stuckOnes_44 rfl ?_
      refine aw_aload_0 (q := 46) F dM_stuckOnes_45 rfl ?_
      refine av_callV0 (q := 49) (ci := 9) F hm mM_choicesNow_i mM_choicesNow_n lM_364 dM_stuckOnes_46 rfl rfl rfl (by first | exact hM.o | exact hl.o | exact hM.a55 | exact hM.a56 | exact hM.a59 | exact hM.a60 | exact hM.a61 | exact hM.a62 | exact hl.a4) (by decide) (Nat.le_refl _) (Nat.le_refl _) (Nat.le_of_ble_eq_true rfl) (wM_choicesNow (n := q.1) hM hl ((hF.xf f41).1.lc h64 (h.th.lc hd)) g41 hc ?_)
      refine aw_if_ne (q := 52) (t := 56) F dM_stuckOnes_49 rfl (by decide) (fun c49 => ?_) (fun c49 => ?_)
      · refine aw_iconst (q := 57) F dM_stuckOnes_56 rfl (by decide) ?_
        refine aw_iadd (q := 58) F dM_stuckOnes_57 rfl (by constructor <;> omega) ?_
        refine aw_istore_1 (q := 59) F dM_stuckOnes_58 rfl trivial ?_
        refine aw_iinc_2 (q := 62) F dM_stuckOnes_59 rfl trivial (by constructor <;> omega) ?_
        refine aw_goto (t := 26) F dM_stuckOnes_62 (by decide) ?_
        refine ih (i + 1) (by omega) V2 _ _ q.1 (hF.xf f41) g41 (by omega) ?_
        rw [hnx]
        first | (rw [if_neg (by omega)]; omega) | (rw [if_pos (by omega)]; omega)
      · refine aw_iconst (q := 53) F dM_stuckOnes_52 rfl (by decide) ?_
        refine aw_goto (t := 57) F dM_stuckOnes_53 (by decide) ?_
        refine aw_iadd (q := 58) F dM_stuckOnes_57 rfl (by constructor <;> omega) ?_
        refine aw_istore_1 (q := 59) F dM_stuckOnes_58 rfl trivial ?_
        refine aw_iinc_2 (q := 62) F dM_stuckOnes_59 rfl trivial (by constructor <;> omega) ?_
        refine aw_goto (t := 26) F dM_stuckOnes_62 (by decide) ?_
        refine ih (i + 1) (by omega) V2 _ _ q.1 (hF.xf f41) g41 (by omega) ?_
        rw [hnx]
        first | (rw [if_neg (by omega)]; omega) | (rw [if_pos (by omega)]; omega)
  refine aw_aload_0 (q := 1) F dM_stuckOnes_0 rfl ?_
  refine aw_iconst (q := 2) F dM_stuckOnes_1 rfl (by decide) ?_
  refine av_puti (q := 5) F fM_46 dM_stuckOnes_2 rfl rfl (wr_9_0 _) (by first | exact hM.o | exact hl.o | exact hM.a55 | exact hM.a56 | exact hM.a59 | exact hM.a60 | exact hM.a61 | exact hM.a62 | exact hl.a4) ?_
  refine aw_aload_0 (q := 6) F dM_stuckOnes_5 rfl ?_
  refine av_getaE (q := 9) F fM_281 dM_stuckOnes_6 rfl rfl (by first | exact hM.o | exact hl.o | exact hM.a55 | exact hM.a56 | exact hM.a59 | exact hM.a60 | exact hM.a61 | exact hM.a62 | exact hl.a4) hM.p3 ?_
  refine aw_ifnonnull (q := 12) (t := 18) F dM_stuckOnes_9 rfl (by decide) (fun c9 => ?_) (fun c9 => ?_)
  · refine aw_aload_0 (q := 19) F dM_stuckOnes_18 rfl ?_
    refine av_callV0 (q := 22) (ci := 9) F hm mM_reachesNow_i mM_reachesNow_n lM_373 dM_stuckOnes_19 rfl rfl rfl (by first | exact hM.o | exact hl.o | exact hM.a55 | exact hM.a56 | exact hM.a59 | exact hM.a60 | exact hM.a61 | exact hM.a62 | exact hl.a4) (by decide) (Nat.le_refl _) (Nat.le_refl _) (Nat.le_of_ble_eq_true rfl) (wM_reachesNow h.th (h.pos c9) (fun V2 m19 f19 o19 A z19 R => ?_))
    refine aw_iconst (q := 23) F dM_stuckOnes_22 rfl (by decide) ?_
    refine aw_istore_1 (q := 24) F dM_stuckOnes_23 rfl trivial ?_
    refine aw_iconst (q := 25) F dM_stuckOnes_24 rfl (by decide) ?_
    refine aw_istore_2 (q := 26) F dM_stuckOnes_25 rfl trivial ?_
    exact go (h.pos c9) _ 0 (Nat.zero_add _) V2 _ _ m19 ⟨f19, o19, R⟩ A rfl rfl
  · refine aw_aload_0 (q := 13) F dM_stuckOnes_12 rfl ?_
    refine aw_iconst (q := 14) F dM_stuckOnes_13 rfl (by decide) ?_
    refine av_callV1 (q := 17) (ci := 9) F hm mM_refused_i mM_refused_n lM_52 dM_stuckOnes_14 rfl rfl rfl (by first | exact hM.o | exact hl.o | exact hM.a55 | exact hM.a56 | exact hM.a59 | exact hM.a60 | exact hM.a61 | exact hM.a62 | exact hl.a4) (by decide) (Nat.le_refl _) (Nat.le_refl _) (Nat.le_of_ble_eq_true rfl) (wM_refused hM ?_)
    refine aw_iret F C dM_stuckOnes_17 rfl (Nat.le_refl _) (Nat.le_refl _) ?_
    exact MK.fin0 (r1 (by rw [h.zer c9]; decide)) h (by decide)
theorem wM_placings (h : MW V σ l S) (hK : MK K V σ l (setR S (wy (0 < tDn (psT S)) True)) (some (vI (rfD (wy (0 < tDn (psT S)) True) (zbc (metL (psC S) (fuS (psC S) (psA S)).1)) (-1))))) : Wp G 6 mM_placings [vR 53] (V, σ) 0 0 K := by
  obtain ⟨g, r1, -⟩ := m3 vI hK
  have hM := h.mo
  have hc := h.hc
  have hsp := spc_le hc
  have hd4 : tDn (psT S) ≤ 4 := hc.1
  have hp2 : tPn (psT S) ≤ 2 := hc.2.1
  have h25w := wB_p25 hc
  have h225 : (2 : Nat) ^ 25 = 33554432 := by decide
  have hBs : (Bs (psC S) : Int) = (tDn (psT S) : Int) + 1 := by unfold Bs; rfl
  refine wp_intro mM_placings_i.1 [some (vR 53), none, none, none, none] rfl rfl (Nat.le_of_ble_eq_true rfl) ?_
  intro X hG F C
  have hm := C.rm
  have go : ∀ (hd : 0 < tDn (psT S)) (j i : Nat), i + j = (fuS (psC S) (psA S)).1.length → ∀ (V1 : Nat → Nat → Int) (y z : Int) (x3 x4 : Option AV) (m : Nat), FN (up2 V 53 0 0) V1 S → AR (V1 56) (psC S) m → z = i → y = metM (psC S) ((fuS (psC S) (psA S)).1.take i) → AW X 26 [some (vR 53), some (vI y), some (vI z), x3, x4] [] (V1, σ) 0 0 := by
    intro hd j
    have hl := h.la hd
    have h64 := h.h64 hd
    have hn := h.hn hd
    have hok := fu_ok hn
    have hlen := okQ_len hok
    have g' := g hd trivial
    induction j with
    | zero =>
      intro i hi V1 y z x3 x4 m hF hA hz hy
      have h25 := hF.2.2.1
      rw [List.take_of_length_le (by omega)] at hy
      have hlt := metM_lt hc (fuS (psC S) (psA S)).1
      refine aw_iload_2 (q := 27) F dM_placings_26 rfl ?_
      refine aw_aload_0 (q := 28) F dM_placings_27 rfl ?_
      refine av_geti (q := 31) F fM_333 dM_placings_28 rfl rfl (by first | exact hM.o | exact hl.o | exact hM.a55 | exact hM.a56 | exact hM.a59 | exact hM.a60 | exact hM.a61 | exact hM.a62 | exact hl.a4) ?_
      rw [h25]
      refine aw_icmp_ge (q := 34) (t := 99) F dM_placings_31 rfl (by decide) (fun c31 => ?_) (fun c31 => by omega)
      refine aw_aload_0 (q := 100) F dM_placings_99 rfl ?_
      refine aw_iload_1 (q := 101) F dM_placings_100 rfl ?_
      refine av_callS1 (q := 104) F hm mM_bits_i mM_bits_n lM_296 dM_placings_101 rfl (by decide) (Nat.le_refl _) (Nat.le_refl _) (Nat.le_of_ble_eq_true rfl) (wM_bits hy (by omega) ?_)
      refine av_callV1 (q := 107) (ci := 9) F hm mM_good_i mM_good_n lM_56 dM_placings_104 rfl rfl rfl (by first | exact hM.o | exact hl.o | exact hM.a55 | exact hM.a56 | exact hM.a59 | exact hM.a60 | exact hM.a61 | exact hM.a62 | exact hl.a4) (by decide) (Nat.le_refl _) (Nat.le_refl _) (Nat.le_of_ble_eq_true rfl) (wM_good hM ?_)
      refine aw_iret F C dM_placings_107 rfl (Nat.le_refl _) (Nat.le_refl _) ?_
      refine MK.fin (S := S) ?_ h (by decide) hF.1 hF.q; rw [plc_eq hc]; exact g'
    | succ j ih =>
      intro i hi V1 y z x3 x4 m hF hA hz hy
      have h25 := hF.2.2.1
      have hq : (fuS (psC S) (psA S)).1[i]? = some (fuS (psC S) (psA S)).1[i] := List.getElem?_eq_getElem (by omega)
      generalize (fuS (psC S) (psA S)).1[i] = q at hq
      have hqs := hok.2.1 q (List.mem_of_getElem? hq)
      have e61 : V1 61 z.toNat = mnN (psC S) q.1 := by rw [show z.toNat = i by omega]; exact (hF.2.2.2.2 i q hq).1
      have hlt := metM_lt hc ((fuS (psC S) (psA S)).1.take i)
      have hlt2 := metM_lt hc ((fuS (psC S) (psA S)).1.take (i + 1))
      have hnx : metM (psC S) ((fuS (psC S) (psA S)).1.take (i + 1)) = metM (psC S) ((fuS (psC S) (psA S)).1.take i) ||| 2 ^ mnA (psC S) q.1 (pN (psC S)) := by
        rw [List.take_add_one, hq, Option.toList_some, metM_add]
      have in2 : ∀ (V2 : Nat → Nat → Int), FN (up2 V 53 0 0) V2 S → AR (V2 56) (psC S) q.1 → ∀ (k p : Nat), p + k = tPn (psT S) → ∀ (u v : Int), u = mnA (psC S) q.1 p → v = p → AW X 49 [some (vR 53), some (vI y), some (vI z), some (vI u), some (vI v)] [] (V2, σ) 0 0 := by
        intro V2 hF2 hA2 k
        have hC2 := hF2.1.lc h64 (h.th.lc hd)
        have c1 : V2 l 1 = tDn (psT S) := hC2.1
        have c2 : V2 l 2 = tPn (psT S) := hC2.2.1
        induction k with
        | zero =>
          intro p hp u v hu hv
          have hmn := mnA_lt (psC S) q.1 (pN (psC S))
          have hp' : p = pN (psC S) := by show p = tPn (psT S); omega
          rw [hp'] at hu
          refine aw_iload_4 (q := 51) F dM_placings_49 rfl ?_
          refine aw_aload_0 (q := 52) F dM_placings_51 rfl ?_
          refine av_getaE (q := 55) F fM_281 dM_placings_52 rfl rfl (by first | exact hM.o | exact hl.o | exact hM.a55 | exact hM.a56 | exact hM.a59 | exact hM.a60 | exact hM.a61 | exact hM.a62 | exact hl.a4) hM.p3 ?_
          refine av_geti (q := 58) F fM_253 dM_placings_55 rfl rfl (by first | exact hM.o | exact hl.o | exact hM.a55 | exact hM.a56 | exact hM.a59 | exact hM.a60 | exact hM.a61 | exact hM.a62 | exact hl.a4) ?_
          rw [c2]
          refine aw_icmp_ge (q := 61) (t := 87) F dM_placings_58 rfl (by decide) (fun c58 => ?_) (fun c58 => by omega)
          refine aw_iload_1 (q := 88) F dM_placings_87 rfl ?_
          refine aw_iconst (q := 89) F dM_placings_88 rfl (by decide) ?_
          refine aw_iload_3 (q := 90) F dM_placings_89 rfl ?_
          refine aw_ishl (q := 91) F dM_placings_90 rfl ?_
          rw [shl1 (by omega) (by omega), hu, Int.toNat_natCast, hy]
          refine aw_ior (q := 92) F dM_placings_91 rfl ?_
          rw [zor_n (by rw [← hnx]; omega), ← hnx]
          refine aw_istore_1 (q := 93) F dM_placings_92 rfl trivial ?_
          refine aw_iinc_2 (q := 96) F dM_placings_93 rfl trivial (by constructor <;> omega) ?_
          refine aw_goto (t := 26) F dM_placings_96 (by decide) ?_
          exact ih (i + 1) (by omega) V2 _ _ _ _ q.1 hF2 hA2 (by omega) rfl
        | succ k ih2 =>
          intro p hp u v hu hv
          have hb := mnA_lt (psC S) q.1 (p + 1)
          have hwl := wB_le hc (i := p + 1) (by omega)
          have eN : (Bs (psC S) : Int) * u = ((Bs (psC S) * mnA (psC S) q.1 p : Nat) : Int) := by rw [hu, Int.natCast_mul]
          have ee : mnA (psC S) q.1 (p + 1) = Bs (psC S) * mnA (psC S) q.1 p + pl (psC S) q.1 p := rfl
          have e2 : V2 56 p = (pl (psC S) q.1 p : Int) := ar_pl hA2 (by omega) (show p < tPn (psT S) by omega)
          refine aw_iload_4 (q := 51) F dM_placings_49 rfl ?_
          refine aw_aload_0 (q := 52) F dM_placings_51 rfl ?_
          refine av_getaE (q := 55) F fM_281 dM_placings_52 rfl rfl (by first | exact hM.o | exact hl.o | exact hM.a55 | exact hM.a56 | exact hM.a59 | exact hM.a60 | exact hM.a61 | exact hM.a62 | exact hl.a4) hM.p3 ?_
          refine av_geti (q := 58) F fM_253 dM_placings_55 rfl rfl (by first | exact hM.o | exact hl.o | exact hM.a55 | exact hM.a56 | exact hM.a59 | exact hM.a60 | exact hM.a61 | exact hM.a62 | exact hl.a4) ?_
          rw [c2]
          refine aw_icmp_ge (q := 61) (t := 87) F dM_placings_58 rfl (by decide) (fun c58 => by omega) (fun c58 => ?_)
          refine aw_aload_0 (q := 62) F dM_placings_61 rfl ?_
          refine av_getaE (q := 65) F fM_281 dM_placings_62 rfl rfl (by first | exact hM.o | exact hl.o | exact hM.a55 | exact hM.a56 | exact hM.a59 | exact hM.a60 | exact hM.a61 | exact hM.a62 | exact hl.a4) hM.p3 ?_
          refine av_geti (q := 68) F fM_183 dM_placings_65 rfl rfl (by first | exact hM.o | exact hl.o | exact hM.a55 | exact hM.a56 | exact hM.a59 | exact hM.a60 | exact hM.a61 | exact hM.a62 | exact hl.a4) ?_
          refine aw_iconst (q := 69) F dM_placings_68 rfl (by decide) ?_
          refine aw_iadd (q := 70) F dM_placings_69 rfl (by rw [c1]; omega) ?_
          rw [c1, ← hBs]
          refine aw_iload_3 (q := 71) F dM_placings_70 rfl ?_
          refine aw_imul (q := 72) F dM_placings_71 rfl (by rw [eN]; omega) ?_
          rw [eN]
          refine aw_aload_0 (q := 73) F dM_placings_72 rfl ?_
          refine av_getaE (q := 76) F fM_21 dM_placings_73 rfl rfl (by first | exact hM.o | exact hl.o | exact hM.a55 | exact hM.a56 | exact hM.a59 | exact hM.a60 | exact hM.a61 | exact hM.a62 | exact hl.a4) hM.p16 ?_
          refine aw_iload_4 (q := 78) F dM_placings_76 rfl ?_
          refine av_iaload (q := 79) F dM_placings_78 rfl (by first | exact hM.o | exact hl.o | exact hM.a55 | exact hM.a56 | exact hM.a59 | exact hM.a60 | exact hM.a61 | exact hM.a62 | exact hl.a4) (by omega) (by omega) ?_
          rw [show v.toNat = p by omega, e2]
          refine aw_iadd (q := 80) F dM_placings_79 rfl (by constructor <;> omega) ?_
          refine aw_istore_3 (q := 81) F dM_placings_80 rfl trivial ?_
          refine aw_iinc_4 (q := 84) F dM_placings_81 rfl trivial (by constructor <;> omega) ?_
          refine aw_goto (t := 49) F dM_placings_84 (by decide) ?_
          exact ih2 (p + 1) (by omega) _ _ (by rw [ee]; omega) (by omega)
      refine aw_iload_2 (q := 27) F dM_placings_26 rfl ?_
      refine aw_aload_0 (q := 28) F dM_placings_27 rfl ?_
      refine av_geti (q := 31) F fM_333 dM_placings_28 rfl rfl (by first | exact hM.o | exact hl.o | exact hM.a55 | exact hM.a56 | exact hM.a59 | exact hM.a60 | exact hM.a61 | exact hM.a62 | exact hl.a4) ?_
      rw [h25]
      refine aw_icmp_ge (q := 34) (t := 99) F dM_placings_31 rfl (by decide) (fun c31 => by omega) (fun c31 => ?_)
      refine aw_aload_0 (q := 35) F dM_placings_34 rfl ?_
      refine aw_aload_0 (q := 36) F dM_placings_35 rfl ?_
      refine av_getaE (q := 39) F fM_37 dM_placings_36 rfl rfl (by first | exact hM.o | exact hl.o | exact hM.a55 | exact hM.a56 | exact hM.a59 | exact hM.a60 | exact hM.a61 | exact hM.a62 | exact hl.a4) hM.p23 ?_
      refine aw_iload_2 (q := 40) F dM_placings_39 rfl ?_
      refine av_iaload (q := 41) F dM_placings_40 rfl (by first | exact hM.o | exact hl.o | exact hM.a55 | exact hM.a56 | exact hM.a59 | exact hM.a60 | exact hM.a61 | exact hM.a62 | exact hl.a4) (by omega) (by omega) ?_
      rw [e61]
      refine av_callV1 (q := 44) (ci := 9) F hm mM_lays_i mM_lays_n lM_339 dM_placings_41 rfl rfl rfl (by first | exact hM.o | exact hl.o | exact hM.a55 | exact hM.a56 | exact hM.a59 | exact hM.a60 | exact hM.a61 | exact hM.a62 | exact hl.a4) (by decide) (Nat.le_refl _) (Nat.le_refl _) (Nat.le_of_ble_eq_true rfl) (wM_lays (n := q.1) rfl hqs hM hl (hF.1.lc h64 (h.th.lc hd)) hA hc (by omega) (fun V2 f41 g41 => ?_))
      refine aw_iconst (q := 45) F dM_placings_44 rfl (by decide) ?_
      refine aw_istore_3 (q := 46) F dM_placings_45 rfl trivial ?_
      refine aw_iconst (q := 47) F dM_placings_46 rfl (by decide) ?_
      refine aw_istore_4 (q := 49) F dM_placings_47 rfl trivial ?_
      exact in2 V2 (hF.xf f41) g41 (tPn (psT S)) 0 (by omega) _ _ rfl rfl
  refine aw_aload_0 (q := 1) F dM_placings_0 rfl ?_
  refine aw_iconst (q := 2) F dM_placings_1 rfl (by decide) ?_
  refine av_puti (q := 5) F fM_46 dM_placings_2 rfl rfl (wr_9_0 _) (by first | exact hM.o | exact hl.o | exact hM.a55 | exact hM.a56 | exact hM.a59 | exact hM.a60 | exact hM.a61 | exact hM.a62 | exact hl.a4) ?_
  refine aw_aload_0 (q := 6) F dM_placings_5 rfl ?_
  refine av_getaE (q := 9) F fM_281 dM_placings_6 rfl rfl (by first | exact hM.o | exact hl.o | exact hM.a55 | exact hM.a56 | exact hM.a59 | exact hM.a60 | exact hM.a61 | exact hM.a62 | exact hl.a4) hM.p3 ?_
  refine aw_ifnonnull (q := 12) (t := 18) F dM_placings_9 rfl (by decide) (fun c9 => ?_) (fun c9 => ?_)
  · refine aw_aload_0 (q := 19) F dM_placings_18 rfl ?_
    refine av_callV0 (q := 22) (ci := 9) F hm mM_reachesNow_i mM_reachesNow_n lM_373 dM_placings_19 rfl rfl rfl (by first | exact hM.o | exact hl.o | exact hM.a55 | exact hM.a56 | exact hM.a59 | exact hM.a60 | exact hM.a61 | exact hM.a62 | exact hl.a4) (by decide) (Nat.le_refl _) (Nat.le_refl _) (Nat.le_of_ble_eq_true rfl) (wM_reachesNow h.th (h.pos c9) (fun V2 m19 f19 o19 A z19 R => ?_))
    refine aw_iconst (q := 23) F dM_placings_22 rfl (by decide) ?_
    refine aw_istore_1 (q := 24) F dM_placings_23 rfl trivial ?_
    refine aw_iconst (q := 25) F dM_placings_24 rfl (by decide) ?_
    refine aw_istore_2 (q := 26) F dM_placings_25 rfl trivial ?_
    exact go (h.pos c9) _ 0 (Nat.zero_add _) V2 _ _ _ _ m19 ⟨f19, o19, R⟩ A rfl rfl
  · refine aw_aload_0 (q := 13) F dM_placings_12 rfl ?_
    refine aw_iconst (q := 14) F dM_placings_13 rfl (by decide) ?_
    refine av_callV1 (q := 17) (ci := 9) F hm mM_refused_i mM_refused_n lM_52 dM_placings_14 rfl rfl rfl (by first | exact hM.o | exact hl.o | exact hM.a55 | exact hM.a56 | exact hM.a59 | exact hM.a60 | exact hM.a61 | exact hM.a62 | exact hl.a4) (by decide) (Nat.le_refl _) (Nat.le_refl _) (Nat.le_of_ble_eq_true rfl) (wM_refused hM ?_)
    refine aw_iret F C dM_placings_17 rfl (Nat.le_refl _) (Nat.le_refl _) ?_
    exact MK.fin0 (r1 (by rw [h.zer c9]; decide)) h (by decide)
end Mod19
