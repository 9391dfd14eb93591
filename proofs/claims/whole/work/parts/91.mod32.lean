section Mod32
variable {G : GE} {V V' V1 V2 : Nat → Nat → Int} {σ : Shp} {K : Option AV → Mem → Prop} {l : Nat} {c : Cfg} {n : Nat} {S : PS} {T : TL}
theorem MW.c0 (h : MW V σ l S) (hd : 0 < tDn (psT S)) : okC (c0T (psT S)) := h.1.2.2.1.okC (sc0_ok h.1.2.2.1 hd)
theorem MW.n0 (h : MW V σ l S) (hd : 0 < tDn (psT S)) : (sc0 (psT S)).2.2 < spc (c0T (psT S)) := (sc0_ok h.1.2.2.1 hd).2.2.2.1 hd
theorem MW.lc0 (h : MW V σ l S) (hd : 0 < tDn (psT S)) : LC V l (c0T (psT S)) := h.lc hd
theorem wM_begins (h : MW V σ l S) (hd : 0 < tDn (psT S)) (hK : ∀ V', MF V V' → V' 53 26 = 0 → AR (V' 56) (c0T (psT S)) (sc0 (psT S)).2.2 → (∀ i, i < spc (c0T (psT S)) → i ≠ mnN (c0T (psT S)) (sc0 (psT S)).2.2 → V' 59 i = 0) → V' 59 (mnN (c0T (psT S)) (sc0 (psT S)).2.2) = 1 → K none (V', σ)) : Wp G 1 mM_begins [vR 53] (V, σ) 0 0 K := by
  have hM := h.mo
  have hl := h.la hd
  have h64 := h.h64 hd
  have hc := h.c0 hd
  have hn := h.n0 hd
  have hLC := h.lc0 hd
  have hsp := spc_le hc
  have hmn := mnN_lt hn
  refine wp_intro mM_begins_i.1 [some (vR 53), none] rfl rfl (Nat.le_of_ble_eq_true rfl) ?_
  intro X hG F C
  have hm := C.rm
  have fill : ∀ (k : Nat), k ≤ spc (c0T (psT S)) → ∀ (V1 : Nat → Nat → Int) (w : Int), w = (k : Int) - 1 → MF V V1 → V1 53 26 = 0 → AR (V1 56) (c0T (psT S)) (sc0 (psT S)).2.2 → (∀ j, k ≤ j → j < spc (c0T (psT S)) → V1 59 j = 0) → AW X 16 [some (vR 53), some (vI w)] [] (V1, σ) 0 0 := by
    intro k
    induction k with
    | zero =>
      intro hk V1 w hw hF h26 hA hI
      refine aw_iload_1 (q := 17) F dM_begins_16 rfl ?_
      refine aw_if_lt (q := 20) (t := 33) F dM_begins_17 rfl (by decide) (fun c17 => ?_) (fun c17 => by omega)
      refine aw_aload_0 (q := 34) F dM_begins_33 rfl ?_
      refine av_getaE (q := 37) F fM_31 dM_begins_34 rfl rfl (by first | exact hM.o | exact hl.o | exact hM.a55 | exact hM.a56 | exact hM.a59 | exact hM.a62 | exact hl.a4) hM.p21 ?_
      refine aw_aload_0 (q := 38) F dM_begins_37 rfl ?_
      refine av_callV0 (q := 41) (ci := 9) F hm mM_numbered_i mM_numbered_n lM_330 dM_begins_38 rfl rfl rfl (by first | exact hM.o | exact hl.o | exact hM.a55 | exact hM.a56 | exact hM.a59 | exact hM.a62 | exact hl.a4) (by decide) (Nat.le_refl _) (Nat.le_refl _) (Nat.le_of_ble_eq_true rfl) (wM_numbered hn hM hl (hF.lc h64 hLC) hA hc ?_)
      refine aw_iconst (q := 42) F dM_begins_41 rfl (by decide) ?_
      refine av_iastore (q := 43) F dM_begins_42 rfl (by first | exact hM.o | exact hl.o | exact hM.a55 | exact hM.a56 | exact hM.a59 | exact hM.a62 | exact hl.a4) (by omega) (by omega) ?_
      refine aw_vret F C dM_begins_43 rfl (Nat.le_refl _) (Nat.le_refl _) ?_
      refine hK _ (hF.up rfl) (by rw [up2_nea _ _ (by decide)]; exact h26) (by rw [up2_nea _ _ (by decide)]; exact hA) (fun i hi hne => ?_) ?_
      · rw [Int.toNat_natCast, up2_nek _ _ hne]; exact hI i (Nat.zero_le _) hi
      · rw [Int.toNat_natCast, up2_same]
    | succ k ih =>
      intro hk V1 w hw hF h26 hA hI
      refine aw_iload_1 (q := 17) F dM_begins_16 rfl ?_
      refine aw_if_lt (q := 20) (t := 33) F dM_begins_17 rfl (by decide) (fun c17 => by omega) (fun c17 => ?_)
      refine aw_aload_0 (q := 21) F dM_begins_20 rfl ?_
      refine av_getaE (q := 24) F fM_31 dM_begins_21 rfl rfl (by first | exact hM.o | exact hl.o | exact hM.a55 | exact hM.a56 | exact hM.a59 | exact hM.a62 | exact hl.a4) hM.p21 ?_
      refine aw_iload_1 (q := 25) F dM_begins_24 rfl ?_
      refine aw_iconst (q := 26) F dM_begins_25 rfl (by decide) ?_
      refine av_iastore (q := 27) F dM_begins_26 rfl (by first | exact hM.o | exact hl.o | exact hM.a55 | exact hM.a56 | exact hM.a59 | exact hM.a62 | exact hl.a4) (by omega) (by omega) ?_
      refine aw_iinc_1 (q := 30) F dM_begins_27 rfl trivial (by constructor <;> omega) ?_
      refine aw_goto (t := 16) F dM_begins_30 (by decide) ?_
      refine ih (by omega) _ _ (by omega) (hF.up rfl) (by rw [up2_nea _ _ (by decide)]; exact h26) (by rw [up2_nea _ _ (by decide)]; exact hA) (fun j h1 h2 => ?_)
      rw [show w.toNat = k by omega]
      by_cases q : j = k
      · rw [q, up2_same]
      · rw [up2_nek _ _ q]; exact hI j (by omega) h2
  have hF0 : MF V (up2 V 53 26 0) := (MF.rf V).fl (by decide)
  refine aw_aload_0 (q := 1) F dM_begins_0 rfl ?_
  refine aw_iconst (q := 2) F dM_begins_1 rfl (by decide) ?_
  refine av_putz (q := 5) F fM_286 dM_begins_2 rfl rfl (wr_9_26 _) (by first | exact hM.o | exact hl.o | exact hM.a55 | exact hM.a56 | exact hM.a59 | exact hM.a62 | exact hl.a4) (by first | exact Or.inl rfl | exact Or.inr rfl | omega) ?_
  refine aw_aload_0 (q := 6) F dM_begins_5 rfl ?_
  refine av_callV0 (q := 9) (ci := 9) F hm mM_asTold_i mM_asTold_n lM_283 dM_begins_6 rfl rfl rfl (by first | exact hM.o | exact hl.o | exact hM.a55 | exact hM.a56 | exact hM.a59 | exact hM.a62 | exact hl.a4) (by decide) (Nat.le_refl _) (Nat.le_refl _) (Nat.le_of_ble_eq_true rfl) (wM_asTold h.1.2.2.1 hd hM hl h64 (hF0.lv h64 (h.lv hd)) (fun V2 f6 g6 => ?_))
  refine aw_aload_0 (q := 10) F dM_begins_9 rfl ?_
  refine av_callV0 (q := 13) (ci := 9) F hm mM_arrangedMany_i mM_arrangedMany_n lM_326 dM_begins_10 rfl rfl rfl (by first | exact hM.o | exact hl.o | exact hM.a55 | exact hM.a56 | exact hM.a59 | exact hM.a62 | exact hl.a4) (by decide) (Nat.le_refl _) (Nat.le_refl _) (Nat.le_of_ble_eq_true rfl) (wM_arrangedMany (c := c0T (psT S)) hM hl ((hF0.xf f6).lc h64 hLC) hc ?_)
  refine aw_iconst (q := 14) F dM_begins_13 rfl (by decide) ?_
  refine aw_isub (q := 15) F dM_begins_14 rfl (by constructor <;> omega) ?_
  refine aw_istore_1 (q := 16) F dM_begins_15 rfl trivial ?_
  exact fill (spc (c0T (psT S))) (Nat.le_refl _) V2 _ rfl (hF0.xf f6) (by rw [f6 53 (by decide)]; exact up2_same _ _ _ _) g6 (fun j h1 h2 => absurd h2 (by omega))
theorem wM_stepsOn {P m k : Nat} (hk5 : k ≤ 5) (hM : moS σ l) (hl : laS σ l) (h64 : 64 ≤ l) (hC : LC V l c) (hA : AR (V 56) c n) (hc : okC c) (hR : RI V c P m k) (hK : ∀ V' n', MF V V' → V' 53 26 = V 53 26 → AR (V' 56) c n' → RI V' c P m (k + 1) → K none (V', σ)) : Wp G 3 mM_stepsOn [vR 53] (V, σ) 0 0 K := by
  have hsp := spc_le hc
  have hst : stN c ≤ 16 := stN_le hc
  obtain ⟨f, r1, r2, r3, r4⟩ := hR
  have hp5 : 16 ^ k ≤ 1048576 := (show 16 ^ k ≤ 16 ^ 5 from Nat.pow_le_pow_right (by decide) hk5)
  have hb : sumN f (spc c) ≤ 1048576 := Nat.le_trans r2 hp5
  have hfb : ∀ i, i < spc c → f i ≤ 1048576 := fun i hi => Nat.le_trans (sumN_at hi) hb
  refine wp_intro mM_stepsOn_i.1 [some (vR 53), none, none, none] rfl rfl (Nat.le_of_ble_eq_true rfl) ?_
  intro X hG F C
  have hm := C.rm
  have copy : ∀ (o : Nat → Nat), (∀ g, dot c o g = dot c f (stp c g)) → ∀ (j i : Nat), i + j = spc c → ∀ (V1 : Nat → Nat → Int) (w : Int) (u : Option AV) (n1 : Nat), MF V V1 → V1 53 26 = V 53 26 → AR (V1 56) c n1 → (∀ e, e < spc c → V1 62 e = o e) → (∀ e, e < i → V1 59 e = o e) → w = i → AW X 108 [some (vR 53), some (vI (spc c)), some (vI w), u] [] (V1, σ) 0 0 := by
    intro o ho j
    induction j with
    | zero =>
      intro i hi V1 w u n1 hF h26 hA1 hO hI hw
      refine aw_iload_2 (q := 109) F dM_stepsOn_108 rfl ?_
      refine aw_iload_1 (q := 110) F dM_stepsOn_109 rfl ?_
      refine aw_icmp_ge (q := 113) (t := 131) F dM_stepsOn_110 rfl (by decide) (fun c110 => ?_) (fun c110 => by omega)
      refine aw_vret F C dM_stepsOn_131 rfl (Nat.le_refl _) (Nat.le_refl _) ?_
      exact hK V1 n1 hF h26 hA1 (RI.step (V := V) hst r2 r3 r4 (fun e he => hI e (by omega)) ho)
    | succ j ih =>
      intro i hi V1 w u n1 hF h26 hA1 hO hI hw
      have e62 : V1 62 w.toNat = o i := by rw [show w.toNat = i by omega]; exact hO i (by omega)
      refine aw_iload_2 (q := 109) F dM_stepsOn_108 rfl ?_
      refine aw_iload_1 (q := 110) F dM_stepsOn_109 rfl ?_
      refine aw_icmp_ge (q := 113) (t := 131) F dM_stepsOn_110 rfl (by decide) (fun c110 => by omega) (fun c110 => ?_)
      refine aw_aload_0 (q := 114) F dM_stepsOn_113 rfl ?_
      refine av_getaE (q := 117) F fM_31 dM_stepsOn_114 rfl rfl (by first | exact hM.o | exact hl.o | exact hM.a55 | exact hM.a56 | exact hM.a59 | exact hM.a62 | exact hl.a4) hM.p21 ?_
      refine aw_iload_2 (q := 118) F dM_stepsOn_117 rfl ?_
      refine aw_aload_0 (q := 119) F dM_stepsOn_118 rfl ?_
      refine av_getaE (q := 122) F fM_40 dM_stepsOn_119 rfl rfl (by first | exact hM.o | exact hl.o | exact hM.a55 | exact hM.a56 | exact hM.a59 | exact hM.a62 | exact hl.a4) hM.p24 ?_
      refine aw_iload_2 (q := 123) F dM_stepsOn_122 rfl ?_
      refine av_iaload (q := 124) F dM_stepsOn_123 rfl (by first | exact hM.o | exact hl.o | exact hM.a55 | exact hM.a56 | exact hM.a59 | exact hM.a62 | exact hl.a4) (by omega) (by omega) ?_
      rw [e62]
      refine av_iastore (q := 125) F dM_stepsOn_124 rfl (by first | exact hM.o | exact hl.o | exact hM.a55 | exact hM.a56 | exact hM.a59 | exact hM.a62 | exact hl.a4) (by omega) (by omega) ?_
      refine aw_iinc_2 (q := 128) F dM_stepsOn_125 rfl trivial (by constructor <;> omega) ?_
      refine aw_goto (t := 108) F dM_stepsOn_128 (by decide) ?_
      refine ih (i + 1) (by omega) _ _ _ n1 (hF.up rfl) (by rw [up2_nea _ _ (by decide)]; exact h26) (by rw [up2_nea _ _ (by decide)]; exact hA1) (fun e he => by rw [up2_nea _ _ (by decide)]; exact hO e he) (fun e he => ?_) (by omega)
      rw [show w.toNat = i by omega]
      by_cases q : e = i
      · rw [q, up2_same]
      · rw [up2_nek _ _ q]; exact hI e (by omega)
  have inner : ∀ (i : Nat), i < spc c → (∀ (V1 : Nat → Nat → Int) (w2 : Int) (u : Option AV) (o : Nat → Nat) (n1 : Nat), MF V V1 → V1 53 26 = V 53 26 → V1 59 = V 59 → AR (V1 56) c n1 → (∀ e, e < spc c → V1 62 e = o e) → (∀ g, dot c o g = sumN (fun j => f j * stp c g j) (i + 1)) → w2 = i → AW X 100 [some (vR 53), some (vI (spc c)), some (vI w2), u] [] (V1, σ) 0 0) → ∀ (j s : Nat), s + j = stN c → ∀ (V1 : Nat → Nat → Int) (w2 w3 : Int) (o : Nat → Nat) (n1 : Nat), MF V V1 → V1 53 26 = V 53 26 → V1 59 = V 59 → AR (V1 56) c n1 → (∀ e, e < spc c → V1 62 e = o e) → (∀ g, dot c o g = sumN (fun j => f j * stp c g j) i + f i * svs c (ivN c i) g s) → w2 = i → w3 = s → AW X 46 [some (vR 53), some (vI (spc c)), some (vI w2), some (vI w3)] [] (V1, σ) 0 0 := by
    intro i hi hE j
    obtain ⟨iv1, iv2⟩ := ivN_sp hi
    have hfi := hfb i hi
    induction j with
    | zero =>
      intro s hs V1 w2 w3 o n1 hF h26 h59 hA1 hO hD h2 h3
      rw [show s = stN c by omega] at hD
      refine aw_iload_3 (q := 47) F dM_stepsOn_46 rfl ?_
      refine aw_aload_0 (q := 48) F dM_stepsOn_47 rfl ?_
      refine av_callV0 (q := 51) (ci := 9) F hm mM_stepsMany_i mM_stepsMany_n lM_336 dM_stepsOn_48 rfl rfl rfl (by first | exact hM.o | exact hl.o | exact hM.a55 | exact hM.a56 | exact hM.a59 | exact hM.a62 | exact hl.a4) (by decide) (Nat.le_refl _) (Nat.le_refl _) (Nat.le_of_ble_eq_true rfl) (wM_stepsMany hM hl (hF.lc h64 hC) hc ?_)
      refine aw_icmp_ge (q := 54) (t := 100) F dM_stepsOn_51 rfl (by decide) (fun c51 => ?_) (fun c51 => by omega)
      exact hE V1 _ _ o n1 hF h26 h59 hA1 hO hD h2
    | succ j ih =>
      intro s hs V1 w2 w3 o n1 hF h26 h59 hA1 hO hD h2 h3
      have e59 : ∀ V2 : Nat → Nat → Int, V2 59 = V1 59 → V2 59 w2.toNat = f i := fun V2 e => by rw [e, h59, show w2.toNat = i by omega]; exact r1 i hi
      have hC1 := hF.lc h64 hC
      refine aw_iload_3 (q := 47) F dM_stepsOn_46 rfl ?_
      refine aw_aload_0 (q := 48) F dM_stepsOn_47 rfl ?_
      refine av_callV0 (q := 51) (ci := 9) F hm mM_stepsMany_i mM_stepsMany_n lM_336 dM_stepsOn_48 rfl rfl rfl (by first | exact hM.o | exact hl.o | exact hM.a55 | exact hM.a56 | exact hM.a59 | exact hM.a62 | exact hl.a4) (by decide) (Nat.le_refl _) (Nat.le_refl _) (Nat.le_of_ble_eq_true rfl) (wM_stepsMany hM hl hC1 hc ?_)
      refine aw_icmp_ge (q := 54) (t := 100) F dM_stepsOn_51 rfl (by decide) (fun c51 => by omega) (fun c51 => ?_)
      refine aw_aload_0 (q := 55) F dM_stepsOn_54 rfl ?_
      refine aw_iload_2 (q := 56) F dM_stepsOn_55 rfl ?_
      refine av_callV1 (q := 59) (ci := 9) F hm mM_lays_i mM_lays_n lM_339 dM_stepsOn_56 rfl rfl rfl (by first | exact hM.o | exact hl.o | exact hM.a55 | exact hM.a56 | exact hM.a59 | exact hM.a62 | exact hl.a4) (by decide) (Nat.le_refl _) (Nat.le_refl _) (Nat.le_of_ble_eq_true rfl) (wM_lays (n := ivN c i) (by rw [iv2]; exact h2) iv1 hM hl hC1 hA1 hc (by omega) (fun V2 f56 g56 => ?_))
      refine aw_aload_0 (q := 60) F dM_stepsOn_59 rfl ?_
      refine aw_iload_3 (q := 61) F dM_stepsOn_60 rfl ?_
      refine av_callV1 (q := 64) (ci := 9) F hm mM_canStep_i mM_canStep_n lM_342 dM_stepsOn_61 rfl rfl rfl (by first | exact hM.o | exact hl.o | exact hM.a55 | exact hM.a56 | exact hM.a59 | exact hM.a62 | exact hl.a4) (by decide) (Nat.le_refl _) (Nat.le_refl _) (Nat.le_of_ble_eq_true rfl) (wM_canStep (s := s) h3 (by omega) hM hl (f56.lc h64 hC1) g56 hc (fun c61 => ?_) (fun c61 => ?_))
      · refine aw_if_ne (q := 67) (t := 70) F dM_stepsOn_64 rfl (by decide) (fun c64 => ?_) (fun c64 => absurd c64 (by decide))
        refine aw_aload_0 (q := 71) F dM_stepsOn_70 rfl ?_
        refine aw_iload_3 (q := 72) F dM_stepsOn_71 rfl ?_
        refine av_callV1 (q := 75) (ci := 9) F hm mM_steps_i mM_steps_n lM_345 dM_stepsOn_72 rfl rfl rfl (by first | exact hM.o | exact hl.o | exact hM.a55 | exact hM.a56 | exact hM.a59 | exact hM.a62 | exact hl.a4) (by decide) (Nat.le_refl _) (Nat.le_refl _) (Nat.le_of_ble_eq_true rfl) (wM_stepsD (s := s) h3 (by omega) iv1 c61 hM hl (f56.lc h64 hC1) g56 hc (fun r72 V3 f72 g72 => ?_))
        have hX := f56.trans f72
        have haft : aftN c (ivN c i) s < spc c := aft_lt iv1 (by omega) c61
        have hmna := mnN_lt haft
        have ho1 := fw_bd hst (by omega) hi hb hD (mnN c (aftN c (ivN c i) s)) hmna
        refine aw_pop (q := 76) F dM_stepsOn_75 rfl trivial ?_
        refine aw_aload_0 (q := 77) F dM_stepsOn_76 rfl ?_
        refine av_getaE (q := 80) F fM_40 dM_stepsOn_77 rfl rfl (by first | exact hM.o | exact hl.o | exact hM.a55 | exact hM.a56 | exact hM.a59 | exact hM.a62 | exact hl.a4) hM.p24 ?_
        refine aw_aload_0 (q := 81) F dM_stepsOn_80 rfl ?_
        refine av_callV0 (q := 84) (ci := 9) F hm mM_numbered_i mM_numbered_n lM_330 dM_stepsOn_81 rfl rfl rfl (by first | exact hM.o | exact hl.o | exact hM.a55 | exact hM.a56 | exact hM.a59 | exact hM.a62 | exact hl.a4) (by decide) (Nat.le_refl _) (Nat.le_refl _) (Nat.le_of_ble_eq_true rfl) (wM_numbered haft hM hl (hX.lc h64 hC1) g72 hc ?_)
        refine aw_dup2 (q := 85) F dM_stepsOn_84 rfl trivial trivial ?_
        refine av_iaload (q := 86) F dM_stepsOn_85 rfl (by first | exact hM.o | exact hl.o | exact hM.a55 | exact hM.a56 | exact hM.a59 | exact hM.a62 | exact hl.a4) (by omega) (by omega) ?_
        rw [Int.toNat_natCast, hX 62 (by decide), hO _ hmna]
        refine aw_aload_0 (q := 87) F dM_stepsOn_86 rfl ?_
        refine av_getaE (q := 90) F fM_31 dM_stepsOn_87 rfl rfl (by first | exact hM.o | exact hl.o | exact hM.a55 | exact hM.a56 | exact hM.a59 | exact hM.a62 | exact hl.a4) hM.p21 ?_
        refine aw_iload_2 (q := 91) F dM_stepsOn_90 rfl ?_
        refine av_iaload (q := 92) F dM_stepsOn_91 rfl (by first | exact hM.o | exact hl.o | exact hM.a55 | exact hM.a56 | exact hM.a59 | exact hM.a62 | exact hl.a4) (by omega) (by omega) ?_
        rw [e59 V3 (hX 59 (by decide))]
        refine aw_iadd (q := 93) F dM_stepsOn_92 rfl (by constructor <;> omega) ?_
        refine av_iastore (q := 94) F dM_stepsOn_93 rfl (by first | exact hM.o | exact hl.o | exact hM.a55 | exact hM.a56 | exact hM.a59 | exact hM.a62 | exact hl.a4) (by omega) (by omega) ?_
        refine aw_iinc_3 (q := 97) F dM_stepsOn_94 rfl trivial (by constructor <;> omega) ?_
        refine aw_goto (t := 46) F dM_stepsOn_97 (by decide) ?_
        first
        | (refine ih (s + 1) (by omega) V2 _ _ o _ (hF.xf f56) (by rw [f56 53 (by decide)]; exact h26) (by rw [f56 59 (by decide)]; exact h59) g56 (by rw [f56 62 (by decide)]; exact hO) (fun g => ?_) h2 (by omega)
           rw [svs_0 c61]; exact hD g)
        | (refine ih (s + 1) (by omega) _ _ _ (fun e => if e = mnN c (aftN c (ivN c i) s) then o e + f i else o e) _ ((hF.xf hX).up rfl) (by rw [up2_nea _ _ (by decide), hX 53 (by decide)]; exact h26) (by rw [up2_nea _ _ (by decide), hX 59 (by decide)]; exact h59) (by rw [up2_nea _ _ (by decide)]; exact g72) (fun e he => ?_) (fun g => ?_) h2 (by omega)
           · rw [up2_at, Int.toNat_natCast]
             show (if e = _ then _ else V3 62 e) = ((if e = mnN c (aftN c (ivN c i) s) then o e + f i else o e : Nat) : Int)
             by_cases q : e = mnN c (aftN c (ivN c i) s)
             · rw [if_pos q, if_pos q, q, Int.natCast_add]
             · rw [if_neg q, if_neg q, hX 62 (by decide)]; exact hO e he
           · rw [svs_1 c61, Nat.mul_add, ← Nat.add_assoc, ← hD g]
             exact sumN_up (f := o) (a := f i) hmna (fun e _ hne => if_neg hne) (if_pos rfl))
      · refine aw_if_ne (q := 67) (t := 70) F dM_stepsOn_64 rfl (by decide) (fun c64 => absurd c64 (by decide)) (fun c64 => ?_)
        refine aw_goto (t := 94) F dM_stepsOn_67 (by decide) ?_
        refine aw_iinc_3 (q := 97) F dM_stepsOn_94 rfl trivial (by constructor <;> omega) ?_
        refine aw_goto (t := 46) F dM_stepsOn_97 (by decide) ?_
        first
        | (refine ih (s + 1) (by omega) V2 _ _ o _ (hF.xf f56) (by rw [f56 53 (by decide)]; exact h26) (by rw [f56 59 (by decide)]; exact h59) g56 (by rw [f56 62 (by decide)]; exact hO) (fun g => ?_) h2 (by omega)
           rw [svs_0 c61]; exact hD g)
        | (refine ih (s + 1) (by omega) _ _ _ (fun e => if e = mnN c (aftN c (ivN c i) s) then o e + f i else o e) _ ((hF.xf hX).up rfl) (by rw [up2_nea _ _ (by decide), hX 53 (by decide)]; exact h26) (by rw [up2_nea _ _ (by decide), hX 59 (by decide)]; exact h59) (by rw [up2_nea _ _ (by decide)]; exact g72) (fun e he => ?_) (fun g => ?_) h2 (by omega)
           · rw [up2_at, Int.toNat_natCast]
             show (if e = _ then _ else V3 62 e) = ((if e = mnN c (aftN c (ivN c i) s) then o e + f i else o e : Nat) : Int)
             by_cases q : e = mnN c (aftN c (ivN c i) s)
             · rw [if_pos q, if_pos q, q, Int.natCast_add]
             · rw [if_neg q, if_neg q, hX 62 (by decide)]; exact hO e he
           · rw [svs_1 c61, Nat.mul_add, ← Nat.add_assoc, ← hD g]
             exact sumN_up (f := o) (a := f i) hmna (fun e _ hne => if_neg hne) (if_pos rfl))
  have outer : ∀ (j i : Nat), i + j = spc c → ∀ (V1 : Nat → Nat → Int) (w2 : Int) (u : Option AV) (o : Nat → Nat) (n1 : Nat), MF V V1 → V1 53 26 = V 53 26 → V1 59 = V 59 → AR (V1 56) c n1 → (∀ e, e < spc c → V1 62 e = o e) → (∀ g, dot c o g = sumN (fun j => f j * stp c g j) i) → w2 = i → AW X 27 [some (vR 53), some (vI (spc c)), some (vI w2), u] [] (V1, σ) 0 0 := by
    intro j
    induction j with
    | zero =>
      intro i hi V1 w2 u o n1 hF h26 h59 hA1 hO hD h2
      rw [show i = spc c by omega] at hD
      refine aw_iload_2 (q := 28) F dM_stepsOn_27 rfl ?_
      refine aw_iload_1 (q := 29) F dM_stepsOn_28 rfl ?_
      refine aw_icmp_ge (q := 32) (t := 106) F dM_stepsOn_29 rfl (by decide) (fun c29 => ?_) (fun c29 => by omega)
      refine aw_iconst (q := 107) F dM_stepsOn_106 rfl (by decide) ?_
      refine aw_istore_2 (q := 108) F dM_stepsOn_107 rfl trivial ?_
      exact copy o hD _ 0 (Nat.zero_add _) V1 _ _ n1 hF h26 hA1 hO (fun e he => absurd he (by omega)) rfl
    | succ j ih =>
      intro i hi V1 w2 u o n1 hF h26 h59 hA1 hO hD h2
      have e59 : V1 59 w2.toNat = f i := by rw [h59, show w2.toNat = i by omega]; exact r1 i (by omega)
      have hE : ∀ (V1 : Nat → Nat → Int) (w2 : Int) (u : Option AV) (o : Nat → Nat) (n1 : Nat), MF V V1 → V1 53 26 = V 53 26 → V1 59 = V 59 → AR (V1 56) c n1 → (∀ e, e < spc c → V1 62 e = o e) → (∀ g, dot c o g = sumN (fun j => f j * stp c g j) (i + 1)) → w2 = i → AW X 100 [some (vR 53), some (vI (spc c)), some (vI w2), u] [] (V1, σ) 0 0 := by
        intro V1 w2 u o n1 hF h26 h59 hA1 hO hD h2
        refine aw_iinc_2 (q := 103) F dM_stepsOn_100 rfl trivial (by constructor <;> omega) ?_
        refine aw_goto (t := 27) F dM_stepsOn_103 (by decide) ?_
        exact ih (i + 1) (by omega) V1 _ _ o n1 hF h26 h59 hA1 hO hD (by omega)
      refine aw_iload_2 (q := 28) F dM_stepsOn_27 rfl ?_
      refine aw_iload_1 (q := 29) F dM_stepsOn_28 rfl ?_
      refine aw_icmp_ge (q := 32) (t := 106) F dM_stepsOn_29 rfl (by decide) (fun c29 => by omega) (fun c29 => ?_)
      refine aw_aload_0 (q := 33) F dM_stepsOn_32 rfl ?_
      refine av_getaE (q := 36) F fM_31 dM_stepsOn_33 rfl rfl (by first | exact hM.o | exact hl.o | exact hM.a55 | exact hM.a56 | exact hM.a59 | exact hM.a62 | exact hl.a4) hM.p21 ?_
      refine aw_iload_2 (q := 37) F dM_stepsOn_36 rfl ?_
      refine av_iaload (q := 38) F dM_stepsOn_37 rfl (by first | exact hM.o | exact hl.o | exact hM.a55 | exact hM.a56 | exact hM.a59 | exact hM.a62 | exact hl.a4) (by omega) (by omega) ?_
      rw [e59]
      refine aw_if_ne (q := 41) (t := 44) F dM_stepsOn_38 rfl (by decide) (fun c38 => ?_) (fun c38 => ?_)
      · refine aw_iconst (q := 45) F dM_stepsOn_44 rfl (by decide) ?_
        refine aw_istore_3 (q := 46) F dM_stepsOn_45 rfl trivial ?_
        exact inner i (by omega) hE _ 0 (Nat.zero_add _) V1 _ _ o n1 hF h26 h59 hA1 hO (fun g => by rw [hD g, svs, Nat.mul_zero, Nat.add_zero]) h2 rfl
      · refine aw_goto (t := 100) F dM_stepsOn_41 (by decide) ?_
        exact hE V1 _ _ o n1 hF h26 h59 hA1 hO (fun g => by rw [hD g, sumN, show f i = 0 by omega, Nat.zero_mul, Nat.add_zero]) h2
  have clear0 : ∀ (j i : Nat), i + j = spc c → ∀ (V1 : Nat → Nat → Int) (w : Int), (∀ b, b ≠ 62 → V1 b = V b) → (∀ e, e < i → V1 62 e = 0) → w = i → AW X 7 [some (vR 53), some (vI (spc c)), some (vI w), none] [] (V1, σ) 0 0 := by
    intro j
    induction j with
    | zero =>
      intro i hi V1 w hX hI hw
      have hF1 : MF V V1 := ⟨fun b h1 h2 => hX b (fun e => by rw [e] at h2; cases h2), fun j hj => by rw [hX 53 (by decide)]⟩
      refine aw_iload_2 (q := 8) F dM_stepsOn_7 rfl ?_
      refine aw_iload_1 (q := 9) F dM_stepsOn_8 rfl ?_
      refine aw_icmp_ge (q := 12) (t := 25) F dM_stepsOn_9 rfl (by decide) (fun c9 => ?_) (fun c9 => by omega)
      refine aw_iconst (q := 26) F dM_stepsOn_25 rfl (by decide) ?_
      refine aw_istore_2 (q := 27) F dM_stepsOn_26 rfl trivial ?_
      exact outer _ 0 (Nat.zero_add _) V1 _ _ (fun _ => 0) n hF1 (by rw [hX 53 (by decide)]) (hX 59 (by decide)) (by rw [hX 56 (by decide)]; exact hA) (fun e he => hI e (by omega)) (fun g => sumN_z (fun i _ => Nat.zero_mul _)) rfl
    | succ j ih =>
      intro i hi V1 w hX hI hw
      refine aw_iload_2 (q := 8) F dM_stepsOn_7 rfl ?_
      refine aw_iload_1 (q := 9) F dM_stepsOn_8 rfl ?_
      refine aw_icmp_ge (q := 12) (t := 25) F dM_stepsOn_9 rfl (by decide) (fun c9 => by omega) (fun c9 => ?_)
      refine aw_aload_0 (q := 13) F dM_stepsOn_12 rfl ?_
      refine av_getaE (q := 16) F fM_40 dM_stepsOn_13 rfl rfl (by first | exact hM.o | exact hl.o | exact hM.a55 | exact hM.a56 | exact hM.a59 | exact hM.a62 | exact hl.a4) hM.p24 ?_
      refine aw_iload_2 (q := 17) F dM_stepsOn_16 rfl ?_
      refine aw_iconst (q := 18) F dM_stepsOn_17 rfl (by decide) ?_
      refine av_iastore (q := 19) F dM_stepsOn_18 rfl (by first | exact hM.o | exact hl.o | exact hM.a55 | exact hM.a56 | exact hM.a59 | exact hM.a62 | exact hl.a4) (by omega) (by omega) ?_
      refine aw_iinc_2 (q := 22) F dM_stepsOn_19 rfl trivial (by constructor <;> omega) ?_
      refine aw_goto (t := 7) F dM_stepsOn_22 (by decide) ?_
      refine ih (i + 1) (by omega) _ _ (fun b hb => by rw [up2_nea _ _ hb]; exact hX b hb) (fun e he => ?_) (by omega)
      rw [show w.toNat = i by omega]
      by_cases q : e = i
      · rw [q, up2_same]
      · rw [up2_nek _ _ q]; exact hI e (by omega)
  refine aw_aload_0 (q := 1) F dM_stepsOn_0 rfl ?_
  refine av_callV0 (q := 4) (ci := 9) F hm mM_arrangedMany_i mM_arrangedMany_n lM_326 dM_stepsOn_1 rfl rfl rfl (by first | exact hM.o | exact hl.o | exact hM.a55 | exact hM.a56 | exact hM.a59 | exact hM.a62 | exact hl.a4) (by decide) (Nat.le_refl _) (Nat.le_refl _) (Nat.le_of_ble_eq_true rfl) (wM_arrangedMany hM hl hC hc ?_)
  refine aw_istore_1 (q := 5) F dM_stepsOn_4 rfl trivial ?_
  refine aw_iconst (q := 6) F dM_stepsOn_5 rfl (by decide) ?_
  refine aw_istore_2 (q := 7) F dM_stepsOn_6 rfl trivial ?_
  exact clear0 _ 0 (Nat.zero_add _) V _ (fun _ _ => rfl) (fun e he => absurd he (by omega)) rfl
end Mod32
