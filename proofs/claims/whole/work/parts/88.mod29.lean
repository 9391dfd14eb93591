/-- what a contest's search changes -/
def AF (V V' : Nat → Nat → Int) : Prop := ∀ b, b ≠ 56 → b ≠ 62 → b ≠ 63 → V' b = V b
section Mod29
variable {G : GE} {V V' V1 V2 : Nat → Nat → Int} {σ : Shp} {K : Option AV → Mem → Prop} {l : Nat} {c : Cfg} {n : Nat} {S : PS}
theorem AF.rf (V : Nat → Nat → Int) : AF V V := fun _ _ _ _ => rfl
theorem AF.tr (h : AF V V1) (g : AF V1 V2) : AF V V2 := fun b a1 a2 a3 => (g b a1 a2 a3).trans (h b a1 a2 a3)
theorem AF.xf (h : AF V V1) (g : XF V1 V2) : AF V V2 := fun b a1 a2 a3 => (g b a1).trans (h b a1 a2 a3)
theorem AF.o {k : Nat} {z : Int} (h : AF V V1) : AF V (up2 V1 62 k z) := fun b a1 a2 a3 => (up2_nea _ _ a2).trans (h b a1 a2 a3)
theorem AF.m {k : Nat} {z : Int} (h : AF V V1) : AF V (up2 V1 63 k z) := fun b a1 a2 a3 => (up2_nea _ _ a3).trans (h b a1 a2 a3)
theorem AF.mf (h : AF V V1) : MF V V1 := ⟨fun b h1 h2 => h b (fun e => by rw [e] at h2; cases h2) (fun e => by rw [e] at h2; cases h2) (fun e => by rw [e] at h2; cases h2), fun j _ => by rw [h 53 (by decide) (by decide) (by decide)]⟩
theorem AF.q (h : AF V V1) (g : MWq V S) : MWq V1 S := g.fl (by rw [h 53 (by decide) (by decide) (by decide)]) (by rw [h 53 (by decide) (by decide) (by decide)]) (h 59 (by decide) (by decide) (by decide)) (h 60 (by decide) (by decide) (by decide)) (h 61 (by decide) (by decide) (by decide))
theorem AF.mw (h : AF V V1) (g : MW V σ l S) : MW V1 σ l S := g.mf h.mf (h.q g.q)
theorem wM_moveChoices (hM : moS σ l) (hl : laS σ l) (hC : LC V l c) (hc : okC c) (hK : K (some (vI (mc c))) (V, σ)) : Wp G 0 mM_moveChoices [vR 53] (V, σ) 0 0 K := by
  have h1 := hC.1
  have hd4 : dN c ≤ 4 := hc.1
  refine wp_intro mM_moveChoices_i.1 [some (vR 53)] rfl rfl (Nat.le_of_ble_eq_true rfl) ?_
  intro X hG F C
  have hm := C.rm
  refine aw_iconst (q := 1) F dM_moveChoices_0 rfl (by decide) ?_
  refine aw_iconst (q := 2) F dM_moveChoices_1 rfl (by decide) ?_
  refine aw_aload_0 (q := 3) F dM_moveChoices_2 rfl ?_
  refine av_getaE (q := 6) F fM_281 dM_moveChoices_3 rfl rfl (by first | exact hM.o | exact hl.o | exact hM.a55 | exact hM.a56 | exact hM.a62 | exact hM.a63) hM.p3 ?_
  refine av_geti (q := 9) F fM_183 dM_moveChoices_6 rfl rfl (by first | exact hM.o | exact hl.o | exact hM.a55 | exact hM.a56 | exact hM.a62 | exact hM.a63) ?_
  rw [h1]
  refine aw_imul (q := 10) F dM_moveChoices_9 rfl (by constructor <;> omega) ?_
  refine aw_iadd (q := 11) F dM_moveChoices_10 rfl (by constructor <;> omega) ?_
  refine aw_iret F C dM_moveChoices_11 rfl (Nat.le_refl _) (Nat.le_refl _) ?_
  refine kI hK ?_; unfold mc; omega
theorem wM_moves {x y : Int} {p j : Nat} (hx : x = p) (hp : p < pN c) (hy : y = j) (hj : j < mc c) (hn : n < spc c) (hM : moS σ l) (hl : laS σ l) (hC : LC V l c) (hA : AR (V 56) c n) (hc : okC c) (h1 : ∀ V' m, mvN c p n j = some m → XF V V' → AR (V' 56) c m → K (some (vI 1)) (V', σ)) (h0 : mvN c p n j = none → K (some (vI 0)) (V, σ)) : Wp G 2 mM_moves [vR 53, vI x, vI y] (V, σ) 0 0 K := by
  have hd4 : dN c ≤ 4 := hc.1
  have hp2 : pN c ≤ 2 := hc.2.1
  have v1 := hC.1
  have e0 : V 56 x.toNat = (pl c n p : Int) := by rw [show x.toNat = p by omega]; exact ar_pl hA (by omega) hp
  have hsh : zshl 1 x = ((2 ^ p : Nat) : Int) := by rw [shl1 (by omega) (by omega), show x.toNat = p by omega]
  have h24 : 2 ^ p < 4 := (show 2 ^ p < 2 ^ 2 from Nat.pow_lt_pow_right (by decide) (by omega))
  unfold mc at hj
  refine wp_intro mM_moves_i.1 [some (vR 53), some (vI x), some (vI y), none, none, none, none] rfl rfl (Nat.le_of_ble_eq_true rfl) ?_
  intro X hG F C
  have hm := C.rm
  match j, hy, hj, h1, h0 with
  | 0, hy, hj, h1, h0 =>
    refine aw_iload_2 (q := 1) F dM_moves_0 rfl ?_
    refine aw_if_ne (q := 4) (t := 6) F dM_moves_1 rfl (by decide) (fun c1 => by omega) (fun c1 => ?_)
    refine aw_iconst (q := 5) F dM_moves_4 rfl (by decide) ?_
    refine aw_zret F C dM_moves_5 rfl (by decide) (Nat.le_refl _) (Nat.le_refl _) ?_
    exact h1 V n (mv_0 c p n) (fun _ _ => rfl) hA
  | i + 1, hy, hj, h1, h0 =>
    have hi : i < dN c * 3 := by omega
    obtain ⟨hD, hm1, hm2⟩ := divmod_lt hi
    obtain ⟨q1, q2⟩ := tdm (s := y - 1) (D := dN c) (by omega)
    rw [show (y - 1).toNat = i by omega] at q1 q2
    have eO := mv_O (n := n) hc hp hi
    have eS := mv_S (n := n) (p := p) hi
    have eG := mv_G (n := n) (p := p) hi
    generalize mvN c p n (i + 1) = mm at *
    generalize i / dN c = row at *
    generalize i % dN c = dd at *
    have tl : ∀ (u w : Int) (m : Nat), mm = some m → (row = 0 → ld c n dd = 0 ∧ m = aO c n dd) → (row = 1 → m = aS c n dd) → (row = 2 → m = aG c n p dd) → AW X 108 [some (vR 53), some (vI x), some (vI y), some (vI dd), some (vI row), some (vI u), some (vI w)] [] (V, σ) 0 0 := by
      intro u w m hmm aO1 aS1 aG1
      refine aw_iload_4 (q := 110) F dM_moves_108 rfl ?_
      refine aw_if_ne (q := 113) (t := 121) F dM_moves_110 rfl (by decide) (fun c110 => ?_) (fun c110 => ?_)
      · refine aw_iload_4 (q := 123) F dM_moves_121 rfl ?_
        refine aw_iconst (q := 124) F dM_moves_123 rfl (by decide) ?_
        refine aw_icmp_ne (q := 127) (t := 135) F dM_moves_124 rfl (by decide) (fun c124 => ?_) (fun c124 => ?_)
        · refine aw_aload_0 (q := 136) F dM_moves_135 rfl ?_
          refine aw_iload_1 (q := 137) F dM_moves_136 rfl ?_
          refine aw_iload_3 (q := 138) F dM_moves_137 rfl ?_
          refine av_callV2 (q := 141) (ci := 9) F hm mM_goes_i mM_goes_n lM_323 dM_moves_138 rfl rfl rfl (by first | exact hM.o | exact hl.o | exact hM.a55 | exact hM.a56 | exact hM.a62 | exact hM.a63) (by decide) (Nat.le_refl _) (Nat.le_refl _) (Nat.le_of_ble_eq_true rfl) (wM_goes (p := p) (d := dd) hx hp rfl hm1 hM hA hc (fun V' f138 g138 => ?_))
          refine aw_iconst (q := 142) F dM_moves_141 rfl (by decide) ?_
          refine aw_zret F C dM_moves_142 rfl (by decide) (Nat.le_refl _) (Nat.le_refl _) ?_
          first
          | (rw [← (aO1 (by omega)).2] at g115; exact h1 _ _ hmm f115 g115)
          | (rw [← aS1 (by omega)] at g129; exact h1 _ _ hmm f129 g129)
          | (rw [← aG1 (by omega)] at g138; exact h1 _ _ hmm f138 g138)
        · refine aw_aload_0 (q := 128) F dM_moves_127 rfl ?_
          refine aw_iload_3 (q := 129) F dM_moves_128 rfl ?_
          refine av_callV1 (q := 132) (ci := 9) F hm mM_shuts_i mM_shuts_n lM_317 dM_moves_129 rfl rfl rfl (by first | exact hM.o | exact hl.o | exact hM.a55 | exact hM.a56 | exact hM.a62 | exact hM.a63) (by decide) (Nat.le_refl _) (Nat.le_refl _) (Nat.le_of_ble_eq_true rfl) (wM_shuts (d := dd) rfl hm1 hM hA hc (fun V' f129 g129 => ?_))
          refine aw_goto (t := 141) F dM_moves_132 (by decide) ?_
          refine aw_iconst (q := 142) F dM_moves_141 rfl (by decide) ?_
          refine aw_zret F C dM_moves_142 rfl (by decide) (Nat.le_refl _) (Nat.le_refl _) ?_
          first
          | (rw [← (aO1 (by omega)).2] at g115; exact h1 _ _ hmm f115 g115)
          | (rw [← aS1 (by omega)] at g129; exact h1 _ _ hmm f129 g129)
          | (rw [← aG1 (by omega)] at g138; exact h1 _ _ hmm f138 g138)
      · refine aw_aload_0 (q := 114) F dM_moves_113 rfl ?_
        refine aw_iload_3 (q := 115) F dM_moves_114 rfl ?_
        refine av_callV1 (q := 118) (ci := 9) F hm mM_opens_i mM_opens_n lM_320 dM_moves_115 rfl rfl rfl (by first | exact hM.o | exact hl.o | exact hM.a55 | exact hM.a56 | exact hM.a62 | exact hM.a63) (by decide) (Nat.le_refl _) (Nat.le_refl _) (Nat.le_of_ble_eq_true rfl) (wM_opens (d := dd) rfl hm1 (aO1 (by omega)).1 hn hM hA hc (fun V' f115 g115 => ?_))
        refine aw_goto (t := 141) F dM_moves_118 (by decide) ?_
        refine aw_iconst (q := 142) F dM_moves_141 rfl (by decide) ?_
        refine aw_zret F C dM_moves_142 rfl (by decide) (Nat.le_refl _) (Nat.le_refl _) ?_
        first
        | (rw [← (aO1 (by omega)).2] at g115; exact h1 _ _ hmm f115 g115)
        | (rw [← aS1 (by omega)] at g129; exact h1 _ _ hmm f129 g129)
        | (rw [← aG1 (by omega)] at g138; exact h1 _ _ hmm f138 g138)
    refine aw_iload_2 (q := 1) F dM_moves_0 rfl ?_
    refine aw_if_ne (q := 4) (t := 6) F dM_moves_1 rfl (by decide) (fun c1 => ?_) (fun c1 => by omega)
    refine aw_iload_2 (q := 7) F dM_moves_6 rfl ?_
    refine aw_iconst (q := 8) F dM_moves_7 rfl (by decide) ?_
    refine aw_isub (q := 9) F dM_moves_8 rfl (by constructor <;> omega) ?_
    refine aw_aload_0 (q := 10) F dM_moves_9 rfl ?_
    refine av_getaE (q := 13) F fM_281 dM_moves_10 rfl rfl (by first | exact hM.o | exact hl.o | exact hM.a55 | exact hM.a56 | exact hM.a62 | exact hM.a63) hM.p3 ?_
    refine av_geti (q := 16) F fM_183 dM_moves_13 rfl rfl (by first | exact hM.o | exact hl.o | exact hM.a55 | exact hM.a56 | exact hM.a62 | exact hM.a63) ?_
    rw [v1]
    refine aw_irem (q := 17) F dM_moves_16 rfl (by omega) (by omega) ?_
    rw [q2]
    refine aw_istore_3 (q := 18) F dM_moves_17 rfl trivial ?_
    refine aw_iload_2 (q := 19) F dM_moves_18 rfl ?_
    refine aw_iconst (q := 20) F dM_moves_19 rfl (by decide) ?_
    refine aw_isub (q := 21) F dM_moves_20 rfl (by constructor <;> omega) ?_
    refine aw_aload_0 (q := 22) F dM_moves_21 rfl ?_
    refine av_getaE (q := 25) F fM_281 dM_moves_22 rfl rfl (by first | exact hM.o | exact hl.o | exact hM.a55 | exact hM.a56 | exact hM.a62 | exact hM.a63) hM.p3 ?_
    refine av_geti (q := 28) F fM_183 dM_moves_25 rfl rfl (by first | exact hM.o | exact hl.o | exact hM.a55 | exact hM.a56 | exact hM.a62 | exact hM.a63) ?_
    rw [v1]
    refine aw_idiv (q := 29) F dM_moves_28 rfl (by omega) (by omega) ?_
    rw [q1]
    refine aw_istore_4 (q := 31) F dM_moves_29 rfl trivial ?_
    refine aw_aload_0 (q := 32) F dM_moves_31 rfl ?_
    refine av_getaE (q := 35) F fM_21 dM_moves_32 rfl rfl (by first | exact hM.o | exact hl.o | exact hM.a55 | exact hM.a56 | exact hM.a62 | exact hM.a63) hM.p16 ?_
    refine aw_iload_1 (q := 36) F dM_moves_35 rfl ?_
    refine av_iaload (q := 37) F dM_moves_36 rfl (by first | exact hM.o | exact hl.o | exact hM.a55 | exact hM.a56 | exact hM.a62 | exact hM.a63) (by omega) (by omega) ?_
    rw [e0]
    refine aw_if_ne (q := 40) (t := 44) F dM_moves_37 rfl (by decide) (fun c37 => ?_) (fun c37 => ?_)
    · refine aw_iconst (q := 45) F dM_moves_44 rfl (by decide) ?_
      refine aw_istore_5 (q := 47) F dM_moves_45 rfl trivial ?_
      refine aw_iload_4 (q := 49) F dM_moves_47 rfl ?_
      refine aw_if_ne (q := 52) (t := 76) F dM_moves_49 rfl (by decide) (fun c49 => ?_) (fun c49 => ?_)
      · refine aw_iload_4 (q := 78) F dM_moves_76 rfl ?_
        refine aw_iconst (q := 79) F dM_moves_78 rfl (by decide) ?_
        refine aw_icmp_ne (q := 82) (t := 93) F dM_moves_79 rfl (by decide) (fun c79 => ?_) (fun c79 => ?_)
        · refine aw_aload_0 (q := 94) F dM_moves_93 rfl ?_
          refine aw_iload_1 (q := 95) F dM_moves_94 rfl ?_
          refine aw_iload_3 (q := 96) F dM_moves_95 rfl ?_
          refine av_callV2 (q := 99) (ci := 9) F hm mM_canGo_i mM_canGo_n lM_314 dM_moves_96 rfl rfl rfl (by first | exact hM.o | exact hl.o | exact hM.a55 | exact hM.a56 | exact hM.a62 | exact hM.a63) (by decide) (Nat.le_refl _) (Nat.le_refl _) (Nat.le_of_ble_eq_true rfl) (wM_canGo (p := p) (d := dd) hx hp rfl hm1 hM hA hc (fun c96 => ?_) (fun c96 => ?_))
          · refine aw_istore_6 (q := 101) F dM_moves_99 rfl trivial ?_
            refine aw_iload_6 (q := 103) F dM_moves_101 rfl ?_
            refine aw_if_ne (q := 106) (t := 108) F dM_moves_103 rfl (by decide) (fun c103 => ?_) (fun c103 => absurd c103 (by decide))
            first
            | exact tl _ _ _ ((eO (by omega)).trans (if_pos (by rw [c62, show pl c n p = 0 by omega]; rfl))) (fun _ => ⟨(mO_iff.mp c62).1, rfl⟩) (fun _ => by omega) (fun _ => by omega)
            | exact tl _ _ _ ((eS (by omega)).trans (if_pos c87)) (fun _ => by omega) (fun _ => rfl) (fun _ => by omega)
            | exact tl _ _ _ ((eG (by omega)).trans (if_pos c96)) (fun _ => by omega) (fun _ => by omega) (fun _ => rfl)
          · refine aw_istore_6 (q := 101) F dM_moves_99 rfl trivial ?_
            refine aw_iload_6 (q := 103) F dM_moves_101 rfl ?_
            refine aw_if_ne (q := 106) (t := 108) F dM_moves_103 rfl (by decide) (fun c103 => absurd c103 (by decide)) (fun c103 => ?_)
            refine aw_iconst (q := 107) F dM_moves_106 rfl (by decide) ?_
            refine aw_zret F C dM_moves_107 rfl (by decide) (Nat.le_refl _) (Nat.le_refl _) ?_
            first
            | exact h0 ((eO (by omega)).trans (if_neg (by rw [c62, Bool.and_false]; exact Bool.false_ne_true)))
            | exact h0 ((eO (by omega)).trans (if_neg (by rw [show (pl c n p == 0) = false from beq_eq_false_iff_ne.mpr (by omega), Bool.false_and]; exact Bool.false_ne_true)))
            | exact h0 ((eS (by omega)).trans (if_neg (by rw [c87]; exact Bool.false_ne_true)))
            | exact h0 ((eG (by omega)).trans (if_neg (by rw [c96]; exact Bool.false_ne_true)))
        · refine aw_aload_0 (q := 83) F dM_moves_82 rfl ?_
          refine aw_iload_3 (q := 84) F dM_moves_83 rfl ?_
          refine aw_iconst (q := 85) F dM_moves_84 rfl (by decide) ?_
          refine aw_iload_1 (q := 86) F dM_moves_85 rfl ?_
          refine aw_ishl (q := 87) F dM_moves_86 rfl ?_
          refine av_callV2 (q := 90) (ci := 9) F hm mM_canShut_i mM_canShut_n lM_311 dM_moves_87 rfl rfl rfl (by first | exact hM.o | exact hl.o | exact hM.a55 | exact hM.a56 | exact hM.a62 | exact hM.a63) (by decide) (Nat.le_refl _) (Nat.le_refl _) (Nat.le_of_ble_eq_true rfl) (wM_canShut (d := dd) (h := 2 ^ p) rfl hm1 hsh h24 hM hl hC hA hc (fun c87 => ?_) (fun c87 => ?_))
          · refine aw_goto (t := 99) F dM_moves_90 (by decide) ?_
            refine aw_istore_6 (q := 101) F dM_moves_99 rfl trivial ?_
            refine aw_iload_6 (q := 103) F dM_moves_101 rfl ?_
            refine aw_if_ne (q := 106) (t := 108) F dM_moves_103 rfl (by decide) (fun c103 => ?_) (fun c103 => absurd c103 (by decide))
            first
            | exact tl _ _ _ ((eO (by omega)).trans (if_pos (by rw [c62, show pl c n p = 0 by omega]; rfl))) (fun _ => ⟨(mO_iff.mp c62).1, rfl⟩) (fun _ => by omega) (fun _ => by omega)
            | exact tl _ _ _ ((eS (by omega)).trans (if_pos c87)) (fun _ => by omega) (fun _ => rfl) (fun _ => by omega)
            | exact tl _ _ _ ((eG (by omega)).trans (if_pos c96)) (fun _ => by omega) (fun _ => by omega) (fun _ => rfl)
          · refine aw_goto (t := 99) F dM_moves_90 (by decide) ?_
            refine aw_istore_6 (q := 101) F dM_moves_99 rfl trivial ?_
            refine aw_iload_6 (q := 103) F dM_moves_101 rfl ?_
            refine aw_if_ne (q := 106) (t := 108) F dM_moves_103 rfl (by decide) (fun c103 => absurd c103 (by decide)) (fun c103 => ?_)
            refine aw_iconst (q := 107) F dM_moves_106 rfl (by decide) ?_
            refine aw_zret F C dM_moves_107 rfl (by decide) (Nat.le_refl _) (Nat.le_refl _) ?_
            first
            | exact h0 ((eO (by omega)).trans (if_neg (by rw [c62, Bool.and_false]; exact Bool.false_ne_true)))
            | exact h0 ((eO (by omega)).trans (if_neg (by rw [show (pl c n p == 0) = false from beq_eq_false_iff_ne.mpr (by omega), Bool.false_and]; exact Bool.false_ne_true)))
            | exact h0 ((eS (by omega)).trans (if_neg (by rw [c87]; exact Bool.false_ne_true)))
            | exact h0 ((eG (by omega)).trans (if_neg (by rw [c96]; exact Bool.false_ne_true)))
      · refine aw_iload_5 (q := 54) F dM_moves_52 rfl ?_
        refine aw_if_eq (q := 57) (t := 72) F dM_moves_54 rfl (by decide) (fun c54 => ?_) (fun c54 => absurd c54 (by decide))
        refine aw_iconst (q := 73) F dM_moves_72 rfl (by decide) ?_
        refine aw_goto (t := 99) F dM_moves_73 (by decide) ?_
        refine aw_istore_6 (q := 101) F dM_moves_99 rfl trivial ?_
        refine aw_iload_6 (q := 103) F dM_moves_101 rfl ?_
        refine aw_if_ne (q := 106) (t := 108) F dM_moves_103 rfl (by decide) (fun c103 => absurd c103 (by decide)) (fun c103 => ?_)
        refine aw_iconst (q := 107) F dM_moves_106 rfl (by decide) ?_
        refine aw_zret F C dM_moves_107 rfl (by decide) (Nat.le_refl _) (Nat.le_refl _) ?_
        first
        | exact h0 ((eO (by omega)).trans (if_neg (by rw [c62, Bool.and_false]; exact Bool.false_ne_true)))
        | exact h0 ((eO (by omega)).trans (if_neg (by rw [show (pl c n p == 0) = false from beq_eq_false_iff_ne.mpr (by omega), Bool.false_and]; exact Bool.false_ne_true)))
        | exact h0 ((eS (by omega)).trans (if_neg (by rw [c87]; exact Bool.false_ne_true)))
        | exact h0 ((eG (by omega)).trans (if_neg (by rw [c96]; exact Bool.false_ne_true)))
    · refine aw_iconst (q := 41) F dM_moves_40 rfl (by decide) ?_
      refine aw_goto (t := 45) F dM_moves_41 (by decide) ?_
      refine aw_istore_5 (q := 47) F dM_moves_45 rfl trivial ?_
      refine aw_iload_4 (q := 49) F dM_moves_47 rfl ?_
      refine aw_if_ne (q := 52) (t := 76) F dM_moves_49 rfl (by decide) (fun c49 => ?_) (fun c49 => ?_)
      · refine aw_iload_4 (q := 78) F dM_moves_76 rfl ?_
        refine aw_iconst (q := 79) F dM_moves_78 rfl (by decide) ?_
        refine aw_icmp_ne (q := 82) (t := 93) F dM_moves_79 rfl (by decide) (fun c79 => ?_) (fun c79 => ?_)
        · refine aw_aload_0 (q := 94) F dM_moves_93 rfl ?_
          refine aw_iload_1 (q := 95) F dM_moves_94 rfl ?_
          refine aw_iload_3 (q := 96) F dM_moves_95 rfl ?_
          refine av_callV2 (q := 99) (ci := 9) F hm mM_canGo_i mM_canGo_n lM_314 dM_moves_96 rfl rfl rfl (by first | exact hM.o | exact hl.o | exact hM.a55 | exact hM.a56 | exact hM.a62 | exact hM.a63) (by decide) (Nat.le_refl _) (Nat.le_refl _) (Nat.le_of_ble_eq_true rfl) (wM_canGo (p := p) (d := dd) hx hp rfl hm1 hM hA hc (fun c96 => ?_) (fun c96 => ?_))
          · refine aw_istore_6 (q := 101) F dM_moves_99 rfl trivial ?_
            refine aw_iload_6 (q := 103) F dM_moves_101 rfl ?_
            refine aw_if_ne (q := 106) (t := 108) F dM_moves_103 rfl (by decide) (fun c103 => ?_) (fun c103 => absurd c103 (by decide))
            first
            | exact tl _ _ _ ((eO (by omega)).trans (if_pos (by rw [c62, show pl c n p = 0 by omega]; rfl))) (fun _ => ⟨(mO_iff.mp c62).1, rfl⟩) (fun _ => by omega) (fun _ => by omega)
            | exact tl _ _ _ ((eS (by omega)).trans (if_pos c87)) (fun _ => by omega) (fun _ => rfl) (fun _ => by omega)
            | exact tl _ _ _ ((eG (by omega)).trans (if_pos c96)) (fun _ => by omega) (fun _ => by omega) (fun _ => rfl)
          · refine aw_istore_6 (q := 101) F dM_moves_99 rfl trivial ?_
            refine aw_iload_6 (q := 103) F dM_moves_101 rfl ?_
            refine aw_if_ne (q := 106) (t := 108) F dM_moves_103 rfl (by decide) (fun c103 => absurd c103 (by decide)) (fun c103 => ?_)
            refine aw_iconst (q := 107) F dM_moves_106 rfl (by decide) ?_
            refine aw_zret F C dM_moves_107 rfl (by decide) (Nat.le_refl _) (Nat.le_refl _) ?_
            first
            | exact h0 ((eO (by omega)).trans (if_neg (by rw [c62, Bool.and_false]; exact Bool.false_ne_true)))
            | exact h0 ((eO (by omega)).trans (if_neg (by rw [show (pl c n p == 0) = false from beq_eq_false_iff_ne.mpr (by omega), Bool.false_and]; exact Bool.false_ne_true)))
            | exact h0 ((eS (by omega)).trans (if_neg (by rw [c87]; exact Bool.false_ne_true)))
            | exact h0 ((eG (by omega)).trans (if_neg (by rw [c96]; exact Bool.false_ne_true)))
        · refine aw_aload_0 (q := 83) F dM_moves_82 rfl ?_
          refine aw_iload_3 (q := 84) F dM_moves_83 rfl ?_
          refine aw_iconst (q := 85) F dM_moves_84 rfl (by decide) ?_
          refine aw_iload_1 (q := 86) F dM_moves_85 rfl ?_
          refine aw_ishl (q := 87) F dM_moves_86 rfl ?_
          refine av_callV2 (q := 90) (ci := 9) F hm mM_canShut_i mM_canShut_n lM_311 dM_moves_87 rfl rfl rfl (by first | exact hM.o | exact hl.o | exact hM.a55 | exact hM.a56 | exact hM.a62 | exact hM.a63) (by decide) (Nat.le_refl _) (Nat.le_refl _) (Nat.le_of_ble_eq_true rfl) (wM_canShut (d := dd) (h := 2 ^ p) rfl hm1 hsh h24 hM hl hC hA hc (fun c87 => ?_) (fun c87 => ?_))
          · refine aw_goto (t := 99) F dM_moves_90 (by decide) ?_
            refine aw_istore_6 (q := 101) F dM_moves_99 rfl trivial ?_
            refine aw_iload_6 (q := 103) F dM_moves_101 rfl ?_
            refine aw_if_ne (q := 106) (t := 108) F dM_moves_103 rfl (by decide) (fun c103 => ?_) (fun c103 => absurd c103 (by decide))
            first
            | exact tl _ _ _ ((eO (by omega)).trans (if_pos (by rw [c62, show pl c n p = 0 by omega]; rfl))) (fun _ => ⟨(mO_iff.mp c62).1, rfl⟩) (fun _ => by omega) (fun _ => by omega)
            | exact tl _ _ _ ((eS (by omega)).trans (if_pos c87)) (fun _ => by omega) (fun _ => rfl) (fun _ => by omega)
            | exact tl _ _ _ ((eG (by omega)).trans (if_pos c96)) (fun _ => by omega) (fun _ => by omega) (fun _ => rfl)
          · refine aw_goto (t := 99) F dM_moves_90 (by decide) ?_
            refine aw_istore_6 (q := 101) F dM_moves_99 rfl trivial ?_
            refine aw_iload_6 (q := 103) F dM_moves_101 rfl ?_
            refine aw_if_ne (q := 106) (t := 108) F dM_moves_103 rfl (by decide) (fun c103 => absurd c103 (by decide)) (fun c103 => ?_)
            refine aw_iconst (q := 107) F dM_moves_106 rfl (by decide) ?_
            refine aw_zret F C dM_moves_107 rfl (by decide) (Nat.le_refl _) (Nat.le_refl _) ?_
            first
            | exact h0 ((eO (by omega)).trans (if_neg (by rw [c62, Bool.and_false]; exact Bool.false_ne_true)))
            | exact h0 ((eO (by omega)).trans (if_neg (by rw [show (pl c n p == 0) = false from beq_eq_false_iff_ne.mpr (by omega), Bool.false_and]; exact Bool.false_ne_true)))
            | exact h0 ((eS (by omega)).trans (if_neg (by rw [c87]; exact Bool.false_ne_true)))
            | exact h0 ((eG (by omega)).trans (if_neg (by rw [c96]; exact Bool.false_ne_true)))
      · refine aw_iload_5 (q := 54) F dM_moves_52 rfl ?_
        refine aw_if_eq (q := 57) (t := 72) F dM_moves_54 rfl (by decide) (fun c54 => absurd c54 (by decide)) (fun c54 => ?_)
        refine aw_aload_0 (q := 58) F dM_moves_57 rfl ?_
        refine aw_iload_3 (q := 59) F dM_moves_58 rfl ?_
        refine aw_iconst (q := 60) F dM_moves_59 rfl (by decide) ?_
        refine aw_iload_1 (q := 61) F dM_moves_60 rfl ?_
        refine aw_ishl (q := 62) F dM_moves_61 rfl ?_
        refine av_callV2 (q := 65) (ci := 9) F hm mM_canOpen_i mM_canOpen_n lM_305 dM_moves_62 rfl rfl rfl (by first | exact hM.o | exact hl.o | exact hM.a55 | exact hM.a56 | exact hM.a62 | exact hM.a63) (by decide) (Nat.le_refl _) (Nat.le_refl _) (Nat.le_of_ble_eq_true rfl) (wM_canOpen (d := dd) (h := 2 ^ p) rfl hm1 hsh h24 hM hl hC hA hc (fun c62 => ?_) (fun c62 => ?_))
        · refine aw_if_eq (q := 68) (t := 72) F dM_moves_65 rfl (by decide) (fun c65 => absurd c65 (by decide)) (fun c65 => ?_)
          refine aw_iconst (q := 69) F dM_moves_68 rfl (by decide) ?_
          refine aw_goto (t := 99) F dM_moves_69 (by decide) ?_
          refine aw_istore_6 (q := 101) F dM_moves_99 rfl trivial ?_
          refine aw_iload_6 (q := 103) F dM_moves_101 rfl ?_
          refine aw_if_ne (q := 106) (t := 108) F dM_moves_103 rfl (by decide) (fun c103 => ?_) (fun c103 => absurd c103 (by decide))
          first
          | exact tl _ _ _ ((eO (by omega)).trans (if_pos (by rw [c62, show pl c n p = 0 by omega]; rfl))) (fun _ => ⟨(mO_iff.mp c62).1, rfl⟩) (fun _ => by omega) (fun _ => by omega)
          | exact tl _ _ _ ((eS (by omega)).trans (if_pos c87)) (fun _ => by omega) (fun _ => rfl) (fun _ => by omega)
          | exact tl _ _ _ ((eG (by omega)).trans (if_pos c96)) (fun _ => by omega) (fun _ => by omega) (fun _ => rfl)
        · refine aw_if_eq (q := 68) (t := 72) F dM_moves_65 rfl (by decide) (fun c65 => ?_) (fun c65 => absurd c65 (by decide))
          refine aw_iconst (q := 73) F dM_moves_72 rfl (by decide) ?_
          refine aw_goto (t := 99) F dM_moves_73 (by decide) ?_
          refine aw_istore_6 (q := 101) F dM_moves_99 rfl trivial ?_
          refine aw_iload_6 (q := 103) F dM_moves_101 rfl ?_
          refine aw_if_ne (q := 106) (t := 108) F dM_moves_103 rfl (by decide) (fun c103 => absurd c103 (by decide)) (fun c103 => ?_)
          refine aw_iconst (q := 107) F dM_moves_106 rfl (by decide) ?_
          refine aw_zret F C dM_moves_107 rfl (by decide) (Nat.le_refl _) (Nat.le_refl _) ?_
          first
          | exact h0 ((eO (by omega)).trans (if_neg (by rw [c62, Bool.and_false]; exact Bool.false_ne_true)))
          | exact h0 ((eO (by omega)).trans (if_neg (by rw [show (pl c n p == 0) = false from beq_eq_false_iff_ne.mpr (by omega), Bool.false_and]; exact Bool.false_ne_true)))
          | exact h0 ((eS (by omega)).trans (if_neg (by rw [c87]; exact Bool.false_ne_true)))
          | exact h0 ((eG (by omega)).trans (if_neg (by rw [c96]; exact Bool.false_ne_true)))
theorem wM_isIn {x y w : Int} {p r N q : Nat} (hx : x = p) (hp : p < 2) (hy : y = r) (hr : r < 4) (hw : w = N) (hN : N ≤ 4) (h : MW V σ l S) (hd : 0 < tDn (psT S)) (h2 : tPn (psT S) = 2) (hD : ∀ k, k < N → V 63 k = (q / mc (psC S) ^ (N - 1 - k) % mc (psC S) : Nat)) (hK : ∀ V', XF V V' → K (some (vI (vlG (psC S) p (r + 1) N (psA S) N q))) (V', σ)) : Wp G 3 mM_isIn [vR 53, vI x, vI y, vI w] (V, σ) 0 0 K := by
  have hM := h.mo
  have hl := h.la hd
  have h64 := h.h64 hd
  have hc := h.hc
  have hC := h.lc hd
  have hpN : pN (psC S) = 2 := h2
  refine wp_intro mM_isIn_i.1 [some (vR 53), some (vI x), some (vI y), some (vI w), none] rfl rfl (Nat.le_of_ble_eq_true rfl) ?_
  intro X hG F C
  have hm := C.rm
  have loop : ∀ (j k : Nat), k + j = N → ∀ (V1 : Nat → Nat → Int) (z : Int) (m : Nat), XF V V1 → AR (V1 56) (psC S) m → m < spc (psC S) → pcd (psC S) p k (q / mc (psC S) ^ (N - k)) (psA S) = some m → z = k → AW X 7 [some (vR 53), some (vI x), some (vI y), some (vI w), some (vI z)] [] (V1, σ) 0 0 := by
    intro j
    induction j with
    | zero =>
      intro k hk V1 z m hX hA hms hP hz
      have hK1 := hK V1 hX
      rw [show k = N by omega, Nat.sub_self, Nat.pow_zero, Nat.div_one] at hP
      have ev : vlG (psC S) p (r + 1) N (psA S) N q = bz (pl (psC S) m p == r + 1) := by unfold vlG; rw [hP, Nat.sub_self]; rfl
      rw [ev] at hK1
      have e0 : V1 56 x.toNat = (pl (psC S) m p : Int) := by rw [show x.toNat = p by omega]; exact ar_pl hA hp (by omega)
      refine aw_iload_4 (q := 9) F dM_isIn_7 rfl ?_
      refine aw_iload_3 (q := 10) F dM_isIn_9 rfl ?_
      refine aw_icmp_ge (q := 13) (t := 49) F dM_isIn_10 rfl (by decide) (fun c10 => ?_) (fun c10 => by omega)
      refine aw_aload_0 (q := 50) F dM_isIn_49 rfl ?_
      refine av_getaE (q := 53) F fM_21 dM_isIn_50 rfl rfl (by first | exact hM.o | exact hl.o | exact hM.a55 | exact hM.a56 | exact hM.a62 | exact hM.a63) hM.p16 ?_
      refine aw_iload_1 (q := 54) F dM_isIn_53 rfl ?_
      refine av_iaload (q := 55) F dM_isIn_54 rfl (by first | exact hM.o | exact hl.o | exact hM.a55 | exact hM.a56 | exact hM.a62 | exact hM.a63) (by omega) (by omega) ?_
      rw [e0]
      refine aw_iload_2 (q := 56) F dM_isIn_55 rfl ?_
      refine aw_iconst (q := 57) F dM_isIn_56 rfl (by decide) ?_
      refine aw_iadd (q := 58) F dM_isIn_57 rfl (by constructor <;> omega) ?_
      refine aw_icmp_ne (q := 61) (t := 65) F dM_isIn_58 rfl (by decide) (fun c58 => ?_) (fun c58 => ?_)
      · refine aw_iconst (q := 66) F dM_isIn_65 rfl (by decide) ?_
        refine aw_iret F C dM_isIn_66 rfl (Nat.le_refl _) (Nat.le_refl _) ?_
        first | (rw [show (pl (psC S) m p == r + 1) = true from beq_iff_eq.mpr (by omega)] at hK1; exact hK1) | (rw [show (pl (psC S) m p == r + 1) = false from beq_eq_false_iff_ne.mpr (by omega)] at hK1; exact hK1)
      · refine aw_iconst (q := 62) F dM_isIn_61 rfl (by decide) ?_
        refine aw_goto (t := 66) F dM_isIn_62 (by decide) ?_
        refine aw_iret F C dM_isIn_66 rfl (Nat.le_refl _) (Nat.le_refl _) ?_
        first | (rw [show (pl (psC S) m p == r + 1) = true from beq_iff_eq.mpr (by omega)] at hK1; exact hK1) | (rw [show (pl (psC S) m p == r + 1) = false from beq_eq_false_iff_ne.mpr (by omega)] at hK1; exact hK1)
    | succ j ih =>
      intro k hk V1 z m hX hA hms hP hz
      have hE : z % 2 = 0 → mvr p (k % 2 == 0) = p := fun e => by rw [show (k % 2 == 0) = true from beq_iff_eq.mpr (by omega)]; rfl
      have hO : ¬ z % 2 = 0 → mvr p (k % 2 == 0) = 1 - p := fun e => by rw [show (k % 2 == 0) = false from beq_eq_false_iff_ne.mpr (by omega)]; rfl
      have hmv := mvr_lt hp (k % 2 == 0)
      have e63 : V1 63 z.toNat = (q / mc (psC S) ^ (N - 1 - k) % mc (psC S) : Nat) := by rw [hX 63 (by decide), show z.toNat = k by omega, hD k (by omega)]
      have ps := pcd_s (c := psC S) (sk := p) (q := q) (n := psA S) (show k < N by omega)
      rw [hP] at ps
      refine aw_iload_4 (q := 9) F dM_isIn_7 rfl ?_
      refine aw_iload_3 (q := 10) F dM_isIn_9 rfl ?_
      refine aw_icmp_ge (q := 13) (t := 49) F dM_isIn_10 rfl (by decide) (fun c10 => by omega) (fun c10 => ?_)
      refine aw_aload_0 (q := 14) F dM_isIn_13 rfl ?_
      refine aw_iload_4 (q := 16) F dM_isIn_14 rfl ?_
      refine aw_iconst (q := 17) F dM_isIn_16 rfl (by decide) ?_
      refine aw_irem (q := 18) F dM_isIn_17 rfl (by omega) (by omega) ?_
      refine aw_if_ne (q := 21) (t := 25) F dM_isIn_18 rfl (by decide) (fun c18 => ?_) (fun c18 => ?_)
      · refine aw_iconst (q := 26) F dM_isIn_25 rfl (by decide) ?_
        refine aw_iload_1 (q := 27) F dM_isIn_26 rfl ?_
        refine aw_isub (q := 28) F dM_isIn_27 rfl (by constructor <;> omega) ?_
        refine aw_aload_0 (q := 29) F dM_isIn_28 rfl ?_
        refine av_getaE (q := 32) F fM_43 dM_isIn_29 rfl rfl (by first | exact hM.o | exact hl.o | exact hM.a55 | exact hM.a56 | exact hM.a62 | exact hM.a63) hM.p28 ?_
        refine aw_iload_4 (q := 34) F dM_isIn_32 rfl ?_
        refine av_iaload (q := 35) F dM_isIn_34 rfl (by first | exact hM.o | exact hl.o | exact hM.a55 | exact hM.a56 | exact hM.a62 | exact hM.a63) (by omega) (by omega) ?_
        rw [e63]
        refine av_callV2 (q := 38) (ci := 9) F hm mM_moves_i mM_moves_n lM_409 dM_isIn_35 rfl rfl rfl (by first | exact hM.o | exact hl.o | exact hM.a55 | exact hM.a56 | exact hM.a62 | exact hM.a63) (by decide) (Nat.le_refl _) (Nat.le_refl _) (Nat.le_of_ble_eq_true rfl) (wM_moves (p := mvr p (k % 2 == 0)) (j := q / mc (psC S) ^ (N - 1 - k) % mc (psC S)) (by first | (rw [hE c18]; exact hx) | (rw [hO c18]; omega)) (by omega) rfl (Nat.mod_lt _ (mc_pos _)) hms hM hl (hX.lc h64 hC) hA hc (fun V2 m35 e35 f35 g35 => ?_) (fun e35 => ?_))
        · refine aw_if_ne (q := 41) (t := 43) F dM_isIn_38 rfl (by decide) (fun c38 => ?_) (fun c38 => absurd c38 (by decide))
          refine aw_iinc_4 (q := 46) F dM_isIn_43 rfl trivial (by constructor <;> omega) ?_
          refine aw_goto (t := 7) F dM_isIn_46 (by decide) ?_
          exact ih (k + 1) (by omega) V2 _ m35 (hX.trans f35) g35 (mv_lt (by omega) hms (Nat.mod_lt _ (mc_pos _)) e35) (ps.trans e35) (by omega)
        · refine aw_if_ne (q := 41) (t := 43) F dM_isIn_38 rfl (by decide) (fun c38 => absurd c38 (by decide)) (fun c38 => ?_)
          refine aw_iconst (q := 42) F dM_isIn_41 rfl (by decide) ?_
          refine aw_iret F C dM_isIn_42 rfl (Nat.le_refl _) (Nat.le_refl _) ?_
          refine kI (hK V1 hX) ?_
          have hno := pcd_none (c := psC S) (sk := p) (q := q) (n := psA S) (N := N) j (k + 1) (by omega) (ps.trans e35)
          unfold vlG
          rw [hno]
          rfl
      · refine aw_iload_1 (q := 22) F dM_isIn_21 rfl ?_
        refine aw_goto (t := 28) F dM_isIn_22 (by decide) ?_
        refine aw_aload_0 (q := 29) F dM_isIn_28 rfl ?_
        refine av_getaE (q := 32) F fM_43 dM_isIn_29 rfl rfl (by first | exact hM.o | exact hl.o | exact hM.a55 | exact hM.a56 | exact hM.a62 | exact hM.a63) hM.p28 ?_
        refine aw_iload_4 (q := 34) F dM_isIn_32 rfl ?_
        refine av_iaload (q := 35) F dM_isIn_34 rfl (by first | exact hM.o | exact hl.o | exact hM.a55 | exact hM.a56 | exact hM.a62 | exact hM.a63) (by omega) (by omega) ?_
        rw [e63]
        refine av_callV2 (q := 38) (ci := 9) F hm mM_moves_i mM_moves_n lM_409 dM_isIn_35 rfl rfl rfl (by first | exact hM.o | exact hl.o | exact hM.a55 | exact hM.a56 | exact hM.a62 | exact hM.a63) (by decide) (Nat.le_refl _) (Nat.le_refl _) (Nat.le_of_ble_eq_true rfl) (wM_moves (p := mvr p (k % 2 == 0)) (j := q / mc (psC S) ^ (N - 1 - k) % mc (psC S)) (by first | (rw [hE c18]; exact hx) | (rw [hO c18]; omega)) (by omega) rfl (Nat.mod_lt _ (mc_pos _)) hms hM hl (hX.lc h64 hC) hA hc (fun V2 m35 e35 f35 g35 => ?_) (fun e35 => ?_))
        · refine aw_if_ne (q := 41) (t := 43) F dM_isIn_38 rfl (by decide) (fun c38 => ?_) (fun c38 => absurd c38 (by decide))
          refine aw_iinc_4 (q := 46) F dM_isIn_43 rfl trivial (by constructor <;> omega) ?_
          refine aw_goto (t := 7) F dM_isIn_46 (by decide) ?_
          exact ih (k + 1) (by omega) V2 _ m35 (hX.trans f35) g35 (mv_lt (by omega) hms (Nat.mod_lt _ (mc_pos _)) e35) (ps.trans e35) (by omega)
        · refine aw_if_ne (q := 41) (t := 43) F dM_isIn_38 rfl (by decide) (fun c38 => absurd c38 (by decide)) (fun c38 => ?_)
          refine aw_iconst (q := 42) F dM_isIn_41 rfl (by decide) ?_
          refine aw_iret F C dM_isIn_42 rfl (Nat.le_refl _) (Nat.le_refl _) ?_
          refine kI (hK V1 hX) ?_
          have hno := pcd_none (c := psC S) (sk := p) (q := q) (n := psA S) (N := N) j (k + 1) (by omega) (ps.trans e35)
          unfold vlG
          rw [hno]
          rfl
  refine aw_aload_0 (q := 1) F dM_isIn_0 rfl ?_
  refine av_callV0 (q := 4) (ci := 9) F hm mM_works_i mM_works_n lM_348 dM_isIn_1 rfl rfl rfl (by first | exact hM.o | exact hl.o | exact hM.a55 | exact hM.a56 | exact hM.a62 | exact hM.a63) (by decide) (Nat.le_refl _) (Nat.le_refl _) (Nat.le_of_ble_eq_true rfl) (wM_works hM (fun V2 f1 g1 => ?_))
  refine aw_iconst (q := 5) F dM_isIn_4 rfl (by decide) ?_
  refine aw_istore_4 (q := 7) F dM_isIn_5 rfl trivial ?_
  exact loop N 0 (by omega) V2 _ (psA S) f1 (AR.now h hd g1) (h.hn hd) rfl rfl
theorem bs_a {b : Bool} {w : Nat → Int} {k : Nat} (h : w k = -1) : bsF b w (k + 1) = bsF b w k := by rw [bsF, if_pos h]
theorem bs_b {b : Bool} {w : Nat → Int} {k : Nat} (h : w k ≠ -1) (g : bsF b w k = -1) : bsF b w (k + 1) = w k := by rw [bsF, if_neg h, if_pos (Or.inl g)]
theorem bs_c {b : Bool} {w : Nat → Int} {k : Nat} (h : w k ≠ -1) (hb : b = true) (g : bsF b w k < w k) : bsF b w (k + 1) = w k := by subst hb; rw [bsF, if_neg h]; exact if_pos (Or.inr (by rw [if_pos rfl]; exact g))
theorem bs_d {b : Bool} {w : Nat → Int} {k : Nat} (h : w k ≠ -1) (g0 : bsF b w k ≠ -1) (hb : b = true) (g : ¬ bsF b w k < w k) : bsF b w (k + 1) = bsF b w k := by
  subst hb
  rw [bsF, if_neg h, if_neg]
  rintro (q | q)
  · exact g0 q
  · exact g q
theorem bs_e {b : Bool} {w : Nat → Int} {k : Nat} (h : w k ≠ -1) (hb : b = false) (g : w k < bsF b w k) : bsF b w (k + 1) = w k := by subst hb; rw [bsF, if_neg h]; exact if_pos (Or.inr (by rw [if_neg Bool.false_ne_true]; exact g))
theorem bs_f {b : Bool} {w : Nat → Int} {k : Nat} (h : w k ≠ -1) (g0 : bsF b w k ≠ -1) (hb : b = false) (g : ¬ w k < bsF b w k) : bsF b w (k + 1) = bsF b w k := by
  subst hb
  rw [bsF, if_neg h, if_neg]
  rintro (q | q)
  · exact g0 q
  · exact g q
theorem wM_bestFrom {x y : Int} {a : Nat} {b : Bool} {w : Nat → Int} (hx : x = a) (ha : a + mc c ≤ 62500) (hy : y = bz b) (hM : moS σ l) (hl : laS σ l) (hC : LC V l c) (hc : okC c) (hw : ∀ j, j < mc c → V 62 (a + j) = w j ∧ -1 ≤ w j ∧ w j ≤ 1) (hK : K (some (vI (bsF b w (mc c)))) (V, σ)) : Wp G 1 mM_bestFrom [vR 53, vI x, vI y] (V, σ) 0 0 K := by
  have hbt : ¬ y = 0 → b = true := fun e => by cases b; exact absurd hy e; rfl
  have hbf : y = 0 → b = false := fun e => by cases b; rfl; rw [e] at hy; exact absurd hy (by decide)
  refine wp_intro mM_bestFrom_i.1 [some (vR 53), some (vI x), some (vI y), none, none] rfl rfl (Nat.le_of_ble_eq_true rfl) ?_
  intro X hG F C
  have hm := C.rm
  have loop : ∀ (j k : Nat), k + j = mc c → ∀ (z r : Int), z = a + k → r = bsF b w k → AW X 5 [some (vR 53), some (vI x), some (vI y), some (vI r), some (vI z)] [] (V, σ) 0 0 := by
    intro j
    induction j with
    | zero =>
      intro k hk z r hz hr
      refine aw_iload_4 (q := 7) F dM_bestFrom_5 rfl ?_
      refine aw_iload_1 (q := 8) F dM_bestFrom_7 rfl ?_
      refine aw_aload_0 (q := 9) F dM_bestFrom_8 rfl ?_
      refine av_callV0 (q := 12) (ci := 9) F hm mM_moveChoices_i mM_moveChoices_n lM_412 dM_bestFrom_9 rfl rfl rfl (by first | exact hM.o | exact hl.o | exact hM.a55 | exact hM.a56 | exact hM.a62 | exact hM.a63) (by decide) (Nat.le_refl _) (Nat.le_refl _) (Nat.le_of_ble_eq_true rfl) (wM_moveChoices hM hl hC hc ?_)
      refine aw_iadd (q := 13) F dM_bestFrom_12 rfl (by constructor <;> omega) ?_
      refine aw_icmp_ge (q := 16) (t := 78) F dM_bestFrom_13 rfl (by decide) (fun c13 => ?_) (fun c13 => by omega)
      refine aw_iload_3 (q := 79) F dM_bestFrom_78 rfl ?_
      refine aw_iret F C dM_bestFrom_79 rfl (Nat.le_refl _) (Nat.le_refl _) ?_
      rw [hr, show k = mc c by omega]; exact hK
    | succ j ih =>
      intro k hk z r hz hr
      obtain ⟨w1, w2, w3⟩ := hw k (by omega)
      have e62 : V 62 z.toNat = w k := by rw [show z.toNat = a + k by omega]; exact w1
      refine aw_iload_4 (q := 7) F dM_bestFrom_5 rfl ?_
      refine aw_iload_1 (q := 8) F dM_bestFrom_7 rfl ?_
      refine aw_aload_0 (q := 9) F dM_bestFrom_8 rfl ?_
      refine av_callV0 (q := 12) (ci := 9) F hm mM_moveChoices_i mM_moveChoices_n lM_412 dM_bestFrom_9 rfl rfl rfl (by first | exact hM.o | exact hl.o | exact hM.a55 | exact hM.a56 | exact hM.a62 | exact hM.a63) (by decide) (Nat.le_refl _) (Nat.le_refl _) (Nat.le_of_ble_eq_true rfl) (wM_moveChoices hM hl hC hc ?_)
      refine aw_iadd (q := 13) F dM_bestFrom_12 rfl (by constructor <;> omega) ?_
      refine aw_icmp_ge (q := 16) (t := 78) F dM_bestFrom_13 rfl (by decide) (fun c13 => by omega) (fun c13 => ?_)
      refine aw_aload_0 (q := 17) F dM_bestFrom_16 rfl ?_
      refine av_getaE (q := 20) F fM_40 dM_bestFrom_17 rfl rfl (by first | exact hM.o | exact hl.o | exact hM.a55 | exact hM.a56 | exact hM.a62 | exact hM.a63) hM.p24 ?_
      refine aw_iload_4 (q := 22) F dM_bestFrom_20 rfl ?_
      refine av_iaload (q := 23) F dM_bestFrom_22 rfl (by first | exact hM.o | exact hl.o | exact hM.a55 | exact hM.a56 | exact hM.a62 | exact hM.a63) (by omega) (by omega) ?_
      rw [e62]
      refine aw_iconst (q := 24) F dM_bestFrom_23 rfl (by decide) ?_
      refine aw_icmp_ne (q := 27) (t := 30) F dM_bestFrom_24 rfl (by decide) (fun c24 => ?_) (fun c24 => ?_)
      · refine aw_iload_3 (q := 31) F dM_bestFrom_30 rfl ?_
        refine aw_iconst (q := 32) F dM_bestFrom_31 rfl (by decide) ?_
        refine aw_icmp_eq (q := 35) (t := 64) F dM_bestFrom_32 rfl (by decide) (fun c32 => ?_) (fun c32 => ?_)
        · refine aw_aload_0 (q := 65) F dM_bestFrom_64 rfl ?_
          refine av_getaE (q := 68) F fM_40 dM_bestFrom_65 rfl rfl (by first | exact hM.o | exact hl.o | exact hM.a55 | exact hM.a56 | exact hM.a62 | exact hM.a63) hM.p24 ?_
          refine aw_iload_4 (q := 70) F dM_bestFrom_68 rfl ?_
          refine av_iaload (q := 71) F dM_bestFrom_70 rfl (by first | exact hM.o | exact hl.o | exact hM.a55 | exact hM.a56 | exact hM.a62 | exact hM.a63) (by omega) (by omega) ?_
          rw [e62]
          refine aw_istore_3 (q := 72) F dM_bestFrom_71 rfl trivial ?_
          refine aw_iinc_4 (q := 75) F dM_bestFrom_72 rfl trivial (by constructor <;> omega) ?_
          refine aw_goto (t := 5) F dM_bestFrom_75 (by decide) ?_
          first
          | exact ih (k + 1) (by omega) _ _ (by omega) (by rw [bs_a (by omega)]; exact hr)
          | exact ih (k + 1) (by omega) _ _ (by omega) (bs_b (by omega) (by omega)).symm
          | exact ih (k + 1) (by omega) _ _ (by omega) (bs_c (by omega) (hbt c36) (by omega)).symm
          | exact ih (k + 1) (by omega) _ _ (by omega) (by rw [bs_d (by omega) (by omega) (hbt c36) (by omega)]; exact hr)
          | exact ih (k + 1) (by omega) _ _ (by omega) (bs_e (by omega) (hbf c36) (by omega)).symm
          | exact ih (k + 1) (by omega) _ _ (by omega) (by rw [bs_f (by omega) (by omega) (hbf c36) (by omega)]; exact hr)
        · refine aw_iload_2 (q := 36) F dM_bestFrom_35 rfl ?_
          refine aw_if_eq (q := 39) (t := 53) F dM_bestFrom_36 rfl (by decide) (fun c36 => ?_) (fun c36 => ?_)
          · refine aw_aload_0 (q := 54) F dM_bestFrom_53 rfl ?_
            refine av_getaE (q := 57) F fM_40 dM_bestFrom_54 rfl rfl (by first | exact hM.o | exact hl.o | exact hM.a55 | exact hM.a56 | exact hM.a62 | exact hM.a63) hM.p24 ?_
            refine aw_iload_4 (q := 59) F dM_bestFrom_57 rfl ?_
            refine av_iaload (q := 60) F dM_bestFrom_59 rfl (by first | exact hM.o | exact hl.o | exact hM.a55 | exact hM.a56 | exact hM.a62 | exact hM.a63) (by omega) (by omega) ?_
            rw [e62]
            refine aw_iload_3 (q := 61) F dM_bestFrom_60 rfl ?_
            refine aw_icmp_ge (q := 64) (t := 72) F dM_bestFrom_61 rfl (by decide) (fun c61 => ?_) (fun c61 => ?_)
            · refine aw_iinc_4 (q := 75) F dM_bestFrom_72 rfl trivial (by constructor <;> omega) ?_
              refine aw_goto (t := 5) F dM_bestFrom_75 (by decide) ?_
              first
              | exact ih (k + 1) (by omega) _ _ (by omega) (by rw [bs_a (by omega)]; exact hr)
              | exact ih (k + 1) (by omega) _ _ (by omega) (bs_b (by omega) (by omega)).symm
              | exact ih (k + 1) (by omega) _ _ (by omega) (bs_c (by omega) (hbt c36) (by omega)).symm
              | exact ih (k + 1) (by omega) _ _ (by omega) (by rw [bs_d (by omega) (by omega) (hbt c36) (by omega)]; exact hr)
              | exact ih (k + 1) (by omega) _ _ (by omega) (bs_e (by omega) (hbf c36) (by omega)).symm
              | exact ih (k + 1) (by omega) _ _ (by omega) (by rw [bs_f (by omega) (by omega) (hbf c36) (by omega)]; exact hr)
            · refine aw_aload_0 (q := 65) F dM_bestFrom_64 rfl ?_
              refine av_getaE (q := 68) F fM_40 dM_bestFrom_65 rfl rfl (by first | exact hM.o | exact hl.o | exact hM.a55 | exact hM.a56 | exact hM.a62 | exact hM.a63) hM.p24 ?_
              refine aw_iload_4 (q := 70) F dM_bestFrom_68 rfl ?_
              refine av_iaload (q := 71) F dM_bestFrom_70 rfl (by first | exact hM.o | exact hl.o | exact hM.a55 | exact hM.a56 | exact hM.a62 | exact hM.a63) (by omega) (by omega) ?_
              rw [e62]
              refine aw_istore_3 (q := 72) F dM_bestFrom_71 rfl trivial ?_
              refine aw_iinc_4 (q := 75) F dM_bestFrom_72 rfl trivial (by constructor <;> omega) ?_
              refine aw_goto (t := 5) F dM_bestFrom_75 (by decide) ?_
              first
              | exact ih (k + 1) (by omega) _ _ (by omega) (by rw [bs_a (by omega)]; exact hr)
              | exact ih (k + 1) (by omega) _ _ (by omega) (bs_b (by omega) (by omega)).symm
              | exact ih (k + 1) (by omega) _ _ (by omega) (bs_c (by omega) (hbt c36) (by omega)).symm
              | exact ih (k + 1) (by omega) _ _ (by omega) (by rw [bs_d (by omega) (by omega) (hbt c36) (by omega)]; exact hr)
              | exact ih (k + 1) (by omega) _ _ (by omega) (bs_e (by omega) (hbf c36) (by omega)).symm
              | exact ih (k + 1) (by omega) _ _ (by omega) (by rw [bs_f (by omega) (by omega) (hbf c36) (by omega)]; exact hr)
          · refine aw_aload_0 (q := 40) F dM_bestFrom_39 rfl ?_
            refine av_getaE (q := 43) F fM_40 dM_bestFrom_40 rfl rfl (by first | exact hM.o | exact hl.o | exact hM.a55 | exact hM.a56 | exact hM.a62 | exact hM.a63) hM.p24 ?_
            refine aw_iload_4 (q := 45) F dM_bestFrom_43 rfl ?_
            refine av_iaload (q := 46) F dM_bestFrom_45 rfl (by first | exact hM.o | exact hl.o | exact hM.a55 | exact hM.a56 | exact hM.a62 | exact hM.a63) (by omega) (by omega) ?_
            rw [e62]
            refine aw_iload_3 (q := 47) F dM_bestFrom_46 rfl ?_
            refine aw_icmp_le (q := 50) (t := 72) F dM_bestFrom_47 rfl (by decide) (fun c47 => ?_) (fun c47 => ?_)
            · refine aw_iinc_4 (q := 75) F dM_bestFrom_72 rfl trivial (by constructor <;> omega) ?_
              refine aw_goto (t := 5) F dM_bestFrom_75 (by decide) ?_
              first
              | exact ih (k + 1) (by omega) _ _ (by omega) (by rw [bs_a (by omega)]; exact hr)
              | exact ih (k + 1) (by omega) _ _ (by omega) (bs_b (by omega) (by omega)).symm
              | exact ih (k + 1) (by omega) _ _ (by omega) (bs_c (by omega) (hbt c36) (by omega)).symm
              | exact ih (k + 1) (by omega) _ _ (by omega) (by rw [bs_d (by omega) (by omega) (hbt c36) (by omega)]; exact hr)
              | exact ih (k + 1) (by omega) _ _ (by omega) (bs_e (by omega) (hbf c36) (by omega)).symm
              | exact ih (k + 1) (by omega) _ _ (by omega) (by rw [bs_f (by omega) (by omega) (hbf c36) (by omega)]; exact hr)
            · refine aw_goto (t := 64) F dM_bestFrom_50 (by decide) ?_
              refine aw_aload_0 (q := 65) F dM_bestFrom_64 rfl ?_
              refine av_getaE (q := 68) F fM_40 dM_bestFrom_65 rfl rfl (by first | exact hM.o | exact hl.o | exact hM.a55 | exact hM.a56 | exact hM.a62 | exact hM.a63) hM.p24 ?_
              refine aw_iload_4 (q := 70) F dM_bestFrom_68 rfl ?_
              refine av_iaload (q := 71) F dM_bestFrom_70 rfl (by first | exact hM.o | exact hl.o | exact hM.a55 | exact hM.a56 | exact hM.a62 | exact hM.a63) (by omega) (by omega) ?_
              rw [e62]
              refine aw_istore_3 (q := 72) F dM_bestFrom_71 rfl trivial ?_
              refine aw_iinc_4 (q := 75) F dM_bestFrom_72 rfl trivial (by constructor <;> omega) ?_
              refine aw_goto (t := 5) F dM_bestFrom_75 (by decide) ?_
              first
              | exact ih (k + 1) (by omega) _ _ (by omega) (by rw [bs_a (by omega)]; exact hr)
              | exact ih (k + 1) (by omega) _ _ (by omega) (bs_b (by omega) (by omega)).symm
              | exact ih (k + 1) (by omega) _ _ (by omega) (bs_c (by omega) (hbt c36) (by omega)).symm
              | exact ih (k + 1) (by omega) _ _ (by omega) (by rw [bs_d (by omega) (by omega) (hbt c36) (by omega)]; exact hr)
              | exact ih (k + 1) (by omega) _ _ (by omega) (bs_e (by omega) (hbf c36) (by omega)).symm
              | exact ih (k + 1) (by omega) _ _ (by omega) (by rw [bs_f (by omega) (by omega) (hbf c36) (by omega)]; exact hr)
      · refine aw_goto (t := 72) F dM_bestFrom_27 (by decide) ?_
        refine aw_iinc_4 (q := 75) F dM_bestFrom_72 rfl trivial (by constructor <;> omega) ?_
        refine aw_goto (t := 5) F dM_bestFrom_75 (by decide) ?_
        first
        | exact ih (k + 1) (by omega) _ _ (by omega) (by rw [bs_a (by omega)]; exact hr)
        | exact ih (k + 1) (by omega) _ _ (by omega) (bs_b (by omega) (by omega)).symm
        | exact ih (k + 1) (by omega) _ _ (by omega) (bs_c (by omega) (hbt c36) (by omega)).symm
        | exact ih (k + 1) (by omega) _ _ (by omega) (by rw [bs_d (by omega) (by omega) (hbt c36) (by omega)]; exact hr)
        | exact ih (k + 1) (by omega) _ _ (by omega) (bs_e (by omega) (hbf c36) (by omega)).symm
        | exact ih (k + 1) (by omega) _ _ (by omega) (by rw [bs_f (by omega) (by omega) (hbf c36) (by omega)]; exact hr)
  refine aw_iconst (q := 1) F dM_bestFrom_0 rfl (by decide) ?_
  refine aw_istore_3 (q := 2) F dM_bestFrom_1 rfl trivial ?_
  refine aw_iload_1 (q := 3) F dM_bestFrom_2 rfl ?_
  refine aw_istore_4 (q := 5) F dM_bestFrom_3 rfl trivial ?_
  exact loop (mc c) 0 (by omega) _ _ (by omega) rfl
theorem wM_argues {x y w : Int} {p r N : Nat} (hx : x = p) (hp : p < 2) (hy : y = r) (hr : r < 4) (hw : w = N) (hN : N ≤ 4) (h : MW V σ l S) (hd : 0 < tDn (psT S)) (h2 : tPn (psT S) = 2) (hK : ∀ V', AF V V' → (N = 0 → V' 62 0 = vlG (psC S) p (r + 1) N (psA S) 0 0) → (0 < N → ∀ j, j < mc (psC S) → V' 62 j = vlG (psC S) p (r + 1) N (psA S) 1 j) → K none (V', σ)) : Wp G 4 mM_argues [vR 53, vI x, vI y, vI w] (V, σ) 0 0 K := by
  have hM := h.mo
  have hl := h.la hd
  have h64 := h.h64 hd
  have hc := h.hc
  have hpN : pN (psC S) = 2 := h2
  have hmp := mc_pos (psC S)
  have hm13 : mc (psC S) ≤ 13 := by unfold mc; have := hc.1; omega
  have hg1 : ∀ k q, -1 ≤ vlG (psC S) p (r + 1) N (psA S) k q ∧ vlG (psC S) p (r + 1) N (psA S) k q ≤ 1 := fun k q => vlM_r _ _
  refine wp_intro mM_argues_i.1 [some (vR 53), some (vI x), some (vI y), some (vI w), none, none, none, none] rfl rfl (Nat.le_of_ble_eq_true rfl) ?_
  intro X hG F C
  have hm := C.rm
  -- a level is made of the next
  have lev : ∀ (k : Nat), k < N → (∀ (V2 : Nat → Nat → Int) (u6 u7 : Option AV), AF V V2 → (∀ j, j < mc (psC S) ^ k → V2 62 j = vlG (psC S) p (r + 1) N (psA S) k j) → ∀ z5 : Int, z5 = k → AW X 165 [some (vR 53), some (vI x), some (vI y), some (vI w), some (vI (mc (psC S) ^ k : Nat)), some (vI z5), u6, u7] [] (V2, σ) 0 0) → ∀ (j q : Nat), q + j = mc (psC S) ^ k → ∀ (V1 : Nat → Nat → Int) (z5 z6 : Int) (u7 : Option AV), AF V V1 → (∀ j, j < q → V1 62 j = vlG (psC S) p (r + 1) N (psA S) k j) → (∀ j, q ≤ j → j < mc (psC S) ^ (k + 1) → V1 62 j = vlG (psC S) p (r + 1) N (psA S) (k + 1) j) → z5 = k → z6 = q → AW X 122 [some (vR 53), some (vI x), some (vI y), some (vI w), some (vI (mc (psC S) ^ k : Nat)), some (vI z5), some (vI z6), u7] [] (V1, σ) 0 0 := by
    intro k hk hE j
    have hp1 := pwM hc (show k + 1 ≤ 4 by omega)
    have hp0 := pwM hc (show k ≤ 4 by omega)
    have hps : mc (psC S) ^ (k + 1) = mc (psC S) ^ k * mc (psC S) := Nat.pow_succ _ _
    induction j with
    | zero =>
      intro q hq V1 z5 z6 u7 hF hI hJ h5 h6
      refine aw_iload_6 (q := 124) F dM_argues_122 rfl ?_
      refine aw_iload_4 (q := 126) F dM_argues_124 rfl ?_
      refine aw_icmp_ge (q := 129) (t := 165) F dM_argues_126 rfl (by decide) (fun c126 => ?_) (fun c126 => by omega)
      exact hE V1 _ _ hF (fun j hj => hI j (by omega)) _ h5
    | succ j ih =>
      intro q hq V1 z5 z6 u7 hF hI hJ h5 h6
      have hmw := hF.mw h
      have hqM : q * mc (psC S) + mc (psC S) ≤ mc (psC S) ^ (k + 1) := by
        rw [hps, ← Nat.succ_mul]
        exact Nat.mul_le_mul_right _ (by omega)
      have hqq : q ≤ q * mc (psC S) := Nat.le_mul_of_pos_right _ hmp
      have eM : z6 * (mc (psC S) : Int) = ((q * mc (psC S) : Nat) : Int) := by rw [h6, Int.natCast_mul]
      have hvs := vlG_s (c := psC S) (go := r + 1) (n := psA S) (q := q) hp hpN hk
      refine aw_iload_6 (q := 124) F dM_argues_122 rfl ?_
      refine aw_iload_4 (q := 126) F dM_argues_124 rfl ?_
      refine aw_icmp_ge (q := 129) (t := 165) F dM_argues_126 rfl (by decide) (fun c126 => by omega) (fun c126 => ?_)
      refine aw_aload_0 (q := 130) F dM_argues_129 rfl ?_
      refine av_getaE (q := 133) F fM_40 dM_argues_130 rfl rfl (by first | exact hM.o | exact hl.o | exact hM.a55 | exact hM.a56 | exact hM.a62 | exact hM.a63) hM.p24 ?_
      refine aw_iload_6 (q := 135) F dM_argues_133 rfl ?_
      refine aw_aload_0 (q := 136) F dM_argues_135 rfl ?_
      refine aw_iload_6 (q := 138) F dM_argues_136 rfl ?_
      refine aw_aload_0 (q := 139) F dM_argues_138 rfl ?_
      refine av_callV0 (q := 142) (ci := 9) F hm mM_moveChoices_i mM_moveChoices_n lM_412 dM_argues_139 rfl rfl rfl (by first | exact hM.o | exact hl.o | exact hM.a55 | exact hM.a56 | exact hM.a62 | exact hM.a63) (by decide) (Nat.le_refl _) (Nat.le_refl _) (Nat.le_of_ble_eq_true rfl) (wM_moveChoices hM hl (hmw.lc hd) hc ?_)
      refine aw_imul (q := 143) F dM_argues_142 rfl (by rw [eM]; constructor <;> omega) ?_
      rw [eM]
      refine aw_iload_5 (q := 145) F dM_argues_143 rfl ?_
      refine aw_iconst (q := 146) F dM_argues_145 rfl (by decide) ?_
      refine aw_irem (q := 147) F dM_argues_146 rfl (by omega) (by omega) ?_
      refine aw_if_ne (q := 150) (t := 154) F dM_argues_147 rfl (by decide) (fun c147 => ?_) (fun c147 => ?_)
      · refine aw_iconst (q := 155) F dM_argues_154 rfl (by decide) ?_
        refine av_callV2 (q := 158) (ci := 9) F hm mM_bestFrom_i mM_bestFrom_n lM_419 dM_argues_155 rfl rfl rfl (by first | exact hM.o | exact hl.o | exact hM.a55 | exact hM.a56 | exact hM.a62 | exact hM.a63) (by decide) (Nat.le_refl _) (Nat.le_refl _) (Nat.le_of_ble_eq_true rfl) (wM_bestFrom (a := q * mc (psC S)) (b := k % 2 == 0) (w := fun j => vlG (psC S) p (r + 1) N (psA S) (k + 1) (q * mc (psC S) + j)) rfl (by omega) (by first | (rw [show (k % 2 == 0) = true from beq_iff_eq.mpr (by omega)]; rfl) | (rw [show (k % 2 == 0) = false from beq_eq_false_iff_ne.mpr (by omega)]; rfl)) hM hl (hmw.lc hd) hc (fun j hj => ⟨hJ _ (by omega) (by omega), hg1 _ _⟩) ?_)
        refine av_iastore (q := 159) F dM_argues_158 rfl (by first | exact hM.o | exact hl.o | exact hM.a55 | exact hM.a56 | exact hM.a62 | exact hM.a63) (by omega) (by omega) ?_
        refine aw_iinc_6 (q := 162) F dM_argues_159 rfl trivial (by constructor <;> omega) ?_
        refine aw_goto (t := 122) F dM_argues_162 (by decide) ?_
        refine ih (q + 1) (by omega) _ _ _ _ hF.o (fun i hi => ?_) (fun i h1 h2 => ?_) h5 (by omega)
        · rw [up2_at, show z6.toNat = q by omega]
          by_cases e : i = q
          · show (if i = q then _ else _) = _
            rw [if_pos e, hvs, e]
          · show (if i = q then _ else _) = _
            rw [if_neg e]; exact hI i (by omega)
        · rw [up2_at, show z6.toNat = q by omega]
          show (if i = q then _ else _) = _
          rw [if_neg (by omega)]; exact hJ i (by omega) h2
      · refine aw_iconst (q := 151) F dM_argues_150 rfl (by decide) ?_
        refine aw_goto (t := 155) F dM_argues_151 (by decide) ?_
        refine av_callV2 (q := 158) (ci := 9) F hm mM_bestFrom_i mM_bestFrom_n lM_419 dM_argues_155 rfl rfl rfl (by first | exact hM.o | exact hl.o | exact hM.a55 | exact hM.a56 | exact hM.a62 | exact hM.a63) (by decide) (Nat.le_refl _) (Nat.le_refl _) (Nat.le_of_ble_eq_true rfl) (wM_bestFrom (a := q * mc (psC S)) (b := k % 2 == 0) (w := fun j => vlG (psC S) p (r + 1) N (psA S) (k + 1) (q * mc (psC S) + j)) rfl (by omega) (by first | (rw [show (k % 2 == 0) = true from beq_iff_eq.mpr (by omega)]; rfl) | (rw [show (k % 2 == 0) = false from beq_eq_false_iff_ne.mpr (by omega)]; rfl)) hM hl (hmw.lc hd) hc (fun j hj => ⟨hJ _ (by omega) (by omega), hg1 _ _⟩) ?_)
        refine av_iastore (q := 159) F dM_argues_158 rfl (by first | exact hM.o | exact hl.o | exact hM.a55 | exact hM.a56 | exact hM.a62 | exact hM.a63) (by omega) (by omega) ?_
        refine aw_iinc_6 (q := 162) F dM_argues_159 rfl trivial (by constructor <;> omega) ?_
        refine aw_goto (t := 122) F dM_argues_162 (by decide) ?_
        refine ih (q + 1) (by omega) _ _ _ _ hF.o (fun i hi => ?_) (fun i h1 h2 => ?_) h5 (by omega)
        · rw [up2_at, show z6.toNat = q by omega]
          by_cases e : i = q
          · show (if i = q then _ else _) = _
            rw [if_pos e, hvs, e]
          · show (if i = q then _ else _) = _
            rw [if_neg e]; exact hI i (by omega)
        · rw [up2_at, show z6.toNat = q by omega]
          show (if i = q then _ else _) = _
          rw [if_neg (by omega)]; exact hJ i (by omega) h2
  have levs : 0 < N → ∀ (k : Nat), k < N → ∀ (V1 : Nat → Nat → Int) (z5 : Int) (u6 u7 : Option AV), AF V V1 → (∀ j, j < mc (psC S) ^ (k + 1) → V1 62 j = vlG (psC S) p (r + 1) N (psA S) (k + 1) j) → z5 = k → AW X 105 [some (vR 53), some (vI x), some (vI y), some (vI w), some (vI (mc (psC S) ^ (k + 1) : Nat)), some (vI z5), u6, u7] [] (V1, σ) 0 0 := by
    intro hN0 k
    induction k with
    | zero =>
      intro hk V1 z5 u6 u7 hF hJ h5
      rw [Nat.zero_add, Nat.pow_one] at hJ
      refine aw_iload_5 (q := 107) F dM_argues_105 rfl ?_
      refine aw_if_le (q := 110) (t := 171) F dM_argues_107 rfl (by decide) (fun c107 => ?_) (fun c107 => by omega)
      refine aw_vret F C dM_argues_171 rfl (Nat.le_refl _) (Nat.le_refl _) ?_
      exact hK V1 hF (fun e => absurd e (by omega)) (fun _ => hJ)
    | succ k ih =>
      intro hk V1 z5 u6 u7 hF hJ h5
      have hmw := hF.mw h
      have hp1 := pwM hc (show k + 1 + 1 ≤ 4 by omega)
      have eD : ((mc (psC S) ^ (k + 1 + 1) : Nat) : Int) / (mc (psC S) : Int) = ((mc (psC S) ^ (k + 1) : Nat) : Int) := by
        rw [← Int.natCast_ediv, Nat.pow_succ, Nat.mul_div_cancel _ hmp]
      have hE : ∀ (V2 : Nat → Nat → Int) (u6 u7 : Option AV), AF V V2 → (∀ j, j < mc (psC S) ^ (k + 1) → V2 62 j = vlG (psC S) p (r + 1) N (psA S) (k + 1) j) → ∀ z5 : Int, z5 = (k + 1 : Nat) → AW X 165 [some (vR 53), some (vI x), some (vI y), some (vI w), some (vI (mc (psC S) ^ (k + 1) : Nat)), some (vI z5), u6, u7] [] (V2, σ) 0 0 := by
        intro V2 u6 u7 hF2 hI2 z5 h5
        refine aw_iinc_5 (q := 168) F dM_argues_165 rfl trivial (by constructor <;> omega) ?_
        refine aw_goto (t := 105) F dM_argues_168 (by decide) ?_
        exact ih (by omega) V2 _ _ _ hF2 hI2 (by omega)
      refine aw_iload_5 (q := 107) F dM_argues_105 rfl ?_
      refine aw_if_le (q := 110) (t := 171) F dM_argues_107 rfl (by decide) (fun c107 => by omega) (fun c107 => ?_)
      refine aw_iload_4 (q := 112) F dM_argues_110 rfl ?_
      refine aw_aload_0 (q := 113) F dM_argues_112 rfl ?_
      refine av_callV0 (q := 116) (ci := 9) F hm mM_moveChoices_i mM_moveChoices_n lM_412 dM_argues_113 rfl rfl rfl (by first | exact hM.o | exact hl.o | exact hM.a55 | exact hM.a56 | exact hM.a62 | exact hM.a63) (by decide) (Nat.le_refl _) (Nat.le_refl _) (Nat.le_of_ble_eq_true rfl) (wM_moveChoices hM hl (hmw.lc hd) hc ?_)
      refine aw_idiv (q := 117) F dM_argues_116 rfl (by omega) (by omega) ?_
      rw [eD]
      refine aw_istore_4 (q := 119) F dM_argues_117 rfl trivial ?_
      refine aw_iconst (q := 120) F dM_argues_119 rfl (by decide) ?_
      refine aw_istore_6 (q := 122) F dM_argues_120 rfl trivial ?_
      exact lev (k + 1) (by omega) hE _ 0 (Nat.zero_add _) V1 _ _ _ hF (fun j hj => absurd hj (by omega)) (fun j _ hj => hJ j hj) h5 rfl
  -- the end of the row of leaves
  have leaf : ∀ (V1 : Nat → Nat → Int) (z5 : Int) (u6 u7 : Option AV), AF V V1 → (∀ j, j < mc (psC S) ^ N → V1 62 j = vlG (psC S) p (r + 1) N (psA S) N j) → AW X 100 [some (vR 53), some (vI x), some (vI y), some (vI w), some (vI (mc (psC S) ^ N : Nat)), some (vI z5), u6, u7] [] (V1, σ) 0 0 := by
    intro V1 z5 u6 u7 hF hJ
    by_cases hN0 : N = 0
    · refine aw_iload_3 (q := 101) F dM_argues_100 rfl ?_
      refine aw_iconst (q := 102) F dM_argues_101 rfl (by decide) ?_
      refine aw_isub (q := 103) F dM_argues_102 rfl (by constructor <;> omega) ?_
      refine aw_istore_5 (q := 105) F dM_argues_103 rfl trivial ?_
      refine aw_iload_5 (q := 107) F dM_argues_105 rfl ?_
      refine aw_if_le (q := 110) (t := 171) F dM_argues_107 rfl (by decide) (fun c107 => ?_) (fun c107 => by omega)
      refine aw_vret F C dM_argues_171 rfl (Nat.le_refl _) (Nat.le_refl _) ?_
      exact hK V1 hF (fun _ => by rw [hN0] at hJ ⊢; exact hJ 0 (by rw [Nat.pow_zero]; decide)) (fun e => absurd e (by omega))
    · obtain ⟨N', e⟩ : ∃ N', N = N' + 1 := ⟨N - 1, by omega⟩
      refine aw_iload_3 (q := 101) F dM_argues_100 rfl ?_
      refine aw_iconst (q := 102) F dM_argues_101 rfl (by decide) ?_
      refine aw_isub (q := 103) F dM_argues_102 rfl (by constructor <;> omega) ?_
      refine aw_istore_5 (q := 105) F dM_argues_103 rfl trivial ?_
      rw [e]; rw [e] at hJ; exact levs (by omega) N' (by omega) V1 _ _ _ hF (by rw [← e] at hJ ⊢; exact hJ) (by omega)
  have hpN4 := pwM hc hN
  have dig : ∀ (q : Nat), q < mc (psC S) ^ N → (∀ (V2 : Nat → Nat → Int) (z5 : Int) (u6 u7 : Option AV), AF V V2 → (∀ i, i < q + 1 → V2 62 i = vlG (psC S) p (r + 1) N (psA S) N i) → z5 = (q + 1 : Nat) → AW X 30 [some (vR 53), some (vI x), some (vI y), some (vI w), some (vI (mc (psC S) ^ N : Nat)), some (vI z5), u6, u7] [] (V2, σ) 0 0) → ∀ (j t : Nat), t + j = N → ∀ (V1 : Nat → Nat → Int) (z5 z6 z7 : Int), AF V V1 → (∀ i, i < q → V1 62 i = vlG (psC S) p (r + 1) N (psA S) N i) → (∀ i, N ≤ i + t → i < N → V1 63 i = (q / mc (psC S) ^ (N - 1 - i) % mc (psC S) : Nat)) → z5 = q → z6 = (q / mc (psC S) ^ t : Nat) → z7 = (N : Int) - 1 - t → AW X 46 [some (vR 53), some (vI x), some (vI y), some (vI w), some (vI (mc (psC S) ^ N : Nat)), some (vI z5), some (vI z6), some (vI z7)] [] (V1, σ) 0 0 := by
    intro q hq hE j
    induction j with
    | zero =>
      intro t ht V1 z5 z6 z7 hF hI hJ h5 h6 h7
      refine aw_iload_7 (q := 48) F dM_argues_46 rfl ?_
      refine aw_if_lt (q := 51) (t := 80) F dM_argues_48 rfl (by decide) (fun c48 => ?_) (fun c48 => by omega)
      refine aw_aload_0 (q := 81) F dM_argues_80 rfl ?_
      refine av_getaE (q := 84) F fM_40 dM_argues_81 rfl rfl (by first | exact hM.o | exact hl.o | exact hM.a55 | exact hM.a56 | exact hM.a62 | exact hM.a63) hM.p24 ?_
      refine aw_iload_5 (q := 86) F dM_argues_84 rfl ?_
      refine aw_aload_0 (q := 87) F dM_argues_86 rfl ?_
      refine aw_iload_1 (q := 88) F dM_argues_87 rfl ?_
      refine aw_iload_2 (q := 89) F dM_argues_88 rfl ?_
      refine aw_iload_3 (q := 90) F dM_argues_89 rfl ?_
      refine av_callV3 (q := 93) (ci := 9) F hm mM_isIn_i mM_isIn_n lM_415 dM_argues_90 rfl rfl rfl (by first | exact hM.o | exact hl.o | exact hM.a55 | exact hM.a56 | exact hM.a62 | exact hM.a63) (by decide) (Nat.le_refl _) (Nat.le_refl _) (Nat.le_of_ble_eq_true rfl) (wM_isIn (q := q) hx hp hy hr hw hN (hF.mw h) hd h2 (fun k hk => hJ k (by omega) hk) (fun V2 f90 => ?_))
      refine av_iastore (q := 94) F dM_argues_93 rfl (by first | exact hM.o | exact hl.o | exact hM.a55 | exact hM.a56 | exact hM.a62 | exact hM.a63) (by omega) (by omega) ?_
      refine aw_iinc_5 (q := 97) F dM_argues_94 rfl trivial (by constructor <;> omega) ?_
      refine aw_goto (t := 30) F dM_argues_97 (by decide) ?_
      refine hE _ _ _ _ (hF.xf f90).o (fun i hi => ?_) (by omega)
      rw [up2_at, show z5.toNat = q by omega]
      show (if i = q then _ else _) = _
      by_cases e : i = q
      · rw [if_pos e, e]
      · rw [if_neg e, f90 62 (by decide)]; exact hI i (by omega)
    | succ j ih =>
      intro t ht V1 z5 z6 z7 hF hI hJ h5 h6 h7
      have hmw := hF.mw h
      have eR : z6 % (mc (psC S) : Int) = ((q / mc (psC S) ^ t % mc (psC S) : Nat) : Int) := by rw [h6, ← Int.natCast_emod]
      have eQ : z6 / (mc (psC S) : Int) = ((q / mc (psC S) ^ (t + 1) : Nat) : Int) := by rw [h6, ← Int.natCast_ediv, Nat.div_div_eq_div_mul, ← Nat.pow_succ]
      have hmw2 : ∀ (k : Nat) (z : Int), LC (up2 V1 63 k z) l (psC S) := fun k z => (hF.m.mw h).lc hd
      have h60 : 0 ≤ z6 := by rw [h6]; exact Int.natCast_nonneg _
      clear h6
      refine aw_iload_7 (q := 48) F dM_argues_46 rfl ?_
      refine aw_if_lt (q := 51) (t := 80) F dM_argues_48 rfl (by decide) (fun c48 => by omega) (fun c48 => ?_)
      refine aw_aload_0 (q := 52) F dM_argues_51 rfl ?_
      refine av_getaE (q := 55) F fM_43 dM_argues_52 rfl rfl (by first | exact hM.o | exact hl.o | exact hM.a55 | exact hM.a56 | exact hM.a62 | exact hM.a63) hM.p28 ?_
      refine aw_iload_7 (q := 57) F dM_argues_55 rfl ?_
      refine aw_iload_6 (q := 59) F dM_argues_57 rfl ?_
      refine aw_aload_0 (q := 60) F dM_argues_59 rfl ?_
      refine av_callV0 (q := 63) (ci := 9) F hm mM_moveChoices_i mM_moveChoices_n lM_412 dM_argues_60 rfl rfl rfl (by first | exact hM.o | exact hl.o | exact hM.a55 | exact hM.a56 | exact hM.a62 | exact hM.a63) (by decide) (Nat.le_refl _) (Nat.le_refl _) (Nat.le_of_ble_eq_true rfl) (wM_moveChoices hM hl (hmw.lc hd) hc ?_)
      refine aw_irem (q := 64) F dM_argues_63 rfl (by omega) (by omega) ?_
      rw [eR]
      refine av_iastore (q := 65) F dM_argues_64 rfl (by first | exact hM.o | exact hl.o | exact hM.a55 | exact hM.a56 | exact hM.a62 | exact hM.a63) (by omega) (by omega) ?_
      refine aw_iload_6 (q := 67) F dM_argues_65 rfl ?_
      refine aw_aload_0 (q := 68) F dM_argues_67 rfl ?_
      refine av_callV0 (q := 71) (ci := 9) F hm mM_moveChoices_i mM_moveChoices_n lM_412 dM_argues_68 rfl rfl rfl (by first | exact hM.o | exact hl.o | exact hM.a55 | exact hM.a56 | exact hM.a62 | exact hM.a63) (by decide) (Nat.le_refl _) (Nat.le_refl _) (Nat.le_of_ble_eq_true rfl) (wM_moveChoices hM hl (hmw2 _ _) hc ?_)
      refine aw_idiv (q := 72) F dM_argues_71 rfl (by omega) (by omega) ?_
      rw [eQ]
      refine aw_istore_6 (q := 74) F dM_argues_72 rfl trivial ?_
      refine aw_iinc_7 (q := 77) F dM_argues_74 rfl trivial (by constructor <;> omega) ?_
      refine aw_goto (t := 46) F dM_argues_77 (by decide) ?_
      refine ih (t + 1) (by omega) _ _ _ _ hF.m (fun i hi => by rw [up2_nea _ _ (by decide)]; exact hI i hi) (fun i h1 h2 => ?_) h5 rfl (by omega)
      rw [up2_at, show z7.toNat = N - 1 - t by omega]
      show (if i = N - 1 - t then _ else _) = _
      by_cases e : i = N - 1 - t
      · rw [if_pos e, show N - 1 - i = t by omega]
      · rw [if_neg e]; exact hJ i (by omega) h2
  have leaves : ∀ (j q : Nat), q + j = mc (psC S) ^ N → ∀ (V1 : Nat → Nat → Int) (z5 : Int) (u6 u7 : Option AV), AF V V1 → (∀ i, i < q → V1 62 i = vlG (psC S) p (r + 1) N (psA S) N i) → z5 = q → AW X 30 [some (vR 53), some (vI x), some (vI y), some (vI w), some (vI (mc (psC S) ^ N : Nat)), some (vI z5), u6, u7] [] (V1, σ) 0 0 := by
    intro j
    induction j with
    | zero =>
      intro q hq V1 z5 u6 u7 hF hI h5
      refine aw_iload_5 (q := 32) F dM_argues_30 rfl ?_
      refine aw_iload_4 (q := 34) F dM_argues_32 rfl ?_
      refine aw_icmp_ge (q := 37) (t := 100) F dM_argues_34 rfl (by decide) (fun c34 => ?_) (fun c34 => by omega)
      exact leaf V1 _ _ _ hF (fun j hj => hI j (by omega))
    | succ j ih =>
      intro q hq V1 z5 u6 u7 hF hI h5
      refine aw_iload_5 (q := 32) F dM_argues_30 rfl ?_
      refine aw_iload_4 (q := 34) F dM_argues_32 rfl ?_
      refine aw_icmp_ge (q := 37) (t := 100) F dM_argues_34 rfl (by decide) (fun c34 => by omega) (fun c34 => ?_)
      refine aw_iload_5 (q := 39) F dM_argues_37 rfl ?_
      refine aw_istore_6 (q := 41) F dM_argues_39 rfl trivial ?_
      refine aw_iload_3 (q := 42) F dM_argues_41 rfl ?_
      refine aw_iconst (q := 43) F dM_argues_42 rfl (by decide) ?_
      refine aw_isub (q := 44) F dM_argues_43 rfl (by constructor <;> omega) ?_
      refine aw_istore_7 (q := 46) F dM_argues_44 rfl trivial ?_
      exact dig q (by omega) (fun V2 z5 u6 u7 hF2 hI2 h52 => ih (q + 1) (by omega) V2 z5 u6 u7 hF2 hI2 h52) N 0 (by omega) V1 _ _ _ hF hI (fun i h1 h2 => absurd h1 (by omega)) h5 (by rw [Nat.pow_zero, Nat.div_one]; exact h5) (by omega)
  have pow : ∀ (j k : Nat), k + j = N → ∀ (z4 z5 : Int), z4 = (mc (psC S) ^ k : Nat) → z5 = k → AW X 6 [some (vR 53), some (vI x), some (vI y), some (vI w), some (vI z4), some (vI z5), none, none] [] (V, σ) 0 0 := by
    intro j
    induction j with
    | zero =>
      intro k hk z4 z5 h4 h5
      rw [show k = N by omega] at h4
      subst h4
      refine aw_iload_5 (q := 8) F dM_argues_6 rfl ?_
      refine aw_iload_3 (q := 9) F dM_argues_8 rfl ?_
      refine aw_icmp_ge (q := 12) (t := 27) F dM_argues_9 rfl (by decide) (fun c9 => ?_) (fun c9 => by omega)
      refine aw_iconst (q := 28) F dM_argues_27 rfl (by decide) ?_
      refine aw_istore_5 (q := 30) F dM_argues_28 rfl trivial ?_
      exact leaves _ 0 (Nat.zero_add _) V _ _ _ (AF.rf _) (fun i hi => absurd hi (by omega)) rfl
    | succ j ih =>
      intro k hk z4 z5 h4 h5
      have hp1 := pwM hc (show k + 1 ≤ 4 by omega)
      have eM : z4 * (mc (psC S) : Int) = ((mc (psC S) ^ (k + 1) : Nat) : Int) := by rw [h4, Nat.pow_succ, Int.natCast_mul]
      refine aw_iload_5 (q := 8) F dM_argues_6 rfl ?_
      refine aw_iload_3 (q := 9) F dM_argues_8 rfl ?_
      refine aw_icmp_ge (q := 12) (t := 27) F dM_argues_9 rfl (by decide) (fun c9 => by omega) (fun c9 => ?_)
      refine aw_iload_4 (q := 14) F dM_argues_12 rfl ?_
      refine aw_aload_0 (q := 15) F dM_argues_14 rfl ?_
      refine av_callV0 (q := 18) (ci := 9) F hm mM_moveChoices_i mM_moveChoices_n lM_412 dM_argues_15 rfl rfl rfl (by first | exact hM.o | exact hl.o | exact hM.a55 | exact hM.a56 | exact hM.a62 | exact hM.a63) (by decide) (Nat.le_refl _) (Nat.le_refl _) (Nat.le_of_ble_eq_true rfl) (wM_moveChoices hM hl (h.lc hd) hc ?_)
      refine aw_imul (q := 19) F dM_argues_18 rfl (by rw [eM]; constructor <;> omega) ?_
      refine aw_istore_4 (q := 21) F dM_argues_19 rfl trivial ?_
      refine aw_iinc_5 (q := 24) F dM_argues_21 rfl trivial (by constructor <;> omega) ?_
      refine aw_goto (t := 6) F dM_argues_24 (by decide) ?_
      exact ih (k + 1) (by omega) _ _ eM (by omega)
  refine aw_iconst (q := 1) F dM_argues_0 rfl (by decide) ?_
  refine aw_istore_4 (q := 3) F dM_argues_1 rfl trivial ?_
  refine aw_iconst (q := 4) F dM_argues_3 rfl (by decide) ?_
  refine aw_istore_5 (q := 6) F dM_argues_4 rfl trivial ?_
  exact pow N 0 (by omega) _ _ rfl rfl
theorem wM_refusesGame {p x n a : Int} (ha : 0 ≤ a) (h : MW V σ l S) (h0 : ((0 ≤ p ∧ p < tPn (psT S)) ∧ (0 ≤ x ∧ x < tDn (psT S)) ∧ tPn (psT S) = 2) → a ≤ n ∧ n ≤ 4 → K (some (vI 0)) (V, σ)) (h1 : ¬ ((0 ≤ p ∧ p < tPn (psT S)) ∧ (0 ≤ x ∧ x < tDn (psT S)) ∧ tPn (psT S) = 2) → K (some (vI 1)) (V, σ)) (h2 : ((0 ≤ p ∧ p < tPn (psT S)) ∧ (0 ≤ x ∧ x < tDn (psT S)) ∧ tPn (psT S) = 2) → ¬ (a ≤ n ∧ n ≤ 4) → K (some (vI 2)) (V, σ)) : Wp G 1 mM_refusesGame [vR 53, vI p, vI x, vI n, vI a] (V, σ) 0 0 K := by
  have hM := h.mo
  have hp2 : tPn (psT S) ≤ 2 := h.hc.2.1
  refine wp_intro mM_refusesGame_i.1 [some (vR 53), some (vI p), some (vI x), some (vI n), some (vI a)] rfl rfl (Nat.le_of_ble_eq_true rfl) ?_
  intro X hG F C
  have hm := C.rm
  refine aw_aload_0 (q := 1) F dM_refusesGame_0 rfl ?_
  refine aw_iload_1 (q := 2) F dM_refusesGame_1 rfl ?_
  refine av_callV1 (q := 5) (ci := 9) F hm mM_isPerson_i mM_isPerson_n lM_361 dM_refusesGame_2 rfl rfl rfl (by first | exact hM.o | exact hl.o | exact hM.a55 | exact hM.a56 | exact hM.a62 | exact hM.a63) (by decide) (Nat.le_refl _) (Nat.le_refl _) (Nat.le_of_ble_eq_true rfl) (wM_isPerson (D := tPn (psT S)) hM h.pz h.pr (fun c2 => ?_) (fun c2 => ?_))
  · refine aw_if_eq (q := 8) (t := 27) F dM_refusesGame_5 rfl (by decide) (fun c5 => absurd c5 (by decide)) (fun c5 => ?_)
    refine aw_aload_0 (q := 9) F dM_refusesGame_8 rfl ?_
    refine aw_iload_2 (q := 10) F dM_refusesGame_9 rfl ?_
    refine av_callV1 (q := 13) (ci := 9) F hm mM_isDoor_i mM_isDoor_n lM_354 dM_refusesGame_10 rfl rfl rfl (by first | exact hM.o | exact hl.o | exact hM.a55 | exact hM.a56 | exact hM.a62 | exact hM.a63) (by decide) (Nat.le_refl _) (Nat.le_refl _) (Nat.le_of_ble_eq_true rfl) (wM_isDoor (D := tDn (psT S)) hM h.zer h.dr (fun c10 => ?_) (fun c10 => ?_))
    · refine aw_if_eq (q := 16) (t := 27) F dM_refusesGame_13 rfl (by decide) (fun c13 => absurd c13 (by decide)) (fun c13 => ?_)
      have hln : l ≠ 0 := fun e => by have := h.pz e; omega
      refine aw_aload_0 (q := 17) F dM_refusesGame_16 rfl ?_
      refine av_getaE (q := 20) F fM_281 dM_refusesGame_17 rfl rfl (by first | exact hM.o | exact hl.o | exact hM.a55 | exact hM.a56 | exact hM.a62 | exact hM.a63) hM.p3 ?_
      refine av_geti (q := 23) F fM_253 dM_refusesGame_20 rfl rfl (h.pr hln).1 ?_
      rw [(h.pr hln).2]
      refine aw_iconst (q := 24) F dM_refusesGame_23 rfl (by decide) ?_
      refine aw_icmp_ge (q := 27) (t := 31) F dM_refusesGame_24 rfl (by decide) (fun c24 => ?_) (fun c24 => ?_)
      · refine aw_iload_3 (q := 32) F dM_refusesGame_31 rfl ?_
        refine aw_iload_4 (q := 34) F dM_refusesGame_32 rfl ?_
        refine aw_iconst (q := 35) F dM_refusesGame_34 rfl (by decide) ?_
        refine av_callS3 (q := 38) F hm mM_in_i mM_in_n lM_357 dM_refusesGame_35 rfl (by decide) (Nat.le_refl _) (Nat.le_refl _) (Nat.le_of_ble_eq_true rfl) (wM_in (fun c35 => ?_) (fun c35 => ?_))
        · refine aw_if_eq (q := 41) (t := 45) F dM_refusesGame_38 rfl (by decide) (fun c38 => absurd c38 (by decide)) (fun c38 => ?_)
          refine aw_iconst (q := 42) F dM_refusesGame_41 rfl (by decide) ?_
          refine aw_goto (t := 46) F dM_refusesGame_42 (by decide) ?_
          refine aw_iret F C dM_refusesGame_46 rfl (Nat.le_refl _) (Nat.le_refl _) ?_
          exact h0 ⟨c2, c10, by omega⟩ c35
        · refine aw_if_eq (q := 41) (t := 45) F dM_refusesGame_38 rfl (by decide) (fun c38 => ?_) (fun c38 => absurd c38 (by decide))
          refine aw_iconst (q := 46) F dM_refusesGame_45 rfl (by decide) ?_
          refine aw_iret F C dM_refusesGame_46 rfl (Nat.le_refl _) (Nat.le_refl _) ?_
          exact h2 ⟨c2, c10, by omega⟩ c35
      · refine aw_iconst (q := 28) F dM_refusesGame_27 rfl (by decide) ?_
        refine aw_goto (t := 46) F dM_refusesGame_28 (by decide) ?_
        refine aw_iret F C dM_refusesGame_46 rfl (Nat.le_refl _) (Nat.le_refl _) ?_
        exact h1 (by omega)
    · refine aw_if_eq (q := 16) (t := 27) F dM_refusesGame_13 rfl (by decide) (fun c13 => ?_) (fun c13 => absurd c13 (by decide))
      refine aw_iconst (q := 28) F dM_refusesGame_27 rfl (by decide) ?_
      refine aw_goto (t := 46) F dM_refusesGame_28 (by decide) ?_
      refine aw_iret F C dM_refusesGame_46 rfl (Nat.le_refl _) (Nat.le_refl _) ?_
      exact h1 (by omega)
  · refine aw_if_eq (q := 8) (t := 27) F dM_refusesGame_5 rfl (by decide) (fun c5 => ?_) (fun c5 => absurd c5 (by decide))
    refine aw_iconst (q := 28) F dM_refusesGame_27 rfl (by decide) ?_
    refine aw_goto (t := 46) F dM_refusesGame_28 (by decide) ?_
    refine aw_iret F C dM_refusesGame_46 rfl (Nat.le_refl _) (Nat.le_refl _) ?_
    exact h1 (by omega)
theorem wM_gets {p x n : Int} (h : MW V σ l S) (hK : MK K V σ l (setR S (wy ((0 ≤ p ∧ p < tPn (psT S)) ∧ (0 ≤ x ∧ x < tDn (psT S)) ∧ tPn (psT S) = 2) (0 ≤ n ∧ n ≤ 4))) (some (vI (rfD (wy ((0 ≤ p ∧ p < tPn (psT S)) ∧ (0 ≤ x ∧ x < tDn (psT S)) ∧ tPn (psT S) = 2) (0 ≤ n ∧ n ≤ 4)) (bz (gI (psC S) p.toNat (x.toNat + 1) n.toNat (psA S) true)) (-1))))) : Wp G 5 mM_gets [vR 53, vI p, vI x, vI n] (V, σ) 0 0 K := by
  obtain ⟨g, r1, r2⟩ := m3 vI hK
  have hM := h.mo
  have h4 : tDn (psT S) ≤ 4 := h.hc.1
  have hm13 : mc (psC S) ≤ 13 := by unfold mc; have := h.hc.1; omega
  have hv0 : ∀ N, vlG (psC S) p.toNat (x.toNat + 1) N (psA S) 0 0 = bz (gI (psC S) p.toNat (x.toNat + 1) N (psA S) true) := fun _ => rfl
  refine wp_intro mM_gets_i.1 [some (vR 53), some (vI p), some (vI x), some (vI n), none] rfl rfl (Nat.le_of_ble_eq_true rfl) ?_
  intro X hG F C
  have hm := C.rm
  refine aw_aload_0 (q := 1) F dM_gets_0 rfl ?_
  refine aw_iconst (q := 2) F dM_gets_1 rfl (by decide) ?_
  refine av_puti (q := 5) F fM_46 dM_gets_2 rfl rfl (wr_9_0 _) (by first | exact hM.o | exact hl.o | exact hM.a55 | exact hM.a56 | exact hM.a62 | exact hM.a63) ?_
  refine aw_aload_0 (q := 6) F dM_gets_5 rfl ?_
  refine aw_iload_1 (q := 7) F dM_gets_6 rfl ?_
  refine aw_iload_2 (q := 8) F dM_gets_7 rfl ?_
  refine aw_iload_3 (q := 9) F dM_gets_8 rfl ?_
  refine aw_iconst (q := 10) F dM_gets_9 rfl (by decide) ?_
  refine av_callV4 (q := 13) (ci := 9) F hm mM_refusesGame_i mM_refusesGame_n lM_423 dM_gets_10 rfl rfl rfl (by first | exact hM.o | exact hl.o | exact hM.a55 | exact hM.a56 | exact hM.a62 | exact hM.a63) (by decide) (Nat.le_refl _) (Nat.le_refl _) (Nat.le_of_ble_eq_true rfl) (wM_refusesGame (by decide) h.th (fun d10 w10 => ?_) (fun d10 => ?_) (fun d10 w10 => ?_))
  · refine aw_istore_4 (q := 15) F dM_gets_13 rfl trivial ?_
    refine aw_iload_4 (q := 17) F dM_gets_15 rfl ?_
    refine aw_if_le (q := 20) (t := 27) F dM_gets_17 rfl (by decide) (fun c17 => ?_) (fun c17 => absurd c17 (by decide))
    refine aw_aload_0 (q := 28) F dM_gets_27 rfl ?_
    refine aw_iload_1 (q := 29) F dM_gets_28 rfl ?_
    refine aw_iload_2 (q := 30) F dM_gets_29 rfl ?_
    refine aw_iload_3 (q := 31) F dM_gets_30 rfl ?_
    refine av_callV3 (q := 34) (ci := 9) F hm mM_argues_i mM_argues_n lM_427 dM_gets_31 rfl rfl rfl (by first | exact hM.o | exact hl.o | exact hM.a55 | exact hM.a56 | exact hM.a62 | exact hM.a63) (by decide) (Nat.le_refl _) (Nat.le_refl _) (Nat.le_of_ble_eq_true rfl) (wM_argues (p := p.toNat) (r := x.toNat) (N := n.toNat) (by omega) (by omega) (by omega) (by omega) (by omega) (by omega) h.th (by omega) d10.2.2 (fun V2 f31 o31 e31 => ?_))
    refine aw_aload_0 (q := 35) F dM_gets_34 rfl ?_
    refine aw_iload_3 (q := 36) F dM_gets_35 rfl ?_
    refine aw_if_ne (q := 39) (t := 48) F dM_gets_36 rfl (by decide) (fun c36 => ?_) (fun c36 => ?_)
    · have hvs := vlG_s (c := psC S) (p := p.toNat) (go := x.toNat + 1) (N := n.toNat) (n := psA S) (k := 0) (q := 0) (by omega) d10.2.2 (by omega)
      rw [hv0] at hvs
      have hl := h.la (show 0 < tDn (psT S) by omega)
      refine aw_aload_0 (q := 49) F dM_gets_48 rfl ?_
      refine aw_iconst (q := 50) F dM_gets_49 rfl (by decide) ?_
      refine aw_iconst (q := 51) F dM_gets_50 rfl (by decide) ?_
      refine av_callV2 (q := 54) (ci := 9) F hm mM_bestFrom_i mM_bestFrom_n lM_419 dM_gets_51 rfl rfl rfl (by first | exact hM.o | exact hl.o | exact hM.a55 | exact hM.a56 | exact hM.a62 | exact hM.a63) (by decide) (Nat.le_refl _) (Nat.le_refl _) (Nat.le_of_ble_eq_true rfl) (wM_bestFrom (c := psC S) (a := 0) (b := 0 % 2 == 0) (w := fun j => vlG (psC S) p.toNat (x.toNat + 1) n.toNat (psA S) (0 + 1) (0 * mc (psC S) + j)) rfl (by omega) rfl hM hl ((f31.mw h.th).lc (by omega)) h.hc (fun j hj => ⟨by rw [Nat.zero_mul, Nat.zero_add]; exact e31 (by omega) j hj, vlM_r _ _⟩) ?_)
      skip
      refine av_callV1 (q := 57) (ci := 9) F hm mM_good_i mM_good_n lM_56 dM_gets_54 rfl rfl rfl (by first | exact hM.o | exact hl.o | exact hM.a55 | exact hM.a56 | exact hM.a62 | exact hM.a63) (by decide) (Nat.le_refl _) (Nat.le_refl _) (Nat.le_of_ble_eq_true rfl) (wM_good hM ?_)
      refine aw_iret F C dM_gets_57 rfl (Nat.le_refl _) (Nat.le_refl _) ?_
      first | exact MK.fin (S := S) (g d10 w10) h (by decide) f31.mf (f31.q h.th.q) | (rw [hvs]; exact MK.fin (S := S) (g d10 w10) h (by decide) f31.mf (f31.q h.th.q))
    · refine aw_aload_0 (q := 40) F dM_gets_39 rfl ?_
      refine av_getaE (q := 43) F fM_40 dM_gets_40 rfl rfl (by first | exact hM.o | exact hl.o | exact hM.a55 | exact hM.a56 | exact hM.a62 | exact hM.a63) hM.p24 ?_
      refine aw_iconst (q := 44) F dM_gets_43 rfl (by decide) ?_
      refine av_iaload (q := 45) F dM_gets_44 rfl (by first | exact hM.o | exact hl.o | exact hM.a55 | exact hM.a56 | exact hM.a62 | exact hM.a63) (by omega) (by omega) ?_
      rw [show (0 : Int).toNat = 0 from rfl, o31 (by omega), hv0]
      refine aw_goto (t := 54) F dM_gets_45 (by decide) ?_
      refine av_callV1 (q := 57) (ci := 9) F hm mM_good_i mM_good_n lM_56 dM_gets_54 rfl rfl rfl (by first | exact hM.o | exact hl.o | exact hM.a55 | exact hM.a56 | exact hM.a62 | exact hM.a63) (by decide) (Nat.le_refl _) (Nat.le_refl _) (Nat.le_of_ble_eq_true rfl) (wM_good hM ?_)
      refine aw_iret F C dM_gets_57 rfl (Nat.le_refl _) (Nat.le_refl _) ?_
      first | exact MK.fin (S := S) (g d10 w10) h (by decide) f31.mf (f31.q h.th.q) | (rw [hvs]; exact MK.fin (S := S) (g d10 w10) h (by decide) f31.mf (f31.q h.th.q))
  · refine aw_istore_4 (q := 15) F dM_gets_13 rfl trivial ?_
    refine aw_iload_4 (q := 17) F dM_gets_15 rfl ?_
    refine aw_if_le (q := 20) (t := 27) F dM_gets_17 rfl (by decide) (fun c17 => absurd c17 (by decide)) (fun c17 => ?_)
    refine aw_aload_0 (q := 21) F dM_gets_20 rfl ?_
    refine aw_iload_4 (q := 23) F dM_gets_21 rfl ?_
    refine av_callV1 (q := 26) (ci := 9) F hm mM_refused_i mM_refused_n lM_52 dM_gets_23 rfl rfl rfl (by first | exact hM.o | exact hl.o | exact hM.a55 | exact hM.a56 | exact hM.a62 | exact hM.a63) (by decide) (Nat.le_refl _) (Nat.le_refl _) (Nat.le_of_ble_eq_true rfl) (wM_refused hM ?_)
    refine aw_iret F C dM_gets_26 rfl (Nat.le_refl _) (Nat.le_refl _) ?_
    first | exact MK.fin0 (r1 d10) h (by decide) | exact MK.fin0 (r2 d10 w10) h (by decide)
  · refine aw_istore_4 (q := 15) F dM_gets_13 rfl trivial ?_
    refine aw_iload_4 (q := 17) F dM_gets_15 rfl ?_
    refine aw_if_le (q := 20) (t := 27) F dM_gets_17 rfl (by decide) (fun c17 => absurd c17 (by decide)) (fun c17 => ?_)
    refine aw_aload_0 (q := 21) F dM_gets_20 rfl ?_
    refine aw_iload_4 (q := 23) F dM_gets_21 rfl ?_
    refine av_callV1 (q := 26) (ci := 9) F hm mM_refused_i mM_refused_n lM_52 dM_gets_23 rfl rfl rfl (by first | exact hM.o | exact hl.o | exact hM.a55 | exact hM.a56 | exact hM.a62 | exact hM.a63) (by decide) (Nat.le_refl _) (Nat.le_refl _) (Nat.le_of_ble_eq_true rfl) (wM_refused hM ?_)
    refine aw_iret F C dM_gets_26 rfl (Nat.le_refl _) (Nat.le_refl _) ?_
    first | exact MK.fin0 (r1 d10) h (by decide) | exact MK.fin0 (r2 d10 w10) h (by decide)
theorem wM_opensWith {p x n : Int} (h : MW V σ l S) (hK : MK K V σ l (setR S (wy ((0 ≤ p ∧ p < tPn (psT S)) ∧ (0 ≤ x ∧ x < tDn (psT S)) ∧ tPn (psT S) = 2) (1 ≤ n ∧ n ≤ 4))) (some (vI (rfD (wy ((0 ≤ p ∧ p < tPn (psT S)) ∧ (0 ≤ x ∧ x < tDn (psT S)) ∧ tPn (psT S) = 2) (1 ≤ n ∧ n ≤ 4)) (opW S p.toNat x.toNat n.toNat) (-1))))) : Wp G 5 mM_opensWith [vR 53, vI p, vI x, vI n] (V, σ) 0 0 K := by
  obtain ⟨g, r1, r2⟩ := m3 vI hK
  have hM := h.mo
  have h4 : tDn (psT S) ≤ 4 := h.hc.1
  have hm13 : mc (psC S) ≤ 13 := by unfold mc; have := h.hc.1; omega
  have hmD : mc (psC S) = 1 + 3 * tDn (psT S) := rfl
  have hv0 : ∀ N, vlG (psC S) p.toNat (x.toNat + 1) N (psA S) 0 0 = bz (gI (psC S) p.toNat (x.toNat + 1) N (psA S) true) := fun _ => rfl
  have hv1 : ∀ N, vlG (psC S) p.toNat (x.toNat + 1) (N + 1) (psA S) 1 0 = bz (gI (psC S) p.toNat (x.toNat + 1) N (psA S) false) := fun N => by
    unfold vlG
    rw [pcd, pcd, Nat.zero_mod]
    rfl
  refine wp_intro mM_opensWith_i.1 [some (vR 53), some (vI p), some (vI x), some (vI n), none, none, none] rfl rfl (Nat.le_of_ble_eq_true rfl) ?_
  intro X hG F C
  have hm := C.rm
  have go : ∀ (d : (0 ≤ p ∧ p < tPn (psT S)) ∧ (0 ≤ x ∧ x < tDn (psT S)) ∧ tPn (psT S) = 2) (w : 1 ≤ n ∧ n ≤ 4) (V2 : Nat → Nat → Int), AF (up2 V 53 0 0) V2 → (∀ j, j < mc (psC S) → V2 62 j = vlG (psC S) p.toNat (x.toNat + 1) n.toNat (psA S) 1 j) → ∀ (i : Nat), i < tDn (psT S) * 3 → vlG (psC S) p.toNat (x.toNat + 1) n.toNat (psA S) 1 (i + 1) = 1 → (∀ i', i' < i → vlG (psC S) p.toNat (x.toNat + 1) n.toNat (psA S) 1 (i' + 1) ≠ 1) → gI (psC S) p.toNat (x.toNat + 1) (n.toNat - 1) (psA S) false = false → ∀ (j k : Nat), k + j = i → ∀ (z4 z5 : Int) (u : Option AV), z5 = (k + 1 : Nat) → AW X 64 [some (vR 53), some (vI p), some (vI x), some (vI n), some (vI z4), some (vI z5), u] [] (V2, σ) 0 0 := by
    intro d w V2 hF hJ i hi h1 h2 h3 j
    have hmw := hF.mw h.th
    have hl := h.la (show 0 < tDn (psT S) by omega)
    have hv1 : V2 l 1 = tDn (psT S) := (hmw.lc (by omega)).1
    have g' := g d w
    induction j with
    | zero =>
      intro k hk z4 z5 u h5
      have e62 : V2 62 z5.toNat = 1 := by rw [show z5.toNat = i + 1 by omega, hJ _ (by omega)]; exact h1
      obtain ⟨N, eN⟩ : ∃ N, n.toNat = N + 1 := ⟨n.toNat - 1, by omega⟩
      have hfm := op_fm (c := psC S) (p := p.toNat) (go := x.toNat + 1) (N := N) (n := psA S) (i := i) (by omega) d.2.2 hi (by rw [← eN]; exact h1) (fun i' hi' => by rw [← eN]; exact h2 i' hi')
      have eop : opW S p.toNat x.toNat n.toNat = (stO (psC S) p.toNat i : Nat) := by
        unfold opW
        rw [h3, if_neg Bool.false_ne_true, show n.toNat - 1 = N by omega, hfm, if_neg (by omega)]
      rw [eop] at g'
      have hpp : (tDn (psT S) : Int) * p = ((tDn (psT S) * p.toNat : Nat) : Int) := by rw [Int.natCast_mul, show ((p.toNat : Nat) : Int) = p by omega]
      have hpl : tDn (psT S) * p.toNat ≤ 4 * 1 := Nat.mul_le_mul h4 (by omega)
      have hs1 : i < 2 * tDn (psT S) → stO (psC S) p.toNat i = i := fun q => by unfold stO; exact if_pos q
      have hs2 : ¬ i < 2 * tDn (psT S) → stO (psC S) p.toNat i = i + tDn (psT S) * p.toNat := fun q => by unfold stO; exact if_neg q
      refine aw_aload_0 (q := 65) F dM_opensWith_64 rfl ?_
      refine av_getaE (q := 68) F fM_40 dM_opensWith_65 rfl rfl (by first | exact hM.o | exact hl.o | exact hM.a55 | exact hM.a56 | exact hM.a62 | exact hM.a63) hM.p24 ?_
      refine aw_iload_5 (q := 70) F dM_opensWith_68 rfl ?_
      refine av_iaload (q := 71) F dM_opensWith_70 rfl (by first | exact hM.o | exact hl.o | exact hM.a55 | exact hM.a56 | exact hM.a62 | exact hM.a63) (by omega) (by omega) ?_
      rw [e62]
      refine aw_iconst (q := 72) F dM_opensWith_71 rfl (by decide) ?_
      refine aw_icmp_eq (q := 75) (t := 81) F dM_opensWith_72 rfl (by decide) (fun c72 => ?_) (fun c72 => by omega)
      refine aw_iload_5 (q := 83) F dM_opensWith_81 rfl ?_
      refine aw_iconst (q := 84) F dM_opensWith_83 rfl (by decide) ?_
      refine aw_isub (q := 85) F dM_opensWith_84 rfl (by constructor <;> omega) ?_
      refine aw_istore_6 (q := 87) F dM_opensWith_85 rfl trivial ?_
      refine aw_aload_0 (q := 88) F dM_opensWith_87 rfl ?_
      refine aw_iload_6 (q := 90) F dM_opensWith_88 rfl ?_
      refine aw_iconst (q := 91) F dM_opensWith_90 rfl (by decide) ?_
      refine aw_aload_0 (q := 92) F dM_opensWith_91 rfl ?_
      refine av_getaE (q := 95) F fM_281 dM_opensWith_92 rfl rfl (by first | exact hM.o | exact hl.o | exact hM.a55 | exact hM.a56 | exact hM.a62 | exact hM.a63) hM.p3 ?_
      refine av_geti (q := 98) F fM_183 dM_opensWith_95 rfl rfl (by first | exact hM.o | exact hl.o | exact hM.a55 | exact hM.a56 | exact hM.a62 | exact hM.a63) ?_
      rw [hv1]
      refine aw_imul (q := 99) F dM_opensWith_98 rfl (by constructor <;> omega) ?_
      refine aw_icmp_ge (q := 102) (t := 107) F dM_opensWith_99 rfl (by decide) (fun c99 => ?_) (fun c99 => ?_)
      · refine aw_iload_6 (q := 109) F dM_opensWith_107 rfl ?_
        refine aw_aload_0 (q := 110) F dM_opensWith_109 rfl ?_
        refine av_getaE (q := 113) F fM_281 dM_opensWith_110 rfl rfl (by first | exact hM.o | exact hl.o | exact hM.a55 | exact hM.a56 | exact hM.a62 | exact hM.a63) hM.p3 ?_
        refine av_geti (q := 116) F fM_183 dM_opensWith_113 rfl rfl (by first | exact hM.o | exact hl.o | exact hM.a55 | exact hM.a56 | exact hM.a62 | exact hM.a63) ?_
        rw [hv1]
        refine aw_iload_1 (q := 117) F dM_opensWith_116 rfl ?_
        refine aw_imul (q := 118) F dM_opensWith_117 rfl (by rw [hpp]; constructor <;> omega) ?_
        rw [hpp]
        refine aw_iadd (q := 119) F dM_opensWith_118 rfl (by constructor <;> omega) ?_
        refine av_callV1 (q := 122) (ci := 9) F hm mM_good_i mM_good_n lM_56 dM_opensWith_119 rfl rfl rfl (by first | exact hM.o | exact hl.o | exact hM.a55 | exact hM.a56 | exact hM.a62 | exact hM.a63) (by decide) (Nat.le_refl _) (Nat.le_refl _) (Nat.le_of_ble_eq_true rfl) (wM_good hM ?_)
        refine aw_iret F C dM_opensWith_122 rfl (Nat.le_refl _) (Nat.le_refl _) ?_
        refine MK.fin (S := S) ?_ h (by decide) hF.mf (hF.q h.th.q)
        first | (rw [hs1 (by omega)] at g'; rw [show z5 - 1 = (i : Int) by omega]; exact g') | (rw [hs2 (by omega)] at g'; rw [show z5 - 1 + ((tDn (psT S) * p.toNat : Nat) : Int) = ((i + tDn (psT S) * p.toNat : Nat) : Int) by omega]; exact g')
      · refine aw_iload_6 (q := 104) F dM_opensWith_102 rfl ?_
        refine aw_goto (t := 119) F dM_opensWith_104 (by decide) ?_
        refine av_callV1 (q := 122) (ci := 9) F hm mM_good_i mM_good_n lM_56 dM_opensWith_119 rfl rfl rfl (by first | exact hM.o | exact hl.o | exact hM.a55 | exact hM.a56 | exact hM.a62 | exact hM.a63) (by decide) (Nat.le_refl _) (Nat.le_refl _) (Nat.le_of_ble_eq_true rfl) (wM_good hM ?_)
        refine aw_iret F C dM_opensWith_122 rfl (Nat.le_refl _) (Nat.le_refl _) ?_
        refine MK.fin (S := S) ?_ h (by decide) hF.mf (hF.q h.th.q)
        first | (rw [hs1 (by omega)] at g'; rw [show z5 - 1 = (i : Int) by omega]; exact g') | (rw [hs2 (by omega)] at g'; rw [show z5 - 1 + ((tDn (psT S) * p.toNat : Nat) : Int) = ((i + tDn (psT S) * p.toNat : Nat) : Int) by omega]; exact g')
    | succ j ih =>
      intro k hk z4 z5 u h5
      have e62 : V2 62 z5.toNat ≠ 1 := by rw [show z5.toNat = k + 1 by omega, hJ _ (by omega)]; exact h2 k (by omega)
      refine aw_aload_0 (q := 65) F dM_opensWith_64 rfl ?_
      refine av_getaE (q := 68) F fM_40 dM_opensWith_65 rfl rfl (by first | exact hM.o | exact hl.o | exact hM.a55 | exact hM.a56 | exact hM.a62 | exact hM.a63) hM.p24 ?_
      refine aw_iload_5 (q := 70) F dM_opensWith_68 rfl ?_
      refine av_iaload (q := 71) F dM_opensWith_70 rfl (by first | exact hM.o | exact hl.o | exact hM.a55 | exact hM.a56 | exact hM.a62 | exact hM.a63) (by omega) (by omega) ?_
      refine aw_iconst (q := 72) F dM_opensWith_71 rfl (by decide) ?_
      refine aw_icmp_eq (q := 75) (t := 81) F dM_opensWith_72 rfl (by decide) (fun c72 => by exact absurd c72 e62) (fun c72 => ?_)
      refine aw_iinc_5 (q := 78) F dM_opensWith_75 rfl trivial (by constructor <;> omega) ?_
      refine aw_goto (t := 64) F dM_opensWith_78 (by decide) ?_
      exact ih (k + 1) (by omega) _ _ _ (by omega)
  refine aw_aload_0 (q := 1) F dM_opensWith_0 rfl ?_
  refine aw_iconst (q := 2) F dM_opensWith_1 rfl (by decide) ?_
  refine av_puti (q := 5) F fM_46 dM_opensWith_2 rfl rfl (wr_9_0 _) (by first | exact hM.o | exact hl.o | exact hM.a55 | exact hM.a56 | exact hM.a62 | exact hM.a63) ?_
  refine aw_aload_0 (q := 6) F dM_opensWith_5 rfl ?_
  refine aw_iload_1 (q := 7) F dM_opensWith_6 rfl ?_
  refine aw_iload_2 (q := 8) F dM_opensWith_7 rfl ?_
  refine aw_iload_3 (q := 9) F dM_opensWith_8 rfl ?_
  refine aw_iconst (q := 10) F dM_opensWith_9 rfl (by decide) ?_
  refine av_callV4 (q := 13) (ci := 9) F hm mM_refusesGame_i mM_refusesGame_n lM_423 dM_opensWith_10 rfl rfl rfl (by first | exact hM.o | exact hl.o | exact hM.a55 | exact hM.a56 | exact hM.a62 | exact hM.a63) (by decide) (Nat.le_refl _) (Nat.le_refl _) (Nat.le_of_ble_eq_true rfl) (wM_refusesGame (by decide) h.th (fun d10 w10 => ?_) (fun d10 => ?_) (fun d10 w10 => ?_))
  · refine aw_istore_4 (q := 15) F dM_opensWith_13 rfl trivial ?_
    refine aw_iload_4 (q := 17) F dM_opensWith_15 rfl ?_
    refine aw_if_le (q := 20) (t := 27) F dM_opensWith_17 rfl (by decide) (fun c17 => ?_) (fun c17 => absurd c17 (by decide))
    refine aw_aload_0 (q := 28) F dM_opensWith_27 rfl ?_
    refine aw_iload_1 (q := 29) F dM_opensWith_28 rfl ?_
    refine aw_iload_2 (q := 30) F dM_opensWith_29 rfl ?_
    refine aw_iload_3 (q := 31) F dM_opensWith_30 rfl ?_
    refine av_callV3 (q := 34) (ci := 9) F hm mM_argues_i mM_argues_n lM_427 dM_opensWith_31 rfl rfl rfl (by first | exact hM.o | exact hl.o | exact hM.a55 | exact hM.a56 | exact hM.a62 | exact hM.a63) (by decide) (Nat.le_refl _) (Nat.le_refl _) (Nat.le_of_ble_eq_true rfl) (wM_argues (p := p.toNat) (r := x.toNat) (N := n.toNat) (by omega) (by omega) (by omega) (by omega) (by omega) (by omega) h.th (by omega) d10.2.2 (fun V2 f31 o31 e31 => ?_))
    have hvs := vlG_s (c := psC S) (p := p.toNat) (go := x.toNat + 1) (N := n.toNat) (n := psA S) (k := 0) (q := 0) (by omega) d10.2.2 (by omega)
    rw [hv0] at hvs
    have hl := h.la (show 0 < tDn (psT S) by omega)
    obtain ⟨N, eN⟩ : ∃ N, n.toNat = N + 1 := ⟨n.toNat - 1, by omega⟩
    have e0 : V2 62 0 = bz (gI (psC S) p.toNat (x.toNat + 1) N (psA S) false) := by rw [e31 (by omega) 0 (by omega), eN, hv1]
    refine aw_aload_0 (q := 35) F dM_opensWith_34 rfl ?_
    refine aw_iconst (q := 36) F dM_opensWith_35 rfl (by decide) ?_
    refine aw_iconst (q := 37) F dM_opensWith_36 rfl (by decide) ?_
    refine av_callV2 (q := 40) (ci := 9) F hm mM_bestFrom_i mM_bestFrom_n lM_419 dM_opensWith_37 rfl rfl rfl (by first | exact hM.o | exact hl.o | exact hM.a55 | exact hM.a56 | exact hM.a62 | exact hM.a63) (by decide) (Nat.le_refl _) (Nat.le_refl _) (Nat.le_of_ble_eq_true rfl) (wM_bestFrom (c := psC S) (a := 0) (b := 0 % 2 == 0) (w := fun j => vlG (psC S) p.toNat (x.toNat + 1) n.toNat (psA S) (0 + 1) (0 * mc (psC S) + j)) rfl (by omega) rfl hM hl ((f31.mw h.th).lc (by omega)) h.hc (fun j hj => ⟨by rw [Nat.zero_mul, Nat.zero_add]; exact e31 (by omega) j hj, vlM_r _ _⟩) ?_)
    rw [hvs]
    refine aw_iconst (q := 41) F dM_opensWith_40 rfl (by decide) ?_
    refine aw_icmp_ne (q := 44) (t := 54) F dM_opensWith_41 rfl (by decide) (fun c41 => ?_) (fun c41 => ?_)
    · refine aw_aload_0 (q := 55) F dM_opensWith_54 rfl ?_
      refine aw_bipush (q := 57) F dM_opensWith_55 rfl (by decide) ?_
      refine av_callV1 (q := 60) (ci := 9) F hm mM_good_i mM_good_n lM_56 dM_opensWith_57 rfl rfl rfl (by first | exact hM.o | exact hl.o | exact hM.a55 | exact hM.a56 | exact hM.a62 | exact hM.a63) (by decide) (Nat.le_refl _) (Nat.le_refl _) (Nat.le_of_ble_eq_true rfl) (wM_good hM ?_)
      refine aw_iret F C dM_opensWith_60 rfl (Nat.le_refl _) (Nat.le_refl _) ?_
      refine MK.fin (S := S) ?_ h (by decide) f31.mf (f31.q h.th.q)
      have g' := g d10 w10
      unfold opW at g'
      rw [show n.toNat - 1 = N by omega] at g'
      first
      | (rw [show gI (psC S) p.toNat (x.toNat + 1) N (psA S) false = true from bz_inj c51, if_pos rfl] at g'; exact g')
      | (have hno : gI (psC S) p.toNat (x.toNat + 1) (N + 1) (psA S) true = false := by rw [← eN]; cases hq : gI (psC S) p.toNat (x.toNat + 1) n.toNat (psA S) true; rfl; rw [hq] at c41; exact absurd rfl c41
         rw [op_no (by omega) d10.2.2 hno, if_pos rfl] at g'
         rw [ite_self] at g'
         exact g')
    · refine aw_aload_0 (q := 45) F dM_opensWith_44 rfl ?_
      refine av_getaE (q := 48) F fM_40 dM_opensWith_45 rfl rfl (by first | exact hM.o | exact hl.o | exact hM.a55 | exact hM.a56 | exact hM.a62 | exact hM.a63) hM.p24 ?_
      refine aw_iconst (q := 49) F dM_opensWith_48 rfl (by decide) ?_
      refine av_iaload (q := 50) F dM_opensWith_49 rfl (by first | exact hM.o | exact hl.o | exact hM.a55 | exact hM.a56 | exact hM.a62 | exact hM.a63) (by omega) (by omega) ?_
      rw [show (0 : Int).toNat = 0 from rfl, e0]
      refine aw_iconst (q := 51) F dM_opensWith_50 rfl (by decide) ?_
      refine aw_icmp_ne (q := 54) (t := 61) F dM_opensWith_51 rfl (by decide) (fun c51 => ?_) (fun c51 => ?_)
      · refine aw_iconst (q := 62) F dM_opensWith_61 rfl (by decide) ?_
        refine aw_istore_5 (q := 64) F dM_opensWith_62 rfl trivial ?_
        have hng : gI (psC S) p.toNat (x.toNat + 1) (n.toNat - 1) (psA S) false = false := by rw [show n.toNat - 1 = N by omega]; cases hq : gI (psC S) p.toNat (x.toNat + 1) N (psA S) false; rfl; rw [hq] at c51; exact absurd rfl c51
        have hyes : gI (psC S) p.toNat (x.toNat + 1) n.toNat (psA S) true = true := bz_inj c41
        rcases fbF_sp (fun i => decide (vlG (psC S) p.toNat (x.toNat + 1) n.toNat (psA S) 1 (i + 1) = 1)) (tDn (psT S) * 3) with ⟨-, hf⟩ | ⟨i, -, hf1, hf2, hf3⟩
        · exfalso
          rw [eN] at hyes
          obtain ⟨j, m', j1, j2, j3⟩ := (gI_any (c := psC S) (p := p.toNat) (go := x.toNat + 1) (l := N) (m := psA S) (b := true) (show p.toNat < tPn (psT S) by omega)).mp hyes
          match j, j1, j2 with
          | 0, _, j2 => cases j2; rw [show n.toNat - 1 = N by omega] at hng; rw [show (!true) = false from rfl, hng] at j3; cases j3
          | i + 1, j1, j2 =>
            refine of_decide_eq_false (hf i (by omega)) ?_
            unfold vlG
            rw [pcd, pcd, Nat.mod_eq_of_lt j1, eN]
            show vlM _ (mvN (psC S) (mvr p.toNat true) (psA S) (i + 1)) = bz true
            exact vlM_eq.mpr ⟨m', j2, j3⟩
        · exact go d10 w10 V2 f31 (e31 (by omega)) i hf1 (of_decide_eq_true hf2) (fun i' hi' => of_decide_eq_false (hf3 i' hi')) hng i 0 (by omega) _ _ _ rfl
      · refine aw_aload_0 (q := 55) F dM_opensWith_54 rfl ?_
        refine aw_bipush (q := 57) F dM_opensWith_55 rfl (by decide) ?_
        refine av_callV1 (q := 60) (ci := 9) F hm mM_good_i mM_good_n lM_56 dM_opensWith_57 rfl rfl rfl (by first | exact hM.o | exact hl.o | exact hM.a55 | exact hM.a56 | exact hM.a62 | exact hM.a63) (by decide) (Nat.le_refl _) (Nat.le_refl _) (Nat.le_of_ble_eq_true rfl) (wM_good hM ?_)
        refine aw_iret F C dM_opensWith_60 rfl (Nat.le_refl _) (Nat.le_refl _) ?_
        refine MK.fin (S := S) ?_ h (by decide) f31.mf (f31.q h.th.q)
        have g' := g d10 w10
        unfold opW at g'
        rw [show n.toNat - 1 = N by omega] at g'
        first
        | (rw [show gI (psC S) p.toNat (x.toNat + 1) N (psA S) false = true from bz_inj c51, if_pos rfl] at g'; exact g')
        | (have hno : gI (psC S) p.toNat (x.toNat + 1) (N + 1) (psA S) true = false := by rw [← eN]; cases hq : gI (psC S) p.toNat (x.toNat + 1) n.toNat (psA S) true; rfl; rw [hq] at c41; exact absurd rfl c41
           rw [op_no (by omega) d10.2.2 hno, if_pos rfl] at g'
           rw [ite_self] at g'
           exact g')
  · refine aw_istore_4 (q := 15) F dM_opensWith_13 rfl trivial ?_
    refine aw_iload_4 (q := 17) F dM_opensWith_15 rfl ?_
    refine aw_if_le (q := 20) (t := 27) F dM_opensWith_17 rfl (by decide) (fun c17 => absurd c17 (by decide)) (fun c17 => ?_)
    refine aw_aload_0 (q := 21) F dM_opensWith_20 rfl ?_
    refine aw_iload_4 (q := 23) F dM_opensWith_21 rfl ?_
    refine av_callV1 (q := 26) (ci := 9) F hm mM_refused_i mM_refused_n lM_52 dM_opensWith_23 rfl rfl rfl (by first | exact hM.o | exact hl.o | exact hM.a55 | exact hM.a56 | exact hM.a62 | exact hM.a63) (by decide) (Nat.le_refl _) (Nat.le_refl _) (Nat.le_of_ble_eq_true rfl) (wM_refused hM ?_)
    refine aw_iret F C dM_opensWith_26 rfl (Nat.le_refl _) (Nat.le_refl _) ?_
    first | exact MK.fin0 (r1 d10) h (by decide) | exact MK.fin0 (r2 d10 w10) h (by decide)
  · refine aw_istore_4 (q := 15) F dM_opensWith_13 rfl trivial ?_
    refine aw_iload_4 (q := 17) F dM_opensWith_15 rfl ?_
    refine aw_if_le (q := 20) (t := 27) F dM_opensWith_17 rfl (by decide) (fun c17 => absurd c17 (by decide)) (fun c17 => ?_)
    refine aw_aload_0 (q := 21) F dM_opensWith_20 rfl ?_
    refine aw_iload_4 (q := 23) F dM_opensWith_21 rfl ?_
    refine av_callV1 (q := 26) (ci := 9) F hm mM_refused_i mM_refused_n lM_52 dM_opensWith_23 rfl rfl rfl (by first | exact hM.o | exact hl.o | exact hM.a55 | exact hM.a56 | exact hM.a62 | exact hM.a63) (by decide) (Nat.le_refl _) (Nat.le_refl _) (Nat.le_of_ble_eq_true rfl) (wM_refused hM ?_)
    refine aw_iret F C dM_opensWith_26 rfl (Nat.le_refl _) (Nat.le_refl _) ?_
    first | exact MK.fin0 (r1 d10) h (by decide) | exact MK.fin0 (r2 d10 w10) h (by decide)
end Mod29
