section Mod45
variable {G : GE} {V V' V1 V2 : Nat → Nat → Int} {σ : Shp} {K : Option AV → Mem → Prop} {l n e : Nat} {B : Nat → Int} {r : PR} {t : TK}
theorem bs_up {p q : Nat → Bool} {i N : Nat} (hi : i < N) (h : ∀ j, j ≠ i → q j = p j) (hq : q i = true) : bsum q N = bsum p N ||| 2 ^ i := by
  refine Nat.eq_of_testBit_eq fun b => ?_
  rw [Nat.testBit_or, bsum_tb, bsum_tb, Nat.testBit_two_pow]
  by_cases e : b = i
  · rw [e, decide_eq_true hi, hq, decide_eq_true rfl, Bool.or_true]; rfl
  · rw [h b e, decide_eq_false (show ¬ i = b from fun z => e z.symm), Bool.or_false]
theorem wM_readInside (hM : moS σ l) (hl : laS σ e) (h4p : sP σ 53 4 = e) (he : 64 ≤ e) (h : GS V e n B r t) (h4 : t.1 ≠ 4) (hK : MrK K V σ e n B (if r.2.1 = false then .inr (6, t.2.1) else pInside B n r t)) : Wp G 8 mM_readInside [vR 53] (V, σ) 0 0 K := by
  refine wp_intro mM_readInside_i.1 [some (vR 53), none, none] rfl rfl (Nat.le_of_ble_eq_true rfl) ?_
  intro X hG F C
  have hm := C.rm
  refine aw_aload_0 (q := 1) F dM_readInside_0 rfl ?_
  refine aw_iconst (q := 2) F dM_readInside_1 rfl (by decide) ?_
  refine aw_iconst (q := 3) F dM_readInside_2 rfl (by decide) ?_
  refine av_callV2 (q := 6) (ci := 9) F hm mM_lineBegins_i mM_lineBegins_n lM_214 dM_readInside_3 rfl rfl rfl (by first | exact hM.o | exact hl.o | exact hl.a6 | exact hl.a7 | exact hl.a8 | exact hl.a2 | exact hl.a3 | exact hl.a4 | exact hl.a5) (by decide) (Nat.le_refl _) (Nat.le_refl _) (Nat.le_of_ble_eq_true rfl) (wM_lineBegins hM hl h4p he h h4 (fun a3 b3 V1 f3 g3 => ?_) (fun q => absurd q (by decide)) (fun a3 b3 VO HO HQ => ?_))
  · rw [if_neg (by rw [b3]; decide)] at hK
    unfold pInside at hK
    have e14 : V1 e 14 = (bsum (fun p => tAt r.1 p != 0) 2 : Nat) := g3.2.1.1.2.2.2.2.2.2.2.2.2
    have hb4 := bsum_lt (fun p => tAt r.1 p != 0) 2
    refine aw_aload_0 (q := 7) F dM_readInside_6 rfl ?_
    refine aw_iconst (q := 8) F dM_readInside_7 rfl (by decide) ?_
    refine av_callV1 (q := 11) (ci := 9) F hm mM_knownOne_i mM_knownOne_n lM_236 dM_readInside_8 rfl rfl rfl (by first | exact hM.o | exact hl.o | exact hl.a6 | exact hl.a7 | exact hl.a8 | exact hl.a2 | exact hl.a3 | exact hl.a4 | exact hl.a5) (by decide) (Nat.le_refl _) (Nat.le_refl _) (Nat.le_of_ble_eq_true rfl) (wM_knownOne hM hl h4p he g3 (fun i8 a8 b8 d8 u8 => ?_) (fun a8 VO HO HQ => ?_))
    · obtain ⟨hi4, hpo⟩ := kP a8 b8 d8 u8 (fun p => if tAt r.1 p ≠ 0 then .inr (3, (nxT B n t).2.1) else pDr r (nxT B n (nxT B n t)) (fun m => .inl ((uAt r.1 p (m + 1), r.2), nxT B n (nxT B n (nxT B n t)))))
      rw [hpo] at hK
      rw [if_neg hi4]
      have hp2 : i8 - 4 < 2 := by omega
      have htb : (bsum (fun p => tAt r.1 p != 0) 2).testBit (i8 - 4) = (tAt r.1 (i8 - 4) != 0) := by rw [bsum_tb, decide_eq_true hp2, Bool.true_and]
      refine aw_istore_1 (q := 12) F dM_readInside_11 rfl trivial ?_
      refine aw_aload_0 (q := 13) F dM_readInside_12 rfl ?_
      refine av_geti (q := 16) F fM_78 dM_readInside_13 rfl rfl (by first | exact hM.o | exact hl.o | exact hl.a6 | exact hl.a7 | exact hl.a8 | exact hl.a2 | exact hl.a3 | exact hl.a4 | exact hl.a5) ?_
      refine aw_iconst (q := 17) F dM_readInside_16 rfl (by decide) ?_
      refine aw_icmp_eq (q := 20) (t := 39) F dM_readInside_17 rfl (by decide) (fun c17 => by exact absurd c17 g3.1.1.2) (fun c17 => ?_)
      refine aw_aload_0 (q := 21) F dM_readInside_20 rfl ?_
      refine av_getaE (q := 24) F fM_147 dM_readInside_21 rfl rfl (by first | exact hM.o | exact hl.o | exact hl.a6 | exact hl.a7 | exact hl.a8 | exact hl.a2 | exact hl.a3 | exact hl.a4 | exact hl.a5) h4p ?_
      refine av_geti (q := 27) F fM_256 dM_readInside_24 rfl rfl (by first | exact hM.o | exact hl.o | exact hl.a6 | exact hl.a7 | exact hl.a8 | exact hl.a2 | exact hl.a3 | exact hl.a4 | exact hl.a5) ?_
      rw [e14]
      refine aw_iload_1 (q := 28) F dM_readInside_27 rfl ?_
      refine av_callS2 (q := 31) F hm mM_bit_i mM_bit_n lM_241 dM_readInside_28 rfl (by decide) (Nat.le_refl _) (Nat.le_refl _) (Nat.le_of_ble_eq_true rfl) (wM_bit (m := bsum (fun p => tAt r.1 p != 0) 2) (d := i8 - 4) rfl (by omega) rfl (by omega) (fun c28 => ?_) (fun c28 => ?_))
      · refine aw_if_eq (q := 34) (t := 39) F dM_readInside_31 rfl (by decide) (fun c31 => absurd c31 (by decide)) (fun c31 => ?_)
        refine aw_aload_0 (q := 35) F dM_readInside_34 rfl ?_
        refine aw_iconst (q := 36) F dM_readInside_35 rfl (by decide) ?_
        refine av_callV1 (q := 39) (ci := 9) F hm mM_flaw_i mM_flaw_n lM_143 dM_readInside_36 rfl rfl rfl (by first | exact hM.o | exact hl.o | exact hl.a6 | exact hl.a7 | exact hl.a8 | exact hl.a2 | exact hl.a3 | exact hl.a4 | exact hl.a5) (by decide) (Nat.le_refl _) (Nat.le_refl _) (Nat.le_of_ble_eq_true rfl) (g3.ov hM (k := 3) rfl (by decide) (fun VO HO HQ => ?_))
        first | (have HK : K none (VO, σ) := hK.2 VO _ _ (if_pos (by rw [htb] at c28; exact bne_iff_ne.mp c28)) (f3.qf.tr HQ).pf HO; have H8 := g3.n8 HQ he) | skip
        skip
        refine aw_aload_0 (q := 40) F dM_readInside_39 rfl ?_
        refine av_callV0 (q := 43) (ci := 9) F hm mM_goesOn_i mM_goesOn_n lM_114 dM_readInside_40 rfl rfl rfl (by first | exact hM.o | exact hl.o | exact hl.a6 | exact hl.a7 | exact hl.a8 | exact hl.a2 | exact hl.a3 | exact hl.a4 | exact hl.a5) (by decide) (Nat.le_refl _) (Nat.le_refl _) (Nat.le_of_ble_eq_true rfl) (wM_goesOnO hM HO.1 ?_)
        refine aw_aload_0 (q := 44) F dM_readInside_43 rfl ?_
        refine aw_iconst (q := 45) F dM_readInside_44 rfl (by decide) ?_
        refine av_callV1 (q := 48) (ci := 9) F hm mM_knownOne_i mM_knownOne_n lM_236 dM_readInside_45 rfl rfl rfl (by first | exact hM.o | exact hl.o | exact hl.a6 | exact hl.a7 | exact hl.a8 | exact hl.a2 | exact hl.a3 | exact hl.a4 | exact hl.a5) (by decide) (Nat.le_refl _) (Nat.le_refl _) (Nat.le_of_ble_eq_true rfl) (wM_knownOneO hM hl h4p H8 HO.1 ?_)
        first | (have HK : K none (VO, σ) := hK.2 VO _ _ (kD0 a45 _) ((f3.qf.tr f40).tr HQ).pf HO) | skip
        refine aw_istore_2 (q := 49) F dM_readInside_48 rfl trivial ?_
        refine aw_aload_0 (q := 50) F dM_readInside_49 rfl ?_
        refine av_callV0 (q := 53) (ci := 9) F hm mM_goesOn_i mM_goesOn_n lM_114 dM_readInside_50 rfl rfl rfl (by first | exact hM.o | exact hl.o | exact hl.a6 | exact hl.a7 | exact hl.a8 | exact hl.a2 | exact hl.a3 | exact hl.a4 | exact hl.a5) (by decide) (Nat.le_refl _) (Nat.le_refl _) (Nat.le_of_ble_eq_true rfl) (wM_goesOnO hM HO.1 ?_)
        refine aw_aload_0 (q := 54) F dM_readInside_53 rfl ?_
        refine av_geti (q := 57) F fM_78 dM_readInside_54 rfl rfl (by first | exact hM.o | exact hl.o | exact hl.a6 | exact hl.a7 | exact hl.a8 | exact hl.a2 | exact hl.a3 | exact hl.a4 | exact hl.a5) ?_
        refine aw_iconst (q := 58) F dM_readInside_57 rfl (by decide) ?_
        refine aw_icmp_ne (q := 61) (t := 62) F dM_readInside_58 rfl (by decide) (fun c58 => by exact absurd HO.1 c58) (fun c58 => ?_)
        refine aw_vret F C dM_readInside_61 rfl (Nat.le_refl _) (Nat.le_refl _) ?_
        exact HK
      · refine aw_if_eq (q := 34) (t := 39) F dM_readInside_31 rfl (by decide) (fun c31 => ?_) (fun c31 => absurd c31 (by decide))
        have hz0 : tAt r.1 (i8 - 4) = 0 := by rw [htb] at c28; exact Classical.byContradiction fun z => by rw [bne_iff_ne.mpr z] at c28; cases c28
        rw [if_neg (fun z => z hz0)] at hK
        refine aw_aload_0 (q := 40) F dM_readInside_39 rfl ?_
        refine av_callV0 (q := 43) (ci := 9) F hm mM_goesOn_i mM_goesOn_n lM_114 dM_readInside_40 rfl rfl rfl (by first | exact hM.o | exact hl.o | exact hl.a6 | exact hl.a7 | exact hl.a8 | exact hl.a2 | exact hl.a3 | exact hl.a4 | exact hl.a5) (by decide) (Nat.le_refl _) (Nat.le_refl _) (Nat.le_of_ble_eq_true rfl) (g3.go hM he (nm_ne4 b8) (fun V3 f40 g40 => ?_))
        refine aw_aload_0 (q := 44) F dM_readInside_43 rfl ?_
        refine aw_iconst (q := 45) F dM_readInside_44 rfl (by decide) ?_
        refine av_callV1 (q := 48) (ci := 9) F hm mM_knownOne_i mM_knownOne_n lM_236 dM_readInside_45 rfl rfl rfl (by first | exact hM.o | exact hl.o | exact hl.a6 | exact hl.a7 | exact hl.a8 | exact hl.a2 | exact hl.a3 | exact hl.a4 | exact hl.a5) (by decide) (Nat.le_refl _) (Nat.le_refl _) (Nat.le_of_ble_eq_true rfl) (wM_knownOne hM hl h4p he g40 (fun i45 a45 b45 d45 u45 => ?_) (fun a45 VO HO HQ => ?_))
        · obtain ⟨hj4, hpo2⟩ := kD a45 b45 d45 u45 (fun m => .inl ((uAt r.1 (i8 - 4) (m + 1), r.2), nxT B n (nxT B n (nxT B n t))))
          rw [hpo2] at hK
          rw [if_pos hj4]
          refine aw_istore_2 (q := 49) F dM_readInside_48 rfl trivial ?_
          refine aw_aload_0 (q := 50) F dM_readInside_49 rfl ?_
          refine av_callV0 (q := 53) (ci := 9) F hm mM_goesOn_i mM_goesOn_n lM_114 dM_readInside_50 rfl rfl rfl (by first | exact hM.o | exact hl.o | exact hl.a6 | exact hl.a7 | exact hl.a8 | exact hl.a2 | exact hl.a3 | exact hl.a4 | exact hl.a5) (by decide) (Nat.le_refl _) (Nat.le_refl _) (Nat.le_of_ble_eq_true rfl) (g40.go hM he (nm_ne4 b45) (fun V4 f50 g50 => ?_))
          refine aw_aload_0 (q := 54) F dM_readInside_53 rfl ?_
          refine av_geti (q := 57) F fM_78 dM_readInside_54 rfl rfl (by first | exact hM.o | exact hl.o | exact hl.a6 | exact hl.a7 | exact hl.a8 | exact hl.a2 | exact hl.a3 | exact hl.a4 | exact hl.a5) ?_
          refine aw_iconst (q := 58) F dM_readInside_57 rfl (by decide) ?_
          refine aw_icmp_ne (q := 61) (t := 62) F dM_readInside_58 rfl (by decide) (fun c58 => ?_) (fun c58 => by exact absurd c58 g50.1.1.2)
          refine aw_aload_0 (q := 63) F dM_readInside_62 rfl ?_
          refine av_getaE (q := 66) F fM_147 dM_readInside_63 rfl rfl (by first | exact hM.o | exact hl.o | exact hl.a6 | exact hl.a7 | exact hl.a8 | exact hl.a2 | exact hl.a3 | exact hl.a4 | exact hl.a5) h4p ?_
          refine aw_dup (q := 67) F dM_readInside_66 rfl trivial ?_
          refine av_geti (q := 70) F fM_256 dM_readInside_67 rfl rfl (by first | exact hM.o | exact hl.o | exact hl.a6 | exact hl.a7 | exact hl.a8 | exact hl.a2 | exact hl.a3 | exact hl.a4 | exact hl.a5) ?_
          rw [show V4 e 14 = (bsum (fun p => tAt r.1 p != 0) 2 : Nat) from g50.2.1.1.2.2.2.2.2.2.2.2.2]
          refine aw_iconst (q := 71) F dM_readInside_70 rfl (by decide) ?_
          refine aw_iload_1 (q := 72) F dM_readInside_71 rfl ?_
          refine aw_ishl (q := 73) F dM_readInside_72 rfl ?_
          rw [shl1 (by omega) (by omega), Int.toNat_natCast]
          refine aw_ior (q := 74) F dM_readInside_73 rfl ?_
          rw [zor_n (by have := Nat.or_lt_two_pow (n := 2) hb4 (Nat.pow_lt_pow_right (by decide) hp2); omega)]
          refine av_puti (q := 77) F fM_256 dM_readInside_74 rfl rfl (wr_8_14 _) (by first | exact hM.o | exact hl.o | exact hl.a6 | exact hl.a7 | exact hl.a8 | exact hl.a2 | exact hl.a3 | exact hl.a4 | exact hl.a5) ?_
          refine aw_aload_0 (q := 78) F dM_readInside_77 rfl ?_
          refine av_getaE (q := 81) F fM_147 dM_readInside_78 rfl rfl (by first | exact hM.o | exact hl.o | exact hl.a6 | exact hl.a7 | exact hl.a8 | exact hl.a2 | exact hl.a3 | exact hl.a4 | exact hl.a5) h4p ?_
          refine av_getaE (q := 84) F fM_259 dM_readInside_81 rfl rfl (by first | exact hM.o | exact hl.o | exact hl.a6 | exact hl.a7 | exact hl.a8 | exact hl.a2 | exact hl.a3 | exact hl.a4 | exact hl.a5) hl.p11 ?_
          refine aw_iload_1 (q := 85) F dM_readInside_84 rfl ?_
          refine aw_iload_2 (q := 86) F dM_readInside_85 rfl ?_
          refine aw_iconst (q := 87) F dM_readInside_86 rfl (by decide) ?_
          refine aw_iadd (q := 88) F dM_readInside_87 rfl (by constructor <;> omega) ?_
          refine av_iastore (q := 89) F dM_readInside_88 rfl (by first | exact hM.o | exact hl.o | exact hl.a6 | exact hl.a7 | exact hl.a8 | exact hl.a2 | exact hl.a3 | exact hl.a4 | exact hl.a5) (by omega) (by omega) ?_
          refine aw_aload_0 (q := 90) F dM_readInside_89 rfl ?_
          refine av_getaE (q := 93) F fM_147 dM_readInside_90 rfl rfl (by first | exact hM.o | exact hl.o | exact hl.a6 | exact hl.a7 | exact hl.a8 | exact hl.a2 | exact hl.a3 | exact hl.a4 | exact hl.a5) h4p ?_
          refine aw_dup (q := 94) F dM_readInside_93 rfl trivial ?_
          refine av_geti (q := 97) F fM_262 dM_readInside_94 rfl rfl (by first | exact hM.o | exact hl.o | exact hl.a6 | exact hl.a7 | exact hl.a8 | exact hl.a2 | exact hl.a3 | exact hl.a4 | exact hl.a5) ?_
          rw [up2_nea _ _ (by omega), up2_nek _ _ (by decide), show V4 e 6 = (cntB (fun p => tAt r.1 p != 0) 2 : Nat) from g50.2.1.1.2.2.2.2.2.2.1]
          refine aw_iconst (q := 98) F dM_readInside_97 rfl (by decide) ?_
          refine aw_iadd (q := 99) F dM_readInside_98 rfl (by have := cntB_le (fun p => tAt r.1 p != 0) 2; constructor <;> omega) ?_
          refine av_puti (q := 102) F fM_262 dM_readInside_99 rfl rfl (wr_8_6 _) (by first | exact hM.o | exact hl.o | exact hl.a6 | exact hl.a7 | exact hl.a8 | exact hl.a2 | exact hl.a3 | exact hl.a4 | exact hl.a5) ?_
          refine aw_vret F C dM_readInside_102 rfl (Nat.le_refl _) (Nat.le_refl _) ?_
          obtain ⟨⟨x0, x1, x2, x3, x4, x5, x6, x7, x8, x14⟩, ⟨y1, y2, y3, y4⟩, hnm⟩ := g50.2.1
          have hcu : cntB (fun p => uF (tAt r.1) (i8 - 4) (i45 + 1) p != 0) 2 = cntB (fun p => tAt r.1 p != 0) 2 + 1 := cntB_up hp2 (fun j hj => by rw [uF_ne hj]) (by rw [hz0]; rfl) (by rw [uF_at]; rfl)
          have hbu : bsum (fun p => uF (tAt r.1) (i8 - 4) (i45 + 1) p != 0) 2 = bsum (fun p => tAt r.1 p != 0) 2 ||| 2 ^ (i8 - 4) := bs_up hp2 (fun j hj => by rw [uF_ne hj]) (by rw [uF_at]; rfl)
          rw [Int.toNat_natCast]
          generalize hz : ((cntB (fun p => tAt r.1 p != 0) 2 : Nat) : Int) + 1 = z
          generalize hw : ((i45 : Nat) : Int) + 1 = w
          have ek : ∀ j, j ≠ 6 → j ≠ 14 → up2 (up2 (up2 V4 e 14 ((bsum (fun p => tAt r.1 p != 0) 2 ||| 2 ^ (i8 - 4) : Nat) : Int)) (e + 3) (i8 - 4) w) e 6 z e j = V4 e j := fun j hj hk => by rw [up2_nek _ _ hj, up2_nea _ _ (by omega), up2_nek _ _ hk]
          have ec : ∀ b, b ≠ e → b ≠ e + 3 → up2 (up2 (up2 V4 e 14 ((bsum (fun p => tAt r.1 p != 0) 2 ||| 2 ^ (i8 - 4) : Nat) : Int)) (e + 3) (i8 - 4) w) e 6 z b = V4 b := fun b h1 h2 => by rw [up2_nea _ _ h1, up2_nea _ _ h2, up2_nea _ _ h1]
          refine hK.1 _ (uAt r.1 (i8 - 4) (i45 + 1), r.2) _ rfl ((((((f3.qf.tr f40).tr f50).pf).la (by omega) ⟨by omega, by omega⟩).la (by omega) ⟨by omega, by omega⟩).la (by omega) ⟨by omega, by omega⟩) (g50.w (ec _ (by omega) (by omega)) (ec _ (by omega) (by omega)) ⟨?_, ?_, ?_⟩)
          · exact ⟨(ek 0 (by decide) (by decide)).trans x0, (ek 1 (by decide) (by decide)).trans x1, (ek 2 (by decide) (by decide)).trans x2, (ek 3 (by decide) (by decide)).trans x3, (ek 4 (by decide) (by decide)).trans x4, (ek 5 (by decide) (by decide)).trans x5, by rw [up2_same, ← hz]; show _ = ((cntB (fun p => uF (tAt r.1) (i8 - 4) (i45 + 1) p != 0) 2 : Nat) : Int); rw [hcu]; rfl, (ek 7 (by decide) (by decide)).trans x7, (ek 8 (by decide) (by decide)).trans x8, by rw [up2_nek _ _ (by decide), up2_nea _ _ (by omega), up2_same]; show _ = ((bsum (fun p => uF (tAt r.1) (i8 - 4) (i45 + 1) p != 0) 2 : Nat) : Int); rw [hbu]⟩
          · refine ⟨fun d hd => ⟨?_, ?_⟩, fun p hp => ?_, by rw [ec _ (by omega) (by omega)]; exact y3, by rw [ec _ (by omega) (by omega)]; exact y4⟩
            · rw [ec _ (by omega) (by omega)]; exact (y1 d hd).1
            · rw [ec _ (by omega) (by omega)]; exact (y1 d hd).2
            · rw [up2_nea _ _ (by omega)]
              show _ = ((uF (tAt r.1) (i8 - 4) (i45 + 1) p : Nat) : Int)
              by_cases q : p = i8 - 4
              · rw [q, up2_same, uF_at, ← hw]; rfl
              · rw [up2_nek _ _ q, up2_nea _ _ (by omega), uF_ne q]; exact y2 p hp
          · unfold NMr; rw [ec _ (by omega) (by omega), ec _ (by omega) (by omega), ec _ (by omega) (by omega)]; exact hnm
        · first | (have HK : K none (VO, σ) := hK.2 VO _ _ (kD0 a45 _) ((f3.qf.tr f40).tr HQ).pf HO) | skip
          refine aw_istore_2 (q := 49) F dM_readInside_48 rfl trivial ?_
          refine aw_aload_0 (q := 50) F dM_readInside_49 rfl ?_
          refine av_callV0 (q := 53) (ci := 9) F hm mM_goesOn_i mM_goesOn_n lM_114 dM_readInside_50 rfl rfl rfl (by first | exact hM.o | exact hl.o | exact hl.a6 | exact hl.a7 | exact hl.a8 | exact hl.a2 | exact hl.a3 | exact hl.a4 | exact hl.a5) (by decide) (Nat.le_refl _) (Nat.le_refl _) (Nat.le_of_ble_eq_true rfl) (wM_goesOnO hM HO.1 ?_)
          refine aw_aload_0 (q := 54) F dM_readInside_53 rfl ?_
          refine av_geti (q := 57) F fM_78 dM_readInside_54 rfl rfl (by first | exact hM.o | exact hl.o | exact hl.a6 | exact hl.a7 | exact hl.a8 | exact hl.a2 | exact hl.a3 | exact hl.a4 | exact hl.a5) ?_
          refine aw_iconst (q := 58) F dM_readInside_57 rfl (by decide) ?_
          refine aw_icmp_ne (q := 61) (t := 62) F dM_readInside_58 rfl (by decide) (fun c58 => by exact absurd HO.1 c58) (fun c58 => ?_)
          refine aw_vret F C dM_readInside_61 rfl (Nat.le_refl _) (Nat.le_refl _) ?_
          exact HK
    · first | (have HK : K none (VO, σ) := hK.2 VO _ _ (kP0 a8 _) (f3.qf.tr HQ).pf HO; have H8 := g3.n8 HQ he) | skip
      refine aw_istore_1 (q := 12) F dM_readInside_11 rfl trivial ?_
      refine aw_aload_0 (q := 13) F dM_readInside_12 rfl ?_
      refine av_geti (q := 16) F fM_78 dM_readInside_13 rfl rfl (by first | exact hM.o | exact hl.o | exact hl.a6 | exact hl.a7 | exact hl.a8 | exact hl.a2 | exact hl.a3 | exact hl.a4 | exact hl.a5) ?_
      refine aw_iconst (q := 17) F dM_readInside_16 rfl (by decide) ?_
      refine aw_icmp_eq (q := 20) (t := 39) F dM_readInside_17 rfl (by decide) (fun c17 => ?_) (fun c17 => by exact absurd HO.1 c17)
      skip
      refine aw_aload_0 (q := 40) F dM_readInside_39 rfl ?_
      refine av_callV0 (q := 43) (ci := 9) F hm mM_goesOn_i mM_goesOn_n lM_114 dM_readInside_40 rfl rfl rfl (by first | exact hM.o | exact hl.o | exact hl.a6 | exact hl.a7 | exact hl.a8 | exact hl.a2 | exact hl.a3 | exact hl.a4 | exact hl.a5) (by decide) (Nat.le_refl _) (Nat.le_refl _) (Nat.le_of_ble_eq_true rfl) (wM_goesOnO hM HO.1 ?_)
      refine aw_aload_0 (q := 44) F dM_readInside_43 rfl ?_
      refine aw_iconst (q := 45) F dM_readInside_44 rfl (by decide) ?_
      refine av_callV1 (q := 48) (ci := 9) F hm mM_knownOne_i mM_knownOne_n lM_236 dM_readInside_45 rfl rfl rfl (by first | exact hM.o | exact hl.o | exact hl.a6 | exact hl.a7 | exact hl.a8 | exact hl.a2 | exact hl.a3 | exact hl.a4 | exact hl.a5) (by decide) (Nat.le_refl _) (Nat.le_refl _) (Nat.le_of_ble_eq_true rfl) (wM_knownOneO hM hl h4p H8 HO.1 ?_)
      first | (have HK : K none (VO, σ) := hK.2 VO _ _ (kD0 a45 _) ((f3.qf.tr f40).tr HQ).pf HO) | skip
      refine aw_istore_2 (q := 49) F dM_readInside_48 rfl trivial ?_
      refine aw_aload_0 (q := 50) F dM_readInside_49 rfl ?_
      refine av_callV0 (q := 53) (ci := 9) F hm mM_goesOn_i mM_goesOn_n lM_114 dM_readInside_50 rfl rfl rfl (by first | exact hM.o | exact hl.o | exact hl.a6 | exact hl.a7 | exact hl.a8 | exact hl.a2 | exact hl.a3 | exact hl.a4 | exact hl.a5) (by decide) (Nat.le_refl _) (Nat.le_refl _) (Nat.le_of_ble_eq_true rfl) (wM_goesOnO hM HO.1 ?_)
      refine aw_aload_0 (q := 54) F dM_readInside_53 rfl ?_
      refine av_geti (q := 57) F fM_78 dM_readInside_54 rfl rfl (by first | exact hM.o | exact hl.o | exact hl.a6 | exact hl.a7 | exact hl.a8 | exact hl.a2 | exact hl.a3 | exact hl.a4 | exact hl.a5) ?_
      refine aw_iconst (q := 58) F dM_readInside_57 rfl (by decide) ?_
      refine aw_icmp_ne (q := 61) (t := 62) F dM_readInside_58 rfl (by decide) (fun c58 => by exact absurd HO.1 c58) (fun c58 => ?_)
      refine aw_vret F C dM_readInside_61 rfl (Nat.le_refl _) (Nat.le_refl _) ?_
      exact HK
  · have HK : K none (VO, σ) := hK.2 VO _ _ (if_pos b3) HQ.pf HO
    have H8 := h.n8 HQ he
    refine aw_aload_0 (q := 7) F dM_readInside_6 rfl ?_
    refine aw_iconst (q := 8) F dM_readInside_7 rfl (by decide) ?_
    refine av_callV1 (q := 11) (ci := 9) F hm mM_knownOne_i mM_knownOne_n lM_236 dM_readInside_8 rfl rfl rfl (by first | exact hM.o | exact hl.o | exact hl.a6 | exact hl.a7 | exact hl.a8 | exact hl.a2 | exact hl.a3 | exact hl.a4 | exact hl.a5) (by decide) (Nat.le_refl _) (Nat.le_refl _) (Nat.le_of_ble_eq_true rfl) (wM_knownOneO hM hl h4p H8 HO.1 ?_)
    first | (have HK : K none (VO, σ) := hK.2 VO _ _ (kP0 a8 _) (f3.qf.tr HQ).pf HO; have H8 := g3.n8 HQ he) | skip
    refine aw_istore_1 (q := 12) F dM_readInside_11 rfl trivial ?_
    refine aw_aload_0 (q := 13) F dM_readInside_12 rfl ?_
    refine av_geti (q := 16) F fM_78 dM_readInside_13 rfl rfl (by first | exact hM.o | exact hl.o | exact hl.a6 | exact hl.a7 | exact hl.a8 | exact hl.a2 | exact hl.a3 | exact hl.a4 | exact hl.a5) ?_
    refine aw_iconst (q := 17) F dM_readInside_16 rfl (by decide) ?_
    refine aw_icmp_eq (q := 20) (t := 39) F dM_readInside_17 rfl (by decide) (fun c17 => ?_) (fun c17 => by exact absurd HO.1 c17)
    skip
    refine aw_aload_0 (q := 40) F dM_readInside_39 rfl ?_
    refine av_callV0 (q := 43) (ci := 9) F hm mM_goesOn_i mM_goesOn_n lM_114 dM_readInside_40 rfl rfl rfl (by first | exact hM.o | exact hl.o | exact hl.a6 | exact hl.a7 | exact hl.a8 | exact hl.a2 | exact hl.a3 | exact hl.a4 | exact hl.a5) (by decide) (Nat.le_refl _) (Nat.le_refl _) (Nat.le_of_ble_eq_true rfl) (wM_goesOnO hM HO.1 ?_)
    refine aw_aload_0 (q := 44) F dM_readInside_43 rfl ?_
    refine aw_iconst (q := 45) F dM_readInside_44 rfl (by decide) ?_
    refine av_callV1 (q := 48) (ci := 9) F hm mM_knownOne_i mM_knownOne_n lM_236 dM_readInside_45 rfl rfl rfl (by first | exact hM.o | exact hl.o | exact hl.a6 | exact hl.a7 | exact hl.a8 | exact hl.a2 | exact hl.a3 | exact hl.a4 | exact hl.a5) (by decide) (Nat.le_refl _) (Nat.le_refl _) (Nat.le_of_ble_eq_true rfl) (wM_knownOneO hM hl h4p H8 HO.1 ?_)
    first | (have HK : K none (VO, σ) := hK.2 VO _ _ (kD0 a45 _) ((f3.qf.tr f40).tr HQ).pf HO) | skip
    refine aw_istore_2 (q := 49) F dM_readInside_48 rfl trivial ?_
    refine aw_aload_0 (q := 50) F dM_readInside_49 rfl ?_
    refine av_callV0 (q := 53) (ci := 9) F hm mM_goesOn_i mM_goesOn_n lM_114 dM_readInside_50 rfl rfl rfl (by first | exact hM.o | exact hl.o | exact hl.a6 | exact hl.a7 | exact hl.a8 | exact hl.a2 | exact hl.a3 | exact hl.a4 | exact hl.a5) (by decide) (Nat.le_refl _) (Nat.le_refl _) (Nat.le_of_ble_eq_true rfl) (wM_goesOnO hM HO.1 ?_)
    refine aw_aload_0 (q := 54) F dM_readInside_53 rfl ?_
    refine av_geti (q := 57) F fM_78 dM_readInside_54 rfl rfl (by first | exact hM.o | exact hl.o | exact hl.a6 | exact hl.a7 | exact hl.a8 | exact hl.a2 | exact hl.a3 | exact hl.a4 | exact hl.a5) ?_
    refine aw_iconst (q := 58) F dM_readInside_57 rfl (by decide) ?_
    refine aw_icmp_ne (q := 61) (t := 62) F dM_readInside_58 rfl (by decide) (fun c58 => by exact absurd HO.1 c58) (fun c58 => ?_)
    refine aw_vret F C dM_readInside_61 rfl (Nat.le_refl _) (Nat.le_refl _) ?_
    exact HK
end Mod45
