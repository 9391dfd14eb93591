section Mod43
variable {G : GE} {V V' V1 V2 : Nat → Nat → Int} {σ : Shp} {K : Option AV → Mem → Prop} {l n e : Nat} {B : Nat → Int} {r : PR} {t : TK}
theorem LR.f {r' : PR} {k : Nat} {z : Int} (h : LR V e r) (hf : LRf (up2 V e k z) e r') (ha : LRa V e r'.1) (hn : NMr V e r') : LR (up2 V e k z) e r' := by
  refine ⟨hf, ?_, ?_⟩
  · unfold LRa
    rw [up2_nea _ _ (by omega), up2_nea _ _ (by omega), up2_nea _ _ (by omega), up2_nea _ _ (by omega), up2_nea _ _ (by omega)]
    exact ha
  · unfold NMr
    rw [up2_nea _ _ (by omega), up2_nea _ _ (by omega), up2_nea _ _ (by omega)]
    exact hn
theorem nm_ne4 (h : isNm t = true) : t.1 ≠ 4 := by rw [isNm_1 h]; decide
theorem wM_readLocked (hM : moS σ l) (hl : laS σ e) (h4p : sP σ 53 4 = e) (he : 64 ≤ e) (h : GS V e n B r t) (h4 : t.1 ≠ 4) (hK : MrK K V σ e n B (if r.2.1 = false then .inr (6, t.2.1) else pLocked B n r t)) : Wp G 8 mM_readLocked [vR 53] (V, σ) 0 0 K := by
  refine wp_intro mM_readLocked_i.1 [some (vR 53), none] rfl rfl (Nat.le_of_ble_eq_true rfl) ?_
  intro X hG F C
  have hm := C.rm
  refine aw_aload_0 (q := 1) F dM_readLocked_0 rfl ?_
  refine aw_iconst (q := 2) F dM_readLocked_1 rfl (by decide) ?_
  refine aw_iconst (q := 3) F dM_readLocked_2 rfl (by decide) ?_
  refine av_callV2 (q := 6) (ci := 9) F hm mM_lineBegins_i mM_lineBegins_n lM_214 dM_readLocked_3 rfl rfl rfl (by first | exact hM.o | exact hl.o | exact hl.a6 | exact hl.a7 | exact hl.a8 | exact hl.a2) (by decide) (Nat.le_refl _) (Nat.le_refl _) (Nat.le_of_ble_eq_true rfl) (wM_lineBegins hM hl h4p he h h4 (fun a3 b3 V1 f3 g3 => ?_) (fun q => absurd q (by decide)) (fun a3 b3 VO HO HQ => ?_))
  · rw [if_neg (by rw [b3]; decide)] at hK
    unfold pLocked at hK
    have e3 : V1 e 3 = tLk r.1 := g3.2.1.1.2.2.2.1
    have hlk : tLk r.1 < 16 := Nat.lt_of_lt_of_le h.2.2.2.1.1.2.2.2.1 (two_le h.2.2.2.1.1.2.1)
    refine aw_aload_0 (q := 7) F dM_readLocked_6 rfl ?_
    refine aw_iconst (q := 8) F dM_readLocked_7 rfl (by decide) ?_
    refine av_callV1 (q := 11) (ci := 9) F hm mM_knownOne_i mM_knownOne_n lM_236 dM_readLocked_8 rfl rfl rfl (by first | exact hM.o | exact hl.o | exact hl.a6 | exact hl.a7 | exact hl.a8 | exact hl.a2) (by decide) (Nat.le_refl _) (Nat.le_refl _) (Nat.le_of_ble_eq_true rfl) (wM_knownOne hM hl h4p he g3 (fun i8 a8 b8 d8 u8 => ?_) (fun a8 VO HO HQ => ?_))
    · obtain ⟨hi4, hpo⟩ := kD a8 b8 d8 u8 (fun d => if (tLk r.1).testBit d then .inr (3, (nxT B n t).2.1) else .inl ((uLk r.1 d, r.2), nxT B n (nxT B n t)))
      rw [hpo] at hK
      rw [if_pos hi4]
      refine aw_istore_1 (q := 12) F dM_readLocked_11 rfl trivial ?_
      refine aw_aload_0 (q := 13) F dM_readLocked_12 rfl ?_
      refine av_geti (q := 16) F fM_78 dM_readLocked_13 rfl rfl (by first | exact hM.o | exact hl.o | exact hl.a6 | exact hl.a7 | exact hl.a8 | exact hl.a2) ?_
      refine aw_iconst (q := 17) F dM_readLocked_16 rfl (by decide) ?_
      refine aw_icmp_eq (q := 20) (t := 39) F dM_readLocked_17 rfl (by decide) (fun c17 => by exact absurd c17 g3.1.1.2) (fun c17 => ?_)
      refine aw_aload_0 (q := 21) F dM_readLocked_20 rfl ?_
      refine av_getaE (q := 24) F fM_147 dM_readLocked_21 rfl rfl (by first | exact hM.o | exact hl.o | exact hl.a6 | exact hl.a7 | exact hl.a8 | exact hl.a2) h4p ?_
      refine av_geti (q := 27) F fM_239 dM_readLocked_24 rfl rfl (by first | exact hM.o | exact hl.o | exact hl.a6 | exact hl.a7 | exact hl.a8 | exact hl.a2) ?_
      rw [e3]
      refine aw_iload_1 (q := 28) F dM_readLocked_27 rfl ?_
      refine av_callS2 (q := 31) F hm mM_bit_i mM_bit_n lM_241 dM_readLocked_28 rfl (by decide) (Nat.le_refl _) (Nat.le_refl _) (Nat.le_of_ble_eq_true rfl) (wM_bit (m := tLk r.1) (d := i8) rfl (by omega) rfl (by omega) (fun c28 => ?_) (fun c28 => ?_))
      · refine aw_if_eq (q := 34) (t := 39) F dM_readLocked_31 rfl (by decide) (fun c31 => absurd c31 (by decide)) (fun c31 => ?_)
        refine aw_aload_0 (q := 35) F dM_readLocked_34 rfl ?_
        refine aw_iconst (q := 36) F dM_readLocked_35 rfl (by decide) ?_
        refine av_callV1 (q := 39) (ci := 9) F hm mM_flaw_i mM_flaw_n lM_143 dM_readLocked_36 rfl rfl rfl (by first | exact hM.o | exact hl.o | exact hl.a6 | exact hl.a7 | exact hl.a8 | exact hl.a2) (by decide) (Nat.le_refl _) (Nat.le_refl _) (Nat.le_of_ble_eq_true rfl) (g3.ov hM (k := 3) rfl (by decide) (fun VO HO HQ => ?_))
        first | (have HK : K none (VO, σ) := hK.2 VO _ _ (if_pos c28) (f3.qf.tr HQ).pf HO) | skip
        refine aw_aload_0 (q := 40) F dM_readLocked_39 rfl ?_
        refine av_callV0 (q := 43) (ci := 9) F hm mM_goesOn_i mM_goesOn_n lM_114 dM_readLocked_40 rfl rfl rfl (by first | exact hM.o | exact hl.o | exact hl.a6 | exact hl.a7 | exact hl.a8 | exact hl.a2) (by decide) (Nat.le_refl _) (Nat.le_refl _) (Nat.le_of_ble_eq_true rfl) (wM_goesOnO hM HO.1 ?_)
        refine aw_aload_0 (q := 44) F dM_readLocked_43 rfl ?_
        refine av_geti (q := 47) F fM_78 dM_readLocked_44 rfl rfl (by first | exact hM.o | exact hl.o | exact hl.a6 | exact hl.a7 | exact hl.a8 | exact hl.a2) ?_
        refine aw_iconst (q := 48) F dM_readLocked_47 rfl (by decide) ?_
        refine aw_icmp_eq (q := 51) (t := 66) F dM_readLocked_48 rfl (by decide) (fun c48 => ?_) (fun c48 => by exact absurd HO.1 c48)
        refine aw_vret F C dM_readLocked_66 rfl (Nat.le_refl _) (Nat.le_refl _) ?_
        exact HK
      · refine aw_if_eq (q := 34) (t := 39) F dM_readLocked_31 rfl (by decide) (fun c31 => ?_) (fun c31 => absurd c31 (by decide))
        refine aw_aload_0 (q := 40) F dM_readLocked_39 rfl ?_
        refine av_callV0 (q := 43) (ci := 9) F hm mM_goesOn_i mM_goesOn_n lM_114 dM_readLocked_40 rfl rfl rfl (by first | exact hM.o | exact hl.o | exact hl.a6 | exact hl.a7 | exact hl.a8 | exact hl.a2) (by decide) (Nat.le_refl _) (Nat.le_refl _) (Nat.le_of_ble_eq_true rfl) (g3.go hM he (nm_ne4 b8) (fun V4 f40 g40 => ?_))
        refine aw_aload_0 (q := 44) F dM_readLocked_43 rfl ?_
        refine av_geti (q := 47) F fM_78 dM_readLocked_44 rfl rfl (by first | exact hM.o | exact hl.o | exact hl.a6 | exact hl.a7 | exact hl.a8 | exact hl.a2) ?_
        refine aw_iconst (q := 48) F dM_readLocked_47 rfl (by decide) ?_
        refine aw_icmp_eq (q := 51) (t := 66) F dM_readLocked_48 rfl (by decide) (fun c48 => by exact absurd c48 g40.1.1.2) (fun c48 => ?_)
        refine aw_aload_0 (q := 52) F dM_readLocked_51 rfl ?_
        refine av_getaE (q := 55) F fM_147 dM_readLocked_52 rfl rfl (by first | exact hM.o | exact hl.o | exact hl.a6 | exact hl.a7 | exact hl.a8 | exact hl.a2) h4p ?_
        refine aw_dup (q := 56) F dM_readLocked_55 rfl trivial ?_
        refine av_geti (q := 59) F fM_239 dM_readLocked_56 rfl rfl (by first | exact hM.o | exact hl.o | exact hl.a6 | exact hl.a7 | exact hl.a8 | exact hl.a2) ?_
        rw [show V4 e 3 = tLk r.1 from g40.2.1.1.2.2.2.1]
        refine aw_iconst (q := 60) F dM_readLocked_59 rfl (by decide) ?_
        refine aw_iload_1 (q := 61) F dM_readLocked_60 rfl ?_
        refine aw_ishl (q := 62) F dM_readLocked_61 rfl ?_
        rw [shl1 (by omega) (by omega), Int.toNat_natCast]
        refine aw_ior (q := 63) F dM_readLocked_62 rfl ?_
        rw [zor_n (by have := Nat.or_lt_two_pow (n := 4) hlk (Nat.pow_lt_pow_right (by decide) hi4); omega)]
        refine av_puti (q := 66) F fM_239 dM_readLocked_63 rfl rfl (wr_8_3 _) (by first | exact hM.o | exact hl.o | exact hl.a6 | exact hl.a7 | exact hl.a8 | exact hl.a2) ?_
        refine aw_vret F C dM_readLocked_66 rfl (Nat.le_refl _) (Nat.le_refl _) ?_
        obtain ⟨x0, x1, x2, x3, x4, x5, x6, x7, x8, x14⟩ := g40.2.1.1
        have ek : ∀ j, j ≠ 3 → up2 V4 e 3 ((tLk r.1 ||| 2 ^ i8 : Nat) : Int) e j = V4 e j := fun j hj => up2_nek _ _ hj
        refine hK.1 _ (uLk r.1 i8, r.2) _ (if_neg (by rw [c28]; exact Bool.false_ne_true)) (((f3.qf.tr f40).pf).la (by omega) ⟨by omega, by omega⟩) (g40.w (up2_nea _ _ (by omega)) (up2_nea _ _ (by omega)) (g40.2.1.f ?_ g40.2.1.2.1 g40.2.1.2.2))
        exact ⟨(ek 0 (by decide)).trans x0, (ek 1 (by decide)).trans x1, (ek 2 (by decide)).trans x2, up2_same _ _ _ _, (ek 4 (by decide)).trans x4, (ek 5 (by decide)).trans x5, (ek 6 (by decide)).trans x6, (ek 7 (by decide)).trans x7, (ek 8 (by decide)).trans x8, (ek 14 (by decide)).trans x14⟩
    · first | (have HK : K none (VO, σ) := hK.2 VO _ _ (kD0 a8 _) (f3.qf.tr HQ).pf HO) | skip
      refine aw_istore_1 (q := 12) F dM_readLocked_11 rfl trivial ?_
      refine aw_aload_0 (q := 13) F dM_readLocked_12 rfl ?_
      refine av_geti (q := 16) F fM_78 dM_readLocked_13 rfl rfl (by first | exact hM.o | exact hl.o | exact hl.a6 | exact hl.a7 | exact hl.a8 | exact hl.a2) ?_
      refine aw_iconst (q := 17) F dM_readLocked_16 rfl (by decide) ?_
      refine aw_icmp_eq (q := 20) (t := 39) F dM_readLocked_17 rfl (by decide) (fun c17 => ?_) (fun c17 => by exact absurd HO.1 c17)
      refine aw_aload_0 (q := 40) F dM_readLocked_39 rfl ?_
      refine av_callV0 (q := 43) (ci := 9) F hm mM_goesOn_i mM_goesOn_n lM_114 dM_readLocked_40 rfl rfl rfl (by first | exact hM.o | exact hl.o | exact hl.a6 | exact hl.a7 | exact hl.a8 | exact hl.a2) (by decide) (Nat.le_refl _) (Nat.le_refl _) (Nat.le_of_ble_eq_true rfl) (wM_goesOnO hM HO.1 ?_)
      refine aw_aload_0 (q := 44) F dM_readLocked_43 rfl ?_
      refine av_geti (q := 47) F fM_78 dM_readLocked_44 rfl rfl (by first | exact hM.o | exact hl.o | exact hl.a6 | exact hl.a7 | exact hl.a8 | exact hl.a2) ?_
      refine aw_iconst (q := 48) F dM_readLocked_47 rfl (by decide) ?_
      refine aw_icmp_eq (q := 51) (t := 66) F dM_readLocked_48 rfl (by decide) (fun c48 => ?_) (fun c48 => by exact absurd HO.1 c48)
      refine aw_vret F C dM_readLocked_66 rfl (Nat.le_refl _) (Nat.le_refl _) ?_
      exact HK
  · have HK : K none (VO, σ) := hK.2 VO _ _ (if_pos b3) HQ.pf HO
    have H8 := h.n8 HQ he
    refine aw_aload_0 (q := 7) F dM_readLocked_6 rfl ?_
    refine aw_iconst (q := 8) F dM_readLocked_7 rfl (by decide) ?_
    refine av_callV1 (q := 11) (ci := 9) F hm mM_knownOne_i mM_knownOne_n lM_236 dM_readLocked_8 rfl rfl rfl (by first | exact hM.o | exact hl.o | exact hl.a6 | exact hl.a7 | exact hl.a8 | exact hl.a2) (by decide) (Nat.le_refl _) (Nat.le_refl _) (Nat.le_of_ble_eq_true rfl) (wM_knownOneO hM hl h4p H8 HO.1 ?_)
    first | (have HK : K none (VO, σ) := hK.2 VO _ _ (kD0 a8 _) (f3.qf.tr HQ).pf HO) | skip
    refine aw_istore_1 (q := 12) F dM_readLocked_11 rfl trivial ?_
    refine aw_aload_0 (q := 13) F dM_readLocked_12 rfl ?_
    refine av_geti (q := 16) F fM_78 dM_readLocked_13 rfl rfl (by first | exact hM.o | exact hl.o | exact hl.a6 | exact hl.a7 | exact hl.a8 | exact hl.a2) ?_
    refine aw_iconst (q := 17) F dM_readLocked_16 rfl (by decide) ?_
    refine aw_icmp_eq (q := 20) (t := 39) F dM_readLocked_17 rfl (by decide) (fun c17 => ?_) (fun c17 => by exact absurd HO.1 c17)
    refine aw_aload_0 (q := 40) F dM_readLocked_39 rfl ?_
    refine av_callV0 (q := 43) (ci := 9) F hm mM_goesOn_i mM_goesOn_n lM_114 dM_readLocked_40 rfl rfl rfl (by first | exact hM.o | exact hl.o | exact hl.a6 | exact hl.a7 | exact hl.a8 | exact hl.a2) (by decide) (Nat.le_refl _) (Nat.le_refl _) (Nat.le_of_ble_eq_true rfl) (wM_goesOnO hM HO.1 ?_)
    refine aw_aload_0 (q := 44) F dM_readLocked_43 rfl ?_
    refine av_geti (q := 47) F fM_78 dM_readLocked_44 rfl rfl (by first | exact hM.o | exact hl.o | exact hl.a6 | exact hl.a7 | exact hl.a8 | exact hl.a2) ?_
    refine aw_iconst (q := 48) F dM_readLocked_47 rfl (by decide) ?_
    refine aw_icmp_eq (q := 51) (t := 66) F dM_readLocked_48 rfl (by decide) (fun c48 => ?_) (fun c48 => by exact absurd HO.1 c48)
    refine aw_vret F C dM_readLocked_66 rfl (Nat.le_refl _) (Nat.le_refl _) ?_
    exact HK
theorem wM_readKey (hM : moS σ l) (hl : laS σ e) (h4p : sP σ 53 4 = e) (he : 64 ≤ e) (h : GS V e n B r t) (h4 : t.1 ≠ 4) (hK : MrK K V σ e n B (if r.2.1 = false then .inr (6, t.2.1) else pKey B n r t)) : Wp G 8 mM_readKey [vR 53] (V, σ) 0 0 K := by
  refine wp_intro mM_readKey_i.1 [some (vR 53), none] rfl rfl (Nat.le_of_ble_eq_true rfl) ?_
  intro X hG F C
  have hm := C.rm
  refine aw_aload_0 (q := 1) F dM_readKey_0 rfl ?_
  refine aw_iconst (q := 2) F dM_readKey_1 rfl (by decide) ?_
  refine aw_iconst (q := 3) F dM_readKey_2 rfl (by decide) ?_
  refine av_callV2 (q := 6) (ci := 9) F hm mM_lineBegins_i mM_lineBegins_n lM_214 dM_readKey_3 rfl rfl rfl (by first | exact hM.o | exact hl.o | exact hl.a6 | exact hl.a7 | exact hl.a8 | exact hl.a2) (by decide) (Nat.le_refl _) (Nat.le_refl _) (Nat.le_of_ble_eq_true rfl) (wM_lineBegins hM hl h4p he h h4 (fun a3 b3 V1 f3 g3 => ?_) (fun q => absurd q (by decide)) (fun a3 b3 VO HO HQ => ?_))
  · rw [if_neg (by rw [b3]; decide)] at hK
    unfold pKey at hK
    have e3 : V1 e 5 = tKy r.1 := g3.2.1.1.2.2.2.2.2.1
    have hlk : tKy r.1 < 4 := Nat.lt_of_lt_of_le h.2.2.2.1.1.2.2.2.2.1 (show 2 ^ tPn r.1 ≤ 2 ^ 2 from Nat.pow_le_pow_right (by decide) h.2.2.2.1.1.2.2.1)
    refine aw_aload_0 (q := 7) F dM_readKey_6 rfl ?_
    refine aw_iconst (q := 8) F dM_readKey_7 rfl (by decide) ?_
    refine av_callV1 (q := 11) (ci := 9) F hm mM_knownOne_i mM_knownOne_n lM_236 dM_readKey_8 rfl rfl rfl (by first | exact hM.o | exact hl.o | exact hl.a6 | exact hl.a7 | exact hl.a8 | exact hl.a2) (by decide) (Nat.le_refl _) (Nat.le_refl _) (Nat.le_of_ble_eq_true rfl) (wM_knownOne hM hl h4p he g3 (fun i8 a8 b8 d8 u8 => ?_) (fun a8 VO HO HQ => ?_))
    · obtain ⟨hi4, hpo⟩ := kP a8 b8 d8 u8 (fun p => if (tKy r.1).testBit p then .inr (3, (nxT B n t).2.1) else .inl ((uKy r.1 p, r.2), nxT B n (nxT B n t)))
      rw [hpo] at hK
      rw [if_neg hi4]
      refine aw_istore_1 (q := 12) F dM_readKey_11 rfl trivial ?_
      refine aw_aload_0 (q := 13) F dM_readKey_12 rfl ?_
      refine av_geti (q := 16) F fM_78 dM_readKey_13 rfl rfl (by first | exact hM.o | exact hl.o | exact hl.a6 | exact hl.a7 | exact hl.a8 | exact hl.a2) ?_
      refine aw_iconst (q := 17) F dM_readKey_16 rfl (by decide) ?_
      refine aw_icmp_eq (q := 20) (t := 39) F dM_readKey_17 rfl (by decide) (fun c17 => by exact absurd c17 g3.1.1.2) (fun c17 => ?_)
      refine aw_aload_0 (q := 21) F dM_readKey_20 rfl ?_
      refine av_getaE (q := 24) F fM_147 dM_readKey_21 rfl rfl (by first | exact hM.o | exact hl.o | exact hl.a6 | exact hl.a7 | exact hl.a8 | exact hl.a2) h4p ?_
      refine av_geti (q := 27) F fM_265 dM_readKey_24 rfl rfl (by first | exact hM.o | exact hl.o | exact hl.a6 | exact hl.a7 | exact hl.a8 | exact hl.a2) ?_
      rw [e3]
      refine aw_iload_1 (q := 28) F dM_readKey_27 rfl ?_
      refine av_callS2 (q := 31) F hm mM_bit_i mM_bit_n lM_241 dM_readKey_28 rfl (by decide) (Nat.le_refl _) (Nat.le_refl _) (Nat.le_of_ble_eq_true rfl) (wM_bit (m := tKy r.1) (d := i8 - 4) rfl (by omega) rfl (by omega) (fun c28 => ?_) (fun c28 => ?_))
      · refine aw_if_eq (q := 34) (t := 39) F dM_readKey_31 rfl (by decide) (fun c31 => absurd c31 (by decide)) (fun c31 => ?_)
        refine aw_aload_0 (q := 35) F dM_readKey_34 rfl ?_
        refine aw_iconst (q := 36) F dM_readKey_35 rfl (by decide) ?_
        refine av_callV1 (q := 39) (ci := 9) F hm mM_flaw_i mM_flaw_n lM_143 dM_readKey_36 rfl rfl rfl (by first | exact hM.o | exact hl.o | exact hl.a6 | exact hl.a7 | exact hl.a8 | exact hl.a2) (by decide) (Nat.le_refl _) (Nat.le_refl _) (Nat.le_of_ble_eq_true rfl) (g3.ov hM (k := 3) rfl (by decide) (fun VO HO HQ => ?_))
        first | (have HK : K none (VO, σ) := hK.2 VO _ _ (if_pos c28) (f3.qf.tr HQ).pf HO) | skip
        refine aw_aload_0 (q := 40) F dM_readKey_39 rfl ?_
        refine av_callV0 (q := 43) (ci := 9) F hm mM_goesOn_i mM_goesOn_n lM_114 dM_readKey_40 rfl rfl rfl (by first | exact hM.o | exact hl.o | exact hl.a6 | exact hl.a7 | exact hl.a8 | exact hl.a2) (by decide) (Nat.le_refl _) (Nat.le_refl _) (Nat.le_of_ble_eq_true rfl) (wM_goesOnO hM HO.1 ?_)
        refine aw_aload_0 (q := 44) F dM_readKey_43 rfl ?_
        refine av_geti (q := 47) F fM_78 dM_readKey_44 rfl rfl (by first | exact hM.o | exact hl.o | exact hl.a6 | exact hl.a7 | exact hl.a8 | exact hl.a2) ?_
        refine aw_iconst (q := 48) F dM_readKey_47 rfl (by decide) ?_
        refine aw_icmp_eq (q := 51) (t := 66) F dM_readKey_48 rfl (by decide) (fun c48 => ?_) (fun c48 => by exact absurd HO.1 c48)
        refine aw_vret F C dM_readKey_66 rfl (Nat.le_refl _) (Nat.le_refl _) ?_
        exact HK
      · refine aw_if_eq (q := 34) (t := 39) F dM_readKey_31 rfl (by decide) (fun c31 => ?_) (fun c31 => absurd c31 (by decide))
        refine aw_aload_0 (q := 40) F dM_readKey_39 rfl ?_
        refine av_callV0 (q := 43) (ci := 9) F hm mM_goesOn_i mM_goesOn_n lM_114 dM_readKey_40 rfl rfl rfl (by first | exact hM.o | exact hl.o | exact hl.a6 | exact hl.a7 | exact hl.a8 | exact hl.a2) (by decide) (Nat.le_refl _) (Nat.le_refl _) (Nat.le_of_ble_eq_true rfl) (g3.go hM he (nm_ne4 b8) (fun V4 f40 g40 => ?_))
        refine aw_aload_0 (q := 44) F dM_readKey_43 rfl ?_
        refine av_geti (q := 47) F fM_78 dM_readKey_44 rfl rfl (by first | exact hM.o | exact hl.o | exact hl.a6 | exact hl.a7 | exact hl.a8 | exact hl.a2) ?_
        refine aw_iconst (q := 48) F dM_readKey_47 rfl (by decide) ?_
        refine aw_icmp_eq (q := 51) (t := 66) F dM_readKey_48 rfl (by decide) (fun c48 => by exact absurd c48 g40.1.1.2) (fun c48 => ?_)
        refine aw_aload_0 (q := 52) F dM_readKey_51 rfl ?_
        refine av_getaE (q := 55) F fM_147 dM_readKey_52 rfl rfl (by first | exact hM.o | exact hl.o | exact hl.a6 | exact hl.a7 | exact hl.a8 | exact hl.a2) h4p ?_
        refine aw_dup (q := 56) F dM_readKey_55 rfl trivial ?_
        refine av_geti (q := 59) F fM_265 dM_readKey_56 rfl rfl (by first | exact hM.o | exact hl.o | exact hl.a6 | exact hl.a7 | exact hl.a8 | exact hl.a2) ?_
        rw [show V4 e 5 = tKy r.1 from g40.2.1.1.2.2.2.2.2.1]
        refine aw_iconst (q := 60) F dM_readKey_59 rfl (by decide) ?_
        refine aw_iload_1 (q := 61) F dM_readKey_60 rfl ?_
        refine aw_ishl (q := 62) F dM_readKey_61 rfl ?_
        rw [shl1 (by omega) (by omega), Int.toNat_natCast]
        refine aw_ior (q := 63) F dM_readKey_62 rfl ?_
        rw [zor_n (by have := Nat.or_lt_two_pow (n := 2) hlk (Nat.pow_lt_pow_right (by decide) (show i8 - 4 < 2 by omega)); omega)]
        refine av_puti (q := 66) F fM_265 dM_readKey_63 rfl rfl (wr_8_5 _) (by first | exact hM.o | exact hl.o | exact hl.a6 | exact hl.a7 | exact hl.a8 | exact hl.a2) ?_
        refine aw_vret F C dM_readKey_66 rfl (Nat.le_refl _) (Nat.le_refl _) ?_
        obtain ⟨x0, x1, x2, x3, x4, x5, x6, x7, x8, x14⟩ := g40.2.1.1
        have ek : ∀ j, j ≠ 5 → up2 V4 e 5 ((tKy r.1 ||| 2 ^ (i8 - 4) : Nat) : Int) e j = V4 e j := fun j hj => up2_nek _ _ hj
        refine hK.1 _ (uKy r.1 (i8 - 4), r.2) _ (if_neg (by rw [c28]; exact Bool.false_ne_true)) (((f3.qf.tr f40).pf).la (by omega) ⟨by omega, by omega⟩) (g40.w (up2_nea _ _ (by omega)) (up2_nea _ _ (by omega)) (g40.2.1.f ?_ g40.2.1.2.1 g40.2.1.2.2))
        exact ⟨(ek 0 (by decide)).trans x0, (ek 1 (by decide)).trans x1, (ek 2 (by decide)).trans x2, (ek 3 (by decide)).trans x3, (ek 4 (by decide)).trans x4, up2_same _ _ _ _, (ek 6 (by decide)).trans x6, (ek 7 (by decide)).trans x7, (ek 8 (by decide)).trans x8, (ek 14 (by decide)).trans x14⟩
    · first | (have HK : K none (VO, σ) := hK.2 VO _ _ (kP0 a8 _) (f3.qf.tr HQ).pf HO) | skip
      refine aw_istore_1 (q := 12) F dM_readKey_11 rfl trivial ?_
      refine aw_aload_0 (q := 13) F dM_readKey_12 rfl ?_
      refine av_geti (q := 16) F fM_78 dM_readKey_13 rfl rfl (by first | exact hM.o | exact hl.o | exact hl.a6 | exact hl.a7 | exact hl.a8 | exact hl.a2) ?_
      refine aw_iconst (q := 17) F dM_readKey_16 rfl (by decide) ?_
      refine aw_icmp_eq (q := 20) (t := 39) F dM_readKey_17 rfl (by decide) (fun c17 => ?_) (fun c17 => by exact absurd HO.1 c17)
      refine aw_aload_0 (q := 40) F dM_readKey_39 rfl ?_
      refine av_callV0 (q := 43) (ci := 9) F hm mM_goesOn_i mM_goesOn_n lM_114 dM_readKey_40 rfl rfl rfl (by first | exact hM.o | exact hl.o | exact hl.a6 | exact hl.a7 | exact hl.a8 | exact hl.a2) (by decide) (Nat.le_refl _) (Nat.le_refl _) (Nat.le_of_ble_eq_true rfl) (wM_goesOnO hM HO.1 ?_)
      refine aw_aload_0 (q := 44) F dM_readKey_43 rfl ?_
      refine av_geti (q := 47) F fM_78 dM_readKey_44 rfl rfl (by first | exact hM.o | exact hl.o | exact hl.a6 | exact hl.a7 | exact hl.a8 | exact hl.a2) ?_
      refine aw_iconst (q := 48) F dM_readKey_47 rfl (by decide) ?_
      refine aw_icmp_eq (q := 51) (t := 66) F dM_readKey_48 rfl (by decide) (fun c48 => ?_) (fun c48 => by exact absurd HO.1 c48)
      refine aw_vret F C dM_readKey_66 rfl (Nat.le_refl _) (Nat.le_refl _) ?_
      exact HK
  · have HK : K none (VO, σ) := hK.2 VO _ _ (if_pos b3) HQ.pf HO
    have H8 := h.n8 HQ he
    refine aw_aload_0 (q := 7) F dM_readKey_6 rfl ?_
    refine aw_iconst (q := 8) F dM_readKey_7 rfl (by decide) ?_
    refine av_callV1 (q := 11) (ci := 9) F hm mM_knownOne_i mM_knownOne_n lM_236 dM_readKey_8 rfl rfl rfl (by first | exact hM.o | exact hl.o | exact hl.a6 | exact hl.a7 | exact hl.a8 | exact hl.a2) (by decide) (Nat.le_refl _) (Nat.le_refl _) (Nat.le_of_ble_eq_true rfl) (wM_knownOneO hM hl h4p H8 HO.1 ?_)
    first | (have HK : K none (VO, σ) := hK.2 VO _ _ (kP0 a8 _) (f3.qf.tr HQ).pf HO) | skip
    refine aw_istore_1 (q := 12) F dM_readKey_11 rfl trivial ?_
    refine aw_aload_0 (q := 13) F dM_readKey_12 rfl ?_
    refine av_geti (q := 16) F fM_78 dM_readKey_13 rfl rfl (by first | exact hM.o | exact hl.o | exact hl.a6 | exact hl.a7 | exact hl.a8 | exact hl.a2) ?_
    refine aw_iconst (q := 17) F dM_readKey_16 rfl (by decide) ?_
    refine aw_icmp_eq (q := 20) (t := 39) F dM_readKey_17 rfl (by decide) (fun c17 => ?_) (fun c17 => by exact absurd HO.1 c17)
    refine aw_aload_0 (q := 40) F dM_readKey_39 rfl ?_
    refine av_callV0 (q := 43) (ci := 9) F hm mM_goesOn_i mM_goesOn_n lM_114 dM_readKey_40 rfl rfl rfl (by first | exact hM.o | exact hl.o | exact hl.a6 | exact hl.a7 | exact hl.a8 | exact hl.a2) (by decide) (Nat.le_refl _) (Nat.le_refl _) (Nat.le_of_ble_eq_true rfl) (wM_goesOnO hM HO.1 ?_)
    refine aw_aload_0 (q := 44) F dM_readKey_43 rfl ?_
    refine av_geti (q := 47) F fM_78 dM_readKey_44 rfl rfl (by first | exact hM.o | exact hl.o | exact hl.a6 | exact hl.a7 | exact hl.a8 | exact hl.a2) ?_
    refine aw_iconst (q := 48) F dM_readKey_47 rfl (by decide) ?_
    refine aw_icmp_eq (q := 51) (t := 66) F dM_readKey_48 rfl (by decide) (fun c48 => ?_) (fun c48 => by exact absurd HO.1 c48)
    refine aw_vret F C dM_readKey_66 rfl (Nat.le_refl _) (Nat.le_refl _) ?_
    exact HK
theorem wM_readLast (hM : moS σ l) (hl : laS σ e) (h4p : sP σ 53 4 = e) (he : 64 ≤ e) (h : GS V e n B r t) (h4 : t.1 ≠ 4) (hK : MrK K V σ e n B (if r.2.1 = false then .inr (6, t.2.1) else pLast B n r t)) : Wp G 8 mM_readLast [vR 53] (V, σ) 0 0 K := by
  have e7 : V e 7 = (if r.2.2.1 then (tLa r.1 : Int) else -1) := h.2.1.1.2.2.2.2.2.2.2.1
  have et : V e 7 ≠ -1 → r.2.2.1 = true := fun q => by cases hr : r.2.2.1; rw [hr] at e7; exact absurd e7 q; rfl
  have ef : V e 7 = -1 → r.2.2.1 = false := fun q => by cases hr : r.2.2.1; rfl; rw [hr, if_pos rfl] at e7; omega
  refine wp_intro mM_readLast_i.1 [some (vR 53), none] rfl rfl (Nat.le_of_ble_eq_true rfl) ?_
  intro X hG F C
  have hm := C.rm
  refine aw_aload_0 (q := 1) F dM_readLast_0 rfl ?_
  refine av_getaE (q := 4) F fM_147 dM_readLast_1 rfl rfl (by first | exact hM.o | exact hl.o | exact hl.a6 | exact hl.a7 | exact hl.a8 | exact hl.a2) h4p ?_
  refine av_geti (q := 7) F fM_245 dM_readLast_4 rfl rfl (by first | exact hM.o | exact hl.o | exact hl.a6 | exact hl.a7 | exact hl.a8 | exact hl.a2) ?_
  refine aw_iconst (q := 8) F dM_readLast_7 rfl (by decide) ?_
  refine aw_icmp_eq (q := 11) (t := 16) F dM_readLast_8 rfl (by decide) (fun c8 => ?_) (fun c8 => ?_)
  · refine aw_aload_0 (q := 17) F dM_readLast_16 rfl ?_
    refine aw_iconst (q := 18) F dM_readLast_17 rfl (by decide) ?_
    refine aw_iconst (q := 19) F dM_readLast_18 rfl (by decide) ?_
    refine av_callV2 (q := 22) (ci := 9) F hm mM_lineBegins_i mM_lineBegins_n lM_214 dM_readLast_19 rfl rfl rfl (by first | exact hM.o | exact hl.o | exact hl.a6 | exact hl.a7 | exact hl.a8 | exact hl.a2) (by decide) (Nat.le_refl _) (Nat.le_refl _) (Nat.le_of_ble_eq_true rfl) (wM_lineBegins hM hl h4p he h h4 (fun a19 b19 V1 f19 g19 => ?_) (fun q => absurd q (by decide)) (fun a19 b19 VO HO HQ => ?_))
    · rw [if_neg (by rw [b19]; decide)] at hK
      unfold pLast at hK
      rw [ef c8, if_neg Bool.false_ne_true] at hK
      refine aw_aload_0 (q := 23) F dM_readLast_22 rfl ?_
      refine aw_iconst (q := 24) F dM_readLast_23 rfl (by decide) ?_
      refine av_callV1 (q := 27) (ci := 9) F hm mM_knownOne_i mM_knownOne_n lM_236 dM_readLast_24 rfl rfl rfl (by first | exact hM.o | exact hl.o | exact hl.a6 | exact hl.a7 | exact hl.a8 | exact hl.a2) (by decide) (Nat.le_refl _) (Nat.le_refl _) (Nat.le_of_ble_eq_true rfl) (wM_knownOne hM hl h4p he g19 (fun i24 a24 b24 d24 u24 => ?_) (fun a24 VO HO HQ => ?_))
      · obtain ⟨hi4, hpo⟩ := kD a24 b24 d24 u24 (fun d => if tLd r.1 d ≠ 0 then .inr (7, (nxT B n t).2.1) else .inl ((uLa r.1 d, r.2.1, true, r.2.2.2), nxT B n (nxT B n t)))
        rw [hpo] at hK
        rw [if_pos hi4]
        have eld : V1 (e + 2) ((i24 : Nat) : Int).toNat = tLd r.1 i24 := by rw [Int.toNat_natCast]; exact (g19.2.1.2.1.1 i24 hi4).2
        refine aw_istore_1 (q := 28) F dM_readLast_27 rfl trivial ?_
        refine aw_aload_0 (q := 29) F dM_readLast_28 rfl ?_
        refine av_geti (q := 32) F fM_78 dM_readLast_29 rfl rfl (by first | exact hM.o | exact hl.o | exact hl.a6 | exact hl.a7 | exact hl.a8 | exact hl.a2) ?_
        refine aw_iconst (q := 33) F dM_readLast_32 rfl (by decide) ?_
        refine aw_icmp_eq (q := 36) (t := 54) F dM_readLast_33 rfl (by decide) (fun c33 => by exact absurd c33 g19.1.1.2) (fun c33 => ?_)
        refine aw_aload_0 (q := 37) F dM_readLast_36 rfl ?_
        refine av_getaE (q := 40) F fM_147 dM_readLast_37 rfl rfl (by first | exact hM.o | exact hl.o | exact hl.a6 | exact hl.a7 | exact hl.a8 | exact hl.a2) h4p ?_
        refine av_getaE (q := 43) F fM_247 dM_readLast_40 rfl rfl (by first | exact hM.o | exact hl.o | exact hl.a6 | exact hl.a7 | exact hl.a8 | exact hl.a2) hl.p10 ?_
        refine aw_iload_1 (q := 44) F dM_readLast_43 rfl ?_
        refine av_iaload (q := 45) F dM_readLast_44 rfl (by first | exact hM.o | exact hl.o | exact hl.a6 | exact hl.a7 | exact hl.a8 | exact hl.a2) (by omega) (by omega) ?_
        rw [eld]
        refine aw_if_le (q := 48) (t := 54) F dM_readLast_45 rfl (by decide) (fun c45 => ?_) (fun c45 => ?_)
        · refine aw_aload_0 (q := 55) F dM_readLast_54 rfl ?_
          refine av_callV0 (q := 58) (ci := 9) F hm mM_goesOn_i mM_goesOn_n lM_114 dM_readLast_55 rfl rfl rfl (by first | exact hM.o | exact hl.o | exact hl.a6 | exact hl.a7 | exact hl.a8 | exact hl.a2) (by decide) (Nat.le_refl _) (Nat.le_refl _) (Nat.le_of_ble_eq_true rfl) (g19.go hM he (nm_ne4 b24) (fun V4 f55 g55 => ?_))
          refine aw_aload_0 (q := 59) F dM_readLast_58 rfl ?_
          refine av_geti (q := 62) F fM_78 dM_readLast_59 rfl rfl (by first | exact hM.o | exact hl.o | exact hl.a6 | exact hl.a7 | exact hl.a8 | exact hl.a2) ?_
          refine aw_iconst (q := 63) F dM_readLast_62 rfl (by decide) ?_
          refine aw_icmp_eq (q := 66) (t := 74) F dM_readLast_63 rfl (by decide) (fun c63 => by exact absurd c63 g55.1.1.2) (fun c63 => ?_)
          refine aw_aload_0 (q := 67) F dM_readLast_66 rfl ?_
          refine av_getaE (q := 70) F fM_147 dM_readLast_67 rfl rfl (by first | exact hM.o | exact hl.o | exact hl.a6 | exact hl.a7 | exact hl.a8 | exact hl.a2) h4p ?_
          refine aw_iload_1 (q := 71) F dM_readLast_70 rfl ?_
          refine av_puti (q := 74) F fM_245 dM_readLast_71 rfl rfl (wr_8_7 _) (by first | exact hM.o | exact hl.o | exact hl.a6 | exact hl.a7 | exact hl.a8 | exact hl.a2) ?_
          refine aw_vret F C dM_readLast_74 rfl (Nat.le_refl _) (Nat.le_refl _) ?_
          obtain ⟨x0, x1, x2, x3, x4, x5, x6, x7, x8, x14⟩ := g55.2.1.1
          have ek : ∀ j, j ≠ 7 → up2 V4 e 7 ((i24 : Nat) : Int) e j = V4 e j := fun j hj => up2_nek _ _ hj
          refine hK.1 _ (uLa r.1 i24, r.2.1, true, r.2.2.2) _ (if_neg (by omega)) (((f19.qf.tr f55).pf).la (by omega) ⟨by omega, by omega⟩) (g55.w (up2_nea _ _ (by omega)) (up2_nea _ _ (by omega)) (g55.2.1.f ?_ g55.2.1.2.1 g55.2.1.2.2))
          exact ⟨(ek 0 (by decide)).trans x0, (ek 1 (by decide)).trans x1, (ek 2 (by decide)).trans x2, (ek 3 (by decide)).trans x3, (ek 4 (by decide)).trans x4, (ek 5 (by decide)).trans x5, (ek 6 (by decide)).trans x6, up2_same _ _ _ _, (ek 8 (by decide)).trans x8, (ek 14 (by decide)).trans x14⟩
        · refine aw_aload_0 (q := 49) F dM_readLast_48 rfl ?_
          refine aw_bipush (q := 51) F dM_readLast_49 rfl (by decide) ?_
          refine av_callV1 (q := 54) (ci := 9) F hm mM_flaw_i mM_flaw_n lM_143 dM_readLast_51 rfl rfl rfl (by first | exact hM.o | exact hl.o | exact hl.a6 | exact hl.a7 | exact hl.a8 | exact hl.a2) (by decide) (Nat.le_refl _) (Nat.le_refl _) (Nat.le_of_ble_eq_true rfl) (g19.ov hM (k := 7) rfl (by decide) (fun VO HO HQ => ?_))
          first | (have HK : K none (VO, σ) := hK.2 VO _ _ (if_pos (by omega)) (f19.qf.tr HQ).pf HO) | skip
          refine aw_aload_0 (q := 55) F dM_readLast_54 rfl ?_
          refine av_callV0 (q := 58) (ci := 9) F hm mM_goesOn_i mM_goesOn_n lM_114 dM_readLast_55 rfl rfl rfl (by first | exact hM.o | exact hl.o | exact hl.a6 | exact hl.a7 | exact hl.a8 | exact hl.a2) (by decide) (Nat.le_refl _) (Nat.le_refl _) (Nat.le_of_ble_eq_true rfl) (wM_goesOnO hM HO.1 ?_)
          refine aw_aload_0 (q := 59) F dM_readLast_58 rfl ?_
          refine av_geti (q := 62) F fM_78 dM_readLast_59 rfl rfl (by first | exact hM.o | exact hl.o | exact hl.a6 | exact hl.a7 | exact hl.a8 | exact hl.a2) ?_
          refine aw_iconst (q := 63) F dM_readLast_62 rfl (by decide) ?_
          refine aw_icmp_eq (q := 66) (t := 74) F dM_readLast_63 rfl (by decide) (fun c63 => ?_) (fun c63 => by exact absurd HO.1 c63)
          refine aw_vret F C dM_readLast_74 rfl (Nat.le_refl _) (Nat.le_refl _) ?_
          exact HK
      · first | (have HK : K none (VO, σ) := hK.2 VO _ _ (kD0 a24 _) (f19.qf.tr HQ).pf HO) | skip
        refine aw_istore_1 (q := 28) F dM_readLast_27 rfl trivial ?_
        refine aw_aload_0 (q := 29) F dM_readLast_28 rfl ?_
        refine av_geti (q := 32) F fM_78 dM_readLast_29 rfl rfl (by first | exact hM.o | exact hl.o | exact hl.a6 | exact hl.a7 | exact hl.a8 | exact hl.a2) ?_
        refine aw_iconst (q := 33) F dM_readLast_32 rfl (by decide) ?_
        refine aw_icmp_eq (q := 36) (t := 54) F dM_readLast_33 rfl (by decide) (fun c33 => ?_) (fun c33 => by exact absurd HO.1 c33)
        refine aw_aload_0 (q := 55) F dM_readLast_54 rfl ?_
        refine av_callV0 (q := 58) (ci := 9) F hm mM_goesOn_i mM_goesOn_n lM_114 dM_readLast_55 rfl rfl rfl (by first | exact hM.o | exact hl.o | exact hl.a6 | exact hl.a7 | exact hl.a8 | exact hl.a2) (by decide) (Nat.le_refl _) (Nat.le_refl _) (Nat.le_of_ble_eq_true rfl) (wM_goesOnO hM HO.1 ?_)
        refine aw_aload_0 (q := 59) F dM_readLast_58 rfl ?_
        refine av_geti (q := 62) F fM_78 dM_readLast_59 rfl rfl (by first | exact hM.o | exact hl.o | exact hl.a6 | exact hl.a7 | exact hl.a8 | exact hl.a2) ?_
        refine aw_iconst (q := 63) F dM_readLast_62 rfl (by decide) ?_
        refine aw_icmp_eq (q := 66) (t := 74) F dM_readLast_63 rfl (by decide) (fun c63 => ?_) (fun c63 => by exact absurd HO.1 c63)
        refine aw_vret F C dM_readLast_74 rfl (Nat.le_refl _) (Nat.le_refl _) ?_
        exact HK
    · first | (have HK : K none (VO, σ) := hK.2 VO _ _ (if_pos b19) HQ.pf HO; have H8 := h.n8 HQ he) | skip
      refine aw_aload_0 (q := 23) F dM_readLast_22 rfl ?_
      refine aw_iconst (q := 24) F dM_readLast_23 rfl (by decide) ?_
      refine av_callV1 (q := 27) (ci := 9) F hm mM_knownOne_i mM_knownOne_n lM_236 dM_readLast_24 rfl rfl rfl (by first | exact hM.o | exact hl.o | exact hl.a6 | exact hl.a7 | exact hl.a8 | exact hl.a2) (by decide) (Nat.le_refl _) (Nat.le_refl _) (Nat.le_of_ble_eq_true rfl) (wM_knownOneO hM hl h4p H8 HO.1 ?_)
      first | (have HK : K none (VO, σ) := hK.2 VO _ _ (kD0 a24 _) (f19.qf.tr HQ).pf HO) | skip
      refine aw_istore_1 (q := 28) F dM_readLast_27 rfl trivial ?_
      refine aw_aload_0 (q := 29) F dM_readLast_28 rfl ?_
      refine av_geti (q := 32) F fM_78 dM_readLast_29 rfl rfl (by first | exact hM.o | exact hl.o | exact hl.a6 | exact hl.a7 | exact hl.a8 | exact hl.a2) ?_
      refine aw_iconst (q := 33) F dM_readLast_32 rfl (by decide) ?_
      refine aw_icmp_eq (q := 36) (t := 54) F dM_readLast_33 rfl (by decide) (fun c33 => ?_) (fun c33 => by exact absurd HO.1 c33)
      refine aw_aload_0 (q := 55) F dM_readLast_54 rfl ?_
      refine av_callV0 (q := 58) (ci := 9) F hm mM_goesOn_i mM_goesOn_n lM_114 dM_readLast_55 rfl rfl rfl (by first | exact hM.o | exact hl.o | exact hl.a6 | exact hl.a7 | exact hl.a8 | exact hl.a2) (by decide) (Nat.le_refl _) (Nat.le_refl _) (Nat.le_of_ble_eq_true rfl) (wM_goesOnO hM HO.1 ?_)
      refine aw_aload_0 (q := 59) F dM_readLast_58 rfl ?_
      refine av_geti (q := 62) F fM_78 dM_readLast_59 rfl rfl (by first | exact hM.o | exact hl.o | exact hl.a6 | exact hl.a7 | exact hl.a8 | exact hl.a2) ?_
      refine aw_iconst (q := 63) F dM_readLast_62 rfl (by decide) ?_
      refine aw_icmp_eq (q := 66) (t := 74) F dM_readLast_63 rfl (by decide) (fun c63 => ?_) (fun c63 => by exact absurd HO.1 c63)
      refine aw_vret F C dM_readLast_74 rfl (Nat.le_refl _) (Nat.le_refl _) ?_
      exact HK
  · refine aw_aload_0 (q := 12) F dM_readLast_11 rfl ?_
    refine aw_iconst (q := 13) F dM_readLast_12 rfl (by decide) ?_
    refine av_callV1 (q := 16) (ci := 9) F hm mM_flaw_i mM_flaw_n lM_143 dM_readLast_13 rfl rfl rfl (by first | exact hM.o | exact hl.o | exact hl.a6 | exact hl.a7 | exact hl.a8 | exact hl.a2) (by decide) (Nat.le_refl _) (Nat.le_refl _) (Nat.le_of_ble_eq_true rfl) (h.ov hM (k := 3) rfl (by decide) (fun VO HO HQ => ?_))
    have hb1 : r.2.1 = true := by
      cases hq : r.2.1
      · have := (h.2.2.2.2.1.1 hq).2.2; rw [et c8] at this; cases this
      · rfl
    have HK : K none (VO, σ) := hK.2 VO _ _ ((if_neg (by rw [hb1]; decide)).trans (by unfold pLast; rw [et c8]; rfl)) HQ.pf HO
    have H8 := h.n8 HQ he
    refine aw_aload_0 (q := 17) F dM_readLast_16 rfl ?_
    refine aw_iconst (q := 18) F dM_readLast_17 rfl (by decide) ?_
    refine aw_iconst (q := 19) F dM_readLast_18 rfl (by decide) ?_
    refine av_callV2 (q := 22) (ci := 9) F hm mM_lineBegins_i mM_lineBegins_n lM_214 dM_readLast_19 rfl rfl rfl (by first | exact hM.o | exact hl.o | exact hl.a6 | exact hl.a7 | exact hl.a8 | exact hl.a2) (by decide) (Nat.le_refl _) (Nat.le_refl _) (Nat.le_of_ble_eq_true rfl) (wM_lineBeginsO hM hl h4p HO.1 ?_)
    first | (have HK : K none (VO, σ) := hK.2 VO _ _ (if_pos b19) HQ.pf HO; have H8 := h.n8 HQ he) | skip
    refine aw_aload_0 (q := 23) F dM_readLast_22 rfl ?_
    refine aw_iconst (q := 24) F dM_readLast_23 rfl (by decide) ?_
    refine av_callV1 (q := 27) (ci := 9) F hm mM_knownOne_i mM_knownOne_n lM_236 dM_readLast_24 rfl rfl rfl (by first | exact hM.o | exact hl.o | exact hl.a6 | exact hl.a7 | exact hl.a8 | exact hl.a2) (by decide) (Nat.le_refl _) (Nat.le_refl _) (Nat.le_of_ble_eq_true rfl) (wM_knownOneO hM hl h4p H8 HO.1 ?_)
    first | (have HK : K none (VO, σ) := hK.2 VO _ _ (kD0 a24 _) (f19.qf.tr HQ).pf HO) | skip
    refine aw_istore_1 (q := 28) F dM_readLast_27 rfl trivial ?_
    refine aw_aload_0 (q := 29) F dM_readLast_28 rfl ?_
    refine av_geti (q := 32) F fM_78 dM_readLast_29 rfl rfl (by first | exact hM.o | exact hl.o | exact hl.a6 | exact hl.a7 | exact hl.a8 | exact hl.a2) ?_
    refine aw_iconst (q := 33) F dM_readLast_32 rfl (by decide) ?_
    refine aw_icmp_eq (q := 36) (t := 54) F dM_readLast_33 rfl (by decide) (fun c33 => ?_) (fun c33 => by exact absurd HO.1 c33)
    refine aw_aload_0 (q := 55) F dM_readLast_54 rfl ?_
    refine av_callV0 (q := 58) (ci := 9) F hm mM_goesOn_i mM_goesOn_n lM_114 dM_readLast_55 rfl rfl rfl (by first | exact hM.o | exact hl.o | exact hl.a6 | exact hl.a7 | exact hl.a8 | exact hl.a2) (by decide) (Nat.le_refl _) (Nat.le_refl _) (Nat.le_of_ble_eq_true rfl) (wM_goesOnO hM HO.1 ?_)
    refine aw_aload_0 (q := 59) F dM_readLast_58 rfl ?_
    refine av_geti (q := 62) F fM_78 dM_readLast_59 rfl rfl (by first | exact hM.o | exact hl.o | exact hl.a6 | exact hl.a7 | exact hl.a8 | exact hl.a2) ?_
    refine aw_iconst (q := 63) F dM_readLast_62 rfl (by decide) ?_
    refine aw_icmp_eq (q := 66) (t := 74) F dM_readLast_63 rfl (by decide) (fun c63 => ?_) (fun c63 => by exact absurd HO.1 c63)
    refine aw_vret F C dM_readLast_74 rfl (Nat.le_refl _) (Nat.le_refl _) ?_
    exact HK
end Mod43
