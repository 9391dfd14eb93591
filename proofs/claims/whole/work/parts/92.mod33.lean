section Mod33
variable {G : GE} {V V' V1 V2 : Nat → Nat → Int} {σ : Shp} {K : Option AV → Mem → Prop} {l : Nat} {c : Cfg} {n : Nat} {S : PS} {T : TL}
theorem gC_0 {P i : Nat} (hi : i < spc c) (hc : okC c) : (P.testBit (ivN c i % wB c (pN c)) = true → gC c P 0 i = 1 ∧ ∀ b, b < 4 → gB c P 0 b i = if b = lst c (ivN c i) then 1 else 0) ∧ (P.testBit (ivN c i % wB c (pN c)) = false → gC c P 0 i = 0 ∧ ∀ b, gB c P 0 b i = 0) := by
  have h4 : dN c ≤ 4 := hc.1
  have hl := lst_lt (ivN_sp hi).1
  unfold gC gB
  constructor
  · intro h
    have e : vlN c P 0 (ivN c i) = 16 + 2 ^ lst c (ivN c i) := by rw [vlN, if_pos h]
    obtain ⟨t1, t2⟩ := lb_t _ (show lst c (ivN c i) < 4 by omega)
    refine ⟨by show vlN c P 0 (ivN c i) / 16 = 1; rw [e, t1], fun b hb => ?_⟩
    show (if (vlN c P 0 (ivN c i)).testBit b then 1 else 0) = _
    rw [e, t2 b hb]
    by_cases q : b = lst c (ivN c i)
    · rw [if_pos q, if_pos (beq_iff_eq.mpr q)]
    · rw [if_neg q, if_neg (fun z => q (beq_iff_eq.mp z))]
  · intro h
    have e : vlN c P 0 (ivN c i) = 0 := by rw [vlN, if_neg (by rw [h]; exact Bool.false_ne_true)]
    refine ⟨by show vlN c P 0 (ivN c i) / 16 = 0; rw [e], fun b => ?_⟩
    show (if (vlN c P 0 (ivN c i)).testBit b then 1 else 0) = 0
    rw [e, Nat.zero_testBit, if_neg Bool.false_ne_true]
theorem wM_rowsNow {m k : Nat} (hk6 : k ≤ 6) (hm0 : m < spc (c0T T)) (hM : moS σ l) (hl : laS σ l) (h64 : 64 ≤ l) (hC : LC V l (c0T T)) (hL : LV V l T) (hA : AR (V 56) (c0T T) n) (hc : okC (c0T T)) (hR : RI V (c0T T) (siP T) m k) (hK : ∀ V' n', MF V V' → V' 53 26 = V 53 26 → V' 59 = V 59 → AR (V' 56) (c0T T) n' → V' 53 27 = (vlN (c0T T) (siP T) k m % 16 : Nat) → K (some (vI (vlN (c0T T) (siP T) k m / 16 : Nat))) (V', σ)) : Wp G 2 mM_rowsNow [vR 53] (V, σ) 0 0 K := by
  have hsp := spc_le hc
  have hd4 : dN (c0T T) ≤ 4 := hc.1
  have hvl := vl_lt hc (siP T) hk6 hm0
  obtain ⟨f, r1, r2, r3, r4⟩ := hR
  have r3 := r3 0
  have r4 := r4 0
  rw [Nat.add_zero] at r3 r4
  have hsi : ∀ n, (siP T).testBit (n % wB (c0T T) (pN (c0T T))) = true ↔ ∀ p, p < pN (c0T T) → plS 2 T p = -2 ∨ (pl (c0T T) n p : Int) = plS 2 T p := fun n => siP_iff (n := n) hc
  refine wp_intro mM_rowsNow_i.1 [some (vR 53), none, none] rfl rfl (Nat.le_of_ble_eq_true rfl) ?_
  intro X hG F C
  have hm := C.rm
  have loop : ∀ (i : Nat), i ≤ spc (c0T T) → ∀ (V1 : Nat → Nat → Int) (w : Int) (y L n1 : Nat), MF V V1 → V1 53 26 = V 53 26 → V1 59 = V 59 → AR (V1 56) (c0T T) n1 → V1 53 27 = L → L < 16 → y + sumN (fun j => f j * gC (c0T T) (siP T) 0 j) i = dot (c0T T) f (gC (c0T T) (siP T) 0) → (∀ b, b < 4 → (L.testBit b = true ↔ ∃ j, (i ≤ j ∧ j < spc (c0T T)) ∧ 0 < f j * gB (c0T T) (siP T) 0 b j)) → w = (i : Int) - 1 → AW X 14 [some (vR 53), some (vI y), some (vI w)] [] (V1, σ) 0 0 := by
    intro i
    induction i with
    | zero =>
      intro hi V1 w y L n1 hF h26 h59 hA1 h27 hL16 hy hLb hw
      have eL : L = vlN (c0T T) (siP T) k m % 16 := by
        refine Nat.eq_of_testBit_eq fun b => ?_
        by_cases hb : b < 4
        · rw [tb_mod16 _ hb, Bool.eq_iff_iff, hLb b hb, ← r4 b hb]
          refine Iff.trans ?_ sumN_pos.symm
          exact ⟨fun ⟨j, j1, j2⟩ => ⟨j, j1.2, j2⟩, fun ⟨j, j1, j2⟩ => ⟨j, ⟨Nat.zero_le _, j1⟩, j2⟩⟩
        · have h16 : 2 ^ 4 ≤ 2 ^ b := Nat.pow_le_pow_right (by decide) (by omega)
          rw [Nat.testBit_lt_two_pow (by omega), Nat.testBit_lt_two_pow (by omega)]
      have ey : y = vlN (c0T T) (siP T) k m / 16 := by rw [← r3, ← hy]; rfl
      clear hLb
      refine aw_iload_2 (q := 15) F dM_rowsNow_14 rfl ?_
      refine aw_if_lt (q := 18) (t := 79) F dM_rowsNow_15 rfl (by decide) (fun c15 => ?_) (fun c15 => by omega)
      refine aw_iload_1 (q := 80) F dM_rowsNow_79 rfl ?_
      refine aw_iret F C dM_rowsNow_80 rfl (Nat.le_refl _) (Nat.le_refl _) ?_
      rw [ey]; exact hK V1 n1 hF h26 h59 hA1 (by rw [h27, eL])
    | succ i ih =>
      intro hi V1 w y L n1 hF h26 h59 hA1 h27 hL16 hy hLb hw
      have hi' : i < spc (c0T T) := by omega
      have e59 : ∀ V2 : Nat → Nat → Int, V2 59 = V1 59 → V2 59 w.toNat = f i := fun V2 e => by rw [e, h59, show w.toNat = i by omega]; exact r1 i hi'
      obtain ⟨iv1, iv2⟩ := ivN_sp hi'
      obtain ⟨g1, g0⟩ := gC_0 (c := c0T T) (P := siP T) hi' hc
      have hla := lst_lt iv1
      have hs1 : sumN (fun j => f j * gC (c0T T) (siP T) 0 j) (i + 1) = sumN (fun j => f j * gC (c0T T) (siP T) 0 j) i + f i * gC (c0T T) (siP T) 0 i := rfl
      rw [hs1] at hy
      have hno : (∀ b, f i * gB (c0T T) (siP T) 0 b i = 0) → ∀ b, b < 4 → (L.testBit b = true ↔ ∃ j, (i ≤ j ∧ j < spc (c0T T)) ∧ 0 < f j * gB (c0T T) (siP T) 0 b j) := fun q b hb => by
        rw [hLb b hb]
        refine ⟨fun ⟨j, j1, j2⟩ => ⟨j, ⟨by omega, j1.2⟩, j2⟩, fun ⟨j, j1, j2⟩ => ⟨j, ⟨?_, j1.2⟩, j2⟩⟩
        rcases Nat.eq_or_lt_of_le j1.1 with e | e
        · rw [← e, q b] at j2; exact absurd j2 (by omega)
        · exact e
      have hyes : (siP T).testBit (ivN (c0T T) i % wB (c0T T) (pN (c0T T))) = true → f i ≠ 0 → ∀ b, b < 4 → ((L ||| 2 ^ lst (c0T T) (ivN (c0T T) i)).testBit b = true ↔ ∃ j, (i ≤ j ∧ j < spc (c0T T)) ∧ 0 < f j * gB (c0T T) (siP T) 0 b j) := fun q qf b hb => by
        rw [(or_t (b := b) hL16 (show lst (c0T T) (ivN (c0T T) i) < 4 by omega)).2, hLb b hb]
        constructor
        · rintro (⟨j, j1, j2⟩ | e)
          · exact ⟨j, ⟨by omega, j1.2⟩, j2⟩
          · refine ⟨i, ⟨Nat.le_refl _, hi'⟩, ?_⟩
            rw [(g1 q).2 b hb, if_pos e, Nat.mul_one]
            omega
        · rintro ⟨j, j1, j2⟩
          rcases Nat.eq_or_lt_of_le j1.1 with e | e
          · subst e
            by_cases z : b = lst (c0T T) (ivN (c0T T) i)
            · exact Or.inr z
            · rw [(g1 q).2 b hb, if_neg z, Nat.mul_zero] at j2; exact absurd j2 (by omega)
          · exact Or.inl ⟨j, ⟨e, j1.2⟩, j2⟩
      have hor := or_t (L := L) (b := 0) hL16 (show lst (c0T T) (ivN (c0T T) i) < 4 by omega)
      have hdt : dot (c0T T) f (gC (c0T T) (siP T) 0) < 134217728 := by rw [r3]; omega
      have hC1 := hF.lc h64 hC
      refine aw_iload_2 (q := 15) F dM_rowsNow_14 rfl ?_
      refine aw_if_lt (q := 18) (t := 79) F dM_rowsNow_15 rfl (by decide) (fun c15 => by omega) (fun c15 => ?_)
      refine aw_aload_0 (q := 19) F dM_rowsNow_18 rfl ?_
      refine av_getaE (q := 22) F fM_31 dM_rowsNow_19 rfl rfl (by first | exact hM.o | exact hl.o | exact hM.a55 | exact hM.a56 | exact hM.a59 | exact hM.a62 | exact hl.a4) hM.p21 ?_
      refine aw_iload_2 (q := 23) F dM_rowsNow_22 rfl ?_
      refine av_iaload (q := 24) F dM_rowsNow_23 rfl (by first | exact hM.o | exact hl.o | exact hM.a55 | exact hM.a56 | exact hM.a59 | exact hM.a62 | exact hl.a4) (by omega) (by omega) ?_
      rw [e59 V1 rfl]
      refine aw_if_ne (q := 27) (t := 30) F dM_rowsNow_24 rfl (by decide) (fun c24 => ?_) (fun c24 => ?_)
      · refine aw_aload_0 (q := 31) F dM_rowsNow_30 rfl ?_
        refine aw_iload_2 (q := 32) F dM_rowsNow_31 rfl ?_
        refine av_callV1 (q := 35) (ci := 9) F hm mM_lays_i mM_lays_n lM_339 dM_rowsNow_32 rfl rfl rfl (by first | exact hM.o | exact hl.o | exact hM.a55 | exact hM.a56 | exact hM.a59 | exact hM.a62 | exact hl.a4) (by decide) (Nat.le_refl _) (Nat.le_refl _) (Nat.le_of_ble_eq_true rfl) (wM_lays (n := ivN (c0T T) i) (by rw [iv2]; omega) iv1 hM hl hC1 hA1 hc (by omega) (fun V2 f32 g32 => ?_))
        refine aw_aload_0 (q := 36) F dM_rowsNow_35 rfl ?_
        refine aw_iconst (q := 37) F dM_rowsNow_36 rfl (by decide) ?_
        refine av_callV1 (q := 40) (ci := 9) F hm mM_areThere_i mM_areThere_n lM_370 dM_rowsNow_37 rfl rfl rfl (by first | exact hM.o | exact hl.o | exact hM.a55 | exact hM.a56 | exact hM.a59 | exact hM.a62 | exact hl.a4) (by decide) (Nat.le_refl _) (Nat.le_refl _) (Nat.le_of_ble_eq_true rfl) (wM_areThere (s := 2) rfl (by decide) hM hl (f32.lc h64 hC1) g32 hc (P := plS 2 T) (fun p hp => by rw [f32 (l + 4) (by omega), hF.1 (l + 4) (by omega) (scr_hi (by omega))]; exact hL.2.2.2.1 2 p (by decide) hp) (fun c37 => ?_) (fun c37 => ?_))
        · refine aw_if_ne (q := 43) (t := 46) F dM_rowsNow_40 rfl (by decide) (fun c40 => ?_) (fun c40 => absurd c40 (by decide))
          have hfit := (hsi _).mpr c37
          rw [(g1 hfit).1, Nat.mul_one] at hy
          refine aw_iload_1 (q := 47) F dM_rowsNow_46 rfl ?_
          refine aw_aload_0 (q := 48) F dM_rowsNow_47 rfl ?_
          refine av_getaE (q := 51) F fM_31 dM_rowsNow_48 rfl rfl (by first | exact hM.o | exact hl.o | exact hM.a55 | exact hM.a56 | exact hM.a59 | exact hM.a62 | exact hl.a4) hM.p21 ?_
          refine aw_iload_2 (q := 52) F dM_rowsNow_51 rfl ?_
          refine av_iaload (q := 53) F dM_rowsNow_52 rfl (by first | exact hM.o | exact hl.o | exact hM.a55 | exact hM.a56 | exact hM.a59 | exact hM.a62 | exact hl.a4) (by omega) (by omega) ?_
          rw [e59 V2 (f32 59 (by decide))]
          refine aw_iadd (q := 54) F dM_rowsNow_53 rfl (by constructor <;> omega) ?_
          refine aw_istore_1 (q := 55) F dM_rowsNow_54 rfl trivial ?_
          refine aw_aload_0 (q := 56) F dM_rowsNow_55 rfl ?_
          refine aw_dup (q := 57) F dM_rowsNow_56 rfl trivial ?_
          refine av_geti (q := 60) F fM_388 dM_rowsNow_57 rfl rfl (by first | exact hM.o | exact hl.o | exact hM.a55 | exact hM.a56 | exact hM.a59 | exact hM.a62 | exact hl.a4) ?_
          rw [f32 53 (by decide), h27]
          refine aw_iconst (q := 61) F dM_rowsNow_60 rfl (by decide) ?_
          refine aw_aload_0 (q := 62) F dM_rowsNow_61 rfl ?_
          refine av_getaE (q := 65) F fM_21 dM_rowsNow_62 rfl rfl (by first | exact hM.o | exact hl.o | exact hM.a55 | exact hM.a56 | exact hM.a59 | exact hM.a62 | exact hl.a4) hM.p16 ?_
          refine aw_bipush (q := 67) F dM_rowsNow_65 rfl (by decide) ?_
          refine av_iaload (q := 68) F dM_rowsNow_67 rfl (by first | exact hM.o | exact hl.o | exact hM.a55 | exact hM.a56 | exact hM.a59 | exact hM.a62 | exact hl.a4) (by omega) (by omega) ?_
          rw [show (6 : Int).toNat = 6 from rfl, g32.2.2.1]
          refine aw_ishl (q := 69) F dM_rowsNow_68 rfl ?_
          rw [shl1 (by omega) (by omega), Int.toNat_natCast]
          refine aw_ior (q := 70) F dM_rowsNow_69 rfl ?_
          rw [zor_n (by omega)]
          refine av_puti (q := 73) F fM_388 dM_rowsNow_70 rfl rfl (wr_9_27 _) (by first | exact hM.o | exact hl.o | exact hM.a55 | exact hM.a56 | exact hM.a59 | exact hM.a62 | exact hl.a4) ?_
          refine aw_iinc_2 (q := 76) F dM_rowsNow_73 rfl trivial (by constructor <;> omega) ?_
          refine aw_goto (t := 14) F dM_rowsNow_76 (by decide) ?_
          first
          | (rw [show f i = 0 by omega, Nat.zero_mul, Nat.add_zero] at hy
             exact ih (by omega) V1 _ y L n1 hF h26 h59 hA1 h27 hL16 hy (hno (fun b => by rw [show f i = 0 by omega, Nat.zero_mul])) (by omega))
          | (have hfit : (siP T).testBit (ivN (c0T T) i % wB (c0T T) (pN (c0T T))) = false := Bool.eq_false_iff.mpr fun z => c37 ((hsi _).mp z)
             rw [(g0 hfit).1, Nat.mul_zero, Nat.add_zero] at hy
             exact ih (by omega) V2 _ y L _ (hF.xf f32) (by rw [f32 53 (by decide)]; exact h26) (by rw [f32 59 (by decide)]; exact h59) g32 (by rw [f32 53 (by decide)]; exact h27) hL16 hy (hno (fun b => by rw [(g0 hfit).2 b, Nat.mul_zero])) (by omega))
          | (rw [← Int.natCast_add]
             exact ih (by omega) _ _ (y + f i) (L ||| 2 ^ lst (c0T T) (ivN (c0T T) i)) _ ((hF.xf f32).fl (by decide)) (by rw [up2_nek _ _ (by decide), f32 53 (by decide)]; exact h26) (by rw [up2_nea _ _ (by decide), f32 59 (by decide)]; exact h59) (by rw [up2_nea _ _ (by decide)]; exact g32) (up2_same _ _ _ _) hor.1 (by omega) (hyes hfit (by omega)) (by omega))
        · refine aw_if_ne (q := 43) (t := 46) F dM_rowsNow_40 rfl (by decide) (fun c40 => absurd c40 (by decide)) (fun c40 => ?_)
          refine aw_goto (t := 73) F dM_rowsNow_43 (by decide) ?_
          refine aw_iinc_2 (q := 76) F dM_rowsNow_73 rfl trivial (by constructor <;> omega) ?_
          refine aw_goto (t := 14) F dM_rowsNow_76 (by decide) ?_
          first
          | (rw [show f i = 0 by omega, Nat.zero_mul, Nat.add_zero] at hy
             exact ih (by omega) V1 _ y L n1 hF h26 h59 hA1 h27 hL16 hy (hno (fun b => by rw [show f i = 0 by omega, Nat.zero_mul])) (by omega))
          | (have hfit : (siP T).testBit (ivN (c0T T) i % wB (c0T T) (pN (c0T T))) = false := Bool.eq_false_iff.mpr fun z => c37 ((hsi _).mp z)
             rw [(g0 hfit).1, Nat.mul_zero, Nat.add_zero] at hy
             exact ih (by omega) V2 _ y L _ (hF.xf f32) (by rw [f32 53 (by decide)]; exact h26) (by rw [f32 59 (by decide)]; exact h59) g32 (by rw [f32 53 (by decide)]; exact h27) hL16 hy (hno (fun b => by rw [(g0 hfit).2 b, Nat.mul_zero])) (by omega))
          | (rw [← Int.natCast_add]
             exact ih (by omega) _ _ (y + f i) (L ||| 2 ^ lst (c0T T) (ivN (c0T T) i)) _ ((hF.xf f32).fl (by decide)) (by rw [up2_nek _ _ (by decide), f32 53 (by decide)]; exact h26) (by rw [up2_nea _ _ (by decide), f32 59 (by decide)]; exact h59) (by rw [up2_nea _ _ (by decide)]; exact g32) (up2_same _ _ _ _) hor.1 (by omega) (hyes hfit (by omega)) (by omega))
      · refine aw_goto (t := 73) F dM_rowsNow_27 (by decide) ?_
        refine aw_iinc_2 (q := 76) F dM_rowsNow_73 rfl trivial (by constructor <;> omega) ?_
        refine aw_goto (t := 14) F dM_rowsNow_76 (by decide) ?_
        first
        | (rw [show f i = 0 by omega, Nat.zero_mul, Nat.add_zero] at hy
           exact ih (by omega) V1 _ y L n1 hF h26 h59 hA1 h27 hL16 hy (hno (fun b => by rw [show f i = 0 by omega, Nat.zero_mul])) (by omega))
        | (have hfit : (siP T).testBit (ivN (c0T T) i % wB (c0T T) (pN (c0T T))) = false := Bool.eq_false_iff.mpr fun z => c37 ((hsi _).mp z)
           rw [(g0 hfit).1, Nat.mul_zero, Nat.add_zero] at hy
           exact ih (by omega) V2 _ y L _ (hF.xf f32) (by rw [f32 53 (by decide)]; exact h26) (by rw [f32 59 (by decide)]; exact h59) g32 (by rw [f32 53 (by decide)]; exact h27) hL16 hy (hno (fun b => by rw [(g0 hfit).2 b, Nat.mul_zero])) (by omega))
        | (rw [← Int.natCast_add]
           exact ih (by omega) _ _ (y + f i) (L ||| 2 ^ lst (c0T T) (ivN (c0T T) i)) _ ((hF.xf f32).fl (by decide)) (by rw [up2_nek _ _ (by decide), f32 53 (by decide)]; exact h26) (by rw [up2_nea _ _ (by decide), f32 59 (by decide)]; exact h59) (by rw [up2_nea _ _ (by decide)]; exact g32) (up2_same _ _ _ _) hor.1 (by omega) (hyes hfit (by omega)) (by omega))
  have hF0 : MF V (up2 V 53 27 0) := (MF.rf V).fl (by decide)
  refine aw_iconst (q := 1) F dM_rowsNow_0 rfl (by decide) ?_
  refine aw_istore_1 (q := 2) F dM_rowsNow_1 rfl trivial ?_
  refine aw_aload_0 (q := 3) F dM_rowsNow_2 rfl ?_
  refine aw_iconst (q := 4) F dM_rowsNow_3 rfl (by decide) ?_
  refine av_puti (q := 7) F fM_388 dM_rowsNow_4 rfl rfl (wr_9_27 _) (by first | exact hM.o | exact hl.o | exact hM.a55 | exact hM.a56 | exact hM.a59 | exact hM.a62 | exact hl.a4) ?_
  refine aw_aload_0 (q := 8) F dM_rowsNow_7 rfl ?_
  refine av_callV0 (q := 11) (ci := 9) F hm mM_arrangedMany_i mM_arrangedMany_n lM_326 dM_rowsNow_8 rfl rfl rfl (by first | exact hM.o | exact hl.o | exact hM.a55 | exact hM.a56 | exact hM.a59 | exact hM.a62 | exact hl.a4) (by decide) (Nat.le_refl _) (Nat.le_refl _) (Nat.le_of_ble_eq_true rfl) (wM_arrangedMany (c := c0T T) hM hl (hF0.lc h64 hC) hc ?_)
  refine aw_iconst (q := 12) F dM_rowsNow_11 rfl (by decide) ?_
  refine aw_isub (q := 13) F dM_rowsNow_12 rfl (by constructor <;> omega) ?_
  refine aw_istore_2 (q := 14) F dM_rowsNow_13 rfl trivial ?_
  exact loop (spc (c0T T)) (Nat.le_refl _) _ _ 0 0 n hF0 (up2_nek _ _ (by decide)) (up2_nea _ _ (by decide)) (by rw [up2_nea _ _ (by decide)]; exact hA) (up2_same _ _ _ _) (by decide) (Nat.zero_add _) (fun b hb => ⟨fun h => (by rw [Nat.zero_testBit] at h; cases h), fun ⟨j, j1, _⟩ => absurd j1.1 (by omega)⟩) rfl
/-- rows of so many steps -/
theorem wM_rowsOf {x : Int} {N : Nat} (hx : x = N) (hN : N ≤ 6) (h : MW V σ l S) (hd : 0 < tDn (psT S)) (hK : ∀ V', MF V V' → V' 53 26 = 0 → V' 53 27 = (rwN (psT S) N % 16 : Nat) → K (some (vI (rwN (psT S) N / 16 : Nat))) (V', σ)) : Wp G 4 mM_rowsOf [vR 53, vI x] (V, σ) 0 0 K := by
  have hM := h.mo
  have hl := h.la hd
  have h64 := h.h64 hd
  have hc := h.c0 hd
  have hn := h.n0 hd
  have hLC := h.lc0 hd
  refine wp_intro mM_rowsOf_i.1 [some (vR 53), some (vI x), none] rfl rfl (Nat.le_of_ble_eq_true rfl) ?_
  intro X hG F C
  have hm := C.rm
  have loop : ∀ (j k : Nat), k + j = N → ∀ (V1 : Nat → Nat → Int) (w : Int) (n1 : Nat), MF V V1 → V1 53 26 = 0 → AR (V1 56) (c0T (psT S)) n1 → RI V1 (c0T (psT S)) (siP (psT S)) (sc0 (psT S)).2.2 k → w = k → AW X 6 [some (vR 53), some (vI x), some (vI w)] [] (V1, σ) 0 0 := by
    intro j
    induction j with
    | zero =>
      intro k hk V1 w n1 hF h26 hA hR hw
      rw [show k = N by omega] at hR
      refine aw_iload_2 (q := 7) F dM_rowsOf_6 rfl ?_
      refine aw_iload_1 (q := 8) F dM_rowsOf_7 rfl ?_
      refine aw_icmp_ge (q := 11) (t := 21) F dM_rowsOf_8 rfl (by decide) (fun c8 => ?_) (fun c8 => by omega)
      refine aw_aload_0 (q := 22) F dM_rowsOf_21 rfl ?_
      refine av_callV0 (q := 25) (ci := 9) F hm mM_rowsNow_i mM_rowsNow_n lM_397 dM_rowsOf_22 rfl rfl rfl (by first | exact hM.o | exact hl.o | exact hM.a55 | exact hM.a56 | exact hM.a59 | exact hM.a62 | exact hl.a4) (by decide) (Nat.le_refl _) (Nat.le_refl _) (Nat.le_of_ble_eq_true rfl) (wM_rowsNow (T := psT S) hN hn hM hl h64 (hF.lc h64 hLC) (hF.lv h64 (h.lv hd)) hA hc hR (fun V2 n22 f22 o22 e22 g22 u22 => ?_))
      refine aw_iret F C dM_rowsOf_25 rfl (Nat.le_refl _) (Nat.le_refl _) ?_
      exact hK V2 (hF.tr f22) (o22.trans h26) u22
    | succ j ih =>
      intro k hk V1 w n1 hF h26 hA hR hw
      refine aw_iload_2 (q := 7) F dM_rowsOf_6 rfl ?_
      refine aw_iload_1 (q := 8) F dM_rowsOf_7 rfl ?_
      refine aw_icmp_ge (q := 11) (t := 21) F dM_rowsOf_8 rfl (by decide) (fun c8 => by omega) (fun c8 => ?_)
      refine aw_aload_0 (q := 12) F dM_rowsOf_11 rfl ?_
      refine av_callV0 (q := 15) (ci := 9) F hm mM_stepsOn_i mM_stepsOn_n lM_394 dM_rowsOf_12 rfl rfl rfl (by first | exact hM.o | exact hl.o | exact hM.a55 | exact hM.a56 | exact hM.a59 | exact hM.a62 | exact hl.a4) (by decide) (Nat.le_refl _) (Nat.le_refl _) (Nat.le_of_ble_eq_true rfl) (wM_stepsOn (by omega) hM hl h64 (hF.lc h64 hLC) hA hc hR (fun V2 n12 f12 o12 g12 r12 => ?_))
      refine aw_iinc_2 (q := 18) F dM_rowsOf_15 rfl trivial (by constructor <;> omega) ?_
      refine aw_goto (t := 6) F dM_rowsOf_18 (by decide) ?_
      exact ih (k + 1) (by omega) V2 _ n12 (hF.tr f12) (o12.trans h26) g12 r12 (by omega)
  refine aw_aload_0 (q := 1) F dM_rowsOf_0 rfl ?_
  refine av_callV0 (q := 4) (ci := 9) F hm mM_begins_i mM_begins_n lM_391 dM_rowsOf_1 rfl rfl rfl (by first | exact hM.o | exact hl.o | exact hM.a55 | exact hM.a56 | exact hM.a59 | exact hM.a62 | exact hl.a4) (by decide) (Nat.le_refl _) (Nat.le_refl _) (Nat.le_of_ble_eq_true rfl) (wM_begins h hd (fun V2 f1 o1 g1 i1 u1 => ?_))
  refine aw_iconst (q := 5) F dM_rowsOf_4 rfl (by decide) ?_
  refine aw_istore_2 (q := 6) F dM_rowsOf_5 rfl trivial ?_
  exact loop N 0 (by omega) V2 _ _ f1 o1 g1 (RI.one hn i1 u1) rfl
theorem wM_refusesRows {x : Int} (h : MW V σ l S) (h0 : 0 < tDn (psT S) → 0 ≤ x ∧ x ≤ 6 → K (some (vI 0)) (V, σ)) (h1 : ¬ 0 < tDn (psT S) → K (some (vI 1)) (V, σ)) (h2 : 0 < tDn (psT S) → ¬ (0 ≤ x ∧ x ≤ 6) → K (some (vI 2)) (V, σ)) : Wp G 1 mM_refusesRows [vR 53, vI x] (V, σ) 0 0 K := by
  have hM := h.mo
  refine wp_intro mM_refusesRows_i.1 [some (vR 53), some (vI x)] rfl rfl (Nat.le_of_ble_eq_true rfl) ?_
  intro X hG F C
  have hm := C.rm
  refine aw_aload_0 (q := 1) F dM_refusesRows_0 rfl ?_
  refine av_getaE (q := 4) F fM_281 dM_refusesRows_1 rfl rfl (by first | exact hM.o | exact hl.o | exact hM.a55 | exact hM.a56 | exact hM.a59 | exact hM.a62 | exact hl.a4) hM.p3 ?_
  refine aw_ifnonnull (q := 7) (t := 11) F dM_refusesRows_4 rfl (by decide) (fun c4 => ?_) (fun c4 => ?_)
  · refine aw_iload_1 (q := 12) F dM_refusesRows_11 rfl ?_
    refine aw_iconst (q := 13) F dM_refusesRows_12 rfl (by decide) ?_
    refine aw_bipush (q := 15) F dM_refusesRows_13 rfl (by decide) ?_
    refine av_callS3 (q := 18) F hm mM_in_i mM_in_n lM_357 dM_refusesRows_15 rfl (by decide) (Nat.le_refl _) (Nat.le_refl _) (Nat.le_of_ble_eq_true rfl) (wM_in (fun c15 => ?_) (fun c15 => ?_))
    · refine aw_if_eq (q := 21) (t := 25) F dM_refusesRows_18 rfl (by decide) (fun c18 => absurd c18 (by decide)) (fun c18 => ?_)
      refine aw_iconst (q := 22) F dM_refusesRows_21 rfl (by decide) ?_
      refine aw_goto (t := 26) F dM_refusesRows_22 (by decide) ?_
      refine aw_iret F C dM_refusesRows_26 rfl (Nat.le_refl _) (Nat.le_refl _) ?_
      exact h0 (h.pos c4) c15
    · refine aw_if_eq (q := 21) (t := 25) F dM_refusesRows_18 rfl (by decide) (fun c18 => ?_) (fun c18 => absurd c18 (by decide))
      refine aw_iconst (q := 26) F dM_refusesRows_25 rfl (by decide) ?_
      refine aw_iret F C dM_refusesRows_26 rfl (Nat.le_refl _) (Nat.le_refl _) ?_
      exact h2 (h.pos c4) c15
  · refine aw_iconst (q := 8) F dM_refusesRows_7 rfl (by decide) ?_
    refine aw_goto (t := 26) F dM_refusesRows_8 (by decide) ?_
    refine aw_iret F C dM_refusesRows_26 rfl (Nat.le_refl _) (Nat.le_refl _) ?_
    exact h1 (by rw [h.zer c4]; decide)
theorem wM_rows {n : Int} (h : MW V σ l S) (hK : MK K V σ l (setR S (wy (0 < tDn (psT S)) (0 ≤ n ∧ n ≤ 6))) (some (vI (rfD (wy (0 < tDn (psT S)) (0 ≤ n ∧ n ≤ 6)) (rwN (psT S) n.toNat / 16 : Nat) (-1))))) : Wp G 5 mM_rows [vR 53, vI n] (V, σ) 0 0 K := by
  obtain ⟨g, r1, r2⟩ := m3 vI hK
  have hM := h.mo
  refine wp_intro mM_rows_i.1 [some (vR 53), some (vI n), none] rfl rfl (Nat.le_of_ble_eq_true rfl) ?_
  intro X hG F C
  have hm := C.rm
  refine aw_aload_0 (q := 1) F dM_rows_0 rfl ?_
  refine aw_iconst (q := 2) F dM_rows_1 rfl (by decide) ?_
  refine av_puti (q := 5) F fM_46 dM_rows_2 rfl rfl (wr_9_0 _) (by first | exact hM.o | exact hl.o | exact hM.a55 | exact hM.a56 | exact hM.a59 | exact hM.a62 | exact hl.a4) ?_
  refine aw_aload_0 (q := 6) F dM_rows_5 rfl ?_
  refine aw_iload_1 (q := 7) F dM_rows_6 rfl ?_
  refine av_callV1 (q := 10) (ci := 9) F hm mM_refusesRows_i mM_refusesRows_n lM_400 dM_rows_7 rfl rfl rfl (by first | exact hM.o | exact hl.o | exact hM.a55 | exact hM.a56 | exact hM.a59 | exact hM.a62 | exact hl.a4) (by decide) (Nat.le_refl _) (Nat.le_refl _) (Nat.le_of_ble_eq_true rfl) (wM_refusesRows h.th (fun d7 w7 => ?_) (fun d7 => ?_) (fun d7 w7 => ?_))
  · refine aw_istore_2 (q := 11) F dM_rows_10 rfl trivial ?_
    refine aw_iload_2 (q := 12) F dM_rows_11 rfl ?_
    refine aw_if_le (q := 15) (t := 23) F dM_rows_12 rfl (by decide) (fun c12 => ?_) (fun c12 => absurd c12 (by decide))
    refine aw_aload_0 (q := 24) F dM_rows_23 rfl ?_
    refine aw_aload_0 (q := 25) F dM_rows_24 rfl ?_
    refine aw_iload_1 (q := 26) F dM_rows_25 rfl ?_
    refine av_callV1 (q := 29) (ci := 9) F hm mM_rowsOf_i mM_rowsOf_n lM_403 dM_rows_26 rfl rfl rfl (by first | exact hM.o | exact hl.o | exact hM.a55 | exact hM.a56 | exact hM.a59 | exact hM.a62 | exact hl.a4) (by decide) (Nat.le_refl _) (Nat.le_refl _) (Nat.le_of_ble_eq_true rfl) (wM_rowsOf (N := n.toNat) (by omega) (by omega) h.th d7 (fun V2 f26 o26 u26 => ?_))
    refine av_callV1 (q := 32) (ci := 9) F hm mM_good_i mM_good_n lM_56 dM_rows_29 rfl rfl rfl (by first | exact hM.o | exact hl.o | exact hM.a55 | exact hM.a56 | exact hM.a59 | exact hM.a62 | exact hl.a4) (by decide) (Nat.le_refl _) (Nat.le_refl _) (Nat.le_of_ble_eq_true rfl) (wM_good hM ?_)
    refine aw_iret F C dM_rows_32 rfl (Nat.le_refl _) (Nat.le_refl _) ?_
    first | exact MK.fin0 (r1 d7) h (by decide) | exact MK.fin0 (r2 d7 w7) h (by decide) | exact MK.fin (S := S) (g d7 w7) h (by decide) f26 (Or.inl o26)
  · refine aw_istore_2 (q := 11) F dM_rows_10 rfl trivial ?_
    refine aw_iload_2 (q := 12) F dM_rows_11 rfl ?_
    refine aw_if_le (q := 15) (t := 23) F dM_rows_12 rfl (by decide) (fun c12 => absurd c12 (by decide)) (fun c12 => ?_)
    refine aw_aload_0 (q := 16) F dM_rows_15 rfl ?_
    refine aw_iload_2 (q := 17) F dM_rows_16 rfl ?_
    refine av_callV1 (q := 20) (ci := 9) F hm mM_refused_i mM_refused_n lM_52 dM_rows_17 rfl rfl rfl (by first | exact hM.o | exact hl.o | exact hM.a55 | exact hM.a56 | exact hM.a59 | exact hM.a62 | exact hl.a4) (by decide) (Nat.le_refl _) (Nat.le_refl _) (Nat.le_of_ble_eq_true rfl) (wM_refused hM ?_)
    refine aw_goto (t := 32) F dM_rows_20 (by decide) ?_
    refine aw_iret F C dM_rows_32 rfl (Nat.le_refl _) (Nat.le_refl _) ?_
    first | exact MK.fin0 (r1 d7) h (by decide) | exact MK.fin0 (r2 d7 w7) h (by decide) | exact MK.fin (S := S) (g d7 w7) h (by decide) f26 (Or.inl o26)
  · refine aw_istore_2 (q := 11) F dM_rows_10 rfl trivial ?_
    refine aw_iload_2 (q := 12) F dM_rows_11 rfl ?_
    refine aw_if_le (q := 15) (t := 23) F dM_rows_12 rfl (by decide) (fun c12 => absurd c12 (by decide)) (fun c12 => ?_)
    refine aw_aload_0 (q := 16) F dM_rows_15 rfl ?_
    refine aw_iload_2 (q := 17) F dM_rows_16 rfl ?_
    refine av_callV1 (q := 20) (ci := 9) F hm mM_refused_i mM_refused_n lM_52 dM_rows_17 rfl rfl rfl (by first | exact hM.o | exact hl.o | exact hM.a55 | exact hM.a56 | exact hM.a59 | exact hM.a62 | exact hl.a4) (by decide) (Nat.le_refl _) (Nat.le_refl _) (Nat.le_of_ble_eq_true rfl) (wM_refused hM ?_)
    refine aw_goto (t := 32) F dM_rows_20 (by decide) ?_
    refine aw_iret F C dM_rows_32 rfl (Nat.le_refl _) (Nat.le_refl _) ?_
    first | exact MK.fin0 (r1 d7) h (by decide) | exact MK.fin0 (r2 d7 w7) h (by decide) | exact MK.fin (S := S) (g d7 w7) h (by decide) f26 (Or.inl o26)
theorem wM_lastBy {n : Int} (h : MW V σ l S) (hK : MK K V σ l (setR S (wy (0 < tDn (psT S)) (0 ≤ n ∧ n ≤ 6))) (some (vI (rfD (wy (0 < tDn (psT S)) (0 ≤ n ∧ n ≤ 6)) (rwN (psT S) n.toNat % 16 : Nat) (-1))))) : Wp G 5 mM_lastBy [vR 53, vI n] (V, σ) 0 0 K := by
  obtain ⟨g, r1, r2⟩ := m3 vI hK
  have hM := h.mo
  refine wp_intro mM_lastBy_i.1 [some (vR 53), some (vI n), none] rfl rfl (Nat.le_of_ble_eq_true rfl) ?_
  intro X hG F C
  have hm := C.rm
  refine aw_aload_0 (q := 1) F dM_lastBy_0 rfl ?_
  refine aw_iconst (q := 2) F dM_lastBy_1 rfl (by decide) ?_
  refine av_puti (q := 5) F fM_46 dM_lastBy_2 rfl rfl (wr_9_0 _) (by first | exact hM.o | exact hl.o | exact hM.a55 | exact hM.a56 | exact hM.a59 | exact hM.a62 | exact hl.a4) ?_
  refine aw_aload_0 (q := 6) F dM_lastBy_5 rfl ?_
  refine aw_iload_1 (q := 7) F dM_lastBy_6 rfl ?_
  refine av_callV1 (q := 10) (ci := 9) F hm mM_refusesRows_i mM_refusesRows_n lM_400 dM_lastBy_7 rfl rfl rfl (by first | exact hM.o | exact hl.o | exact hM.a55 | exact hM.a56 | exact hM.a59 | exact hM.a62 | exact hl.a4) (by decide) (Nat.le_refl _) (Nat.le_refl _) (Nat.le_of_ble_eq_true rfl) (wM_refusesRows h.th (fun d7 w7 => ?_) (fun d7 => ?_) (fun d7 w7 => ?_))
  · refine aw_istore_2 (q := 11) F dM_lastBy_10 rfl trivial ?_
    refine aw_iload_2 (q := 12) F dM_lastBy_11 rfl ?_
    refine aw_if_le (q := 15) (t := 21) F dM_lastBy_12 rfl (by decide) (fun c12 => ?_) (fun c12 => absurd c12 (by decide))
    refine aw_aload_0 (q := 22) F dM_lastBy_21 rfl ?_
    refine aw_iload_1 (q := 23) F dM_lastBy_22 rfl ?_
    refine av_callV1 (q := 26) (ci := 9) F hm mM_rowsOf_i mM_rowsOf_n lM_403 dM_lastBy_23 rfl rfl rfl (by first | exact hM.o | exact hl.o | exact hM.a55 | exact hM.a56 | exact hM.a59 | exact hM.a62 | exact hl.a4) (by decide) (Nat.le_refl _) (Nat.le_refl _) (Nat.le_of_ble_eq_true rfl) (wM_rowsOf (N := n.toNat) (by omega) (by omega) h.th d7 (fun V2 f23 o23 u23 => ?_))
    refine aw_pop (q := 27) F dM_lastBy_26 rfl trivial ?_
    refine aw_aload_0 (q := 28) F dM_lastBy_27 rfl ?_
    refine aw_aload_0 (q := 29) F dM_lastBy_28 rfl ?_
    refine av_geti (q := 32) F fM_388 dM_lastBy_29 rfl rfl (by first | exact hM.o | exact hl.o | exact hM.a55 | exact hM.a56 | exact hM.a59 | exact hM.a62 | exact hl.a4) ?_
    rw [u23]
    refine av_callV1 (q := 35) (ci := 9) F hm mM_good_i mM_good_n lM_56 dM_lastBy_32 rfl rfl rfl (by first | exact hM.o | exact hl.o | exact hM.a55 | exact hM.a56 | exact hM.a59 | exact hM.a62 | exact hl.a4) (by decide) (Nat.le_refl _) (Nat.le_refl _) (Nat.le_of_ble_eq_true rfl) (wM_good hM ?_)
    refine aw_iret F C dM_lastBy_35 rfl (Nat.le_refl _) (Nat.le_refl _) ?_
    first | exact MK.fin0 (r1 d7) h (by decide) | exact MK.fin0 (r2 d7 w7) h (by decide) | exact MK.fin (S := S) (g d7 w7) h (by decide) f23 (Or.inl o23)
  · refine aw_istore_2 (q := 11) F dM_lastBy_10 rfl trivial ?_
    refine aw_iload_2 (q := 12) F dM_lastBy_11 rfl ?_
    refine aw_if_le (q := 15) (t := 21) F dM_lastBy_12 rfl (by decide) (fun c12 => absurd c12 (by decide)) (fun c12 => ?_)
    refine aw_aload_0 (q := 16) F dM_lastBy_15 rfl ?_
    refine aw_iload_2 (q := 17) F dM_lastBy_16 rfl ?_
    refine av_callV1 (q := 20) (ci := 9) F hm mM_refused_i mM_refused_n lM_52 dM_lastBy_17 rfl rfl rfl (by first | exact hM.o | exact hl.o | exact hM.a55 | exact hM.a56 | exact hM.a59 | exact hM.a62 | exact hl.a4) (by decide) (Nat.le_refl _) (Nat.le_refl _) (Nat.le_of_ble_eq_true rfl) (wM_refused hM ?_)
    refine aw_iret F C dM_lastBy_20 rfl (Nat.le_refl _) (Nat.le_refl _) ?_
    first | exact MK.fin0 (r1 d7) h (by decide) | exact MK.fin0 (r2 d7 w7) h (by decide) | exact MK.fin (S := S) (g d7 w7) h (by decide) f23 (Or.inl o23)
  · refine aw_istore_2 (q := 11) F dM_lastBy_10 rfl trivial ?_
    refine aw_iload_2 (q := 12) F dM_lastBy_11 rfl ?_
    refine aw_if_le (q := 15) (t := 21) F dM_lastBy_12 rfl (by decide) (fun c12 => absurd c12 (by decide)) (fun c12 => ?_)
    refine aw_aload_0 (q := 16) F dM_lastBy_15 rfl ?_
    refine aw_iload_2 (q := 17) F dM_lastBy_16 rfl ?_
    refine av_callV1 (q := 20) (ci := 9) F hm mM_refused_i mM_refused_n lM_52 dM_lastBy_17 rfl rfl rfl (by first | exact hM.o | exact hl.o | exact hM.a55 | exact hM.a56 | exact hM.a59 | exact hM.a62 | exact hl.a4) (by decide) (Nat.le_refl _) (Nat.le_refl _) (Nat.le_of_ble_eq_true rfl) (wM_refused hM ?_)
    refine aw_iret F C dM_lastBy_20 rfl (Nat.le_refl _) (Nat.le_refl _) ?_
    first | exact MK.fin0 (r1 d7) h (by decide) | exact MK.fin0 (r2 d7 w7) h (by decide) | exact MK.fin (S := S) (g d7 w7) h (by decide) f23 (Or.inl o23)
theorem wM_fewestSeen (h : MW V σ l S) (hK : MK K V σ l (setR S (wy (0 < tDn (psT S)) True)) (some (vI (rfD (wy (0 < tDn (psT S)) True) (fwF (psT S) 7 0) (-1))))) : Wp G 4 mM_fewestSeen [vR 53] (V, σ) 0 0 K := by
  obtain ⟨g, r1, -⟩ := m3 vI hK
  have hM := h.mo
  refine wp_intro mM_fewestSeen_i.1 [some (vR 53), none] rfl rfl (Nat.le_of_ble_eq_true rfl) ?_
  intro X hG F C
  have hm := C.rm
  have loop : ∀ (hd : 0 < tDn (psT S)) (j k : Nat), k + j = 7 → ∀ (V1 : Nat → Nat → Int) (w : Int) (n1 : Nat), MF (up2 V 53 0 0) V1 → V1 53 26 = 0 → (k < 7 → AR (V1 56) (c0T (psT S)) n1 ∧ RI V1 (c0T (psT S)) (siP (psT S)) (sc0 (psT S)).2.2 k) → fwF (psT S) j k = fwF (psT S) 7 0 → w = k → AW X 24 [some (vR 53), some (vI w)] [] (V1, σ) 0 0 := by
    intro hd j
    have hl := h.la hd
    have h64 := h.h64 hd
    have hc := h.c0 hd
    have hn := h.n0 hd
    have hLC := h.th (z := 0) |>.lc0 hd
    have g' := g hd trivial
    induction j with
    | zero =>
      intro k hk V1 w n1 hF h26 hAR hf hw
      rw [← hf] at g'
      refine aw_iload_1 (q := 25) F dM_fewestSeen_24 rfl ?_
      refine aw_bipush (q := 27) F dM_fewestSeen_25 rfl (by decide) ?_
      refine aw_icmp_gt (q := 30) (t := 59) F dM_fewestSeen_27 rfl (by decide) (fun c27 => ?_) (fun c27 => by omega)
      refine aw_aload_0 (q := 60) F dM_fewestSeen_59 rfl ?_
      refine aw_bipush (q := 62) F dM_fewestSeen_60 rfl (by decide) ?_
      refine av_callV1 (q := 65) (ci := 9) F hm mM_good_i mM_good_n lM_56 dM_fewestSeen_62 rfl rfl rfl (by first | exact hM.o | exact hl.o | exact hM.a55 | exact hM.a56 | exact hM.a59 | exact hM.a62 | exact hl.a4) (by decide) (Nat.le_refl _) (Nat.le_refl _) (Nat.le_of_ble_eq_true rfl) (wM_good hM ?_)
      refine aw_iret F C dM_fewestSeen_65 rfl (Nat.le_refl _) (Nat.le_refl _) ?_
      exact MK.fin (S := S) g' h (by decide) hF (Or.inl h26)
    | succ j ih =>
      intro k hk V1 w n1 hF h26 hAR hf hw
      obtain ⟨hA, hR⟩ := hAR (by omega)
      have ef : fwF (psT S) (j + 1) k = if 0 < rwN (psT S) k / 16 then (k : Int) else fwF (psT S) j (k + 1) := rfl
      refine aw_iload_1 (q := 25) F dM_fewestSeen_24 rfl ?_
      refine aw_bipush (q := 27) F dM_fewestSeen_25 rfl (by decide) ?_
      refine aw_icmp_gt (q := 30) (t := 59) F dM_fewestSeen_27 rfl (by decide) (fun c27 => by omega) (fun c27 => ?_)
      refine aw_aload_0 (q := 31) F dM_fewestSeen_30 rfl ?_
      refine av_callV0 (q := 34) (ci := 9) F hm mM_rowsNow_i mM_rowsNow_n lM_397 dM_fewestSeen_31 rfl rfl rfl (by first | exact hM.o | exact hl.o | exact hM.a55 | exact hM.a56 | exact hM.a59 | exact hM.a62 | exact hl.a4) (by decide) (Nat.le_refl _) (Nat.le_refl _) (Nat.le_of_ble_eq_true rfl) (wM_rowsNow (T := psT S) (by omega) hn hM hl h64 (hF.lc h64 hLC) (hF.lv h64 ((h.th (z := 0)).lv hd)) hA hc hR (fun V2 n31 f31 o31 e31 g31 u31 => ?_))
      rw [show vlN (c0T (psT S)) (siP (psT S)) k (sc0 (psT S)).2.2 = rwN (psT S) k from rfl]
      refine aw_if_le (q := 37) (t := 43) F dM_fewestSeen_34 rfl (by decide) (fun c34 => ?_) (fun c34 => ?_)
      · refine aw_iload_1 (q := 44) F dM_fewestSeen_43 rfl ?_
        refine aw_bipush (q := 46) F dM_fewestSeen_44 rfl (by decide) ?_
        refine aw_icmp_ge (q := 49) (t := 53) F dM_fewestSeen_46 rfl (by decide) (fun c46 => ?_) (fun c46 => ?_)
        · refine aw_iinc_1 (q := 56) F dM_fewestSeen_53 rfl trivial (by constructor <;> omega) ?_
          refine aw_goto (t := 24) F dM_fewestSeen_56 (by decide) ?_
          rw [if_neg (by omega)] at ef
          first
          | exact ih (k + 1) (by omega) V3 _ n50 ((hF.tr f31).tr f50) (o50.trans (o31.trans h26)) (fun _ => ⟨g50, r50⟩) (by rw [← ef]; exact hf) (by omega)
          | exact ih (k + 1) (by omega) V2 _ 0 (hF.tr f31) (o31.trans h26) (fun q => absurd q (by omega)) (by rw [← ef]; exact hf) (by omega)
        · refine aw_aload_0 (q := 50) F dM_fewestSeen_49 rfl ?_
          refine av_callV0 (q := 53) (ci := 9) F hm mM_stepsOn_i mM_stepsOn_n lM_394 dM_fewestSeen_50 rfl rfl rfl (by first | exact hM.o | exact hl.o | exact hM.a55 | exact hM.a56 | exact hM.a59 | exact hM.a62 | exact hl.a4) (by decide) (Nat.le_refl _) (Nat.le_refl _) (Nat.le_of_ble_eq_true rfl) (wM_stepsOn (by omega) hM hl h64 ((hF.tr f31).lc h64 hLC) g31 hc (hR.same e31) (fun V3 n50 f50 o50 g50 r50 => ?_))
          refine aw_iinc_1 (q := 56) F dM_fewestSeen_53 rfl trivial (by constructor <;> omega) ?_
          refine aw_goto (t := 24) F dM_fewestSeen_56 (by decide) ?_
          rw [if_neg (by omega)] at ef
          first
          | exact ih (k + 1) (by omega) V3 _ n50 ((hF.tr f31).tr f50) (o50.trans (o31.trans h26)) (fun _ => ⟨g50, r50⟩) (by rw [← ef]; exact hf) (by omega)
          | exact ih (k + 1) (by omega) V2 _ 0 (hF.tr f31) (o31.trans h26) (fun q => absurd q (by omega)) (by rw [← ef]; exact hf) (by omega)
      · refine aw_aload_0 (q := 38) F dM_fewestSeen_37 rfl ?_
        refine aw_iload_1 (q := 39) F dM_fewestSeen_38 rfl ?_
        refine av_callV1 (q := 42) (ci := 9) F hm mM_good_i mM_good_n lM_56 dM_fewestSeen_39 rfl rfl rfl (by first | exact hM.o | exact hl.o | exact hM.a55 | exact hM.a56 | exact hM.a59 | exact hM.a62 | exact hl.a4) (by decide) (Nat.le_refl _) (Nat.le_refl _) (Nat.le_of_ble_eq_true rfl) (wM_good hM ?_)
        refine aw_iret F C dM_fewestSeen_42 rfl (Nat.le_refl _) (Nat.le_refl _) ?_
        rw [if_pos (by omega)] at ef
        rw [← hf, ef] at g'
        rw [hw]
        exact MK.fin (S := S) g' h (by decide) (hF.tr f31) (Or.inl (o31.trans h26))
  refine aw_aload_0 (q := 1) F dM_fewestSeen_0 rfl ?_
  refine aw_iconst (q := 2) F dM_fewestSeen_1 rfl (by decide) ?_
  refine av_puti (q := 5) F fM_46 dM_fewestSeen_2 rfl rfl (wr_9_0 _) (by first | exact hM.o | exact hl.o | exact hM.a55 | exact hM.a56 | exact hM.a59 | exact hM.a62 | exact hl.a4) ?_
  refine aw_aload_0 (q := 6) F dM_fewestSeen_5 rfl ?_
  refine av_getaE (q := 9) F fM_281 dM_fewestSeen_6 rfl rfl (by first | exact hM.o | exact hl.o | exact hM.a55 | exact hM.a56 | exact hM.a59 | exact hM.a62 | exact hl.a4) hM.p3 ?_
  refine aw_ifnonnull (q := 12) (t := 18) F dM_fewestSeen_9 rfl (by decide) (fun c9 => ?_) (fun c9 => ?_)
  · refine aw_aload_0 (q := 19) F dM_fewestSeen_18 rfl ?_
    refine av_callV0 (q := 22) (ci := 9) F hm mM_begins_i mM_begins_n lM_391 dM_fewestSeen_19 rfl rfl rfl (by first | exact hM.o | exact hl.o | exact hM.a55 | exact hM.a56 | exact hM.a59 | exact hM.a62 | exact hl.a4) (by decide) (Nat.le_refl _) (Nat.le_refl _) (Nat.le_of_ble_eq_true rfl) (wM_begins h.th (h.pos c9) (fun V2 f19 o19 g19 i19 u19 => ?_))
    refine aw_iconst (q := 23) F dM_fewestSeen_22 rfl (by decide) ?_
    refine aw_istore_1 (q := 24) F dM_fewestSeen_23 rfl trivial ?_
    exact loop (h.pos c9) 7 0 rfl V2 _ _ f19 o19 (fun _ => ⟨g19, RI.one (h.n0 (h.pos c9)) i19 u19⟩) rfl rfl
  · refine aw_aload_0 (q := 13) F dM_fewestSeen_12 rfl ?_
    refine aw_iconst (q := 14) F dM_fewestSeen_13 rfl (by decide) ?_
    refine av_callV1 (q := 17) (ci := 9) F hm mM_refused_i mM_refused_n lM_52 dM_fewestSeen_14 rfl rfl rfl (by first | exact hM.o | exact hl.o | exact hM.a55 | exact hM.a56 | exact hM.a59 | exact hM.a62 | exact hl.a4) (by decide) (Nat.le_refl _) (Nat.le_refl _) (Nat.le_of_ble_eq_true rfl) (wM_refused hM ?_)
    refine aw_iret F C dM_fewestSeen_17 rfl (Nat.le_refl _) (Nat.le_refl _) ?_
    exact MK.fin0 (r1 (by rw [h.zer c9]; decide)) h (by decide)
theorem fs_at {T : TL} {s n : Nat} (hn1 : 1 ≤ n) (hn : n ≤ 6) (hs : s < stN (c0T T)) : fsV (c0T T) (siP T) (sc0 T).2.2 7 (s * 7 + n) = if mayN (c0T T) (sc0 T).2.2 (allP (c0T T)) s = true then vlN (c0T T) (siP T) (n - 1) (aftN (c0T T) (sc0 T).2.2 s) else 0 := by
  unfold fsV
  rw [show (s * 7 + n) % 7 = n by omega, show (s * 7 + n) / 7 = s by omega]
  by_cases q : mayN (c0T T) (sc0 T).2.2 (allP (c0T T)) s = true
  · rw [if_pos ⟨⟨hn1, by omega⟩, hs, q⟩, if_pos q]
  · rw [if_neg (fun z => q z.2.2), if_neg q]
theorem wM_firstBy {x n : Int} (h : MW V σ l S) (hK : MK K V σ l (setR S (wy (0 ≤ x ∧ x < stN (psC S)) (1 ≤ n ∧ n ≤ 6))) (some (vI (rfD (wy (0 ≤ x ∧ x < stN (psC S)) (1 ≤ n ∧ n ≤ 6)) (fsV (c0T (psT S)) (siP (psT S)) (sc0 (psT S)).2.2 7 (x.toNat * 7 + n.toNat) / 16 : Nat) (-1))))) : Wp G 4 mM_firstBy [vR 53, vI x, vI n] (V, σ) 0 0 K := by
  obtain ⟨g, r1, r2⟩ := m3 vI hK
  have hM := h.mo
  have hst : stN (psC S) = stN (c0T (psT S)) := rfl
  have hz : l = 0 → stN (psC S) = 0 := fun e => by show tDn (psT S) * _ = 0; rw [h.zer e, Nat.zero_mul]
  refine wp_intro mM_firstBy_i.1 [some (vR 53), some (vI x), some (vI n), none] rfl rfl (Nat.le_of_ble_eq_true rfl) ?_
  intro X hG F C
  have hm := C.rm
  have loop : ∀ (hd : 0 < tDn (psT S)) (hx : 0 ≤ x ∧ x < stN (psC S)) (hn1 : 1 ≤ n ∧ n ≤ 6) (_hm : mayN (c0T (psT S)) (sc0 (psT S)).2.2 (allP (c0T (psT S))) x.toNat = true) (j k : Nat), k + j = n.toNat - 1 → ∀ (V1 : Nat → Nat → Int) (w : Int) (n1 : Nat), MF (up2 V 53 0 0) V1 → V1 53 26 = 0 → AR (V1 56) (c0T (psT S)) n1 → RI V1 (c0T (psT S)) (siP (psT S)) (aftN (c0T (psT S)) (sc0 (psT S)).2.2 x.toNat) k → w = (k + 1 : Nat) → AW X 96 [some (vR 53), some (vI x), some (vI n), some (vI w)] [] (V1, σ) 0 0 := by
    intro hd hx hn1 hma j
    have hl := h.la hd
    have h64 := h.h64 hd
    have hc := h.c0 hd
    have hn := h.n0 hd
    have hLC := h.th (z := 0) |>.lc0 hd
    have g' := g hx hn1
    rw [fs_at (by omega) (by omega) (by omega), if_pos hma] at g'
    have haft := aft_lt hn (show x.toNat < stN (c0T (psT S)) by omega) hma
    induction j with
    | zero =>
      intro k hk V1 w n1 hF h26 hA hR hw
      rw [show n.toNat - 1 = k by omega] at g'
      refine aw_iload_3 (q := 97) F dM_firstBy_96 rfl ?_
      refine aw_iload_2 (q := 98) F dM_firstBy_97 rfl ?_
      refine aw_icmp_ge (q := 101) (t := 111) F dM_firstBy_98 rfl (by decide) (fun c98 => ?_) (fun c98 => by omega)
      refine aw_aload_0 (q := 112) F dM_firstBy_111 rfl ?_
      refine aw_aload_0 (q := 113) F dM_firstBy_112 rfl ?_
      refine av_callV0 (q := 116) (ci := 9) F hm mM_rowsNow_i mM_rowsNow_n lM_397 dM_firstBy_113 rfl rfl rfl (by first | exact hM.o | exact hl.o | exact hM.a55 | exact hM.a56 | exact hM.a59 | exact hM.a62 | exact hl.a4) (by decide) (Nat.le_refl _) (Nat.le_refl _) (Nat.le_of_ble_eq_true rfl) (wM_rowsNow (T := psT S) (by omega) haft hM hl h64 (hF.lc h64 hLC) (hF.lv h64 ((h.th (z := 0)).lv hd)) hA hc hR (fun V2 n113 f113 o113 e113 g113 u113 => ?_))
      refine av_callV1 (q := 119) (ci := 9) F hm mM_good_i mM_good_n lM_56 dM_firstBy_116 rfl rfl rfl (by first | exact hM.o | exact hl.o | exact hM.a55 | exact hM.a56 | exact hM.a59 | exact hM.a62 | exact hl.a4) (by decide) (Nat.le_refl _) (Nat.le_refl _) (Nat.le_of_ble_eq_true rfl) (wM_good hM ?_)
      refine aw_iret F C dM_firstBy_119 rfl (Nat.le_refl _) (Nat.le_refl _) ?_
      exact MK.fin (S := S) g' h (by decide) (hF.tr f113) (Or.inl (o113.trans h26))
    | succ j ih =>
      intro k hk V1 w n1 hF h26 hA hR hw
      refine aw_iload_3 (q := 97) F dM_firstBy_96 rfl ?_
      refine aw_iload_2 (q := 98) F dM_firstBy_97 rfl ?_
      refine aw_icmp_ge (q := 101) (t := 111) F dM_firstBy_98 rfl (by decide) (fun c98 => by omega) (fun c98 => ?_)
      refine aw_aload_0 (q := 102) F dM_firstBy_101 rfl ?_
      refine av_callV0 (q := 105) (ci := 9) F hm mM_stepsOn_i mM_stepsOn_n lM_394 dM_firstBy_102 rfl rfl rfl (by first | exact hM.o | exact hl.o | exact hM.a55 | exact hM.a56 | exact hM.a59 | exact hM.a62 | exact hl.a4) (by decide) (Nat.le_refl _) (Nat.le_refl _) (Nat.le_of_ble_eq_true rfl) (wM_stepsOn (by omega) hM hl h64 (hF.lc h64 hLC) hA hc hR (fun V2 n102 f102 o102 g102 r102 => ?_))
      refine aw_iinc_3 (q := 108) F dM_firstBy_105 rfl trivial (by constructor <;> omega) ?_
      refine aw_goto (t := 96) F dM_firstBy_108 (by decide) ?_
      exact ih (k + 1) (by omega) V2 _ n102 (hF.tr f102) (o102.trans h26) g102 r102 (by omega)
  refine aw_aload_0 (q := 1) F dM_firstBy_0 rfl ?_
  refine aw_iconst (q := 2) F dM_firstBy_1 rfl (by decide) ?_
  refine av_puti (q := 5) F fM_46 dM_firstBy_2 rfl rfl (wr_9_0 _) (by first | exact hM.o | exact hl.o | exact hM.a55 | exact hM.a56 | exact hM.a59 | exact hM.a62 | exact hl.a4) ?_
  refine aw_aload_0 (q := 6) F dM_firstBy_5 rfl ?_
  refine av_getaE (q := 9) F fM_281 dM_firstBy_6 rfl rfl (by first | exact hM.o | exact hl.o | exact hM.a55 | exact hM.a56 | exact hM.a59 | exact hM.a62 | exact hl.a4) hM.p3 ?_
  refine aw_ifnull (q := 12) (t := 24) F dM_firstBy_9 rfl (by decide) (fun c9 => ?_) (fun c9 => ?_)
  · refine aw_aload_0 (q := 25) F dM_firstBy_24 rfl ?_
    refine aw_iconst (q := 26) F dM_firstBy_25 rfl (by decide) ?_
    refine av_callV1 (q := 29) (ci := 9) F hm mM_refused_i mM_refused_n lM_52 dM_firstBy_26 rfl rfl rfl (by first | exact hM.o | exact hl.o | exact hM.a55 | exact hM.a56 | exact hM.a59 | exact hM.a62 | exact hl.a4) (by decide) (Nat.le_refl _) (Nat.le_refl _) (Nat.le_of_ble_eq_true rfl) (wM_refused hM ?_)
    refine aw_iret F C dM_firstBy_29 rfl (Nat.le_refl _) (Nat.le_refl _) ?_
    first | exact MK.fin0 (r1 (by omega)) h (by decide) | exact MK.fin0 (r1 (by have := hz c9; omega)) h (by decide)
  · have hd := h.pos c9
    have hl := h.la hd
    have h64 := h.h64 hd
    have hc := h.c0 hd
    have hn := h.n0 hd
    have hLC := h.th (z := 0) |>.lc0 hd
    refine aw_iload_1 (q := 13) F dM_firstBy_12 rfl ?_
    refine aw_if_lt (q := 16) (t := 24) F dM_firstBy_13 rfl (by decide) (fun c13 => ?_) (fun c13 => ?_)
    · refine aw_aload_0 (q := 25) F dM_firstBy_24 rfl ?_
      refine aw_iconst (q := 26) F dM_firstBy_25 rfl (by decide) ?_
      refine av_callV1 (q := 29) (ci := 9) F hm mM_refused_i mM_refused_n lM_52 dM_firstBy_26 rfl rfl rfl (by first | exact hM.o | exact hl.o | exact hM.a55 | exact hM.a56 | exact hM.a59 | exact hM.a62 | exact hl.a4) (by decide) (Nat.le_refl _) (Nat.le_refl _) (Nat.le_of_ble_eq_true rfl) (wM_refused hM ?_)
      refine aw_iret F C dM_firstBy_29 rfl (Nat.le_refl _) (Nat.le_refl _) ?_
      first | exact MK.fin0 (r1 (by omega)) h (by decide) | exact MK.fin0 (r1 (by have := hz c9; omega)) h (by decide)
    · refine aw_iload_1 (q := 17) F dM_firstBy_16 rfl ?_
      refine aw_aload_0 (q := 18) F dM_firstBy_17 rfl ?_
      refine av_callV0 (q := 21) (ci := 9) F hm mM_stepsMany_i mM_stepsMany_n lM_336 dM_firstBy_18 rfl rfl rfl (by first | exact hM.o | exact hl.o | exact hM.a55 | exact hM.a56 | exact hM.a59 | exact hM.a62 | exact hl.a4) (by decide) (Nat.le_refl _) (Nat.le_refl _) (Nat.le_of_ble_eq_true rfl) (wM_stepsMany (c := psC S) hM hl (h.th.lc hd) h.hc ?_)
      refine aw_icmp_lt (q := 24) (t := 30) F dM_firstBy_21 rfl (by decide) (fun c21 => ?_) (fun c21 => ?_)
      · refine aw_iload_2 (q := 31) F dM_firstBy_30 rfl ?_
        refine aw_iconst (q := 32) F dM_firstBy_31 rfl (by decide) ?_
        refine aw_bipush (q := 34) F dM_firstBy_32 rfl (by decide) ?_
        refine av_callS3 (q := 37) F hm mM_in_i mM_in_n lM_357 dM_firstBy_34 rfl (by decide) (Nat.le_refl _) (Nat.le_refl _) (Nat.le_of_ble_eq_true rfl) (wM_in (fun c34 => ?_) (fun c34 => ?_))
        · refine aw_if_ne (q := 40) (t := 46) F dM_firstBy_37 rfl (by decide) (fun c37 => ?_) (fun c37 => absurd c37 (by decide))
          refine aw_aload_0 (q := 47) F dM_firstBy_46 rfl ?_
          refine av_callV0 (q := 50) (ci := 9) F hm mM_begins_i mM_begins_n lM_391 dM_firstBy_47 rfl rfl rfl (by first | exact hM.o | exact hl.o | exact hM.a55 | exact hM.a56 | exact hM.a59 | exact hM.a62 | exact hl.a4) (by decide) (Nat.le_refl _) (Nat.le_refl _) (Nat.le_of_ble_eq_true rfl) (wM_begins h.th hd (fun V2 f47 o47 g47 i47 u47 => ?_))
          refine aw_aload_0 (q := 51) F dM_firstBy_50 rfl ?_
          refine av_callV0 (q := 54) (ci := 9) F hm mM_asTold_i mM_asTold_n lM_283 dM_firstBy_51 rfl rfl rfl (by first | exact hM.o | exact hl.o | exact hM.a55 | exact hM.a56 | exact hM.a59 | exact hM.a62 | exact hl.a4) (by decide) (Nat.le_refl _) (Nat.le_refl _) (Nat.le_of_ble_eq_true rfl) (wM_asTold h.1.2.2.1 hd hM hl h64 (f47.lv h64 (h.th.lv hd)) (fun V3 f51 g51 => ?_))
          refine aw_aload_0 (q := 55) F dM_firstBy_54 rfl ?_
          refine aw_iload_1 (q := 56) F dM_firstBy_55 rfl ?_
          refine av_callV1 (q := 59) (ci := 9) F hm mM_canStep_i mM_canStep_n lM_342 dM_firstBy_56 rfl rfl rfl (by first | exact hM.o | exact hl.o | exact hM.a55 | exact hM.a56 | exact hM.a59 | exact hM.a62 | exact hl.a4) (by decide) (Nat.le_refl _) (Nat.le_refl _) (Nat.le_of_ble_eq_true rfl) (wM_canStep (c := c0T (psT S)) (s := x.toNat) (by omega) (by omega) hM hl (f51.lc h64 (f47.lc h64 hLC)) g51 hc (fun c56 => ?_) (fun c56 => ?_))
          · refine aw_if_ne (q := 62) (t := 68) F dM_firstBy_59 rfl (by decide) (fun c59 => ?_) (fun c59 => absurd c59 (by decide))
            refine aw_aload_0 (q := 69) F dM_firstBy_68 rfl ?_
            refine av_getaE (q := 72) F fM_31 dM_firstBy_69 rfl rfl (by first | exact hM.o | exact hl.o | exact hM.a55 | exact hM.a56 | exact hM.a59 | exact hM.a62 | exact hl.a4) hM.p21 ?_
            refine aw_aload_0 (q := 73) F dM_firstBy_72 rfl ?_
            refine av_callV0 (q := 76) (ci := 9) F hm mM_numbered_i mM_numbered_n lM_330 dM_firstBy_73 rfl rfl rfl (by first | exact hM.o | exact hl.o | exact hM.a55 | exact hM.a56 | exact hM.a59 | exact hM.a62 | exact hl.a4) (by decide) (Nat.le_refl _) (Nat.le_refl _) (Nat.le_of_ble_eq_true rfl) (wM_numbered (c := c0T (psT S)) hn hM hl (f51.lc h64 (f47.lc h64 hLC)) g51 hc ?_)
            have hF4 := (f47.xf f51).up (a := 59) (k := ((mnN (c0T (psT S)) (sc0 (psT S)).2.2 : Nat) : Int).toNat) (z := 0) rfl
            have hmn := mnN_lt hn
            have hsp := spc_le hc
            refine aw_iconst (q := 77) F dM_firstBy_76 rfl (by decide) ?_
            refine av_iastore (q := 78) F dM_firstBy_77 rfl (by first | exact hM.o | exact hl.o | exact hM.a55 | exact hM.a56 | exact hM.a59 | exact hM.a62 | exact hl.a4) (by omega) (by omega) ?_
            refine aw_aload_0 (q := 79) F dM_firstBy_78 rfl ?_
            refine aw_iload_1 (q := 80) F dM_firstBy_79 rfl ?_
            refine av_callV1 (q := 83) (ci := 9) F hm mM_steps_i mM_steps_n lM_345 dM_firstBy_80 rfl rfl rfl (by first | exact hM.o | exact hl.o | exact hM.a55 | exact hM.a56 | exact hM.a59 | exact hM.a62 | exact hl.a4) (by decide) (Nat.le_refl _) (Nat.le_refl _) (Nat.le_of_ble_eq_true rfl) (wM_stepsD (c := c0T (psT S)) (n := (sc0 (psT S)).2.2) (s := x.toNat) (by omega) (by omega) hn c56 hM hl (hF4.lc h64 hLC) (by rw [up2_nea _ _ (by decide)]; exact g51) hc (fun r80 V5 f80 g80 => ?_))
            have haft := aft_lt hn (show x.toNat < stN (c0T (psT S)) by omega) c56
            have hmna := mnN_lt haft
            refine aw_pop (q := 84) F dM_firstBy_83 rfl trivial ?_
            refine aw_aload_0 (q := 85) F dM_firstBy_84 rfl ?_
            refine av_getaE (q := 88) F fM_31 dM_firstBy_85 rfl rfl (by first | exact hM.o | exact hl.o | exact hM.a55 | exact hM.a56 | exact hM.a59 | exact hM.a62 | exact hl.a4) hM.p21 ?_
            refine aw_aload_0 (q := 89) F dM_firstBy_88 rfl ?_
            refine av_callV0 (q := 92) (ci := 9) F hm mM_numbered_i mM_numbered_n lM_330 dM_firstBy_89 rfl rfl rfl (by first | exact hM.o | exact hl.o | exact hM.a55 | exact hM.a56 | exact hM.a59 | exact hM.a62 | exact hl.a4) (by decide) (Nat.le_refl _) (Nat.le_refl _) (Nat.le_of_ble_eq_true rfl) (wM_numbered (c := c0T (psT S)) haft hM hl ((hF4.xf f80).lc h64 hLC) g80 hc ?_)
            refine aw_iconst (q := 93) F dM_firstBy_92 rfl (by decide) ?_
            refine av_iastore (q := 94) F dM_firstBy_93 rfl (by first | exact hM.o | exact hl.o | exact hM.a55 | exact hM.a56 | exact hM.a59 | exact hM.a62 | exact hl.a4) (by omega) (by omega) ?_
            refine aw_iconst (q := 95) F dM_firstBy_94 rfl (by decide) ?_
            refine aw_istore_3 (q := 96) F dM_firstBy_95 rfl trivial ?_
            refine loop hd ⟨by omega, by omega⟩ c34 c56 _ 0 (Nat.zero_add _) _ _ _ ((hF4.xf f80).up rfl) ?_ (by rw [up2_nea _ _ (by decide)]; exact g80) (RI.one haft (fun i hi hne => ?_) ?_) rfl
            · rw [up2_nea _ _ (by decide), f80 53 (by decide), up2_nea _ _ (by decide), f51 53 (by decide)]; exact o47
            · rw [Int.toNat_natCast, up2_nek _ _ hne, f80 59 (by decide), Int.toNat_natCast]
              by_cases q : i = mnN (c0T (psT S)) (sc0 (psT S)).2.2
              · rw [q, up2_same]
              · rw [up2_nek _ _ q, f51 59 (by decide)]; exact i47 i hi q
            · rw [Int.toNat_natCast, up2_same]
          · refine aw_if_ne (q := 62) (t := 68) F dM_firstBy_59 rfl (by decide) (fun c59 => absurd c59 (by decide)) (fun c59 => ?_)
            refine aw_aload_0 (q := 63) F dM_firstBy_62 rfl ?_
            refine aw_iconst (q := 64) F dM_firstBy_63 rfl (by decide) ?_
            refine av_callV1 (q := 67) (ci := 9) F hm mM_good_i mM_good_n lM_56 dM_firstBy_64 rfl rfl rfl (by first | exact hM.o | exact hl.o | exact hM.a55 | exact hM.a56 | exact hM.a59 | exact hM.a62 | exact hl.a4) (by decide) (Nat.le_refl _) (Nat.le_refl _) (Nat.le_of_ble_eq_true rfl) (wM_good hM ?_)
            refine aw_iret F C dM_firstBy_67 rfl (Nat.le_refl _) (Nat.le_refl _) ?_
            have g' := g ⟨by omega, by omega⟩ c34
            rw [fs_at (by omega) (by omega) (by omega), if_neg (by rw [c56]; exact Bool.false_ne_true)] at g'
            exact MK.fin (S := S) g' h (by decide) (f47.xf f51) (Or.inl (by rw [f51 53 (by decide)]; exact o47))
        · refine aw_if_ne (q := 40) (t := 46) F dM_firstBy_37 rfl (by decide) (fun c37 => absurd c37 (by decide)) (fun c37 => ?_)
          refine aw_aload_0 (q := 41) F dM_firstBy_40 rfl ?_
          refine aw_iconst (q := 42) F dM_firstBy_41 rfl (by decide) ?_
          refine av_callV1 (q := 45) (ci := 9) F hm mM_refused_i mM_refused_n lM_52 dM_firstBy_42 rfl rfl rfl (by first | exact hM.o | exact hl.o | exact hM.a55 | exact hM.a56 | exact hM.a59 | exact hM.a62 | exact hl.a4) (by decide) (Nat.le_refl _) (Nat.le_refl _) (Nat.le_of_ble_eq_true rfl) (wM_refused hM ?_)
          refine aw_iret F C dM_firstBy_45 rfl (Nat.le_refl _) (Nat.le_refl _) ?_
          exact MK.fin0 (r2 (by omega) c34) h (by decide)
      · refine aw_aload_0 (q := 25) F dM_firstBy_24 rfl ?_
        refine aw_iconst (q := 26) F dM_firstBy_25 rfl (by decide) ?_
        refine av_callV1 (q := 29) (ci := 9) F hm mM_refused_i mM_refused_n lM_52 dM_firstBy_26 rfl rfl rfl (by first | exact hM.o | exact hl.o | exact hM.a55 | exact hM.a56 | exact hM.a59 | exact hM.a62 | exact hl.a4) (by decide) (Nat.le_refl _) (Nat.le_refl _) (Nat.le_of_ble_eq_true rfl) (wM_refused hM ?_)
        refine aw_iret F C dM_firstBy_29 rfl (Nat.le_refl _) (Nat.le_refl _) ?_
        first | exact MK.fin0 (r1 (by omega)) h (by decide) | exact MK.fin0 (r1 (by have := hz c9; omega)) h (by decide)
end Mod33
