section Mod25
variable {G : GE} {V V' V1 V2 : Nat → Nat → Int} {σ : Shp} {K : Option AV → Mem → Prop} {l : Nat} {c : Cfg} {n : Nat} {S : PS}
theorem stF_s {P i : Nat} {k : Int} (h : ffO c P (fuS c n).1 = some i) : stF c n P k = if 0 ≤ k ∧ k < dpE (fuS c n).1 i then stG c (fuS c n).1 (upL (fuS c n).1 (dpE (fuS c n).1 i - 1 - k.toNat) i) else -1 := by unfold stF; rw [h]
theorem stF_n {P : Nat} {k : Int} (h : ffO c P (fuS c n).1 = none) : stF c n P k = -1 := by unfold stF; rw [h]
theorem stG_of {L : List (Nat × Nat)} {j kk : Nat} {q q0 : Nat × Nat} (hq : L[j]? = some q) (hq0 : L[q.2]? = some q0) (h1 : kk < stN c) (h2 : mayN c q0.1 (allP c) kk = true) (h3 : aftN c q0.1 kk = q.1) (h4 : ∀ k', k' < kk → ¬ (mayN c q0.1 (allP c) k' = true ∧ aftN c q0.1 k' = q.1)) : stG c L j = kk := by
  unfold stG
  rw [parL_some hq, nmL_get hq, nmL_get hq0]
  refine fbF_some (by rw [h2, h3]; simp) (fun j' hj => ?_) h1
  cases hm : mayN c q0.1 (allP c) j'
  · rfl
  · have : aftN c q0.1 j' ≠ q.1 := fun e => h4 j' hj ⟨hm, e⟩
    simp [this]
theorem wM_errandAt {w i : Int} (h : MW V σ l S) (hK : MK K V σ l (setR S (wyE S w i)) (some (vI (rfD (wyE S w i) (stF (psC S) (psA S) (goN S w) i) (-1))))) : Wp G 6 mM_errandAt [vR 53, vI w, vI i] (V, σ) 0 0 K := by
  have hM := h.mo
  have g : 0 < tDn (psT S) → 0 ≤ w ∧ w ≤ 2 → ∀ k : Nat, stF (psC S) (psA S) (goN S w) i = k → MK K V σ l (setR S 0) (some (vI (k : Nat))) := fun a b k c => by
    have e : wyE S w i = 0 := by unfold wyE; rw [if_pos a, if_pos b, if_neg (by rw [c]; omega)]
    rw [e, c] at hK; exact hK
  have g1 : 0 < tDn (psT S) → 0 ≤ w ∧ w ≤ 2 → stF (psC S) (psA S) (goN S w) i = -1 → MK K V σ l (setR S 1) (some (vI (-1))) := fun a b c => by
    have e : wyE S w i = 1 := by unfold wyE; rw [if_pos a, if_pos b, if_pos c]
    rw [e] at hK; exact hK
  have r1 : ¬ 0 < tDn (psT S) → MK K V σ l (setR S 1) (some (vI (-1))) := fun a => by
    have e : wyE S w i = 1 := by unfold wyE; rw [if_neg a]
    rw [e] at hK; exact hK
  have r2 : 0 < tDn (psT S) → ¬ (0 ≤ w ∧ w ≤ 2) → MK K V σ l (setR S 2) (some (vI (-1))) := fun a b => by
    have e : wyE S w i = 2 := by unfold wyE; rw [if_pos a, if_neg b]
    rw [e] at hK; exact hK
  clear hK
  have hst := stN_le h.hc
  have hsp := spc_le h.hc
  refine wp_intro mM_errandAt_i.1 [some (vR 53), some (vI w), some (vI i), none, none] rfl rfl (Nat.le_of_ble_eq_true rfl) ?_
  intro X hG F C
  have hm := C.rm
  have loop : ∀ (V2 : Nat → Nat → Int) (i0 : Nat) (x3 : Int), FN (up2 V 53 0 0) V2 S → 0 < tDn (psT S) → 0 ≤ w ∧ w ≤ 2 → ffO (psC S) (goN S w) (fuS (psC S) (psA S)).1 = some i0 → 0 ≤ i → ∀ (d k : Nat) (q : Nat × Nat) (w4 : Int), k + d + i.toNat + 1 = dpE (fuS (psC S) (psA S)).1 i0 → d + i.toNat + 1 = dpE (fuS (psC S) (psA S)).1 (upL (fuS (psC S) (psA S)).1 k i0) → (fuS (psC S) (psA S)).1[upL (fuS (psC S) (psA S)).1 k i0]? = some q → w4 = mnN (psC S) q.1 → AW X 55 [some (vR 53), some (vI w), some (vI i), some (vI x3), some (vI w4)] [] (V2, σ) 0 0 := by
    intro V2 i0 x3 hF hd hw hff hi0 d
    have hl := h.la hd
    have hC2 := hF.1.lc (h.h64 hd) (h.th.lc hd)
    have hok := fu_ok (h.hn hd)
    have hlen := okQ_len hok
    induction d with
    | zero =>
      intro k q w4 hk1 hk2 hq hw4
      have hdl := dpL_le (fuS (psC S) (psA S)).1 (fuS (psC S) (psA S)).1.length i0
      have hdl : dpE (fuS (psC S) (psA S)).1 i0 ≤ (fuS (psC S) (psA S)).1.length := hdl
      have hqs := mnN_lt (hok.2.1 q (List.mem_of_getElem? hq))
      have e59 := hF.2.2.dp hok _ q hq
      obtain ⟨-, s2, -, s4⟩ := hF.2.2.2.2 _ q hq
      have hj0 : upL (fuS (psC S) (psA S)).1 k i0 ≠ 0 := fun e => by have := s2 e; omega
      obtain ⟨q0, kk, t1, t2, t3, t4, t5, t6, t7⟩ := s4 (by omega)
      have hG := stG_of hq t1 t4 t5 t6 t7
      obtain ⟨d1, d2⟩ := dig_mod (a := mnN (psC S) q0.1) t4
      have hq0s := mnN_lt (hok.2.1 q0 (List.mem_of_getElem? t1))
      have hml := Nat.mul_le_mul hst (Nat.le_of_lt hq0s)
      have em : ((stN (psC S) * mnN (psC S) q0.1 + kk : Nat) : Int) % (stN (psC S) : Int) = (kk : Nat) := by rw [← Int.natCast_emod, d1]
      refine aw_aload_0 (q := 56) F dM_errandAt_55 rfl ?_
      refine av_getaE (q := 59) F fM_31 dM_errandAt_56 rfl rfl (by first | exact hM.o | exact hl.o | exact hM.a55 | exact hM.a56 | exact hM.a59 | exact hM.a60 | exact hM.a61) hM.p21 ?_
      refine aw_iload_4 (q := 61) F dM_errandAt_59 rfl ?_
      refine av_iaload (q := 62) F dM_errandAt_61 rfl (by first | exact hM.o | exact hl.o | exact hM.a55 | exact hM.a56 | exact hM.a59 | exact hM.a60 | exact hM.a61) (by omega) (by omega) ?_
      rw [hw4, Int.toNat_natCast, e59]
      refine aw_iload_2 (q := 63) F dM_errandAt_62 rfl ?_
      refine aw_iconst (q := 64) F dM_errandAt_63 rfl (by decide) ?_
      refine aw_iadd (q := 65) F dM_errandAt_64 rfl (by constructor <;> omega) ?_
      refine aw_icmp_le (q := 68) (t := 85) F dM_errandAt_65 rfl (by decide) (fun c65 => ?_) (fun c65 => by omega)
      refine aw_aload_0 (q := 86) F dM_errandAt_85 rfl ?_
      refine aw_aload_0 (q := 87) F dM_errandAt_86 rfl ?_
      refine av_getaE (q := 90) F fM_34 dM_errandAt_87 rfl rfl (by first | exact hM.o | exact hl.o | exact hM.a55 | exact hM.a56 | exact hM.a59 | exact hM.a60 | exact hM.a61) hM.p22 ?_
      refine aw_iload_4 (q := 92) F dM_errandAt_90 rfl ?_
      refine av_iaload (q := 93) F dM_errandAt_92 rfl (by first | exact hM.o | exact hl.o | exact hM.a55 | exact hM.a56 | exact hM.a59 | exact hM.a60 | exact hM.a61) (by omega) (by omega) ?_
      rw [Int.toNat_natCast, t3]
      refine aw_aload_0 (q := 94) F dM_errandAt_93 rfl ?_
      refine av_callV0 (q := 97) (ci := 9) F hm mM_stepsMany_i mM_stepsMany_n lM_336 dM_errandAt_94 rfl rfl rfl (by first | exact hM.o | exact hl.o | exact hM.a55 | exact hM.a56 | exact hM.a59 | exact hM.a60 | exact hM.a61) (by decide) (Nat.le_refl _) (Nat.le_refl _) (Nat.le_of_ble_eq_true rfl) (wM_stepsMany hM hl hC2 h.hc ?_)
      refine aw_irem (q := 98) F dM_errandAt_97 rfl (by omega) (by omega) ?_
      rw [em]
      refine av_callV1 (q := 101) (ci := 9) F hm mM_good_i mM_good_n lM_56 dM_errandAt_98 rfl rfl rfl (by first | exact hM.o | exact hl.o | exact hM.a55 | exact hM.a56 | exact hM.a59 | exact hM.a60 | exact hM.a61) (by decide) (Nat.le_refl _) (Nat.le_refl _) (Nat.le_of_ble_eq_true rfl) (wM_good hM ?_)
      refine aw_iret F C dM_errandAt_101 rfl (Nat.le_refl _) (Nat.le_refl _) ?_
      refine MK.fin (S := S) (g hd hw kk ?_) h (by decide) hF.1 hF.q
      rw [stF_s hff, if_pos ⟨hi0, by omega⟩, show dpE (fuS (psC S) (psA S)).1 i0 - 1 - i.toNat = k by omega]
      exact hG
    | succ d ih =>
      intro k q w4 hk1 hk2 hq hw4
      have hdl := dpL_le (fuS (psC S) (psA S)).1 (fuS (psC S) (psA S)).1.length i0
      have hdl : dpE (fuS (psC S) (psA S)).1 i0 ≤ (fuS (psC S) (psA S)).1.length := hdl
      have hqs := mnN_lt (hok.2.1 q (List.mem_of_getElem? hq))
      have e59 := hF.2.2.dp hok _ q hq
      obtain ⟨-, s2, -, s4⟩ := hF.2.2.2.2 _ q hq
      have hj0 : upL (fuS (psC S) (psA S)).1 k i0 ≠ 0 := fun e => by have := s2 e; omega
      obtain ⟨q0, kk, t1, t2, t3, t4, t5, t6, t7⟩ := s4 (by omega)
      obtain ⟨d1, d2⟩ := dig_mod (a := mnN (psC S) q0.1) t4
      have hq0s := mnN_lt (hok.2.1 q0 (List.mem_of_getElem? t1))
      have hml := Nat.mul_le_mul hst (Nat.le_of_lt hq0s)
      have em : ((stN (psC S) * mnN (psC S) q0.1 + kk : Nat) : Int) / (stN (psC S) : Int) = (mnN (psC S) q0.1 : Nat) := by rw [← Int.natCast_ediv, d2]
      have eu : upL (fuS (psC S) (psA S)).1 (k + 1) i0 = q.2 := by show parL _ _ = _; rw [parL_some hq]
      have e59b := hF.2.2.dp hok _ q0 t1
      refine aw_aload_0 (q := 56) F dM_errandAt_55 rfl ?_
      refine av_getaE (q := 59) F fM_31 dM_errandAt_56 rfl rfl (by first | exact hM.o | exact hl.o | exact hM.a55 | exact hM.a56 | exact hM.a59 | exact hM.a60 | exact hM.a61) hM.p21 ?_
      refine aw_iload_4 (q := 61) F dM_errandAt_59 rfl ?_
      refine av_iaload (q := 62) F dM_errandAt_61 rfl (by first | exact hM.o | exact hl.o | exact hM.a55 | exact hM.a56 | exact hM.a59 | exact hM.a60 | exact hM.a61) (by omega) (by omega) ?_
      rw [hw4, Int.toNat_natCast, e59]
      refine aw_iload_2 (q := 63) F dM_errandAt_62 rfl ?_
      refine aw_iconst (q := 64) F dM_errandAt_63 rfl (by decide) ?_
      refine aw_iadd (q := 65) F dM_errandAt_64 rfl (by constructor <;> omega) ?_
      refine aw_icmp_le (q := 68) (t := 85) F dM_errandAt_65 rfl (by decide) (fun c65 => by omega) (fun c65 => ?_)
      refine aw_aload_0 (q := 69) F dM_errandAt_68 rfl ?_
      refine av_getaE (q := 72) F fM_34 dM_errandAt_69 rfl rfl (by first | exact hM.o | exact hl.o | exact hM.a55 | exact hM.a56 | exact hM.a59 | exact hM.a60 | exact hM.a61) hM.p22 ?_
      refine aw_iload_4 (q := 74) F dM_errandAt_72 rfl ?_
      refine av_iaload (q := 75) F dM_errandAt_74 rfl (by first | exact hM.o | exact hl.o | exact hM.a55 | exact hM.a56 | exact hM.a59 | exact hM.a60 | exact hM.a61) (by omega) (by omega) ?_
      rw [Int.toNat_natCast, t3]
      refine aw_aload_0 (q := 76) F dM_errandAt_75 rfl ?_
      refine av_callV0 (q := 79) (ci := 9) F hm mM_stepsMany_i mM_stepsMany_n lM_336 dM_errandAt_76 rfl rfl rfl (by first | exact hM.o | exact hl.o | exact hM.a55 | exact hM.a56 | exact hM.a59 | exact hM.a60 | exact hM.a61) (by decide) (Nat.le_refl _) (Nat.le_refl _) (Nat.le_of_ble_eq_true rfl) (wM_stepsMany hM hl hC2 h.hc ?_)
      refine aw_idiv (q := 80) F dM_errandAt_79 rfl (by omega) (by omega) ?_
      rw [em]
      refine aw_istore_4 (q := 82) F dM_errandAt_80 rfl trivial ?_
      refine aw_goto (t := 55) F dM_errandAt_82 (by decide) ?_
      exact ih (k + 1) q0 _ (by omega) (by rw [eu]; omega) (by rw [eu]; exact t1) rfl
  refine aw_aload_0 (q := 1) F dM_errandAt_0 rfl ?_
  refine aw_iconst (q := 2) F dM_errandAt_1 rfl (by decide) ?_
  refine av_puti (q := 5) F fM_46 dM_errandAt_2 rfl rfl (wr_9_0 _) (by first | exact hM.o | exact hl.o | exact hM.a55 | exact hM.a56 | exact hM.a59 | exact hM.a60 | exact hM.a61) ?_
  refine aw_aload_0 (q := 6) F dM_errandAt_5 rfl ?_
  refine aw_iload_1 (q := 7) F dM_errandAt_6 rfl ?_
  refine av_callV1 (q := 10) (ci := 9) F hm mM_refusesWhat_i mM_refusesWhat_n lM_379 dM_errandAt_7 rfl rfl rfl (by first | exact hM.o | exact hl.o | exact hM.a55 | exact hM.a56 | exact hM.a59 | exact hM.a60 | exact hM.a61) (by decide) (Nat.le_refl _) (Nat.le_refl _) (Nat.le_of_ble_eq_true rfl) (wM_refusesWhat h.th (fun d7 w7 => ?_) (fun d7 => ?_) (fun d7 w7 => ?_))
  · refine aw_istore_3 (q := 11) F dM_errandAt_10 rfl trivial ?_
    refine aw_iload_3 (q := 12) F dM_errandAt_11 rfl ?_
    refine aw_if_le (q := 15) (t := 21) F dM_errandAt_12 rfl (by decide) (fun c12 => ?_) (fun c12 => absurd c12 (by decide))
    refine aw_aload_0 (q := 22) F dM_errandAt_21 rfl ?_
    refine aw_iload_1 (q := 23) F dM_errandAt_22 rfl ?_
    refine av_callV1 (q := 26) (ci := 9) F hm mM_errandEnd_i mM_errandEnd_n lM_382 dM_errandAt_23 rfl rfl rfl (by first | exact hM.o | exact hl.o | exact hM.a55 | exact hM.a56 | exact hM.a59 | exact hM.a60 | exact hM.a61) (by decide) (Nat.le_refl _) (Nat.le_refl _) (Nat.le_of_ble_eq_true rfl) (wM_errandEnd w7 h.th d7 (fun V2 f23 e23 => ?_) (fun V2 i23 q23 f23 e23 u23 => ?_))
    · refine aw_istore_4 (q := 28) F dM_errandAt_26 rfl trivial ?_
      refine aw_iload_4 (q := 30) F dM_errandAt_28 rfl ?_
      refine aw_iconst (q := 31) F dM_errandAt_30 rfl (by decide) ?_
      refine aw_icmp_eq (q := 34) (t := 49) F dM_errandAt_31 rfl (by decide) (fun c31 => ?_) (fun c31 => absurd c31 (by decide))
      refine aw_aload_0 (q := 50) F dM_errandAt_49 rfl ?_
      refine aw_iconst (q := 51) F dM_errandAt_50 rfl (by decide) ?_
      refine av_callV1 (q := 54) (ci := 9) F hm mM_refused_i mM_refused_n lM_52 dM_errandAt_51 rfl rfl rfl (by first | exact hM.o | exact hl.o | exact hM.a55 | exact hM.a56 | exact hM.a59 | exact hM.a60 | exact hM.a61) (by decide) (Nat.le_refl _) (Nat.le_refl _) (Nat.le_of_ble_eq_true rfl) (wM_refused hM ?_)
      refine aw_iret F C dM_errandAt_54 rfl (Nat.le_refl _) (Nat.le_refl _) ?_
      first | exact MK.fin (S := S) (g1 d7 w7 (stF_n e23)) h (by decide) f23.1 f23.q | exact MK.fin (S := S) (g1 d7 w7 (by rw [hsf, if_neg (by omega)])) h (by decide) f23.1 f23.q
    · refine aw_istore_4 (q := 28) F dM_errandAt_26 rfl trivial ?_
      refine aw_iload_4 (q := 30) F dM_errandAt_28 rfl ?_
      refine aw_iconst (q := 31) F dM_errandAt_30 rfl (by decide) ?_
      refine aw_icmp_eq (q := 34) (t := 49) F dM_errandAt_31 rfl (by decide) (fun c31 => by omega) (fun c31 => ?_)
      have hq1 := mnN_lt ((fu_ok (h.hn d7)).2.1 q23 (List.mem_of_getElem? u23))
      have hsf := stF_s (k := i) e23
      refine aw_iload_2 (q := 35) F dM_errandAt_34 rfl ?_
      refine aw_if_lt (q := 38) (t := 49) F dM_errandAt_35 rfl (by decide) (fun c35 => ?_) (fun c35 => ?_)
      · refine aw_aload_0 (q := 50) F dM_errandAt_49 rfl ?_
        refine aw_iconst (q := 51) F dM_errandAt_50 rfl (by decide) ?_
        refine av_callV1 (q := 54) (ci := 9) F hm mM_refused_i mM_refused_n lM_52 dM_errandAt_51 rfl rfl rfl (by first | exact hM.o | exact hl.o | exact hM.a55 | exact hM.a56 | exact hM.a59 | exact hM.a60 | exact hM.a61) (by decide) (Nat.le_refl _) (Nat.le_refl _) (Nat.le_of_ble_eq_true rfl) (wM_refused hM ?_)
        refine aw_iret F C dM_errandAt_54 rfl (Nat.le_refl _) (Nat.le_refl _) ?_
        first | exact MK.fin (S := S) (g1 d7 w7 (stF_n e23)) h (by decide) f23.1 f23.q | exact MK.fin (S := S) (g1 d7 w7 (by rw [hsf, if_neg (by omega)])) h (by decide) f23.1 f23.q
      · refine aw_iload_2 (q := 39) F dM_errandAt_38 rfl ?_
        refine aw_aload_0 (q := 40) F dM_errandAt_39 rfl ?_
        refine av_getaE (q := 43) F fM_31 dM_errandAt_40 rfl rfl (by first | exact hM.o | exact hl.o | exact hM.a55 | exact hM.a56 | exact hM.a59 | exact hM.a60 | exact hM.a61) hM.p21 ?_
        refine aw_iload_4 (q := 45) F dM_errandAt_43 rfl ?_
        refine av_iaload (q := 46) F dM_errandAt_45 rfl (by first | exact hM.o | exact hl.o | exact hM.a55 | exact hM.a56 | exact hM.a59 | exact hM.a60 | exact hM.a61) (by omega) (by omega) ?_
        rw [Int.toNat_natCast, f23.2.2.dp (fu_ok (h.hn d7)) i23 q23 u23]
        refine aw_icmp_lt (q := 49) (t := 55) F dM_errandAt_46 rfl (by decide) (fun c46 => ?_) (fun c46 => ?_)
        · exact loop V2 i23 _ f23 d7 w7 e23 (by omega) (dpE (fuS (psC S) (psA S)).1 i23 - 1 - i.toNat) 0 q23 _ (by omega) (by show _ = dpE _ i23; omega) u23 rfl
        · refine aw_aload_0 (q := 50) F dM_errandAt_49 rfl ?_
          refine aw_iconst (q := 51) F dM_errandAt_50 rfl (by decide) ?_
          refine av_callV1 (q := 54) (ci := 9) F hm mM_refused_i mM_refused_n lM_52 dM_errandAt_51 rfl rfl rfl (by first | exact hM.o | exact hl.o | exact hM.a55 | exact hM.a56 | exact hM.a59 | exact hM.a60 | exact hM.a61) (by decide) (Nat.le_refl _) (Nat.le_refl _) (Nat.le_of_ble_eq_true rfl) (wM_refused hM ?_)
          refine aw_iret F C dM_errandAt_54 rfl (Nat.le_refl _) (Nat.le_refl _) ?_
          first | exact MK.fin (S := S) (g1 d7 w7 (stF_n e23)) h (by decide) f23.1 f23.q | exact MK.fin (S := S) (g1 d7 w7 (by rw [hsf, if_neg (by omega)])) h (by decide) f23.1 f23.q
  · refine aw_istore_3 (q := 11) F dM_errandAt_10 rfl trivial ?_
    refine aw_iload_3 (q := 12) F dM_errandAt_11 rfl ?_
    refine aw_if_le (q := 15) (t := 21) F dM_errandAt_12 rfl (by decide) (fun c12 => absurd c12 (by decide)) (fun c12 => ?_)
    refine aw_aload_0 (q := 16) F dM_errandAt_15 rfl ?_
    refine aw_iload_3 (q := 17) F dM_errandAt_16 rfl ?_
    refine av_callV1 (q := 20) (ci := 9) F hm mM_refused_i mM_refused_n lM_52 dM_errandAt_17 rfl rfl rfl (by first | exact hM.o | exact hl.o | exact hM.a55 | exact hM.a56 | exact hM.a59 | exact hM.a60 | exact hM.a61) (by decide) (Nat.le_refl _) (Nat.le_refl _) (Nat.le_of_ble_eq_true rfl) (wM_refused hM ?_)
    refine aw_iret F C dM_errandAt_20 rfl (Nat.le_refl _) (Nat.le_refl _) ?_
    first | exact MK.fin0 (r1 d7) h (by decide) | exact MK.fin0 (r2 d7 w7) h (by decide)
  · refine aw_istore_3 (q := 11) F dM_errandAt_10 rfl trivial ?_
    refine aw_iload_3 (q := 12) F dM_errandAt_11 rfl ?_
    refine aw_if_le (q := 15) (t := 21) F dM_errandAt_12 rfl (by decide) (fun c12 => absurd c12 (by decide)) (fun c12 => ?_)
    refine aw_aload_0 (q := 16) F dM_errandAt_15 rfl ?_
    refine aw_iload_3 (q := 17) F dM_errandAt_16 rfl ?_
    refine av_callV1 (q := 20) (ci := 9) F hm mM_refused_i mM_refused_n lM_52 dM_errandAt_17 rfl rfl rfl (by first | exact hM.o | exact hl.o | exact hM.a55 | exact hM.a56 | exact hM.a59 | exact hM.a60 | exact hM.a61) (by decide) (Nat.le_refl _) (Nat.le_refl _) (Nat.le_of_ble_eq_true rfl) (wM_refused hM ?_)
    refine aw_iret F C dM_errandAt_20 rfl (Nat.le_refl _) (Nat.le_refl _) ?_
    first | exact MK.fin0 (r1 d7) h (by decide) | exact MK.fin0 (r2 d7 w7) h (by decide)
end Mod25
