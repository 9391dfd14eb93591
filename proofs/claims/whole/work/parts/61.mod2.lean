-- counting bits
def pcN : Nat → Nat → Nat
  | 0, _ => 0
  | k + 1, m => m % 2 + pcN k (m / 2)
theorem pcN_0 : ∀ k, pcN k 0 = 0
  | 0 => rfl
  | k + 1 => by show 0 % 2 + pcN k (0 / 2) = 0; rw [show 0 / 2 = 0 from rfl, pcN_0 k]
theorem pcN_le : ∀ k m, pcN k m ≤ k
  | 0, _ => Nat.le_refl _
  | k + 1, m => by
    have := pcN_le k (m / 2)
    show m % 2 + pcN k (m / 2) ≤ k + 1
    omega
theorem pcN_low : ∀ (k m : Nat), 0 < m → m < 2 ^ k → pcN k (m &&& (m - 1)) + 1 = pcN k m
  | 0, m, h0, h => by
    have h : m < 1 := h
    omega
  | k + 1, m, h0, h => by
    show (m &&& (m - 1)) % 2 + pcN k ((m &&& (m - 1)) / 2) + 1 = m % 2 + pcN k (m / 2)
    have e1 : (m &&& (m - 1)) / 2 = (m / 2 &&& (m - 1) / 2) := by
      have := Nat.and_div_two_pow (a := m) (b := m - 1) (n := 1)
      simpa using this
    have e2 : (m &&& (m - 1)) % 2 = 0 := by
      have h1 := Nat.and_mod_two_pow (a := m) (b := m - 1) (n := 1)
      rw [Nat.pow_one] at h1
      rw [h1]
      rcases Nat.mod_two_eq_zero_or_one m with q | q
      · rw [q, Nat.zero_and]
      · rw [show (m - 1) % 2 = 0 by omega, Nat.and_zero]
    rw [e1, e2]
    rcases Nat.mod_two_eq_zero_or_one m with q | q
    · have ih := pcN_low k (m / 2) (by omega) (by rw [Nat.pow_succ] at h; omega)
      rw [show (m - 1) / 2 = m / 2 - 1 by omega, q]
      omega
    · rw [show (m - 1) / 2 = m / 2 by omega, Nat.and_self, q]
      omega
theorem pcN_16 : ∀ m : Nat, m < 16 → pcN 31 m = pc4 m := by decide +kernel
def LC (V : Nat → Nat → Int) (l : Nat) (c : Cfg) : Prop := V l 1 = dN c ∧ V l 2 = pN c ∧ V l 3 = lkC c ∧ V l 5 = kyC c
theorem inP_lt {c : Cfg} (hc : okC c) (n r : Nat) : inP c n r < 4 := Nat.lt_of_lt_of_le (bsum_lt _ _) (show 2 ^ pN c ≤ 2 ^ 2 from Nat.pow_le_pow_right (by decide) hc.2.1)
theorem inP_all (c : Cfg) (n r : Nat) : inP c n r &&& allP c = inP c n r := by
  unfold allP
  rw [Nat.and_two_pow_sub_one_eq_mod]
  exact Nat.mod_eq_of_lt (bsum_lt _ _)
section Mod2
variable {G : GE} {V : Nat → Nat → Int} {σ : Shp} {K : Option AV → Mem → Prop} {l : Nat} {c : Cfg} {n : Nat}
theorem wM_bits {x : Int} {m : Nat} (hx : x = m) (hm31 : m < 2 ^ 31) (hK : K (some (vI (pcN 31 m))) (V, σ)) : Wp G 0 mM_bits [vI x] (V, σ) 0 0 K := by
  refine wp_intro mM_bits_i.1 [some (vI x), none, none] rfl rfl (Nat.le_of_ble_eq_true rfl) ?_
  intro X hG F C
  have hm := C.rm
  have loop : ∀ (r : Nat), r < 2 ^ 31 → ∀ (z w : Int) (k : Nat), z = k → w = r → k ≤ 31 → k + pcN 31 r = pcN 31 m → AW X 4 [some (vI x), some (vI z), some (vI w)] [] (V, σ) 0 0 := by
    intro r
    induction r using Nat.strongRecOn with
    | ind r ih =>
      intro hr z w k hz hw hk hs
      have hle := pcN_le 31 m
      have e31 : 2 ^ 31 = 2147483648 := by decide
      have ea : 0 < r → zand w (w - 1) = ((r &&& (r - 1) : Nat) : Int) := fun q => by
        rw [hw, show ((r : Nat) : Int) - 1 = ((r - 1 : Nat) : Int) by omega]
        exact zand_n (Nat.lt_of_le_of_lt Nat.and_le_left (by omega))
      refine aw_iload_2 (q := 5) F dM_bits_4 rfl ?_
      refine aw_if_eq (q := 8) (t := 20) F dM_bits_5 rfl (by decide) (fun c5 => ?_) (fun c5 => ?_)
      · refine aw_iload_1 (q := 21) F dM_bits_20 rfl ?_
        refine aw_iret F C dM_bits_21 rfl (Nat.le_refl _) (Nat.le_refl _) ?_
        refine kI hK ?_
        rw [show r = 0 by omega, pcN_0] at hs
        omega
      · refine aw_iinc_1 (q := 11) F dM_bits_8 rfl trivial (by constructor <;> omega) ?_
        refine aw_iload_2 (q := 12) F dM_bits_11 rfl ?_
        refine aw_iload_2 (q := 13) F dM_bits_12 rfl ?_
        refine aw_iconst (q := 14) F dM_bits_13 rfl (by decide) ?_
        refine aw_isub (q := 15) F dM_bits_14 rfl (by constructor <;> omega) ?_
        refine aw_iand (q := 16) F dM_bits_15 rfl ?_
        rw [ea (by omega)]
        refine aw_istore_2 (q := 17) F dM_bits_16 rfl trivial ?_
        refine aw_goto (t := 4) F dM_bits_17 (by decide) ?_
        have hlow := pcN_low 31 r (by omega) hr
        have hlt : r &&& (r - 1) < r := Nat.lt_of_le_of_lt Nat.and_le_right (by omega)
        exact ih _ hlt (Nat.lt_trans hlt hr) _ _ (k + 1) (by omega) rfl (by omega) (by omega)
  refine aw_iconst (q := 1) F dM_bits_0 rfl (by decide) ?_
  refine aw_istore_1 (q := 2) F dM_bits_1 rfl trivial ?_
  refine aw_iload_0 (q := 3) F dM_bits_2 rfl ?_
  refine aw_istore_2 (q := 4) F dM_bits_3 rfl trivial ?_
  exact loop m hm31 _ _ 0 rfl hx (by omega) (by omega)
theorem wM_inPlace {x : Int} {r : Nat} (hx : x = r) (hM : moS σ l) (hl : laS σ l) (hC : LC V l c) (hA : AR (V 56) c n) (hc : okC c) (hK : K (some (vI (inP c n r))) (V, σ)) : Wp G 0 mM_inPlace [vR 53, vI x] (V, σ) 0 0 K := by
  have h2 := hC.2.1
  have hp2 : pN c ≤ 2 := hc.2.1
  refine wp_intro mM_inPlace_i.1 [some (vR 53), some (vI x), none, none] rfl rfl (Nat.le_of_ble_eq_true rfl) ?_
  intro X hG F C
  have hm := C.rm
  have loop : ∀ (j p : Nat), pN c - p = j → p ≤ pN c → ∀ (z w : Int), z = bsum (fun p => pl c n p == r) p → w = p → AW X 4 [some (vR 53), some (vI x), some (vI z), some (vI w)] [] (V, σ) 0 0 := by
    intro j
    induction j using Nat.strongRecOn with
    | ind j ih =>
      intro p hj hp z w hz hw
      have hbo := bsum_or (fun p => pl c n p == r) p
      have hbl := bsum_lt (fun p => pl c n p == r) (p + 1)
      have hb0 : bsum (fun p => pl c n p == r) p < 2147483648 := Nat.lt_of_lt_of_le (bsum_lt _ _) (Nat.le_trans (show 2 ^ p ≤ 2 ^ 3 from Nat.pow_le_pow_right (by decide) (by omega)) (by decide))
      have h4 : 2 ^ (p + 1) ≤ 2 ^ 3 := Nat.pow_le_pow_right (by decide) (by omega)
      have ev : p < pN c → V 56 w.toNat = (pl c n p : Int) := fun q => by rw [show w.toNat = p by omega, hA.1 p (by omega), if_pos q]
      refine aw_iload_3 (q := 5) F dM_inPlace_4 rfl ?_
      refine aw_aload_0 (q := 6) F dM_inPlace_5 rfl ?_
      refine av_getaE (q := 9) F fM_281 dM_inPlace_6 rfl rfl (by first | exact hM.o | exact hl.o | exact hM.a55 | exact hM.a56) hM.p3 ?_
      refine av_geti (q := 12) F fM_253 dM_inPlace_9 rfl rfl (by first | exact hM.o | exact hl.o | exact hM.a55 | exact hM.a56) ?_
      refine aw_icmp_ge (q := 15) (t := 41) F dM_inPlace_12 rfl (by decide) (fun c12 => ?_) (fun c12 => ?_)
      · refine aw_iload_2 (q := 42) F dM_inPlace_41 rfl ?_
        refine aw_iret F C dM_inPlace_42 rfl (Nat.le_refl _) (Nat.le_refl _) ?_
        refine kI hK ?_; rw [hz, show p = pN c by omega]; rfl
      · refine aw_iload_2 (q := 16) F dM_inPlace_15 rfl ?_
        refine aw_aload_0 (q := 17) F dM_inPlace_16 rfl ?_
        refine av_getaE (q := 20) F fM_21 dM_inPlace_17 rfl rfl (by first | exact hM.o | exact hl.o | exact hM.a55 | exact hM.a56) hM.p16 ?_
        refine aw_iload_3 (q := 21) F dM_inPlace_20 rfl ?_
        refine av_iaload (q := 22) F dM_inPlace_21 rfl (by first | exact hM.o | exact hl.o | exact hM.a55 | exact hM.a56) (by omega) (by omega) ?_
        rw [ev (by omega)]
        refine aw_iload_1 (q := 23) F dM_inPlace_22 rfl ?_
        refine aw_icmp_ne (q := 26) (t := 32) F dM_inPlace_23 rfl (by decide) (fun c23 => ?_) (fun c23 => ?_)
        · refine aw_iconst (q := 33) F dM_inPlace_32 rfl (by decide) ?_
          first | rw [shl1 (by omega) (by omega), hz] | rw [hz]
          refine aw_ior (q := 34) F dM_inPlace_33 rfl ?_
          refine aw_istore_2 (q := 35) F dM_inPlace_34 rfl trivial ?_
          refine aw_iinc_3 (q := 38) F dM_inPlace_35 rfl trivial (by constructor <;> omega) ?_
          refine aw_goto (t := 4) F dM_inPlace_38 (by decide) ?_
          refine ih _ (by omega) (p + 1) rfl (by omega) _ _ ?_ (by omega)
          rw [← hbo]
          first
          | (rw [if_neg (show ¬ (pl c n p == r) = true from fun q => c23 (by rw [hx]; exact congrArg Nat.cast (beq_iff_eq.mp q))), show (0 : Int) = ((0 : Nat) : Int) from rfl, zor_n (by rw [Nat.or_zero]; exact hb0)])
          | (rw [if_pos (show (pl c n p == r) = true from beq_iff_eq.mpr (by omega)), show w.toNat = p by omega]
             rw [if_pos (show (pl c n p == r) = true from beq_iff_eq.mpr (by omega))] at hbo
             exact zor_n (by rw [hbo]; omega))
        · refine aw_iconst (q := 27) F dM_inPlace_26 rfl (by decide) ?_
          refine aw_iload_3 (q := 28) F dM_inPlace_27 rfl ?_
          refine aw_ishl (q := 29) F dM_inPlace_28 rfl ?_
          refine aw_goto (t := 33) F dM_inPlace_29 (by decide) ?_
          first | rw [shl1 (by omega) (by omega), hz] | rw [hz]
          refine aw_ior (q := 34) F dM_inPlace_33 rfl ?_
          refine aw_istore_2 (q := 35) F dM_inPlace_34 rfl trivial ?_
          refine aw_iinc_3 (q := 38) F dM_inPlace_35 rfl trivial (by constructor <;> omega) ?_
          refine aw_goto (t := 4) F dM_inPlace_38 (by decide) ?_
          refine ih _ (by omega) (p + 1) rfl (by omega) _ _ ?_ (by omega)
          rw [← hbo]
          first
          | (rw [if_neg (show ¬ (pl c n p == r) = true from fun q => c23 (by rw [hx]; exact congrArg Nat.cast (beq_iff_eq.mp q))), show (0 : Int) = ((0 : Nat) : Int) from rfl, zor_n (by rw [Nat.or_zero]; exact hb0)])
          | (rw [if_pos (show (pl c n p == r) = true from beq_iff_eq.mpr (by omega)), show w.toNat = p by omega]
             rw [if_pos (show (pl c n p == r) = true from beq_iff_eq.mpr (by omega))] at hbo
             exact zor_n (by rw [hbo]; omega))
  refine aw_iconst (q := 1) F dM_inPlace_0 rfl (by decide) ?_
  refine aw_istore_2 (q := 2) F dM_inPlace_1 rfl trivial ?_
  refine aw_iconst (q := 3) F dM_inPlace_2 rfl (by decide) ?_
  refine aw_istore_3 (q := 4) F dM_inPlace_3 rfl trivial ?_
  exact loop _ 0 rfl (by omega) _ _ rfl rfl
theorem wM_inLane (hM : moS σ l) (hl : laS σ l) (hC : LC V l c) (hA : AR (V 56) c n) (hc : okC c) (hK : K (some (vI (inP c n 0))) (V, σ)) : Wp G 0 mM_inLane [vR 53] (V, σ) 0 0 K := by
  have h2 := hC.2.1
  have hp2 : pN c ≤ 2 := hc.2.1
  refine wp_intro mM_inLane_i.1 [some (vR 53), none, none] rfl rfl (Nat.le_of_ble_eq_true rfl) ?_
  intro X hG F C
  have hm := C.rm
  have loop : ∀ (j p : Nat), pN c - p = j → p ≤ pN c → ∀ (z w : Int), z = bsum (fun p => pl c n p == 0) p → w = p → AW X 4 [some (vR 53), some (vI z), some (vI w)] [] (V, σ) 0 0 := by
    intro j
    induction j using Nat.strongRecOn with
    | ind j ih =>
      intro p hj hp z w hz hw
      have hbo := bsum_or (fun p => pl c n p == 0) p
      have hbl := bsum_lt (fun p => pl c n p == 0) (p + 1)
      have hb0 : bsum (fun p => pl c n p == 0) p < 2147483648 := Nat.lt_of_lt_of_le (bsum_lt _ _) (Nat.le_trans (show 2 ^ p ≤ 2 ^ 3 from Nat.pow_le_pow_right (by decide) (by omega)) (by decide))
      have h4 : 2 ^ (p + 1) ≤ 2 ^ 3 := Nat.pow_le_pow_right (by decide) (by omega)
      have ev : p < pN c → V 56 w.toNat = (pl c n p : Int) := fun q => by rw [show w.toNat = p by omega, hA.1 p (by omega), if_pos q]
      refine aw_iload_2 (q := 5) F dM_inLane_4 rfl ?_
      refine aw_aload_0 (q := 6) F dM_inLane_5 rfl ?_
      refine av_getaE (q := 9) F fM_281 dM_inLane_6 rfl rfl (by first | exact hM.o | exact hl.o | exact hM.a55 | exact hM.a56) hM.p3 ?_
      refine av_geti (q := 12) F fM_253 dM_inLane_9 rfl rfl (by first | exact hM.o | exact hl.o | exact hM.a55 | exact hM.a56) ?_
      refine aw_icmp_ge (q := 15) (t := 40) F dM_inLane_12 rfl (by decide) (fun c12 => ?_) (fun c12 => ?_)
      · refine aw_iload_1 (q := 41) F dM_inLane_40 rfl ?_
        refine aw_iret F C dM_inLane_41 rfl (Nat.le_refl _) (Nat.le_refl _) ?_
        refine kI hK ?_; rw [hz, show p = pN c by omega]; rfl
      · refine aw_iload_1 (q := 16) F dM_inLane_15 rfl ?_
        refine aw_aload_0 (q := 17) F dM_inLane_16 rfl ?_
        refine av_getaE (q := 20) F fM_21 dM_inLane_17 rfl rfl (by first | exact hM.o | exact hl.o | exact hM.a55 | exact hM.a56) hM.p16 ?_
        refine aw_iload_2 (q := 21) F dM_inLane_20 rfl ?_
        refine av_iaload (q := 22) F dM_inLane_21 rfl (by first | exact hM.o | exact hl.o | exact hM.a55 | exact hM.a56) (by omega) (by omega) ?_
        rw [ev (by omega)]
        refine aw_if_ne (q := 25) (t := 31) F dM_inLane_22 rfl (by decide) (fun c22 => ?_) (fun c22 => ?_)
        · refine aw_iconst (q := 32) F dM_inLane_31 rfl (by decide) ?_
          first | rw [shl1 (by omega) (by omega), hz] | rw [hz]
          refine aw_ior (q := 33) F dM_inLane_32 rfl ?_
          refine aw_istore_1 (q := 34) F dM_inLane_33 rfl trivial ?_
          refine aw_iinc_2 (q := 37) F dM_inLane_34 rfl trivial (by constructor <;> omega) ?_
          refine aw_goto (t := 4) F dM_inLane_37 (by decide) ?_
          refine ih _ (by omega) (p + 1) rfl (by omega) _ _ ?_ (by omega)
          rw [← hbo]
          first
          | (rw [if_neg (show ¬ (pl c n p == 0) = true from fun q => c22 (congrArg Nat.cast (beq_iff_eq.mp q))), show (0 : Int) = ((0 : Nat) : Int) from rfl, zor_n (by rw [Nat.or_zero]; exact hb0)])
          | (rw [if_pos (show (pl c n p == 0) = true from beq_iff_eq.mpr (by omega)), show w.toNat = p by omega]
             rw [if_pos (show (pl c n p == 0) = true from beq_iff_eq.mpr (by omega))] at hbo
             exact zor_n (by rw [hbo]; omega))
        · refine aw_iconst (q := 26) F dM_inLane_25 rfl (by decide) ?_
          refine aw_iload_2 (q := 27) F dM_inLane_26 rfl ?_
          refine aw_ishl (q := 28) F dM_inLane_27 rfl ?_
          refine aw_goto (t := 32) F dM_inLane_28 (by decide) ?_
          first | rw [shl1 (by omega) (by omega), hz] | rw [hz]
          refine aw_ior (q := 33) F dM_inLane_32 rfl ?_
          refine aw_istore_1 (q := 34) F dM_inLane_33 rfl trivial ?_
          refine aw_iinc_2 (q := 37) F dM_inLane_34 rfl trivial (by constructor <;> omega) ?_
          refine aw_goto (t := 4) F dM_inLane_37 (by decide) ?_
          refine ih _ (by omega) (p + 1) rfl (by omega) _ _ ?_ (by omega)
          rw [← hbo]
          first
          | (rw [if_neg (show ¬ (pl c n p == 0) = true from fun q => c22 (congrArg Nat.cast (beq_iff_eq.mp q))), show (0 : Int) = ((0 : Nat) : Int) from rfl, zor_n (by rw [Nat.or_zero]; exact hb0)])
          | (rw [if_pos (show (pl c n p == 0) = true from beq_iff_eq.mpr (by omega)), show w.toNat = p by omega]
             rw [if_pos (show (pl c n p == 0) = true from beq_iff_eq.mpr (by omega))] at hbo
             exact zor_n (by rw [hbo]; omega))
  refine aw_iconst (q := 1) F dM_inLane_0 rfl (by decide) ?_
  refine aw_istore_1 (q := 2) F dM_inLane_1 rfl trivial ?_
  refine aw_iconst (q := 3) F dM_inLane_2 rfl (by decide) ?_
  refine aw_istore_2 (q := 4) F dM_inLane_3 rfl trivial ?_
  exact loop _ 0 rfl (by omega) _ _ rfl rfl
end Mod2
