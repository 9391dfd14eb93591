-- drafts by chance
def pc4 (n : Nat) : Nat := n % 2 + n / 2 % 2 + n / 4 % 2 + n / 8 % 2
def clr (o d : Nat) : Nat := if o.testBit d then o - 2 ^ d else o
theorem clr_le (o d : Nat) : clr o d ≤ o := by unfold clr; split; exact Nat.sub_le _ _; exact Nat.le_refl _
theorem clr_t : ∀ o : Nat, o < 16 → ∀ d : Nat, d < 4 → (Int32.ofInt (o : Int) &&& Int32.ofInt ((Int32.ofInt ((Int32.ofInt 1 <<< (Int32.ofInt (d : Int) &&& 31)).toInt) ^^^ Int32.ofInt (-1)).toInt)).toInt = ((clr o d : Nat) : Int) := by decide +kernel
theorem clr_z {o d : Nat} (ho : o < 16) (hd : d < 4) : zand o (zxor (zshl 1 d) (-1)) = (clr o d : Nat) := by
  rw [zand_eq, zxor_eq, zshl_eq]
  exact clr_t o ho d hd
theorem pc4_le (o : Nat) : pc4 o ≤ 4 := by unfold pc4; omega
def shB (o d j : Nat) : Bool := decide (j % 4 < d) && o.testBit (j % 4) && j / 4 + 2 ^ (j % 4) == o
def sumN (f : Nat → Nat) : Nat → Nat
  | 0 => 0
  | k + 1 => sumN f k + f k
theorem sumN_le {f : Nat → Nat} {B : Nat} : ∀ {k : Nat}, (∀ i, i < k → f i ≤ B) → sumN f k ≤ k * B
  | 0, _ => by show 0 ≤ 0 * B; omega
  | k + 1, h => by
    have h1 := sumN_le (k := k) (fun i hi => h i (by omega))
    have h2 := h k (by omega)
    show sumN f k + f k ≤ (k + 1) * B
    rw [Nat.succ_mul]
    omega
theorem sumN_mono {f : Nat → Nat} {a : Nat} : ∀ {b : Nat}, a ≤ b → sumN f a ≤ sumN f b
  | 0, h => by rw [show a = 0 by omega]; exact Nat.le_refl _
  | b + 1, h => by
    by_cases e : a = b + 1
    · rw [e]; exact Nat.le_refl _
    · have := sumN_mono (f := f) (b := b) (show a ≤ b by omega)
      show sumN f a ≤ sumN f b + f b
      omega
/-- what the entry j gives to the entry i -/
def wC (dr : Nat) (W : Nat → Nat) (i j : Nat) : Nat := (if i = j then W j * (if pc4 (j / 4) = 0 then 1200 else (100 - dr) * 12) else 0) + if pc4 (j / 4) ≠ 0 ∧ shB (j / 4) 4 i = true then W j * dr * (12 / pc4 (j / 4)) else 0
def bwS (dr : Nat) (W : Nat → Nat) (i : Nat) : Nat := sumN (wC dr W i) 64
def bwN (dr o l : Nat) : Nat → Nat → Nat
  | 0 => fun i => if i = o * 4 + l then 1 else 0
  | t + 1 => bwS dr (bwN dr o l t)
theorem wC_le {dr B i j : Nat} {W : Nat → Nat} (hd : dr ≤ 100) (hB : W j ≤ B) : wC dr W i j ≤ 2400 * B := by
  have h1 : (if i = j then W j * (if pc4 (j / 4) = 0 then 1200 else (100 - dr) * 12) else 0) ≤ B * 1200 := by
    split
    · refine Nat.mul_le_mul hB ?_
      split <;> omega
    · omega
  have h2 : (if pc4 (j / 4) ≠ 0 ∧ shB (j / 4) 4 i = true then W j * dr * (12 / pc4 (j / 4)) else 0) ≤ B * 100 * 12 := by
    split
    · exact Nat.mul_le_mul (Nat.mul_le_mul hB hd) (Nat.div_le_self _ _)
    · omega
  unfold wC
  omega
theorem bwS_le {dr B i : Nat} {W : Nat → Nat} (hd : dr ≤ 100) (hB : ∀ j, j < 64 → W j ≤ B) : bwS dr W i ≤ 153600 * B := by
  have := sumN_le (f := wC dr W i) (B := 2400 * B) (k := 64) (fun j hj => wC_le hd (hB j hj))
  unfold bwS
  omega
theorem bwN_le {dr o l : Nat} (hd : dr ≤ 100) : ∀ (t i : Nat), bwN dr o l t i ≤ 153600 ^ t
  | 0, i => by show (if i = o * 4 + l then 1 else 0) ≤ 1; split <;> omega
  | t + 1, i => by
    have := bwS_le (i := i) (W := bwN dr o l t) (B := 153600 ^ t) hd (fun j _ => bwN_le hd t j)
    show bwS dr (bwN dr o l t) i ≤ 153600 ^ (t + 1)
    rw [Nat.pow_succ]
    omega
def gS (σ : Shp) (g wn nn : Nat) : Prop := sO σ g 1 ∧ sP σ g 3 = wn ∧ sP σ g 4 = nn ∧ sA σ wn 12 64 ∧ sA σ nn 12 64 ∧ wn ≠ nn ∧ (g < wn ∧ wn ≤ g + 2) ∧ (g < nn ∧ nn ≤ g + 2)
section GS
variable {σ : Shp} {g wn nn : Nat}
theorem gS.o (h : gS σ g wn nn) : sO σ g 1 := h.1
theorem gS.p3 (h : gS σ g wn nn) : sP σ g 3 = wn := h.2.1
theorem gS.p4 (h : gS σ g wn nn) : sP σ g 4 = nn := h.2.2.1
theorem gS.w (h : gS σ g wn nn) : sA σ wn 12 64 := h.2.2.2.1
theorem gS.n (h : gS σ g wn nn) : sA σ nn 12 64 := h.2.2.2.2.1
theorem gS.ne (h : gS σ g wn nn) : wn ≠ nn := h.2.2.2.2.2.1
theorem gS.gw (h : gS σ g wn nn) : g < wn ∧ wn ≤ g + 2 := h.2.2.2.2.2.2.1
theorem gS.gn (h : gS σ g wn nn) : g < nn ∧ nn ≤ g + 2 := h.2.2.2.2.2.2.2
end GS
abbrev zG (g : Nat) : Nat → Nat → Prop := fun b j => b = g ∧ (j = 3 ∨ j = 4)
theorem ycmp0 {x : Int} : ycmp x 0 = 0 ↔ x = 0 := by
  unfold ycmp
  constructor
  · intro h; split at h
    · omega
    · split at h <;> omega
  · intro h; rw [h]; decide
section Gusts2
variable {G : GE} {V : Nat → Nat → Int} {σ : Shp} {K : Option AV → Mem → Prop} {g wn nn : Nat}
theorem wU_inLowestTerms {x y : Int} {U N : Nat} {b : Bool} (hs : gS σ g wn nn) (hx : x = U) (hU : U < 9223372036854775808) (hV : V g 2 = N) (hN : N < 9223372036854775808) (h0 : 0 < N) (hy : y = bz b) (hK : K (some (vL ((if b then N else U) / Nat.gcd U N : Nat))) (V, σ)) : Wp G 1 mU_inLowestTerms [vR g, vL x, vI y] (V, σ) 0 0 K := by
  have hg : 0 < Nat.gcd U N := Nat.gcd_pos_of_pos_right _ h0
  refine wp_intro mU_inLowestTerms_i.1 [some (vR g), some (vL x), none, some (vI y), none, none] rfl rfl (Nat.le_of_ble_eq_true rfl) ?_
  intro X hG F C
  have hm := C.rm
  refine aw_lload_1 (q := 1) F dU_inLowestTerms_0 rfl ?_
  refine aw_aload_0 (q := 2) F dU_inLowestTerms_1 rfl ?_
  refine av_getl (q := 5) F fU_24 dU_inLowestTerms_2 rfl rfl (by first | exact hs.o | exact hs.w | exact hs.n) ?_
  refine av_callS2 (q := 8) F hm mU_commonDivisor_i mU_commonDivisor_n lU_48 dU_inLowestTerms_5 rfl (by decide) (Nat.le_refl _) (Nat.le_refl _) (Nat.le_of_ble_eq_true rfl) (wU_commonDivisor hx hV hU hN ?_)
  refine aw_lstore_4 (q := 10) F dU_inLowestTerms_8 rfl trivial ?_
  refine aw_lload_4 (q := 12) F dU_inLowestTerms_10 rfl ?_
  refine aw_lconst (q := 13) (z := 0) F dU_inLowestTerms_12 rfl rfl ?_
  refine aw_lcmp (q := 14) F dU_inLowestTerms_13 rfl ?_
  refine aw_if_ne (q := 17) (t := 19) F dU_inLowestTerms_14 rfl (by decide) (fun c14 => ?_) (fun c14 => by rw [ycmp0] at c14; omega)
  refine aw_iload_3 (q := 20) F dU_inLowestTerms_19 rfl ?_
  refine aw_if_eq (q := 23) (t := 30) F dU_inLowestTerms_20 rfl (by decide) (fun c20 => ?_) (fun c20 => ?_)
  · refine aw_lload_1 (q := 31) F dU_inLowestTerms_30 rfl ?_
    refine aw_lload_4 (q := 33) F dU_inLowestTerms_31 rfl ?_
    refine aw_ldiv (q := 34) F dU_inLowestTerms_33 rfl (by first | omega | (rw [hV]; omega)) (by first | omega) ?_
    refine aw_lret F C dU_inLowestTerms_34 rfl (Nat.le_refl _) (Nat.le_refl _) ?_
    cases b
    · first
      | (refine kL hK ?_; rw [hx]; norm_cast)
      | exact absurd hy c20
    · first
      | (refine kL hK ?_; rw [hV]; norm_cast)
      | (rw [c20] at hy; exact absurd hy (by decide))
  · refine aw_aload_0 (q := 24) F dU_inLowestTerms_23 rfl ?_
    refine av_getl (q := 27) F fU_24 dU_inLowestTerms_24 rfl rfl (by first | exact hs.o | exact hs.w | exact hs.n) ?_
    refine aw_goto (t := 31) F dU_inLowestTerms_27 (by decide) ?_
    refine aw_lload_4 (q := 33) F dU_inLowestTerms_31 rfl ?_
    refine aw_ldiv (q := 34) F dU_inLowestTerms_33 rfl (by first | omega | (rw [hV]; omega)) (by first | omega) ?_
    refine aw_lret F C dU_inLowestTerms_34 rfl (Nat.le_refl _) (Nat.le_refl _) ?_
    cases b
    · first
      | (refine kL hK ?_; rw [hx]; norm_cast)
      | exact absurd hy c20
    · first
      | (refine kL hK ?_; rw [hV]; norm_cast)
      | (rw [c20] at hy; exact absurd hy (by decide))
theorem wU_weightOfLast {x : Int} {d : Nat} {W : Nat → Nat} (hs : gS σ g wn nn) (hx : x = d) (hd : d < 4) (hW : ∀ i, i < 64 → V wn i = W i ∧ W i ≤ 100000000000000000) (hK : K (some (vL (sumN (fun i => if i % 4 = d then W i else 0) 64))) (V, σ)) : Wp G 0 mU_weightOfLast [vR g, vI x] (V, σ) 0 0 K := by
  refine wp_intro mU_weightOfLast_i.1 [some (vR g), some (vI x), none, none, none] rfl rfl (Nat.le_of_ble_eq_true rfl) ?_
  intro X hG F C
  have hm := C.rm
  have loop : ∀ (j k : Nat), 64 - k = j → k ≤ 64 → ∀ (z w : Int), z = sumN (fun i => if i % 4 = d then W i else 0) k → w = k → AW X 5 [some (vR g), some (vI x), some (vL z), none, some (vI w)] [] (V, σ) 0 0 := by
    intro j
    induction j using Nat.strongRecOn with
    | ind j ih =>
      intro k hj hk z w hz hw
      have hb : z ≤ 64 * 100000000000000000 := by
        have := sumN_le (f := fun i => if i % 4 = d then W i else 0) (k := k) (B := 100000000000000000) (fun i hi => by have := (hW i (by omega)).2; show (if i % 4 = d then W i else 0) ≤ _; split <;> omega)
        omega
      have hs1 : sumN (fun i => if i % 4 = d then W i else 0) (k + 1) = sumN (fun i => if i % 4 = d then W i else 0) k + if k % 4 = d then W k else 0 := rfl
      refine aw_iload_4 (q := 7) F dU_weightOfLast_5 rfl ?_
      refine aw_aload_0 (q := 8) F dU_weightOfLast_7 rfl ?_
      refine av_getaE (q := 11) F fU_9 dU_weightOfLast_8 rfl rfl (by first | exact hs.o | exact hs.w | exact hs.n) hs.p3 ?_
      refine av_alen (q := 12) F dU_weightOfLast_11 rfl (by first | exact hs.o | exact hs.w | exact hs.n) (by decide) (by omega) ?_
      refine aw_icmp_ge (q := 15) (t := 43) F dU_weightOfLast_12 rfl (by decide) (fun c12 => ?_) (fun c12 => ?_)
      · refine aw_lload_2 (q := 44) F dU_weightOfLast_43 rfl ?_
        refine aw_lret F C dU_weightOfLast_44 rfl (Nat.le_refl _) (Nat.le_refl _) ?_
        refine kL hK ?_; rw [hz, show k = 64 by omega]
      · refine aw_lload_2 (q := 16) F dU_weightOfLast_15 rfl ?_
        refine aw_iload_4 (q := 18) F dU_weightOfLast_16 rfl ?_
        refine aw_iconst (q := 19) F dU_weightOfLast_18 rfl (by decide) ?_
        refine aw_irem (q := 20) F dU_weightOfLast_19 rfl (by omega) (by omega) ?_
        refine aw_iload_1 (q := 21) F dU_weightOfLast_20 rfl ?_
        refine aw_icmp_ne (q := 24) (t := 34) F dU_weightOfLast_21 rfl (by decide) (fun c21 => ?_) (fun c21 => ?_)
        · refine aw_lconst (q := 35) (z := 0) F dU_weightOfLast_34 rfl rfl ?_
          refine aw_ladd (q := 36) F dU_weightOfLast_35 rfl (by constructor <;> omega) ?_
          refine aw_lstore_2 (q := 37) F dU_weightOfLast_36 rfl trivial ?_
          refine aw_iinc_4 (q := 40) F dU_weightOfLast_37 rfl trivial (by constructor <;> omega) ?_
          refine aw_goto (t := 5) F dU_weightOfLast_40 (by decide) ?_
          exact ih _ (by omega) (k + 1) rfl (by omega) _ _ (by split at hs1 <;> omega) (by omega)
        · refine aw_aload_0 (q := 25) F dU_weightOfLast_24 rfl ?_
          refine av_getaE (q := 28) F fU_9 dU_weightOfLast_25 rfl rfl (by first | exact hs.o | exact hs.w | exact hs.n) hs.p3 ?_
          refine aw_iload_4 (q := 30) F dU_weightOfLast_28 rfl ?_
          refine av_laload (q := 31) F dU_weightOfLast_30 rfl (by first | exact hs.o | exact hs.w | exact hs.n) (by omega) (by omega) ?_
          have hk1 := hW k (by omega); rw [show w.toNat = k by omega, hk1.1]
          refine aw_goto (t := 35) F dU_weightOfLast_31 (by decide) ?_
          refine aw_ladd (q := 36) F dU_weightOfLast_35 rfl (by constructor <;> omega) ?_
          refine aw_lstore_2 (q := 37) F dU_weightOfLast_36 rfl trivial ?_
          refine aw_iinc_4 (q := 40) F dU_weightOfLast_37 rfl trivial (by constructor <;> omega) ?_
          refine aw_goto (t := 5) F dU_weightOfLast_40 (by decide) ?_
          exact ih _ (by omega) (k + 1) rfl (by omega) _ _ (by split at hs1 <;> omega) (by omega)
  refine aw_lconst (q := 1) (z := 0) F dU_weightOfLast_0 rfl rfl ?_
  refine aw_lstore_2 (q := 2) F dU_weightOfLast_1 rfl trivial ?_
  refine aw_iconst (q := 3) F dU_weightOfLast_2 rfl (by decide) ?_
  refine aw_istore_4 (q := 5) F dU_weightOfLast_3 rfl trivial ?_
  exact loop _ 0 rfl (by omega) _ _ rfl rfl
theorem wU_weightOfShut {x : Int} {d : Nat} {W : Nat → Nat} (hs : gS σ g wn nn) (hx : x = d) (hd : d < 4) (hW : ∀ i, i < 64 → V wn i = W i ∧ W i ≤ 100000000000000000) (hK : K (some (vL (sumN (fun i => if (i / 4).testBit d then 0 else W i) 64))) (V, σ)) : Wp G 0 mU_weightOfShut [vR g, vI x] (V, σ) 0 0 K := by
  refine wp_intro mU_weightOfShut_i.1 [some (vR g), some (vI x), none, none, none] rfl rfl (Nat.le_of_ble_eq_true rfl) ?_
  intro X hG F C
  have hm := C.rm
  have loop : ∀ (j k : Nat), 64 - k = j → k ≤ 64 → ∀ (z w : Int), z = sumN (fun i => if (i / 4).testBit d then 0 else W i) k → w = k → AW X 5 [some (vR g), some (vI x), some (vL z), none, some (vI w)] [] (V, σ) 0 0 := by
    intro j
    induction j using Nat.strongRecOn with
    | ind j ih =>
      intro k hj hk z w hz hw
      have hb : z ≤ 64 * 100000000000000000 := by
        have := sumN_le (f := fun i => if (i / 4).testBit d then 0 else W i) (k := k) (B := 100000000000000000) (fun i hi => by have := (hW i (by omega)).2; show (if (i / 4).testBit d then 0 else W i) ≤ _; split <;> omega)
        omega
      have hs1 : sumN (fun i => if (i / 4).testBit d then 0 else W i) (k + 1) = sumN (fun i => if (i / 4).testBit d then 0 else W i) k + if (k / 4).testBit d then 0 else W k := rfl
      have hbit : k < 64 → zand (zshr (w / 4) x) 1 = if (k / 4).testBit d then 1 else 0 := fun h => by rw [hx, show w / 4 = ((k / 4 : Nat) : Int) by omega, bit_n (by omega) (by omega), bit_tb]; split <;> rfl
      refine aw_iload_4 (q := 7) F dU_weightOfShut_5 rfl ?_
      refine aw_aload_0 (q := 8) F dU_weightOfShut_7 rfl ?_
      refine av_getaE (q := 11) F fU_9 dU_weightOfShut_8 rfl rfl (by first | exact hs.o | exact hs.w | exact hs.n) hs.p3 ?_
      refine av_alen (q := 12) F dU_weightOfShut_11 rfl (by first | exact hs.o | exact hs.w | exact hs.n) (by decide) (by omega) ?_
      refine aw_icmp_ge (q := 15) (t := 46) F dU_weightOfShut_12 rfl (by decide) (fun c12 => ?_) (fun c12 => ?_)
      · refine aw_lload_2 (q := 47) F dU_weightOfShut_46 rfl ?_
        refine aw_lret F C dU_weightOfShut_47 rfl (Nat.le_refl _) (Nat.le_refl _) ?_
        refine kL hK ?_; rw [hz, show k = 64 by omega]
      · refine aw_lload_2 (q := 16) F dU_weightOfShut_15 rfl ?_
        refine aw_iload_4 (q := 18) F dU_weightOfShut_16 rfl ?_
        refine aw_iconst (q := 19) F dU_weightOfShut_18 rfl (by decide) ?_
        refine aw_idiv (q := 20) F dU_weightOfShut_19 rfl (by omega) (by omega) ?_
        refine aw_iload_1 (q := 21) F dU_weightOfShut_20 rfl ?_
        refine aw_ishr (q := 22) F dU_weightOfShut_21 rfl ?_
        refine aw_iconst (q := 23) F dU_weightOfShut_22 rfl (by decide) ?_
        refine aw_iand (q := 24) F dU_weightOfShut_23 rfl ?_
        rw [hbit (by omega)]
        refine aw_if_ne (q := 27) (t := 37) F dU_weightOfShut_24 rfl (by decide) (fun c24 => ?_) (fun c24 => ?_)
        · refine aw_lconst (q := 38) (z := 0) F dU_weightOfShut_37 rfl rfl ?_
          refine aw_ladd (q := 39) F dU_weightOfShut_38 rfl (by constructor <;> omega) ?_
          refine aw_lstore_2 (q := 40) F dU_weightOfShut_39 rfl trivial ?_
          refine aw_iinc_4 (q := 43) F dU_weightOfShut_40 rfl trivial (by constructor <;> omega) ?_
          refine aw_goto (t := 5) F dU_weightOfShut_43 (by decide) ?_
          exact ih _ (by omega) (k + 1) rfl (by omega) _ _ (by split at hs1 <;> simp_all <;> omega) (by omega)
        · refine aw_aload_0 (q := 28) F dU_weightOfShut_27 rfl ?_
          refine av_getaE (q := 31) F fU_9 dU_weightOfShut_28 rfl rfl (by first | exact hs.o | exact hs.w | exact hs.n) hs.p3 ?_
          refine aw_iload_4 (q := 33) F dU_weightOfShut_31 rfl ?_
          refine av_laload (q := 34) F dU_weightOfShut_33 rfl (by first | exact hs.o | exact hs.w | exact hs.n) (by omega) (by omega) ?_
          have hk1 := hW k (by omega); rw [show w.toNat = k by omega, hk1.1]
          refine aw_goto (t := 38) F dU_weightOfShut_34 (by decide) ?_
          refine aw_ladd (q := 39) F dU_weightOfShut_38 rfl (by constructor <;> omega) ?_
          refine aw_lstore_2 (q := 40) F dU_weightOfShut_39 rfl trivial ?_
          refine aw_iinc_4 (q := 43) F dU_weightOfShut_40 rfl trivial (by constructor <;> omega) ?_
          refine aw_goto (t := 5) F dU_weightOfShut_43 (by decide) ?_
          exact ih _ (by omega) (k + 1) rfl (by omega) _ _ (by split at hs1 <;> simp_all <;> omega) (by omega)
  refine aw_lconst (q := 1) (z := 0) F dU_weightOfShut_0 rfl rfl ?_
  refine aw_lstore_2 (q := 2) F dU_weightOfShut_1 rfl trivial ?_
  refine aw_iconst (q := 3) F dU_weightOfShut_2 rfl (by decide) ?_
  refine aw_istore_4 (q := 5) F dU_weightOfShut_3 rfl trivial ?_
  exact loop _ 0 rfl (by omega) _ _ rfl rfl
theorem wU_weightOfOpen {W : Nat → Nat} (hs : gS σ g wn nn) (hW : ∀ i, i < 64 → V wn i = W i ∧ W i ≤ 10000000000000000) (hK : K (some (vL (sumN (fun i => W i * pc4 (i / 4)) 64))) (V, σ)) : Wp G 1 mU_weightOfOpen [vR g] (V, σ) 0 0 K := by
  refine wp_intro mU_weightOfOpen_i.1 [some (vR g), none, none, none] rfl rfl (Nat.le_of_ble_eq_true rfl) ?_
  intro X hG F C
  have hm := C.rm
  have loop : ∀ (j k : Nat), 64 - k = j → k ≤ 64 → ∀ (z w : Int), z = sumN (fun i => W i * pc4 (i / 4)) k → w = k → AW X 4 [some (vR g), some (vL z), none, some (vI w)] [] (V, σ) 0 0 := by
    intro j
    induction j using Nat.strongRecOn with
    | ind j ih =>
      intro k hj hk z w hz hw
      have hb : z ≤ 64 * 40000000000000000 := by
        have := sumN_le (f := fun i => W i * pc4 (i / 4)) (k := k) (B := 40000000000000000) (fun i hi => Nat.le_trans (Nat.mul_le_mul (hW i (by omega)).2 (pc4_le _)) (by omega))
        omega
      have hs1 : sumN (fun i => W i * pc4 (i / 4)) (k + 1) = sumN (fun i => W i * pc4 (i / 4)) k + W k * pc4 (k / 4) := rfl
      have hb1 : k < 64 → W k * pc4 (k / 4) ≤ 40000000000000000 := fun h => Nat.le_trans (Nat.mul_le_mul (hW k (by omega)).2 (pc4_le _)) (by omega)
      refine aw_iload_3 (q := 5) F dU_weightOfOpen_4 rfl ?_
      refine aw_aload_0 (q := 6) F dU_weightOfOpen_5 rfl ?_
      refine av_getaE (q := 9) F fU_9 dU_weightOfOpen_6 rfl rfl (by first | exact hs.o | exact hs.w | exact hs.n) hs.p3 ?_
      refine av_alen (q := 10) F dU_weightOfOpen_9 rfl (by first | exact hs.o | exact hs.w | exact hs.n) (by decide) (by omega) ?_
      refine aw_icmp_ge (q := 13) (t := 36) F dU_weightOfOpen_10 rfl (by decide) (fun c10 => ?_) (fun c10 => ?_)
      · refine aw_lload_1 (q := 37) F dU_weightOfOpen_36 rfl ?_
        refine aw_lret F C dU_weightOfOpen_37 rfl (Nat.le_refl _) (Nat.le_refl _) ?_
        refine kL hK ?_; rw [hz, show k = 64 by omega]
      · refine aw_lload_1 (q := 14) F dU_weightOfOpen_13 rfl ?_
        refine aw_aload_0 (q := 15) F dU_weightOfOpen_14 rfl ?_
        refine av_getaE (q := 18) F fU_9 dU_weightOfOpen_15 rfl rfl (by first | exact hs.o | exact hs.w | exact hs.n) hs.p3 ?_
        refine aw_iload_3 (q := 19) F dU_weightOfOpen_18 rfl ?_
        refine av_laload (q := 20) F dU_weightOfOpen_19 rfl (by first | exact hs.o | exact hs.w | exact hs.n) (by omega) (by omega) ?_
        refine aw_iload_3 (q := 21) F dU_weightOfOpen_20 rfl ?_
        refine aw_iconst (q := 22) F dU_weightOfOpen_21 rfl (by decide) ?_
        refine aw_idiv (q := 23) F dU_weightOfOpen_22 rfl (by omega) (by omega) ?_
        refine av_callS1 (q := 26) F hm mJI_bitCount_i mJI_bitCount_n lU_34 dU_weightOfOpen_23 rfl (by decide) (Nat.le_refl _) (Nat.le_refl _) (Nat.le_of_ble_eq_true rfl) (wJI_bitCount (by omega) (by omega) ?_)
        rw [show w / 4 = ((k / 4 : Nat) : Int) by omega, zbc_16 (k / 4) (by omega)]
        refine aw_i2l (q := 27) F dU_weightOfOpen_26 rfl ?_
        have hb1 := hb1 (by omega); rw [show w.toNat = k by omega, (hW k (by omega)).1]
        refine aw_lmul (q := 28) F dU_weightOfOpen_27 rfl (by show okL ((W k : Int) * (pc4 (k / 4) : Nat)); rw [← Int.natCast_mul]; omega) ?_
        rw [show (W k : Int) * ((k / 4 % 2 + k / 4 / 2 % 2 + k / 4 / 4 % 2 + k / 4 / 8 % 2 : Nat) : Int) = ((W k * pc4 (k / 4) : Nat) : Int) from (Int.natCast_mul _ _).symm]
        refine aw_ladd (q := 29) F dU_weightOfOpen_28 rfl (by constructor <;> omega) ?_
        refine aw_lstore_1 (q := 30) F dU_weightOfOpen_29 rfl trivial ?_
        refine aw_iinc_3 (q := 33) F dU_weightOfOpen_30 rfl trivial (by constructor <;> omega) ?_
        refine aw_goto (t := 4) F dU_weightOfOpen_33 (by decide) ?_
        exact ih _ (by omega) (k + 1) rfl (by omega) _ _ (by omega) (by omega)
  refine aw_lconst (q := 1) (z := 0) F dU_weightOfOpen_0 rfl rfl ?_
  refine aw_lstore_1 (q := 2) F dU_weightOfOpen_1 rfl trivial ?_
  refine aw_iconst (q := 3) F dU_weightOfOpen_2 rfl (by decide) ?_
  refine aw_istore_3 (q := 4) F dU_weightOfOpen_3 rfl trivial ?_
  exact loop _ 0 rfl (by omega) _ _ rfl rfl
theorem shB_s {o d j : Nat} : shB o (d + 1) j = (shB o d j || (decide (j % 4 = d) && o.testBit d && j / 4 + 2 ^ d == o)) := by
  unfold shB
  by_cases h : j % 4 = d
  · subst h
    simp
  · have : decide (j % 4 < d + 1) = decide (j % 4 < d) := by rw [decide_eq_decide]; omega
    rw [this]
    simp [h]
theorem shB_out {o d j : Nat} (h : d ≤ j % 4) : shB o d j = false := by
  unfold shB
  simp [show ¬ j % 4 < d by omega]
theorem wU_shutEach {x y : Int} {o w : Nat} {N : Nat → Nat} (hs : gS σ g wn nn) (hx : x = o) (ho : o < 16) (hy : y = w) (hN : ∀ j, j < 64 → V nn j = N j ∧ N j + w < 9000000000000000000) (hK : ∀ V' : Nat → Nat → Int, (∀ b, b ≠ nn → V' b = V b) → (∀ j, j < 64 → V' nn j = (N j + if shB o 4 j then w else 0 : Nat)) → K none (V', σ)) : Wp G 0 mU_shutEach [vR g, vI x, vL y] (V, σ) 0 0 K := by
  refine wp_intro mU_shutEach_i.1 [some (vR g), some (vI x), some (vL y), none, none, none] rfl rfl (Nat.le_of_ble_eq_true rfl) ?_
  intro X hG F C
  have hm := C.rm
  have loop : ∀ (j d : Nat), 4 - d = j → d ≤ 4 → ∀ (V1 : Nat → Nat → Int) (z : Int) (u : Option AV), (∀ b, b ≠ nn → V1 b = V b) → (∀ j, j < 64 → V1 nn j = (N j + if shB o d j then w else 0 : Nat)) → z = d → AW X 3 [some (vR g), some (vI x), some (vL y), none, some (vI z), u] [] (V1, σ) 0 0 := by
    intro j
    induction j using Nat.strongRecOn with
    | ind j ih =>
      intro d hj hd V1 z u hF hV hz
      have hcl := clr_le o d
      have e1 : d < 4 → zand x (zxor (zshl 1 z) (-1)) = (clr o d : Nat) := fun h => by rw [hx, hz]; exact clr_z ho h
      have hbit : d < 4 → zand (zshr x z) 1 = if o.testBit d then 1 else 0 := fun h => by rw [hx, hz, bit_n (by omega) (by omega), bit_tb]; split <;> rfl
      have h2 : o.testBit d = true → clr o d + 2 ^ d = o := fun h => by have := Nat.ge_two_pow_of_testBit h; unfold clr; rw [if_pos h]; omega
      refine aw_iload_4 (q := 5) F dU_shutEach_3 rfl ?_
      refine aw_iconst (q := 6) F dU_shutEach_5 rfl (by decide) ?_
      refine aw_icmp_ge (q := 9) (t := 65) F dU_shutEach_6 rfl (by decide) (fun c6 => ?_) (fun c6 => ?_)
      · refine aw_vret F C dU_shutEach_65 rfl (Nat.le_refl _) (Nat.le_refl _) ?_
        exact hK V1 hF (fun j hj => by rw [hV j hj, show d = 4 by omega])
      · refine aw_iload_1 (q := 10) F dU_shutEach_9 rfl ?_
        refine aw_iconst (q := 11) F dU_shutEach_10 rfl (by decide) ?_
        refine aw_iload_4 (q := 13) F dU_shutEach_11 rfl ?_
        refine aw_ishl (q := 14) F dU_shutEach_13 rfl ?_
        refine aw_iconst (q := 15) F dU_shutEach_14 rfl (by decide) ?_
        refine aw_ixor (q := 16) F dU_shutEach_15 rfl ?_
        refine aw_iand (q := 17) F dU_shutEach_16 rfl ?_
        rw [e1 (by omega)]
        refine aw_iconst (q := 18) F dU_shutEach_17 rfl (by decide) ?_
        refine aw_imul (q := 19) F dU_shutEach_18 rfl (by constructor <;> omega) ?_
        refine aw_iload_4 (q := 21) F dU_shutEach_19 rfl ?_
        refine aw_iadd (q := 22) F dU_shutEach_21 rfl (by constructor <;> omega) ?_
        refine aw_istore_5 (q := 24) F dU_shutEach_22 rfl trivial ?_
        refine aw_iload_1 (q := 25) F dU_shutEach_24 rfl ?_
        refine aw_iload_4 (q := 27) F dU_shutEach_25 rfl ?_
        refine aw_ishr (q := 28) F dU_shutEach_27 rfl ?_
        refine aw_iconst (q := 29) F dU_shutEach_28 rfl (by decide) ?_
        refine aw_iand (q := 30) F dU_shutEach_29 rfl ?_
        rw [hbit (by omega)]
        refine aw_if_eq (q := 33) (t := 59) F dU_shutEach_30 rfl (by decide) (fun c30 => ?_) (fun c30 => ?_)
        · have hbb := hbit (by omega)
          refine aw_iinc_4 (q := 62) F dU_shutEach_59 rfl trivial (by constructor <;> omega) ?_
          refine aw_goto (t := 3) F dU_shutEach_62 (by decide) ?_
          cases ht : o.testBit d
          · first
            | (refine ih _ (by omega) (d + 1) rfl (by omega) V1 _ _ hF (fun j hj => ?_) (by omega); rw [hV j hj, shB_s, ht]; simp)
            | (rw [ht] at c30; exact absurd rfl c30)
          · first
            | (rw [ht] at c30; exact absurd c30 (by decide))
            | (have h2 := h2 ht
               refine ih _ (by omega) (d + 1) rfl (by omega) _ _ _ (fun b hb => by rw [up2_nea _ _ hb]; exact hF b hb) (fun j hj => ?_) (by omega)
               rw [shB_s, ht]
               by_cases hji : j = clr o d * 4 + d
               · subst hji
                 rw [show ((clr o d : Nat) * 4 + z : Int).toNat = clr o d * 4 + d by omega, up2_same, hy, show (clr o d * 4 + d) % 4 = d by omega, show (clr o d * 4 + d) / 4 = clr o d by omega, h2]
                 simp
               · rw [show ((clr o d : Nat) * 4 + z : Int).toNat = clr o d * 4 + d by omega, up2_nek _ _ hji, hV j hj]
                 have : (decide (j % 4 = d) && true && j / 4 + 2 ^ d == o) = false := by
                   cases hq : (decide (j % 4 = d) && true && j / 4 + 2 ^ d == o)
                   · rfl
                   · simp at hq; exfalso; omega
                 rw [this]; simp)
        · refine aw_iload_5 (q := 35) F dU_shutEach_33 rfl ?_
          refine aw_if_lt (q := 38) (t := 59) F dU_shutEach_35 rfl (by decide) (fun c35 => by omega) (fun c35 => ?_)
          refine aw_iload_5 (q := 40) F dU_shutEach_38 rfl ?_
          refine aw_aload_0 (q := 41) F dU_shutEach_40 rfl ?_
          refine av_getaE (q := 44) F fU_15 dU_shutEach_41 rfl rfl (by first | exact hs.o | exact hs.w | exact hs.n) hs.p4 ?_
          refine av_alen (q := 45) F dU_shutEach_44 rfl (by first | exact hs.o | exact hs.w | exact hs.n) (by decide) (by omega) ?_
          refine aw_icmp_ge (q := 48) (t := 59) F dU_shutEach_45 rfl (by decide) (fun c45 => by omega) (fun c45 => ?_)
          refine aw_aload_0 (q := 49) F dU_shutEach_48 rfl ?_
          refine av_getaE (q := 52) F fU_15 dU_shutEach_49 rfl rfl (by first | exact hs.o | exact hs.w | exact hs.n) hs.p4 ?_
          refine aw_iload_5 (q := 54) F dU_shutEach_52 rfl ?_
          refine aw_dup2 (q := 55) F dU_shutEach_54 rfl trivial trivial ?_
          refine av_laload (q := 56) F dU_shutEach_55 rfl (by first | exact hs.o | exact hs.w | exact hs.n) (by omega) (by omega) ?_
          have hi : ((clr o d : Nat) * 4 + z : Int).toNat = clr o d * 4 + d := by omega
          have hi2 := hN (clr o d * 4 + d) (by omega)
          have hi3 := hV (clr o d * 4 + d) (by omega)
          rw [shB_out (by omega)] at hi3
          have hi4 : V1 nn (clr o d * 4 + d) = N (clr o d * 4 + d) := hi3
          rw [hi, hi4]
          refine aw_lload_2 (q := 57) F dU_shutEach_56 rfl ?_
          refine aw_ladd (q := 58) F dU_shutEach_57 rfl (by constructor <;> omega) ?_
          refine av_lastore (q := 59) F dU_shutEach_58 rfl (by first | exact hs.o | exact hs.w | exact hs.n) (by omega) (by omega) ?_
          have hbb := hbit (by omega)
          refine aw_iinc_4 (q := 62) F dU_shutEach_59 rfl trivial (by constructor <;> omega) ?_
          refine aw_goto (t := 3) F dU_shutEach_62 (by decide) ?_
          cases ht : o.testBit d
          · first
            | (refine ih _ (by omega) (d + 1) rfl (by omega) V1 _ _ hF (fun j hj => ?_) (by omega); rw [hV j hj, shB_s, ht]; simp)
            | (rw [ht] at c30; exact absurd rfl c30)
          · first
            | (rw [ht] at c30; exact absurd c30 (by decide))
            | (have h2 := h2 ht
               refine ih _ (by omega) (d + 1) rfl (by omega) _ _ _ (fun b hb => by rw [up2_nea _ _ hb]; exact hF b hb) (fun j hj => ?_) (by omega)
               rw [shB_s, ht]
               by_cases hji : j = clr o d * 4 + d
               · subst hji
                 rw [show ((clr o d : Nat) * 4 + z : Int).toNat = clr o d * 4 + d by omega, up2_same, hy, show (clr o d * 4 + d) % 4 = d by omega, show (clr o d * 4 + d) / 4 = clr o d by omega, h2]
                 simp
               · rw [show ((clr o d : Nat) * 4 + z : Int).toNat = clr o d * 4 + d by omega, up2_nek _ _ hji, hV j hj]
                 have : (decide (j % 4 = d) && true && j / 4 + 2 ^ d == o) = false := by
                   cases hq : (decide (j % 4 = d) && true && j / 4 + 2 ^ d == o)
                   · rfl
                   · simp at hq; exfalso; omega
                 rw [this]; simp)
  refine aw_iconst (q := 1) F dU_shutEach_0 rfl (by decide) ?_
  refine aw_istore_4 (q := 3) F dU_shutEach_1 rfl trivial ?_
  exact loop _ 0 rfl (by omega) V _ none (fun _ _ => rfl) (fun j hj => by rw [(hN j hj).1, shB_out (by omega)]; simp) rfl
end Gusts2
