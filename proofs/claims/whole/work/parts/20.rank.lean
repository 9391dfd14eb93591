-- ranks: how many met numbers are lower
def inL (L : List (Nat × Nat)) (x : Nat) : Bool := decide (x ∈ L.map Prod.fst)
def rkL (L : List (Nat × Nat)) (x : Nat) : Nat := cntB (inL L) x
theorem cntB_low (f : Nat → Bool) {t n : Nat} (h : t ≤ n) : cntB (fun i => f i && decide (i < t)) n = cntB f t := by
  rw [show n = t + (n - t) by omega, cntB_add, cntB_cg (g := f) t (fun i hi => by simp [hi])]
  have : cntB (fun i => f (t + i) && decide (t + i < t)) (n - t) = 0 := by
    have := cntB_skip (f := fun i => f (t + i) && decide (t + i < t)) (a := 0) (n - t) (fun k _ _ => by simp)
    rw [Nat.zero_add] at this
    exact this
  omega
theorem rk_word {V : Nat → Nat → Int} {kn Q w t : Nat} {L : List (Nat × Nat)} {mk : Nat → Nat} (mk2 : ∀ x, x < 64 * (Q / 64 + 1) → (mk (x / 64)).testBit (x % 64) = decide (x ∈ L.map Prod.fst)) (hw : w < Q / 64 + 1) (ht : t ≤ 64) : rkL L (64 * w + t) = rkL L (64 * w) + cntB (fun i => (mk w).testBit i) t := by
  unfold rkL
  rw [cntB_add]
  congr 1
  refine cntB_cg t (fun i hi => ?_)
  have := mk2 (64 * w + i) (by omega)
  rw [show (64 * w + i) / 64 = w by omega, show (64 * w + i) % 64 = i by omega] at this
  rw [this]
  rfl
theorem rkL_le (L : List (Nat × Nat)) (x : Nat) : rkL L x ≤ x := cntB_le _ _
section Rank
variable {G : GE} {V : Nat → Nat → Int} {σ : Shp} {s qn kn Q : Nat} {K : Option AV → Mem → Prop} {c : Cfg} {L : List (Nat × Nat)} {r R : Nat}
theorem wS_rank (ha : sA σ r 11 R) (hR : R < 2147483648) (hrk : r ≠ kn) (hrs : r ≠ s) (hs : sS σ s qn kn Q) (hV : SV V s qn kn Q c L) (hK : ∀ V' : Nat → Nat → Int, (∀ b, b ≠ r → V' b = V b) → (∀ w, w < R → w < Q / 64 + 1 → V' r w = rkL L (64 * w)) → K none (V', σ)) : Wp G 1 mS_rank [vR s, vR r] (V, σ) 0 0 K := by
  have hQ := hs.le
  obtain ⟨mk, mk1, mk2⟩ := hV.2.2.2.1
  refine wp_intro mS_rank_i.1 [some (vR s), some (vR r), none, none] rfl rfl (Nat.le_of_ble_eq_true rfl) ?_
  intro X hG F C
  have hm := C.rm
  have loop : ∀ (j w : Nat), Q / 64 + 1 - w = j → w ≤ Q / 64 + 1 → ∀ (V1 : Nat → Nat → Int) (y z : Int), (∀ b, b ≠ r → V1 b = V b) → (∀ w', w' < R → w' < w → V1 r w' = rkL L (64 * w')) → y = rkL L (64 * w) → z = w → AW X 4 [some (vR s), some (vR r), some (vI y), some (vI z)] [] (V1, σ) 0 0 := by
    intro j
    induction j using Nat.strongRecOn with
    | ind j ih =>
      intro w hj hw V1 y z hF hr hy hz
      have hl := rkL_le L (64 * w)
      have hl2 := rkL_le L (64 * w + 64)
      have ez : z.toNat = w := by omega
      have e1 : w < Q / 64 + 1 → rkL L (64 * w + 64) = rkL L (64 * w) + cntB (fun i => (mk w).testBit i) 64 := fun h => rk_word (V := V) (kn := kn) mk2 h (Nat.le_refl _)
      refine aw_iload_3 (q := 5) F dS_rank_4 rfl ?_
      refine aw_aload_1 (q := 6) F dS_rank_5 rfl ?_
      refine av_alen (q := 7) F dS_rank_6 rfl (by first | exact hs.o | exact hs.q | exact hs.k | exact ha) (by decide) (by omega) ?_
      refine aw_icmp_ge (q := 10) (t := 41) F dS_rank_7 rfl (by decide) (fun c7 => ?_) (fun c7 => ?_)
      · refine aw_vret F C dS_rank_41 rfl (Nat.le_refl _) (Nat.le_refl _) ?_
        exact hK V1 hF (fun w' h1 h2 => hr w' h1 (by omega))
      · refine aw_iload_3 (q := 11) F dS_rank_10 rfl ?_
        refine aw_aload_0 (q := 12) F dS_rank_11 rfl ?_
        refine av_getaE (q := 15) F fS_22 dS_rank_12 rfl rfl (by first | exact hs.o | exact hs.q | exact hs.k | exact ha) hs.p6 ?_
        refine av_alen (q := 16) F dS_rank_15 rfl (by first | exact hs.o | exact hs.q | exact hs.k | exact ha) (by decide) (by omega) ?_
        refine aw_icmp_ge (q := 19) (t := 41) F dS_rank_16 rfl (by decide) (fun c16 => ?_) (fun c16 => ?_)
        · refine aw_vret F C dS_rank_41 rfl (Nat.le_refl _) (Nat.le_refl _) ?_
          exact hK V1 hF (fun w' h1 h2 => hr w' h1 (by omega))
        · refine aw_aload_1 (q := 20) F dS_rank_19 rfl ?_
          refine aw_iload_3 (q := 21) F dS_rank_20 rfl ?_
          refine aw_iload_2 (q := 22) F dS_rank_21 rfl ?_
          refine av_iastore (q := 23) F dS_rank_22 rfl (by first | exact hs.o | exact hs.q | exact hs.k | exact ha) (by omega) (by omega) ?_
          rw [ez]
          refine aw_iload_2 (q := 24) F dS_rank_23 rfl ?_
          refine aw_aload_0 (q := 25) F dS_rank_24 rfl ?_
          refine av_getaE (q := 28) F fS_22 dS_rank_25 rfl rfl (by first | exact hs.o | exact hs.q | exact hs.k | exact ha) hs.p6 ?_
          refine aw_iload_3 (q := 29) F dS_rank_28 rfl ?_
          refine av_laload (q := 30) F dS_rank_29 rfl (by first | exact hs.o | exact hs.q | exact hs.k | exact ha) (by omega) (by omega) ?_
          have hw2 : w < Q / 64 + 1 := by omega
          rw [ez, up2_nea _ _ (Ne.symm hrk), hF kn (Ne.symm hrk), (mk1 w hw2).1]
          have e1 := e1 hw2
          refine av_callS1 (q := 33) F hm mJL_bitCount_i mJL_bitCount_n lS_132 dS_rank_30 rfl (by decide) (Nat.le_refl _) (Nat.le_refl _) (Nat.le_of_ble_eq_true rfl) (wJL_bitCount (mk1 w hw2).2 ?_)
          refine aw_iadd (q := 34) F dS_rank_33 rfl (by constructor <;> omega) ?_
          refine aw_istore_2 (q := 35) F dS_rank_34 rfl trivial ?_
          refine aw_iinc_3 (q := 38) F dS_rank_35 rfl trivial (by constructor <;> omega) ?_
          refine aw_goto (t := 4) F dS_rank_38 (by decide) ?_
          refine ih _ (by omega) (w + 1) rfl (by omega) _ _ _ (fun b hb => by rw [up2_nea _ _ hb]; exact hF b hb) (fun w' h1 h2 => ?_) (by rw [show 64 * (w + 1) = 64 * w + 64 by omega]; omega) (by omega)
          by_cases q : w' = w
          · rw [q, up2_same]; exact hy
          · rw [up2_nek _ _ q]; exact hr w' h1 (by omega)
  refine aw_iconst (q := 1) F dS_rank_0 rfl (by decide) ?_
  refine aw_istore_2 (q := 2) F dS_rank_1 rfl trivial ?_
  refine aw_iconst (q := 3) F dS_rank_2 rfl (by decide) ?_
  refine aw_istore_3 (q := 4) F dS_rank_3 rfl trivial ?_
  exact loop _ 0 rfl (by omega) V _ _ (fun _ _ => rfl) (fun w' _ h => absurd h (by omega)) rfl rfl
theorem wS_rankOf {x : Int} {a : Nat} (hx : x = a) (haQ : a ≤ Q) (ha : sA σ r 11 R) (hR : Q / 64 + 1 ≤ R ∧ R < 2147483648) (hs : sS σ s qn kn Q) (hV : SV V s qn kn Q c L) (hr : ∀ w, w < Q / 64 + 1 → V r w = rkL L (64 * w)) (hK : K (some (vI (rkL L a))) (V, σ)) : Wp G 1 mS_rankOf [vR s, vI x, vR r] (V, σ) 0 0 K := by
  have hQ := hs.le
  obtain ⟨mk, mk1, mk2⟩ := hV.2.2.2.1
  have ew : zshr x 6 = (a / 64 : Nat) := by rw [hx, show (6 : Int) = ((6 : Nat) : Int) from rfl, zshr_i ⟨by omega, by omega⟩ (by decide)]; simp
  have ea : zand x 63 = (a % 64 : Nat) := by rw [hx, show (63 : Int) = ((63 : Nat) : Int) from rfl, zand_mask 6 (by decide) rfl]; simp
  have s1 : (1 : Int) = sg 1 := by rw [sg_small (by decide)]; rfl
  have es : wl (yshl 1 (a % 64 : Nat) - 1) = sg (2 ^ (a % 64) - 1) := by
    rw [s1, yshl_s (by omega), Nat.one_mul]
    exact wl_sub (Nat.one_le_two_pow)
  have hw : a / 64 < Q / 64 + 1 := by omega
  obtain ⟨m1, m2⟩ := mk1 (a / 64) hw
  have eb : yand (V kn (a / 64)) (sg (2 ^ (a % 64) - 1)) = sg (mk (a / 64) &&& (2 ^ (a % 64) - 1)) := by rw [m1, yand_s]
  have hr1 := hr _ hw
  have h3 := rkL_le L (64 * (a / 64))
  have h4 := rkL_le L a
  have e4 : rkL L a = rkL L (64 * (a / 64)) + cntB (fun i => (mk (a / 64) &&& (2 ^ (a % 64) - 1)).testBit i) 64 := by
    have := rk_word (V := V) (kn := kn) (t := a % 64) mk2 hw (by omega)
    rw [show 64 * (a / 64) + a % 64 = a by omega] at this
    rw [this]
    congr 1
    rw [← cntB_low (fun i => (mk (a / 64)).testBit i) (show a % 64 ≤ 64 by omega)]
    refine cntB_cg 64 (fun i _ => ?_)
    rw [Nat.testBit_and, Nat.testBit_two_pow_sub_one]
  refine wp_intro mS_rankOf_i.1 [some (vR s), some (vI x), some (vR r), none, none, none] rfl rfl (Nat.le_of_ble_eq_true rfl) ?_
  intro X hG F C
  have hm := C.rm
  refine aw_iload_1 (q := 1) F dS_rankOf_0 rfl ?_
  refine aw_bipush (q := 3) F dS_rankOf_1 rfl (by decide) ?_
  refine aw_ishr (q := 4) F dS_rankOf_3 rfl ?_
  rw [ew]
  refine aw_istore_3 (q := 5) F dS_rankOf_4 rfl trivial ?_
  refine aw_iload_3 (q := 6) F dS_rankOf_5 rfl ?_
  refine aw_if_lt (q := 9) (t := 24) F dS_rankOf_6 rfl (by decide) (fun c6 => by omega) (fun c6 => ?_)
  refine aw_iload_3 (q := 10) F dS_rankOf_9 rfl ?_
  refine aw_aload_2 (q := 11) F dS_rankOf_10 rfl ?_
  refine av_alen (q := 12) F dS_rankOf_11 rfl (by first | exact hs.o | exact hs.q | exact hs.k | exact ha) (by decide) (by omega) ?_
  refine aw_icmp_ge (q := 15) (t := 24) F dS_rankOf_12 rfl (by decide) (fun c12 => by omega) (fun c12 => ?_)
  refine aw_iload_3 (q := 16) F dS_rankOf_15 rfl ?_
  refine aw_aload_0 (q := 17) F dS_rankOf_16 rfl ?_
  refine av_getaE (q := 20) F fS_22 dS_rankOf_17 rfl rfl (by first | exact hs.o | exact hs.q | exact hs.k | exact ha) hs.p6 ?_
  refine av_alen (q := 21) F dS_rankOf_20 rfl (by first | exact hs.o | exact hs.q | exact hs.k | exact ha) (by decide) (by omega) ?_
  refine aw_icmp_lt (q := 24) (t := 26) F dS_rankOf_21 rfl (by decide) (fun c21 => ?_) (fun c21 => by omega)
  refine aw_lconst (q := 27) (z := 1) F dS_rankOf_26 rfl rfl ?_
  refine aw_iload_1 (q := 28) F dS_rankOf_27 rfl ?_
  refine aw_bipush (q := 30) F dS_rankOf_28 rfl (by decide) ?_
  refine aw_iand (q := 31) F dS_rankOf_30 rfl ?_
  rw [ea]
  refine aw_lshl (q := 32) F dS_rankOf_31 rfl ?_
  refine aw_lconst (q := 33) (z := 1) F dS_rankOf_32 rfl rfl ?_
  refine aw_lsubw (q := 34) F dS_rankOf_33 rfl ?_
  rw [es]
  refine aw_lstore_4 (q := 36) F dS_rankOf_34 rfl trivial ?_
  refine aw_aload_2 (q := 37) F dS_rankOf_36 rfl ?_
  refine aw_iload_3 (q := 38) F dS_rankOf_37 rfl ?_
  refine av_iaload (q := 39) F dS_rankOf_38 rfl (by first | exact hs.o | exact hs.q | exact hs.k | exact ha) (by omega) (by omega) ?_
  rw [Int.toNat_natCast, hr1]
  refine aw_aload_0 (q := 40) F dS_rankOf_39 rfl ?_
  refine av_getaE (q := 43) F fS_22 dS_rankOf_40 rfl rfl (by first | exact hs.o | exact hs.q | exact hs.k | exact ha) hs.p6 ?_
  refine aw_iload_3 (q := 44) F dS_rankOf_43 rfl ?_
  refine av_laload (q := 45) F dS_rankOf_44 rfl (by first | exact hs.o | exact hs.q | exact hs.k | exact ha) (by omega) (by omega) ?_
  refine aw_lload_4 (q := 47) F dS_rankOf_45 rfl ?_
  refine aw_land (q := 48) F dS_rankOf_47 rfl ?_
  rw [Int.toNat_natCast, eb]
  refine av_callS1 (q := 51) F hm mJL_bitCount_i mJL_bitCount_n lS_132 dS_rankOf_48 rfl (by decide) (Nat.le_refl _) (Nat.le_refl _) (Nat.le_of_ble_eq_true rfl) (wJL_bitCount (Nat.lt_of_le_of_lt Nat.and_le_left m2) ?_)
  refine aw_iadd (q := 52) F dS_rankOf_51 rfl (by constructor <;> omega) ?_
  refine aw_iret F C dS_rankOf_52 rfl (Nat.le_refl _) (Nat.le_refl _) ?_
  exact kI hK (by omega)
end Rank
