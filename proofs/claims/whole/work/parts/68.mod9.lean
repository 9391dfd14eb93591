/-- the reference's number of the same arrangement -/
def mnA (c : Cfg) (n : Nat) : Nat → Nat
  | 0 => 0
  | p + 1 => Bs c * mnA c n p + pl c n p
def mnB (c : Cfg) (n : Nat) : Nat → Nat
  | 0 => mnA c n (pN c)
  | d + 1 => Bs c * mnB c n d + ld c n d
def mnN (c : Cfg) (n : Nat) : Nat := dN c * mnB c n (dN c) + lst c n
theorem mul_dig_lt {B a b w : Nat} (h : a < w) (hb : b < B) : B * a + b < w * B := by
  have h1 : B * (a + 1) ≤ B * w := Nat.mul_le_mul_left B h
  rw [Nat.mul_add, Nat.mul_one] at h1
  rw [Nat.mul_comm w B]
  omega
theorem mnA_lt (c : Cfg) (n : Nat) : ∀ p, mnA c n p < wB c p
  | 0 => Nat.one_pos
  | p + 1 => by rw [mnA, wB_s]; exact mul_dig_lt (mnA_lt c n p) (pl_lt c n p)
theorem mnB_lt (c : Cfg) (n : Nat) : ∀ d, mnB c n d < wB c (pN c + d)
  | 0 => mnA_lt c n (pN c)
  | d + 1 => by rw [mnB, ← Nat.add_assoc, wB_s]; exact mul_dig_lt (mnB_lt c n d) (ld_lt c n d)
theorem mnN_lt {c : Cfg} {n : Nat} (hn : n < spc c) : mnN c n < spc c := by
  have h := mul_dig_lt (mnB_lt c n (dN c)) (lst_lt hn)
  unfold mnN spc
  rw [Nat.mul_comm (dN c) (wB c _)]
  exact h
section Mod9
variable {G : GE} {V : Nat → Nat → Int} {σ : Shp} {K : Option AV → Mem → Prop} {l : Nat} {c : Cfg} {n : Nat}
theorem wM_numbered (hn : n < spc c) (hM : moS σ l) (hl : laS σ l) (hC : LC V l c) (hA : AR (V 56) c n) (hc : okC c) (hK : K (some (vI (mnN c n))) (V, σ)) : Wp G 0 mM_numbered [vR 53] (V, σ) 0 0 K := by
  have h1 := hC.1
  have h2 := hC.2.1
  have hd4 : dN c ≤ 4 := hc.1
  have hp2 : pN c ≤ 2 := hc.2.1
  have hBs : (Bs c : Int) = (dN c : Int) + 1 := by unfold Bs; omega
  have e6 : V 56 6 = lst c n := hA.2.2.1
  have hN := mnN_lt hn
  have hsp := spc_le hc
  refine wp_intro mM_numbered_i.1 [some (vR 53), none, none, none] rfl rfl (Nat.le_of_ble_eq_true rfl) ?_
  intro X hG F C
  have hm := C.rm
  have loopB : ∀ (k d : Nat), d + k = dN c → ∀ (y z : Int), y = (mnB c n d : Nat) → z = d → AW X 44 [some (vR 53), some (vI y), some (vI (Bs c)), some (vI z)] [] (V, σ) 0 0 := by
    intro k
    induction k with
    | zero =>
      intro d hi y z hy hz
      have eN : V l 1 * y = ((dN c * mnB c n (dN c) : Nat) : Int) := by rw [hy, h1, show d = dN c by omega, Int.natCast_mul]
      have hle : dN c * mnB c n (dN c) ≤ mnN c n := Nat.le_add_right _ _
      refine aw_iload_3 (q := 45) F dM_numbered_44 rfl ?_
      refine aw_aload_0 (q := 46) F dM_numbered_45 rfl ?_
      refine av_getaE (q := 49) F fM_281 dM_numbered_46 rfl rfl (by first | exact hM.o | exact hl.o | exact hM.a55 | exact hM.a56) hM.p3 ?_
      refine av_geti (q := 52) F fM_183 dM_numbered_49 rfl rfl (by first | exact hM.o | exact hl.o | exact hM.a55 | exact hM.a56) ?_
      refine aw_icmp_ge (q := 55) (t := 74) F dM_numbered_52 rfl (by decide) (fun c52 => ?_) (fun c52 => by omega)
      refine aw_aload_0 (q := 75) F dM_numbered_74 rfl ?_
      refine av_getaE (q := 78) F fM_281 dM_numbered_75 rfl rfl (by first | exact hM.o | exact hl.o | exact hM.a55 | exact hM.a56) hM.p3 ?_
      refine av_geti (q := 81) F fM_183 dM_numbered_78 rfl rfl (by first | exact hM.o | exact hl.o | exact hM.a55 | exact hM.a56) ?_
      refine aw_iload_1 (q := 82) F dM_numbered_81 rfl ?_
      refine aw_imul (q := 83) F dM_numbered_82 rfl (by rw [eN]; omega) ?_
      rw [eN]
      refine aw_aload_0 (q := 84) F dM_numbered_83 rfl ?_
      refine av_getaE (q := 87) F fM_21 dM_numbered_84 rfl rfl (by first | exact hM.o | exact hl.o | exact hM.a55 | exact hM.a56) hM.p16 ?_
      refine aw_bipush (q := 89) F dM_numbered_87 rfl (by decide) ?_
      refine av_iaload (q := 90) F dM_numbered_89 rfl (by first | exact hM.o | exact hl.o | exact hM.a55 | exact hM.a56) (by omega) (by omega) ?_
      rw [show (6 : Int).toNat = 6 from rfl, e6]
      refine aw_iadd (q := 91) F dM_numbered_90 rfl (by have : mnN c n = dN c * mnB c n (dN c) + lst c n := rfl; omega) ?_
      refine aw_iret F C dM_numbered_91 rfl (Nat.le_refl _) (Nat.le_refl _) ?_
      refine kI hK ?_; unfold mnN; omega
    | succ k ih =>
      intro d hi y z hy hz
      have hb := mnB_lt c n (d + 1)
      have hwl := wB_le hc (i := pN c + (d + 1)) (by omega)
      have eN : (Bs c : Int) * y = ((Bs c * mnB c n d : Nat) : Int) := by rw [hy, Int.natCast_mul]
      have ee : mnB c n (d + 1) = Bs c * mnB c n d + ld c n d := rfl
      have e2 : V 56 (2 + d) = (ld c n d : Int) := ar_ld hA (by omega) (by omega)
      refine aw_iload_3 (q := 45) F dM_numbered_44 rfl ?_
      refine aw_aload_0 (q := 46) F dM_numbered_45 rfl ?_
      refine av_getaE (q := 49) F fM_281 dM_numbered_46 rfl rfl (by first | exact hM.o | exact hl.o | exact hM.a55 | exact hM.a56) hM.p3 ?_
      refine av_geti (q := 52) F fM_183 dM_numbered_49 rfl rfl (by first | exact hM.o | exact hl.o | exact hM.a55 | exact hM.a56) ?_
      refine aw_icmp_ge (q := 55) (t := 74) F dM_numbered_52 rfl (by decide) (fun c52 => by omega) (fun c52 => ?_)
      refine aw_iload_2 (q := 56) F dM_numbered_55 rfl ?_
      refine aw_iload_1 (q := 57) F dM_numbered_56 rfl ?_
      refine aw_imul (q := 58) F dM_numbered_57 rfl (by rw [eN]; omega) ?_
      rw [eN]
      refine aw_aload_0 (q := 59) F dM_numbered_58 rfl ?_
      refine av_getaE (q := 62) F fM_21 dM_numbered_59 rfl rfl (by first | exact hM.o | exact hl.o | exact hM.a55 | exact hM.a56) hM.p16 ?_
      refine aw_iconst (q := 63) F dM_numbered_62 rfl (by decide) ?_
      refine aw_iload_3 (q := 64) F dM_numbered_63 rfl ?_
      refine aw_iadd (q := 65) F dM_numbered_64 rfl (by constructor <;> omega) ?_
      refine av_iaload (q := 66) F dM_numbered_65 rfl (by first | exact hM.o | exact hl.o | exact hM.a55 | exact hM.a56) (by omega) (by omega) ?_
      rw [show (2 + z).toNat = 2 + d by omega, e2]
      refine aw_iadd (q := 67) F dM_numbered_66 rfl (by constructor <;> omega) ?_
      refine aw_istore_1 (q := 68) F dM_numbered_67 rfl trivial ?_
      refine aw_iinc_3 (q := 71) F dM_numbered_68 rfl trivial (by constructor <;> omega) ?_
      refine aw_goto (t := 44) F dM_numbered_71 (by decide) ?_
      exact ih (d + 1) (by omega) _ _ (by rw [ee]; omega) (by omega)
  have loopA : ∀ (k p : Nat), p + k = pN c → ∀ (y z : Int), y = (mnA c n p : Nat) → z = p → AW X 14 [some (vR 53), some (vI y), some (vI (Bs c)), some (vI z)] [] (V, σ) 0 0 := by
    intro k
    induction k with
    | zero =>
      intro p hi y z hy hz
      refine aw_iload_3 (q := 15) F dM_numbered_14 rfl ?_
      refine aw_aload_0 (q := 16) F dM_numbered_15 rfl ?_
      refine av_getaE (q := 19) F fM_281 dM_numbered_16 rfl rfl (by first | exact hM.o | exact hl.o | exact hM.a55 | exact hM.a56) hM.p3 ?_
      refine av_geti (q := 22) F fM_253 dM_numbered_19 rfl rfl (by first | exact hM.o | exact hl.o | exact hM.a55 | exact hM.a56) ?_
      refine aw_icmp_ge (q := 25) (t := 42) F dM_numbered_22 rfl (by decide) (fun c22 => ?_) (fun c22 => by omega)
      refine aw_iconst (q := 43) F dM_numbered_42 rfl (by decide) ?_
      refine aw_istore_3 (q := 44) F dM_numbered_43 rfl trivial ?_
      exact loopB (dN c) 0 (by omega) _ _ (by rw [hy, show p = pN c by omega]; rfl) rfl
    | succ k ih =>
      intro p hi y z hy hz
      have hb := mnA_lt c n (p + 1)
      have hwl := wB_le hc (i := p + 1) (by omega)
      have eN : (Bs c : Int) * y = ((Bs c * mnA c n p : Nat) : Int) := by rw [hy, Int.natCast_mul]
      have ee : mnA c n (p + 1) = Bs c * mnA c n p + pl c n p := rfl
      have e2 : V 56 p = (pl c n p : Int) := ar_pl hA (by omega) (by omega)
      refine aw_iload_3 (q := 15) F dM_numbered_14 rfl ?_
      refine aw_aload_0 (q := 16) F dM_numbered_15 rfl ?_
      refine av_getaE (q := 19) F fM_281 dM_numbered_16 rfl rfl (by first | exact hM.o | exact hl.o | exact hM.a55 | exact hM.a56) hM.p3 ?_
      refine av_geti (q := 22) F fM_253 dM_numbered_19 rfl rfl (by first | exact hM.o | exact hl.o | exact hM.a55 | exact hM.a56) ?_
      refine aw_icmp_ge (q := 25) (t := 42) F dM_numbered_22 rfl (by decide) (fun c22 => by omega) (fun c22 => ?_)
      refine aw_iload_2 (q := 26) F dM_numbered_25 rfl ?_
      refine aw_iload_1 (q := 27) F dM_numbered_26 rfl ?_
      refine aw_imul (q := 28) F dM_numbered_27 rfl (by rw [eN]; omega) ?_
      rw [eN]
      refine aw_aload_0 (q := 29) F dM_numbered_28 rfl ?_
      refine av_getaE (q := 32) F fM_21 dM_numbered_29 rfl rfl (by first | exact hM.o | exact hl.o | exact hM.a55 | exact hM.a56) hM.p16 ?_
      refine aw_iload_3 (q := 33) F dM_numbered_32 rfl ?_
      refine av_iaload (q := 34) F dM_numbered_33 rfl (by first | exact hM.o | exact hl.o | exact hM.a55 | exact hM.a56) (by omega) (by omega) ?_
      rw [show z.toNat = p by omega, e2]
      refine aw_iadd (q := 35) F dM_numbered_34 rfl (by constructor <;> omega) ?_
      refine aw_istore_1 (q := 36) F dM_numbered_35 rfl trivial ?_
      refine aw_iinc_3 (q := 39) F dM_numbered_36 rfl trivial (by constructor <;> omega) ?_
      refine aw_goto (t := 14) F dM_numbered_39 (by decide) ?_
      exact ih (p + 1) (by omega) _ _ (by rw [ee]; omega) (by omega)
  refine aw_iconst (q := 1) F dM_numbered_0 rfl (by decide) ?_
  refine aw_istore_1 (q := 2) F dM_numbered_1 rfl trivial ?_
  refine aw_aload_0 (q := 3) F dM_numbered_2 rfl ?_
  refine av_getaE (q := 6) F fM_281 dM_numbered_3 rfl rfl (by first | exact hM.o | exact hl.o | exact hM.a55 | exact hM.a56) hM.p3 ?_
  refine av_geti (q := 9) F fM_183 dM_numbered_6 rfl rfl (by first | exact hM.o | exact hl.o | exact hM.a55 | exact hM.a56) ?_
  refine aw_iconst (q := 10) F dM_numbered_9 rfl (by decide) ?_
  refine aw_iadd (q := 11) F dM_numbered_10 rfl (by rw [h1]; omega) ?_
  rw [h1, ← hBs]
  refine aw_istore_2 (q := 12) F dM_numbered_11 rfl trivial ?_
  refine aw_iconst (q := 13) F dM_numbered_12 rfl (by decide) ?_
  refine aw_istore_3 (q := 14) F dM_numbered_13 rfl trivial ?_
  exact loopA (pN c) 0 (by omega) _ _ rfl rfl
end Mod9
