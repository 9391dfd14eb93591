-- words
theorem lit_t : ∀ j : Nat, j < 19 → 3 ≤ j → kLen.getD j 0 ≤ 7 ∧ ∀ i : Nat, i < kLen.getD j 0 → 97 ≤ kCh j i ∧ kCh j i ≤ 122 := by decide +kernel
def pkS (j : Nat) : Nat := spI j (kLen.getD j 0)
def lt0 (k : Nat) : Nat := if k = 0 then 3 else k + 4
theorem wnF_sp (j w : Nat) : ∀ f i, (wnF j w f i = -1 ∧ ∀ i', i ≤ i' → i' < i + f → i' % 8 = 7 → spC j i' ≠ w) ∨ ∃ i', (i ≤ i' ∧ i' < i + f ∧ i' % 8 = 7) ∧ spC j i' = w ∧ wnF j w f i = (i' / 8 : Nat)
  | 0, i => Or.inl ⟨rfl, fun i' h1 h2 => absurd h2 (by omega)⟩
  | f + 1, i => by
    rw [wnF]
    by_cases h : i % 8 = 7 ∧ spC j i = w
    · rw [if_pos h]
      exact Or.inr ⟨i, ⟨Nat.le_refl _, by omega, h.1⟩, h.2, rfl⟩
    · rw [if_neg h]
      rcases wnF_sp j w f (i + 1) with ⟨a, b⟩ | ⟨i', a, b⟩
      · refine Or.inl ⟨a, fun i' h1 h2 h3 h4 => ?_⟩
        by_cases e : i' = i
        · rw [e] at h3 h4; exact h ⟨h3, h4⟩
        · exact b i' (by omega) (by omega) h3 h4
      · exact Or.inr ⟨i', ⟨by omega, by omega, a.2.2⟩, b⟩
theorem col0 : kLen.getD 0 0 = 88 ∧ ∀ k : Nat, k < 11 → spC 0 (8 * k + 7) = pkS (lt0 k) := by decide +kernel
theorem col0d : ∀ k : Nat, k < 11 → ∀ k' : Nat, k' < 11 → pkS (lt0 k) = pkS (lt0 k') → k = k' := by decide +kernel
theorem col1 : kLen.getD 1 0 = 8 ∧ spC 1 7 = pkS 4 := by decide +kernel
theorem col2 : kLen.getD 2 0 = 32 ∧ ∀ k : Nat, k < 4 → spC 2 (8 * k + 7) = pkS (15 + k) := by decide +kernel
theorem col2d : ∀ k : Nat, k < 4 → ∀ k' : Nat, k' < 4 → pkS (15 + k) = pkS (15 + k') → k = k' := by decide +kernel
theorem wn0 (t : TK) : (wnI 0 t = -1 ∧ (t.1 = 1 → ∀ k, k < 11 → t.2.2.2 ≠ pkS (lt0 k))) ∨ ∃ k, k < 11 ∧ wnI 0 t = (k : Nat) ∧ t.1 = 1 ∧ t.2.2.2 = pkS (lt0 k) := by
  unfold wnI
  by_cases h : t.1 = 1
  · rw [if_pos h, col0.1]
    rcases wnF_sp 0 t.2.2.2 88 0 with ⟨a, b⟩ | ⟨i', ⟨a1, a2, a3⟩, b, d⟩
    · refine Or.inl ⟨a, fun _ k hk e => b (8 * k + 7) (by omega) (by omega) (by omega) ?_⟩
      rw [col0.2 k hk, e]
    · have e : i' = 8 * (i' / 8) + 7 := by omega
      refine Or.inr ⟨i' / 8, by omega, d, h, ?_⟩
      rw [← col0.2 (i' / 8) (by omega), ← e, b]
  · rw [if_neg h]
    exact Or.inl ⟨rfl, fun q => absurd q h⟩
theorem wn2 (t : TK) : (wnI 2 t = -1 ∧ (t.1 = 1 → ∀ k, k < 4 → t.2.2.2 ≠ pkS (15 + k))) ∨ ∃ k, k < 4 ∧ wnI 2 t = (k : Nat) ∧ t.1 = 1 ∧ t.2.2.2 = pkS (15 + k) := by
  unfold wnI
  by_cases h : t.1 = 1
  · rw [if_pos h, col2.1]
    rcases wnF_sp 2 t.2.2.2 32 0 with ⟨a, b⟩ | ⟨i', ⟨a1, a2, a3⟩, b, d⟩
    · refine Or.inl ⟨a, fun _ k hk e => b (8 * k + 7) (by omega) (by omega) (by omega) ?_⟩
      rw [col2.2 k hk, e]
    · have e : i' = 8 * (i' / 8) + 7 := by omega
      refine Or.inr ⟨i' / 8, by omega, d, h, ?_⟩
      rw [← col2.2 (i' / 8) (by omega), ← e, b]
  · rw [if_neg h]
    exact Or.inl ⟨rfl, fun q => absurd q h⟩
theorem wn1 (t : TK) : wnI 1 t = -1 ↔ ¬ (t.1 = 1 ∧ t.2.2.2 = pkS 4) := by
  unfold wnI
  by_cases h : t.1 = 1
  · rw [if_pos h, col1.1]
    rcases wnF_sp 1 t.2.2.2 8 0 with ⟨a, b⟩ | ⟨i', ⟨a1, a2, a3⟩, b, d⟩
    · exact ⟨fun _ q => b 7 (by omega) (by omega) (by omega) (by rw [col1.2, q.2]), fun _ => a⟩
    · have e : i' = 7 := by omega
      rw [e] at b d
      exact ⟨fun q => by rw [d] at q; exact absurd q (by decide), fun q => absurd ⟨h, by rw [← col1.2, b]⟩ q⟩
  · rw [if_neg h]
    exact ⟨fun _ q => h q.1, fun _ => rfl⟩
/-- is the token this word: by the reference's fields -/
def isWv (V : Nat → Nat → Int) (j : Nat) : Prop := V 53 9 = 2 ∧ V 53 14 = pkS j
theorem MT.wv {V : Nat → Nat → Int} {t : TK} (h : MT V t) (j : Nat) : isWv V j ↔ t.1 = 1 ∧ t.2.2.2 = pkS j := by
  obtain ⟨-, -, -, h1, h2, -⟩ := h
  constructor
  · intro q
    have a := h1.mpr q.1
    have b := h2 a
    rw [q.2] at b
    exact ⟨a, by omega⟩
  · intro q
    exact ⟨h1.mp q.1, by rw [h2 q.1, q.2]⟩
theorem MT.w0 {V : Nat → Nat → Int} {t : TK} (h : MT V t) {k : Nat} (hk : k < 11) : isWv V (lt0 k) ↔ wnI 0 t = (k : Nat) := by
  rw [h.wv]
  rcases wn0 t with ⟨a, b⟩ | ⟨k', a1, a2, a3, a4⟩
  · rw [a]
    exact ⟨fun q => absurd q.2 (b q.1 k hk), fun q => absurd q (by omega)⟩
  · rw [a2]
    exact ⟨fun q => by rw [col0d k hk k' a1 (q.2.symm.trans a4)], fun q => ⟨a3, by rw [a4, show k' = k by omega]⟩⟩
theorem MT.w2 {V : Nat → Nat → Int} {t : TK} (h : MT V t) {k : Nat} (hk : k < 4) : isWv V (15 + k) ↔ wnI 2 t = (k : Nat) := by
  rw [h.wv]
  rcases wn2 t with ⟨a, b⟩ | ⟨k', a1, a2, a3, a4⟩
  · rw [a]
    exact ⟨fun q => absurd q.2 (b q.1 k hk), fun q => absurd q (by omega)⟩
  · rw [a2]
    exact ⟨fun q => by rw [col2d k hk k' a1 (q.2.symm.trans a4)], fun q => ⟨a3, by rw [a4, show k' = k by omega]⟩⟩
theorem wnI0_cs (t : TK) : wnI 0 t = -1 ∨ ∃ k : Nat, k < 11 ∧ wnI 0 t = k := by
  rcases wn0 t with ⟨a, _⟩ | ⟨k, a, b, _⟩
  · exact Or.inl a
  · exact Or.inr ⟨k, a, b⟩
theorem wnI2_cs (t : TK) : wnI 2 t = -1 ∨ ∃ k : Nat, k < 4 ∧ wnI 2 t = k := by
  rcases wn2 t with ⟨a, _⟩ | ⟨k, a, b, _⟩
  · exact Or.inl a
  · exact Or.inr ⟨k, a, b⟩
theorem MT.nm {V : Nat → Nat → Int} {t : TK} (h : MT V t) : (V 53 9 = 2 ∧ ∀ k, k < 11 → ¬ isWv V (lt0 k)) ↔ isNm t = true := by
  unfold isNm
  rw [Bool.and_eq_true, beq_iff_eq, beq_iff_eq, ← h.2.2.2.1]
  constructor
  · rintro ⟨a, b⟩
    refine ⟨a, ?_⟩
    rcases wnI0_cs t with q | ⟨k, q1, q2⟩
    · exact q
    · exact absurd ((h.w0 q1).mpr q2) (b k q1)
  · rintro ⟨a, b⟩
    exact ⟨a, fun k hk q => by have := (h.w0 hk).mp q; omega⟩
section Mod40
variable {G : GE} {V V' V1 V2 : Nat → Nat → Int} {σ : Shp} {K : Option AV → Mem → Prop} {l n e : Nat} {B : Nat → Int}
theorem wM_packed {j : Nat} (hj3 : 3 ≤ j) (hj : j < 19) (hK : K (some (vL (pkS j : Nat))) (V, σ)) : Wp G 4 mM_packed [vR (BG + j)] (V, σ) 0 0 K := by
  obtain ⟨l7, lc⟩ := lit_t j hj hj3
  refine wp_intro mM_packed_i.1 [some (vR (BG + j)), none, none, none] rfl rfl (Nat.le_of_ble_eq_true rfl) ?_
  intro X hG F C
  have hm := C.rm
  have loop : ∀ (f i : Nat), f + i = kLen.getD j 0 → ∀ (y z : Int), y = (spI j i : Nat) → spI j i < 32 ^ i → z = i → AW X 4 [some (vR (BG + j)), some (vL y), none, some (vI z)] [] (V, σ) 0 0 := by
    intro f
    induction f with
    | zero =>
      intro i hi y z hy hb hz
      refine aw_iload_3 (q := 5) F dM_packed_4 rfl ?_
      refine aw_aload_0 (q := 6) F dM_packed_5 rfl ?_
      refine aw_callK0 (q := 9) F hm mJS_length_i (by omega) mJS_length_n (tb7 15 (by decide +kernel) rfl) dM_packed_6 rfl rfl (by decide) (Nat.le_refl _) (Nat.le_refl _) (Nat.le_of_ble_eq_true rfl) (wJS_length (by omega) ?_)
      refine aw_icmp_ge (q := 12) (t := 36) F dM_packed_9 rfl (by decide) (fun c9 => ?_) (fun c9 => by omega)
      refine aw_lload_1 (q := 37) F dM_packed_36 rfl ?_
      refine aw_lret F C dM_packed_37 rfl (Nat.le_refl _) (Nat.le_refl _) ?_
      rw [hy, show i = kLen.getD j 0 by omega]; exact hK
    | succ f ih =>
      intro i hi y z hy hb hz
      have hc := lc i (by omega)
      have h7 : 32 ^ i ≤ 32 ^ 6 := Nat.pow_le_pow_right (by decide) (by omega)
      have hb2 : spI j i < 1073741824 := Nat.lt_of_lt_of_le hb h7
      have es : spI j (i + 1) = spI j i * 32 + (kCh j i).toNat % 32 := by rw [spI, if_neg (by omega), if_neg (by omega)]
      have ei : kCh j z.toNat = kCh j i := by rw [show z.toNat = i by omega]
      refine aw_iload_3 (q := 5) F dM_packed_4 rfl ?_
      refine aw_aload_0 (q := 6) F dM_packed_5 rfl ?_
      refine aw_callK0 (q := 9) F hm mJS_length_i (by omega) mJS_length_n (tb7 15 (by decide +kernel) rfl) dM_packed_6 rfl rfl (by decide) (Nat.le_refl _) (Nat.le_refl _) (Nat.le_of_ble_eq_true rfl) (wJS_length (by omega) ?_)
      refine aw_icmp_ge (q := 12) (t := 36) F dM_packed_9 rfl (by decide) (fun c9 => by omega) (fun c9 => ?_)
      refine aw_ldc2 (q := 15) (z := 32) F dM_packed_12 rfl kM_72 (by decide) ?_
      refine aw_lload_1 (q := 16) F dM_packed_15 rfl ?_
      refine aw_lmul (q := 17) F dM_packed_16 rfl (by constructor <;> omega) ?_
      refine aw_aload_0 (q := 18) F dM_packed_17 rfl ?_
      refine aw_iload_3 (q := 19) F dM_packed_18 rfl ?_
      refine aw_callK1 (q := 22) F hm mJS_charAt_i (by omega) mJS_charAt_n (tb7 16 (by decide +kernel) rfl) dM_packed_19 rfl rfl (by decide) (Nat.le_refl _) (Nat.le_refl _) (Nat.le_of_ble_eq_true rfl) (wJS_charAt (by omega) ⟨by omega, by omega⟩ ?_)
      rw [ei]
      refine aw_bipush (q := 24) F dM_packed_22 rfl (by decide) ?_
      refine aw_isub (q := 25) F dM_packed_24 rfl (by constructor <;> omega) ?_
      refine aw_iconst (q := 26) F dM_packed_25 rfl (by decide) ?_
      refine aw_iadd (q := 27) F dM_packed_26 rfl (by constructor <;> omega) ?_
      refine aw_i2l (q := 28) F dM_packed_27 rfl ?_
      refine aw_ladd (q := 29) F dM_packed_28 rfl (by constructor <;> omega) ?_
      refine aw_lstore_1 (q := 30) F dM_packed_29 rfl trivial ?_
      refine aw_iinc_3 (q := 33) F dM_packed_30 rfl trivial (by constructor <;> omega) ?_
      refine aw_goto (t := 4) F dM_packed_33 (by decide) ?_
      exact ih (i + 1) (by omega) _ _ (by rw [es]; omega) (by rw [es, Nat.pow_succ]; omega) (by omega)
  refine aw_lconst (q := 1) (z := 0) F dM_packed_0 rfl rfl ?_
  refine aw_lstore_1 (q := 2) F dM_packed_1 rfl trivial ?_
  refine aw_iconst (q := 3) F dM_packed_2 rfl (by decide) ?_
  refine aw_istore_3 (q := 4) F dM_packed_3 rfl trivial ?_
  exact loop _ 0 rfl _ _ rfl (by show 0 < 1; decide) rfl
theorem wM_isWord {j : Nat} (hj3 : 3 ≤ j) (hj : j < 19) (hM : moS σ l) (h1 : isWv V j → K (some (vI 1)) (V, σ)) (h0 : ¬ isWv V j → K (some (vI 0)) (V, σ)) : Wp G 5 mM_isWord [vR 53, vR (BG + j)] (V, σ) 0 0 K := by
  refine wp_intro mM_isWord_i.1 [some (vR 53), some (vR (BG + j))] rfl rfl (Nat.le_of_ble_eq_true rfl) ?_
  intro X hG F C
  have hm := C.rm
  refine aw_aload_0 (q := 1) F dM_isWord_0 rfl ?_
  refine av_geti (q := 4) F fM_78 dM_isWord_1 rfl rfl (by first | exact hM.o | exact hM.a54 | exact hl.o | exact hl.a6) ?_
  refine aw_iconst (q := 5) F dM_isWord_4 rfl (by decide) ?_
  refine aw_icmp_ne (q := 8) (t := 24) F dM_isWord_5 rfl (by decide) (fun c5 => ?_) (fun c5 => ?_)
  · refine aw_iconst (q := 25) F dM_isWord_24 rfl (by decide) ?_
    refine aw_zret F C dM_isWord_25 rfl (by decide) (Nat.le_refl _) (Nat.le_refl _) ?_
    first | exact h0 (fun q => c17 (ycmpE.mpr q.2)) | exact h0 (fun q => c5 q.1)
  · refine aw_aload_0 (q := 9) F dM_isWord_8 rfl ?_
    refine av_getl (q := 12) F fM_94 dM_isWord_9 rfl rfl (by first | exact hM.o | exact hM.a54 | exact hl.o | exact hl.a6) ?_
    refine aw_aload_1 (q := 13) F dM_isWord_12 rfl ?_
    refine av_callS1 (q := 16) F hm mM_packed_i mM_packed_n lM_110 dM_isWord_13 rfl (by decide) (Nat.le_refl _) (Nat.le_refl _) (Nat.le_of_ble_eq_true rfl) (wM_packed hj3 hj ?_)
    refine aw_lcmp (q := 17) F dM_isWord_16 rfl ?_
    refine aw_if_ne (q := 20) (t := 24) F dM_isWord_17 rfl (by decide) (fun c17 => ?_) (fun c17 => ?_)
    · refine aw_iconst (q := 25) F dM_isWord_24 rfl (by decide) ?_
      refine aw_zret F C dM_isWord_25 rfl (by decide) (Nat.le_refl _) (Nat.le_refl _) ?_
      first | exact h0 (fun q => c17 (ycmpE.mpr q.2)) | exact h0 (fun q => c5 q.1)
    · refine aw_iconst (q := 21) F dM_isWord_20 rfl (by decide) ?_
      refine aw_goto (t := 25) F dM_isWord_21 (by decide) ?_
      refine aw_zret F C dM_isWord_25 rfl (by decide) (Nat.le_refl _) (Nat.le_refl _) ?_
      exact h1 ⟨c5, ycmpE.mp c17⟩
theorem wM_isName (hM : moS σ l) (h1 : (V 53 9 = 2 ∧ ∀ k, k < 11 → ¬ isWv V (lt0 k)) → K (some (vI 1)) (V, σ)) (h0 : ¬ (V 53 9 = 2 ∧ ∀ k, k < 11 → ¬ isWv V (lt0 k)) → K (some (vI 0)) (V, σ)) : Wp G 6 mM_isName [vR 53] (V, σ) 0 0 K := by
  have no : ∀ k, k < 11 → isWv V (lt0 k) → K (some (vI 0)) (V, σ) := fun k hk q => h0 (fun z => z.2 k hk q)
  have no2 : ¬ V 53 9 = 2 → K (some (vI 0)) (V, σ) := fun q => h0 (fun z => q z.1)
  clear h0
  refine wp_intro mM_isName_i.1 [some (vR 53)] rfl rfl (Nat.le_of_ble_eq_true rfl) ?_
  intro X hG F C
  have hm := C.rm
  refine aw_aload_0 (q := 1) F dM_isName_0 rfl ?_
  refine av_geti (q := 4) F fM_78 dM_isName_1 rfl rfl (by first | exact hM.o | exact hM.a54 | exact hl.o | exact hl.a6) ?_
  refine aw_iconst (q := 5) F dM_isName_4 rfl (by decide) ?_
  refine aw_icmp_ne (q := 8) (t := 62) F dM_isName_5 rfl (by decide) (fun c5 => ?_) (fun c5 => ?_)
  · refine aw_iconst (q := 63) F dM_isName_62 rfl (by decide) ?_
    refine aw_zret F C dM_isName_63 rfl (by decide) (Nat.le_refl _) (Nat.le_refl _) ?_
    first | exact no2 c5 | exact no 10 (by decide) w103 | exact no 9 (by decide) w94 | exact no 8 (by decide) w85 | exact no 7 (by decide) w76 | exact no 6 (by decide) w67 | exact no 5 (by decide) w56 | exact no 4 (by decide) w47 | exact no 3 (by decide) w38 | exact no 2 (by decide) w29 | exact no 1 (by decide) w20 | exact no 0 (by decide) w11
  · refine aw_aload_0 (q := 9) F dM_isName_8 rfl ?_
    refine aw_ldcS (q := 11) (j := 3) F dM_isName_9 rfl (by decide) rfl rfl ?_
    refine av_callV1 (q := 14) (ci := 9) F hm mM_isWord_i mM_isWord_n lM_119 dM_isName_11 rfl rfl rfl (by first | exact hM.o | exact hM.a54 | exact hl.o | exact hl.a6) (by decide) (Nat.le_refl _) (Nat.le_refl _) (Nat.le_of_ble_eq_true rfl) (wM_isWord (j := 3) (by decide) (by decide) hM (fun w11 => ?_) (fun w11 => ?_))
    · refine aw_if_ne (q := 17) (t := 62) F dM_isName_14 rfl (by decide) (fun c14 => ?_) (fun c14 => absurd c14 (by decide))
      refine aw_iconst (q := 63) F dM_isName_62 rfl (by decide) ?_
      refine aw_zret F C dM_isName_63 rfl (by decide) (Nat.le_refl _) (Nat.le_refl _) ?_
      first | exact no2 c5 | exact no 10 (by decide) w103 | exact no 9 (by decide) w94 | exact no 8 (by decide) w85 | exact no 7 (by decide) w76 | exact no 6 (by decide) w67 | exact no 5 (by decide) w56 | exact no 4 (by decide) w47 | exact no 3 (by decide) w38 | exact no 2 (by decide) w29 | exact no 1 (by decide) w20 | exact no 0 (by decide) w11
    · refine aw_if_ne (q := 17) (t := 62) F dM_isName_14 rfl (by decide) (fun c14 => absurd c14 (by decide)) (fun c14 => ?_)
      refine aw_aload_0 (q := 18) F dM_isName_17 rfl ?_
      refine aw_ldcS (q := 20) (j := 5) F dM_isName_18 rfl (by decide) rfl rfl ?_
      refine av_callV1 (q := 23) (ci := 9) F hm mM_isWord_i mM_isWord_n lM_119 dM_isName_20 rfl rfl rfl (by first | exact hM.o | exact hM.a54 | exact hl.o | exact hl.a6) (by decide) (Nat.le_refl _) (Nat.le_refl _) (Nat.le_of_ble_eq_true rfl) (wM_isWord (j := 5) (by decide) (by decide) hM (fun w20 => ?_) (fun w20 => ?_))
      · refine aw_if_ne (q := 26) (t := 62) F dM_isName_23 rfl (by decide) (fun c23 => ?_) (fun c23 => absurd c23 (by decide))
        refine aw_iconst (q := 63) F dM_isName_62 rfl (by decide) ?_
        refine aw_zret F C dM_isName_63 rfl (by decide) (Nat.le_refl _) (Nat.le_refl _) ?_
        first | exact no2 c5 | exact no 10 (by decide) w103 | exact no 9 (by decide) w94 | exact no 8 (by decide) w85 | exact no 7 (by decide) w76 | exact no 6 (by decide) w67 | exact no 5 (by decide) w56 | exact no 4 (by decide) w47 | exact no 3 (by decide) w38 | exact no 2 (by decide) w29 | exact no 1 (by decide) w20 | exact no 0 (by decide) w11
      · refine aw_if_ne (q := 26) (t := 62) F dM_isName_23 rfl (by decide) (fun c23 => absurd c23 (by decide)) (fun c23 => ?_)
        refine aw_aload_0 (q := 27) F dM_isName_26 rfl ?_
        refine aw_ldcS (q := 29) (j := 6) F dM_isName_27 rfl (by decide) rfl rfl ?_
        refine av_callV1 (q := 32) (ci := 9) F hm mM_isWord_i mM_isWord_n lM_119 dM_isName_29 rfl rfl rfl (by first | exact hM.o | exact hM.a54 | exact hl.o | exact hl.a6) (by decide) (Nat.le_refl _) (Nat.le_refl _) (Nat.le_of_ble_eq_true rfl) (wM_isWord (j := 6) (by decide) (by decide) hM (fun w29 => ?_) (fun w29 => ?_))
        · refine aw_if_ne (q := 35) (t := 62) F dM_isName_32 rfl (by decide) (fun c32 => ?_) (fun c32 => absurd c32 (by decide))
          refine aw_iconst (q := 63) F dM_isName_62 rfl (by decide) ?_
          refine aw_zret F C dM_isName_63 rfl (by decide) (Nat.le_refl _) (Nat.le_refl _) ?_
          first | exact no2 c5 | exact no 10 (by decide) w103 | exact no 9 (by decide) w94 | exact no 8 (by decide) w85 | exact no 7 (by decide) w76 | exact no 6 (by decide) w67 | exact no 5 (by decide) w56 | exact no 4 (by decide) w47 | exact no 3 (by decide) w38 | exact no 2 (by decide) w29 | exact no 1 (by decide) w20 | exact no 0 (by decide) w11
        · refine aw_if_ne (q := 35) (t := 62) F dM_isName_32 rfl (by decide) (fun c32 => absurd c32 (by decide)) (fun c32 => ?_)
          refine aw_aload_0 (q := 36) F dM_isName_35 rfl ?_
          refine aw_ldcS (q := 38) (j := 7) F dM_isName_36 rfl (by decide) rfl rfl ?_
          refine av_callV1 (q := 41) (ci := 9) F hm mM_isWord_i mM_isWord_n lM_119 dM_isName_38 rfl rfl rfl (by first | exact hM.o | exact hM.a54 | exact hl.o | exact hl.a6) (by decide) (Nat.le_refl _) (Nat.le_refl _) (Nat.le_of_ble_eq_true rfl) (wM_isWord (j := 7) (by decide) (by decide) hM (fun w38 => ?_) (fun w38 => ?_))
          · refine aw_if_ne (q := 44) (t := 62) F dM_isName_41 rfl (by decide) (fun c41 => ?_) (fun c41 => absurd c41 (by decide))
            refine aw_iconst (q := 63) F dM_isName_62 rfl (by decide) ?_
            refine aw_zret F C dM_isName_63 rfl (by decide) (Nat.le_refl _) (Nat.le_refl _) ?_
            first | exact no2 c5 | exact no 10 (by decide) w103 | exact no 9 (by decide) w94 | exact no 8 (by decide) w85 | exact no 7 (by decide) w76 | exact no 6 (by decide) w67 | exact no 5 (by decide) w56 | exact no 4 (by decide) w47 | exact no 3 (by decide) w38 | exact no 2 (by decide) w29 | exact no 1 (by decide) w20 | exact no 0 (by decide) w11
          · refine aw_if_ne (q := 44) (t := 62) F dM_isName_41 rfl (by decide) (fun c41 => absurd c41 (by decide)) (fun c41 => ?_)
            refine aw_aload_0 (q := 45) F dM_isName_44 rfl ?_
            refine aw_ldcS (q := 47) (j := 8) F dM_isName_45 rfl (by decide) rfl rfl ?_
            refine av_callV1 (q := 50) (ci := 9) F hm mM_isWord_i mM_isWord_n lM_119 dM_isName_47 rfl rfl rfl (by first | exact hM.o | exact hM.a54 | exact hl.o | exact hl.a6) (by decide) (Nat.le_refl _) (Nat.le_refl _) (Nat.le_of_ble_eq_true rfl) (wM_isWord (j := 8) (by decide) (by decide) hM (fun w47 => ?_) (fun w47 => ?_))
            · refine aw_if_ne (q := 53) (t := 62) F dM_isName_50 rfl (by decide) (fun c50 => ?_) (fun c50 => absurd c50 (by decide))
              refine aw_iconst (q := 63) F dM_isName_62 rfl (by decide) ?_
              refine aw_zret F C dM_isName_63 rfl (by decide) (Nat.le_refl _) (Nat.le_refl _) ?_
              first | exact no2 c5 | exact no 10 (by decide) w103 | exact no 9 (by decide) w94 | exact no 8 (by decide) w85 | exact no 7 (by decide) w76 | exact no 6 (by decide) w67 | exact no 5 (by decide) w56 | exact no 4 (by decide) w47 | exact no 3 (by decide) w38 | exact no 2 (by decide) w29 | exact no 1 (by decide) w20 | exact no 0 (by decide) w11
            · refine aw_if_ne (q := 53) (t := 62) F dM_isName_50 rfl (by decide) (fun c50 => absurd c50 (by decide)) (fun c50 => ?_)
              refine aw_aload_0 (q := 54) F dM_isName_53 rfl ?_
              refine aw_ldcS (q := 56) (j := 9) F dM_isName_54 rfl (by decide) rfl rfl ?_
              refine av_callV1 (q := 59) (ci := 9) F hm mM_isWord_i mM_isWord_n lM_119 dM_isName_56 rfl rfl rfl (by first | exact hM.o | exact hM.a54 | exact hl.o | exact hl.a6) (by decide) (Nat.le_refl _) (Nat.le_refl _) (Nat.le_of_ble_eq_true rfl) (wM_isWord (j := 9) (by decide) (by decide) hM (fun w56 => ?_) (fun w56 => ?_))
              · refine aw_if_eq (q := 62) (t := 64) F dM_isName_59 rfl (by decide) (fun c59 => absurd c59 (by decide)) (fun c59 => ?_)
                refine aw_iconst (q := 63) F dM_isName_62 rfl (by decide) ?_
                refine aw_zret F C dM_isName_63 rfl (by decide) (Nat.le_refl _) (Nat.le_refl _) ?_
                first | exact no2 c5 | exact no 10 (by decide) w103 | exact no 9 (by decide) w94 | exact no 8 (by decide) w85 | exact no 7 (by decide) w76 | exact no 6 (by decide) w67 | exact no 5 (by decide) w56 | exact no 4 (by decide) w47 | exact no 3 (by decide) w38 | exact no 2 (by decide) w29 | exact no 1 (by decide) w20 | exact no 0 (by decide) w11
              · refine aw_if_eq (q := 62) (t := 64) F dM_isName_59 rfl (by decide) (fun c59 => ?_) (fun c59 => absurd c59 (by decide))
                refine aw_aload_0 (q := 65) F dM_isName_64 rfl ?_
                refine aw_ldcS (q := 67) (j := 10) F dM_isName_65 rfl (by decide) rfl rfl ?_
                refine av_callV1 (q := 70) (ci := 9) F hm mM_isWord_i mM_isWord_n lM_119 dM_isName_67 rfl rfl rfl (by first | exact hM.o | exact hM.a54 | exact hl.o | exact hl.a6) (by decide) (Nat.le_refl _) (Nat.le_refl _) (Nat.le_of_ble_eq_true rfl) (wM_isWord (j := 10) (by decide) (by decide) hM (fun w67 => ?_) (fun w67 => ?_))
                · refine aw_if_ne (q := 73) (t := 113) F dM_isName_70 rfl (by decide) (fun c70 => ?_) (fun c70 => absurd c70 (by decide))
                  refine aw_iconst (q := 114) F dM_isName_113 rfl (by decide) ?_
                  refine aw_zret F C dM_isName_114 rfl (by decide) (Nat.le_refl _) (Nat.le_refl _) ?_
                  first | exact no2 c5 | exact no 10 (by decide) w103 | exact no 9 (by decide) w94 | exact no 8 (by decide) w85 | exact no 7 (by decide) w76 | exact no 6 (by decide) w67 | exact no 5 (by decide) w56 | exact no 4 (by decide) w47 | exact no 3 (by decide) w38 | exact no 2 (by decide) w29 | exact no 1 (by decide) w20 | exact no 0 (by decide) w11
                · refine aw_if_ne (q := 73) (t := 113) F dM_isName_70 rfl (by decide) (fun c70 => absurd c70 (by decide)) (fun c70 => ?_)
                  refine aw_aload_0 (q := 74) F dM_isName_73 rfl ?_
                  refine aw_ldcS (q := 76) (j := 11) F dM_isName_74 rfl (by decide) rfl rfl ?_
                  refine av_callV1 (q := 79) (ci := 9) F hm mM_isWord_i mM_isWord_n lM_119 dM_isName_76 rfl rfl rfl (by first | exact hM.o | exact hM.a54 | exact hl.o | exact hl.a6) (by decide) (Nat.le_refl _) (Nat.le_refl _) (Nat.le_of_ble_eq_true rfl) (wM_isWord (j := 11) (by decide) (by decide) hM (fun w76 => ?_) (fun w76 => ?_))
                  · refine aw_if_ne (q := 82) (t := 113) F dM_isName_79 rfl (by decide) (fun c79 => ?_) (fun c79 => absurd c79 (by decide))
                    refine aw_iconst (q := 114) F dM_isName_113 rfl (by decide) ?_
                    refine aw_zret F C dM_isName_114 rfl (by decide) (Nat.le_refl _) (Nat.le_refl _) ?_
                    first | exact no2 c5 | exact no 10 (by decide) w103 | exact no 9 (by decide) w94 | exact no 8 (by decide) w85 | exact no 7 (by decide) w76 | exact no 6 (by decide) w67 | exact no 5 (by decide) w56 | exact no 4 (by decide) w47 | exact no 3 (by decide) w38 | exact no 2 (by decide) w29 | exact no 1 (by decide) w20 | exact no 0 (by decide) w11
                  · refine aw_if_ne (q := 82) (t := 113) F dM_isName_79 rfl (by decide) (fun c79 => absurd c79 (by decide)) (fun c79 => ?_)
                    refine aw_aload_0 (q := 83) F dM_isName_82 rfl ?_
                    refine aw_ldcS (q := 85) (j := 12) F dM_isName_83 rfl (by decide) rfl rfl ?_
                    refine av_callV1 (q := 88) (ci := 9) F hm mM_isWord_i mM_isWord_n lM_119 dM_isName_85 rfl rfl rfl (by first | exact hM.o | exact hM.a54 | exact hl.o | exact hl.a6) (by decide) (Nat.le_refl _) (Nat.le_refl _) (Nat.le_of_ble_eq_true rfl) (wM_isWord (j := 12) (by decide) (by decide) hM (fun w85 => ?_) (fun w85 => ?_))
                    · refine aw_if_ne (q := 91) (t := 113) F dM_isName_88 rfl (by decide) (fun c88 => ?_) (fun c88 => absurd c88 (by decide))
                      refine aw_iconst (q := 114) F dM_isName_113 rfl (by decide) ?_
                      refine aw_zret F C dM_isName_114 rfl (by decide) (Nat.le_refl _) (Nat.le_refl _) ?_
                      first | exact no2 c5 | exact no 10 (by decide) w103 | exact no 9 (by decide) w94 | exact no 8 (by decide) w85 | exact no 7 (by decide) w76 | exact no 6 (by decide) w67 | exact no 5 (by decide) w56 | exact no 4 (by decide) w47 | exact no 3 (by decide) w38 | exact no 2 (by decide) w29 | exact no 1 (by decide) w20 | exact no 0 (by decide) w11
                    · refine aw_if_ne (q := 91) (t := 113) F dM_isName_88 rfl (by decide) (fun c88 => absurd c88 (by decide)) (fun c88 => ?_)
                      refine aw_aload_0 (q := 92) F dM_isName_91 rfl ?_
                      refine aw_ldcS (q := 94) (j := 13) F dM_isName_92 rfl (by decide) rfl rfl ?_
                      refine av_callV1 (q := 97) (ci := 9) F hm mM_isWord_i mM_isWord_n lM_119 dM_isName_94 rfl rfl rfl (by first | exact hM.o | exact hM.a54 | exact hl.o | exact hl.a6) (by decide) (Nat.le_refl _) (Nat.le_refl _) (Nat.le_of_ble_eq_true rfl) (wM_isWord (j := 13) (by decide) (by decide) hM (fun w94 => ?_) (fun w94 => ?_))
                      · refine aw_if_ne (q := 100) (t := 113) F dM_isName_97 rfl (by decide) (fun c97 => ?_) (fun c97 => absurd c97 (by decide))
                        refine aw_iconst (q := 114) F dM_isName_113 rfl (by decide) ?_
                        refine aw_zret F C dM_isName_114 rfl (by decide) (Nat.le_refl _) (Nat.le_refl _) ?_
                        first | exact no2 c5 | exact no 10 (by decide) w103 | exact no 9 (by decide) w94 | exact no 8 (by decide) w85 | exact no 7 (by decide) w76 | exact no 6 (by decide) w67 | exact no 5 (by decide) w56 | exact no 4 (by decide) w47 | exact no 3 (by decide) w38 | exact no 2 (by decide) w29 | exact no 1 (by decide) w20 | exact no 0 (by decide) w11
                      · refine aw_if_ne (q := 100) (t := 113) F dM_isName_97 rfl (by decide) (fun c97 => absurd c97 (by decide)) (fun c97 => ?_)
                        refine aw_aload_0 (q := 101) F dM_isName_100 rfl ?_
                        refine aw_ldcS (q := 103) (j := 14) F dM_isName_101 rfl (by decide) rfl rfl ?_
                        refine av_callV1 (q := 106) (ci := 9) F hm mM_isWord_i mM_isWord_n lM_119 dM_isName_103 rfl rfl rfl (by first | exact hM.o | exact hM.a54 | exact hl.o | exact hl.a6) (by decide) (Nat.le_refl _) (Nat.le_refl _) (Nat.le_of_ble_eq_true rfl) (wM_isWord (j := 14) (by decide) (by decide) hM (fun w103 => ?_) (fun w103 => ?_))
                        · refine aw_if_ne (q := 109) (t := 113) F dM_isName_106 rfl (by decide) (fun c106 => ?_) (fun c106 => absurd c106 (by decide))
                          refine aw_iconst (q := 114) F dM_isName_113 rfl (by decide) ?_
                          refine aw_zret F C dM_isName_114 rfl (by decide) (Nat.le_refl _) (Nat.le_refl _) ?_
                          first | exact no2 c5 | exact no 10 (by decide) w103 | exact no 9 (by decide) w94 | exact no 8 (by decide) w85 | exact no 7 (by decide) w76 | exact no 6 (by decide) w67 | exact no 5 (by decide) w56 | exact no 4 (by decide) w47 | exact no 3 (by decide) w38 | exact no 2 (by decide) w29 | exact no 1 (by decide) w20 | exact no 0 (by decide) w11
                        · refine aw_if_ne (q := 109) (t := 113) F dM_isName_106 rfl (by decide) (fun c106 => absurd c106 (by decide)) (fun c106 => ?_)
                          refine aw_iconst (q := 110) F dM_isName_109 rfl (by decide) ?_
                          refine aw_goto (t := 114) F dM_isName_110 (by decide) ?_
                          refine aw_zret F C dM_isName_114 rfl (by decide) (Nat.le_refl _) (Nat.le_refl _) ?_
                          refine h1 ⟨c5, fun k hk => ?_⟩
                          match k, hk with
                          | 0, _ => exact w11
                          | 1, _ => exact w20
                          | 2, _ => exact w29
                          | 3, _ => exact w38
                          | 4, _ => exact w47
                          | 5, _ => exact w56
                          | 6, _ => exact w67
                          | 7, _ => exact w76
                          | 8, _ => exact w85
                          | 9, _ => exact w94
                          | 10, _ => exact w103
theorem wM_flaw {x : Int} (hM : moS σ l) (hg : V 53 9 ≠ 5) (hK : K none (up2 (up2 (up2 V 53 12 x) 53 13 (V 53 10)) 53 9 5, σ)) : Wp G 0 mM_flaw [vR 53, vI x] (V, σ) 0 0 K := by
  have e10 : up2 V 53 12 x 53 10 = V 53 10 := up2_nek _ _ (by decide)
  refine wp_intro mM_flaw_i.1 [some (vR 53), some (vI x)] rfl rfl (Nat.le_of_ble_eq_true rfl) ?_
  intro X hG F C
  have hm := C.rm
  refine aw_aload_0 (q := 1) F dM_flaw_0 rfl ?_
  refine av_geti (q := 4) F fM_78 dM_flaw_1 rfl rfl (by first | exact hM.o | exact hM.a54 | exact hl.o | exact hl.a6) ?_
  refine aw_iconst (q := 5) F dM_flaw_4 rfl (by decide) ?_
  refine aw_icmp_ne (q := 8) (t := 9) F dM_flaw_5 rfl (by decide) (fun c5 => ?_) (fun c5 => by exact absurd c5 hg)
  refine aw_aload_0 (q := 10) F dM_flaw_9 rfl ?_
  refine aw_iload_1 (q := 11) F dM_flaw_10 rfl ?_
  refine av_puti (q := 14) F fM_104 dM_flaw_11 rfl rfl (wr_9_12 _) (by first | exact hM.o | exact hM.a54 | exact hl.o | exact hl.a6) ?_
  refine aw_aload_0 (q := 15) F dM_flaw_14 rfl ?_
  refine aw_aload_0 (q := 16) F dM_flaw_15 rfl ?_
  refine av_geti (q := 19) F fM_87 dM_flaw_16 rfl rfl (by first | exact hM.o | exact hM.a54 | exact hl.o | exact hl.a6) ?_
  rw [e10]
  refine av_puti (q := 22) F fM_107 dM_flaw_19 rfl rfl (wr_9_13 _) (by first | exact hM.o | exact hM.a54 | exact hl.o | exact hl.a6) ?_
  refine aw_aload_0 (q := 23) F dM_flaw_22 rfl ?_
  refine aw_iconst (q := 24) F dM_flaw_23 rfl (by decide) ?_
  refine av_puti (q := 27) F fM_78 dM_flaw_24 rfl rfl (wr_9_9 _) (by first | exact hM.o | exact hM.a54 | exact hl.o | exact hl.a6) ?_
  refine aw_vret F C dM_flaw_27 rfl (Nat.le_refl _) (Nat.le_refl _) ?_
  exact hK
theorem wM_flawO {x : Int} (hM : moS σ l) (ho : V 53 9 = 5) (hK : K none (V, σ)) : Wp G 0 mM_flaw [vR 53, vI x] (V, σ) 0 0 K := by
  refine wp_intro mM_flaw_i.1 [some (vR 53), some (vI x)] rfl rfl (Nat.le_of_ble_eq_true rfl) ?_
  intro X hG F C
  have hm := C.rm
  refine aw_aload_0 (q := 1) F dM_flaw_0 rfl ?_
  refine av_geti (q := 4) F fM_78 dM_flaw_1 rfl rfl (by first | exact hM.o | exact hM.a54 | exact hl.o | exact hl.a6) ?_
  refine aw_iconst (q := 5) F dM_flaw_4 rfl (by decide) ?_
  refine aw_icmp_ne (q := 8) (t := 9) F dM_flaw_5 rfl (by decide) (fun c5 => by exact absurd ho c5) (fun c5 => ?_)
  refine aw_vret F C dM_flaw_8 rfl (Nat.le_refl _) (Nat.le_refl _) ?_
  exact hK
theorem wM_goesOnO (hM : moS σ l) (ho : V 53 9 = 5) (hK : K none (V, σ)) : Wp G 1 mM_goesOn [vR 53] (V, σ) 0 0 K := by
  refine wp_intro mM_goesOn_i.1 [some (vR 53), none, none] rfl rfl (Nat.le_of_ble_eq_true rfl) ?_
  intro X hG F C
  have hm := C.rm
  refine aw_aload_0 (q := 1) F dM_goesOn_0 rfl ?_
  refine av_geti (q := 4) F fM_78 dM_goesOn_1 rfl rfl (by first | exact hM.o | exact hM.a54 | exact hl.o | exact hl.a6) ?_
  refine aw_iconst (q := 5) F dM_goesOn_4 rfl (by decide) ?_
  refine aw_icmp_ne (q := 8) (t := 9) F dM_goesOn_5 rfl (by decide) (fun c5 => by exact absurd ho c5) (fun c5 => ?_)
  refine aw_vret F C dM_goesOn_8 rfl (Nat.le_refl _) (Nat.le_refl _) ?_
  exact hK
theorem wM_eatsO (hM : moS σ l) (ho : V 53 9 = 5) (hK : K (some (vI 0)) (V, σ)) : Wp G 2 mM_eatsSemicolon [vR 53] (V, σ) 0 0 K := by
  refine wp_intro mM_eatsSemicolon_i.1 [some (vR 53), none] rfl rfl (Nat.le_of_ble_eq_true rfl) ?_
  intro X hG F C
  have hm := C.rm
  refine aw_aload_0 (q := 1) F dM_eatsSemicolon_0 rfl ?_
  refine av_geti (q := 4) F fM_78 dM_eatsSemicolon_1 rfl rfl (by first | exact hM.o | exact hM.a54 | exact hl.o | exact hl.a6) ?_
  refine aw_iconst (q := 5) F dM_eatsSemicolon_4 rfl (by decide) ?_
  refine aw_icmp_ne (q := 8) (t := 12) F dM_eatsSemicolon_5 rfl (by decide) (fun c5 => ?_) (fun c5 => by exact absurd (ho.symm.trans c5) (by decide))
  refine aw_iconst (q := 13) F dM_eatsSemicolon_12 rfl (by decide) ?_
  refine aw_istore_1 (q := 14) F dM_eatsSemicolon_13 rfl trivial ?_
  refine aw_iload_1 (q := 15) F dM_eatsSemicolon_14 rfl ?_
  refine aw_if_eq (q := 18) (t := 22) F dM_eatsSemicolon_15 rfl (by decide) (fun c15 => ?_) (fun c15 => absurd c15 (by decide))
  refine aw_iload_1 (q := 23) F dM_eatsSemicolon_22 rfl ?_
  refine aw_zret F C dM_eatsSemicolon_23 rfl (by decide) (Nat.le_refl _) (Nat.le_refl _) ?_
  exact hK
theorem wM_eats {t : TK} (hM : moS σ l) (hT : MTX V n B) (ht : MT V t) (hn : t.2.2.1 ≤ n) (h1 : t.1 = 3 → ∀ V', GF V V' → MT V' (nxT B n t) → K (some (vI 1)) (V', σ)) (h0 : t.1 ≠ 3 → K (some (vI 0)) (V, σ)) : Wp G 2 mM_eatsSemicolon [vR 53] (V, σ) 0 0 K := by
  have h4 := ht.2.2.2.2.2.2.2
  refine wp_intro mM_eatsSemicolon_i.1 [some (vR 53), none] rfl rfl (Nat.le_of_ble_eq_true rfl) ?_
  intro X hG F C
  have hm := C.rm
  refine aw_aload_0 (q := 1) F dM_eatsSemicolon_0 rfl ?_
  refine av_geti (q := 4) F fM_78 dM_eatsSemicolon_1 rfl rfl (by first | exact hM.o | exact hM.a54 | exact hl.o | exact hl.a6) ?_
  refine aw_iconst (q := 5) F dM_eatsSemicolon_4 rfl (by decide) ?_
  refine aw_icmp_ne (q := 8) (t := 12) F dM_eatsSemicolon_5 rfl (by decide) (fun c5 => ?_) (fun c5 => ?_)
  · refine aw_iconst (q := 13) F dM_eatsSemicolon_12 rfl (by decide) ?_
    refine aw_istore_1 (q := 14) F dM_eatsSemicolon_13 rfl trivial ?_
    refine aw_iload_1 (q := 15) F dM_eatsSemicolon_14 rfl ?_
    refine aw_if_eq (q := 18) (t := 22) F dM_eatsSemicolon_15 rfl (by decide) (fun c15 => ?_) (fun c15 => absurd c15 (by decide))
    refine aw_iload_1 (q := 23) F dM_eatsSemicolon_22 rfl ?_
    refine aw_zret F C dM_eatsSemicolon_23 rfl (by decide) (Nat.le_refl _) (Nat.le_refl _) ?_
    exact h0 (fun q => c5 (h4.mp q))
  · refine aw_iconst (q := 9) F dM_eatsSemicolon_8 rfl (by decide) ?_
    refine aw_goto (t := 13) F dM_eatsSemicolon_9 (by decide) ?_
    refine aw_istore_1 (q := 14) F dM_eatsSemicolon_13 rfl trivial ?_
    refine aw_iload_1 (q := 15) F dM_eatsSemicolon_14 rfl ?_
    refine aw_if_eq (q := 18) (t := 22) F dM_eatsSemicolon_15 rfl (by decide) (fun c15 => absurd c15 (by decide)) (fun c15 => ?_)
    refine aw_aload_0 (q := 19) F dM_eatsSemicolon_18 rfl ?_
    refine av_callV0 (q := 22) (ci := 9) F hm mM_goesOn_i mM_goesOn_n lM_114 dM_eatsSemicolon_19 rfl rfl rfl (by first | exact hM.o | exact hM.a54 | exact hl.o | exact hl.a6) (by decide) (Nat.le_refl _) (Nat.le_refl _) (Nat.le_of_ble_eq_true rfl) (wM_goesOn (p := t.2.2.1) ht.1.2 (ht.2.1 (by rw [h4.mpr c5]; decide)) hn hT hM (fun V2 f19 g19 => ?_))
    refine aw_iload_1 (q := 23) F dM_eatsSemicolon_22 rfl ?_
    refine aw_zret F C dM_eatsSemicolon_23 rfl (by decide) (Nat.le_refl _) (Nat.le_refl _) ?_
    exact h1 (h4.mpr c5) V2 f19 g19
theorem wN_find {z : Int} {N : Nat} (hl : laS σ e) (hN : V e 8 = N) (hN6 : N ≤ 6) (h1 : ∀ k, k < N → V (e + 6) k = z → (∀ k', k' < k → V (e + 6) k' ≠ z) → K (some (vI k)) (V, σ)) (h0 : (∀ k, k < N → V (e + 6) k ≠ z) → K (some (vI (-1))) (V, σ)) : Wp G 0 mN_find [vR e, vL z] (V, σ) 0 0 K := by
  refine wp_intro mN_find_i.1 [some (vR e), some (vL z), none, none] rfl rfl (Nat.le_of_ble_eq_true rfl) ?_
  intro X hG F C
  have hm := C.rm
  have loop : ∀ (j k : Nat), k + j = N → ∀ (y : Int), y = k → (∀ k', k' < k → V (e + 6) k' ≠ z) → AW X 2 [some (vR e), some (vL z), none, some (vI y)] [] (V, σ) 0 0 := by
    intro j
    induction j with
    | zero =>
      intro k hk y hy hI
      refine aw_iload_3 (q := 3) F dN_find_2 rfl ?_
      refine aw_aload_0 (q := 4) F dN_find_3 rfl ?_
      refine av_geti (q := 7) F fN_44 dN_find_4 rfl rfl (by first | exact hM.o | exact hM.a54 | exact hl.o | exact hl.a6) ?_
      rw [hN]
      refine aw_icmp_ge (q := 10) (t := 29) F dN_find_7 rfl (by decide) (fun c7 => ?_) (fun c7 => by omega)
      refine aw_iconst (q := 30) F dN_find_29 rfl (by decide) ?_
      refine aw_iret F C dN_find_30 rfl (Nat.le_refl _) (Nat.le_refl _) ?_
      exact h0 (fun k' hk' => hI k' (by omega))
    | succ j ih =>
      intro k hk y hy hI
      have ek : V (e + 6) y.toNat = V (e + 6) k := by rw [show y.toNat = k by omega]
      refine aw_iload_3 (q := 3) F dN_find_2 rfl ?_
      refine aw_aload_0 (q := 4) F dN_find_3 rfl ?_
      refine av_geti (q := 7) F fN_44 dN_find_4 rfl rfl (by first | exact hM.o | exact hM.a54 | exact hl.o | exact hl.a6) ?_
      rw [hN]
      refine aw_icmp_ge (q := 10) (t := 29) F dN_find_7 rfl (by decide) (fun c7 => by omega) (fun c7 => ?_)
      refine aw_aload_0 (q := 11) F dN_find_10 rfl ?_
      refine av_getaE (q := 14) F fN_34 dN_find_11 rfl rfl (by first | exact hM.o | exact hM.a54 | exact hl.o | exact hl.a6) hl.p15 ?_
      refine aw_iload_3 (q := 15) F dN_find_14 rfl ?_
      refine av_laload (q := 16) F dN_find_15 rfl (by first | exact hM.o | exact hM.a54 | exact hl.o | exact hl.a6) (by omega) (by omega) ?_
      rw [ek]
      refine aw_lload_1 (q := 17) F dN_find_16 rfl ?_
      refine aw_lcmp (q := 18) F dN_find_17 rfl ?_
      refine aw_if_ne (q := 21) (t := 23) F dN_find_18 rfl (by decide) (fun c18 => ?_) (fun c18 => ?_)
      · refine aw_iinc_3 (q := 26) F dN_find_23 rfl trivial (by constructor <;> omega) ?_
        refine aw_goto (t := 2) F dN_find_26 (by decide) ?_
        refine ih (k + 1) (by omega) _ (by omega) (fun k' hk' => ?_)
        by_cases q : k' = k
        · rw [q]; exact fun z => c18 (ycmpE.mpr z)
        · exact hI k' (by omega)
      · refine aw_iload_3 (q := 22) F dN_find_21 rfl ?_
        refine aw_iret F C dN_find_22 rfl (Nat.le_refl _) (Nat.le_refl _) ?_
        rw [hy]; exact h1 k (by omega) (ycmpE.mp c18) hI
  refine aw_iconst (q := 1) F dN_find_0 rfl (by decide) ?_
  refine aw_istore_3 (q := 2) F dN_find_1 rfl trivial ?_
  exact loop N 0 (by omega) _ rfl (fun k' hk' => absurd hk' (by omega))
end Mod40
