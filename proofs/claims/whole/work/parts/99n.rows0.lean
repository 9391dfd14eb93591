section Rows0
variable {G : GE} {V : Nat → Nat → Int} {σ : Shp} {K : Option AV → Mem → Prop} {ow : Nat → Nat} {y : Dy} {S : PS} {kn : Bool}
-- refused calls make nothing
theorem wL_rows0 {n : Int} (hr : ¬ (0 < tDn (psT S) ∧ 0 ≤ n ∧ n ≤ 6)) (h : CW V σ ow y S kn) (hK : CK K V σ ow (setR S (wy (0 < tDn (psT S)) (0 ≤ n ∧ n ≤ 6))) (knW (wy (0 < tDn (psT S)) (0 ≤ n ∧ n ≤ 6)) kn) (some (vI (rfD (wy (0 < tDn (psT S)) (0 ≤ n ∧ n ≤ 6)) (rwN (psT S) n.toNat / 16 : Nat) (-1))))) : Wp G 8 mL_rows [vR 1, vI n] (V, σ) 0 0 K := by
  have hW := h.cs
  have hT1 : V (dT y) 1 = tDn (psT S) := h.tv.1.2.1
  obtain ⟨g, r1, r2⟩ := g3k hK
  refine wp_intro mL_rows_i.1 [some (vR 1), some (vI n)] rfl rfl (Nat.le_of_ble_eq_true rfl) ?_
  intro X hG F C
  have hm := C.rm
  refine aw_aload_0 (q := 1) F dL_rows_0 rfl ?_
  refine aw_aload_0 (q := 2) F dL_rows_1 rfl ?_
  refine av_callV0 (q := 5) (ci := 7) F hm mL_hasLane_i mL_hasLane_n lL_154 dL_rows_2 rfl rfl rfl (by first | exact hW.o | exact hW.ho | exact hW.to) (by decide) (Nat.le_refl _) (Nat.le_refl _) (Nat.le_of_ble_eq_true rfl) (wL_hasLane hW (fun c2 => ?_) (fun c2 => ?_))
  · refine aw_iload_1 (q := 6) F dL_rows_5 rfl ?_
    refine av_callS1 (q := 9) F hm mL_isRow_i mL_isRow_n lL_230 dL_rows_6 rfl (by decide) (Nat.le_refl _) (Nat.le_refl _) (Nat.le_of_ble_eq_true rfl) (wL_isRow (fun c6 => ?_) (fun c6 => ?_))
    · refine av_callV2 (q := 12) (ci := 7) F hm mL_passes_i mL_passes_n lL_114 dL_rows_9 rfl rfl rfl (by first | exact hW.o | exact hW.ho | exact hW.to) (by decide) (Nat.le_refl _) (Nat.le_refl _) (Nat.le_of_ble_eq_true rfl) (wL_passes hW (fun c9 d9 => ?_) (fun c9 => ?_) (fun c9 d9 => ?_))
      · refine aw_if_ne (q := 15) (t := 17) F dL_rows_12 rfl (by decide) (fun c12 => ?_) (fun c12 => absurd c12 (by decide))
        first | (exfalso; omega) | exact absurd ⟨by omega, by omega, by omega⟩ hr
      · refine aw_if_ne (q := 15) (t := 17) F dL_rows_12 rfl (by decide) (fun c12 => absurd c12 (by decide)) (fun c12 => ?_)
        refine aw_iconst (q := 16) F dL_rows_15 rfl (by decide) ?_
        refine aw_iret F C dL_rows_16 rfl (Nat.le_refl _) (Nat.le_refl _) ?_
        first | (exfalso; omega) | exact h.now (by decide) (r1 (by omega)) | exact h.now (by decide) (r2 (by omega) (by omega))
      · refine aw_if_ne (q := 15) (t := 17) F dL_rows_12 rfl (by decide) (fun c12 => absurd c12 (by decide)) (fun c12 => ?_)
        refine aw_iconst (q := 16) F dL_rows_15 rfl (by decide) ?_
        refine aw_iret F C dL_rows_16 rfl (Nat.le_refl _) (Nat.le_refl _) ?_
        first | (exfalso; omega) | exact h.now (by decide) (r1 (by omega)) | exact h.now (by decide) (r2 (by omega) (by omega))
    · refine av_callV2 (q := 12) (ci := 7) F hm mL_passes_i mL_passes_n lL_114 dL_rows_9 rfl rfl rfl (by first | exact hW.o | exact hW.ho | exact hW.to) (by decide) (Nat.le_refl _) (Nat.le_refl _) (Nat.le_of_ble_eq_true rfl) (wL_passes hW (fun c9 d9 => ?_) (fun c9 => ?_) (fun c9 d9 => ?_))
      · refine aw_if_ne (q := 15) (t := 17) F dL_rows_12 rfl (by decide) (fun c12 => ?_) (fun c12 => absurd c12 (by decide))
        first | (exfalso; omega) | exact absurd ⟨by omega, by omega, by omega⟩ hr
      · refine aw_if_ne (q := 15) (t := 17) F dL_rows_12 rfl (by decide) (fun c12 => absurd c12 (by decide)) (fun c12 => ?_)
        refine aw_iconst (q := 16) F dL_rows_15 rfl (by decide) ?_
        refine aw_iret F C dL_rows_16 rfl (Nat.le_refl _) (Nat.le_refl _) ?_
        first | (exfalso; omega) | exact h.now (by decide) (r1 (by omega)) | exact h.now (by decide) (r2 (by omega) (by omega))
      · refine aw_if_ne (q := 15) (t := 17) F dL_rows_12 rfl (by decide) (fun c12 => absurd c12 (by decide)) (fun c12 => ?_)
        refine aw_iconst (q := 16) F dL_rows_15 rfl (by decide) ?_
        refine aw_iret F C dL_rows_16 rfl (Nat.le_refl _) (Nat.le_refl _) ?_
        first | (exfalso; omega) | exact h.now (by decide) (r1 (by omega)) | exact h.now (by decide) (r2 (by omega) (by omega))
  · refine aw_iload_1 (q := 6) F dL_rows_5 rfl ?_
    refine av_callS1 (q := 9) F hm mL_isRow_i mL_isRow_n lL_230 dL_rows_6 rfl (by decide) (Nat.le_refl _) (Nat.le_refl _) (Nat.le_of_ble_eq_true rfl) (wL_isRow (fun c6 => ?_) (fun c6 => ?_))
    · refine av_callV2 (q := 12) (ci := 7) F hm mL_passes_i mL_passes_n lL_114 dL_rows_9 rfl rfl rfl (by first | exact hW.o | exact hW.ho | exact hW.to) (by decide) (Nat.le_refl _) (Nat.le_refl _) (Nat.le_of_ble_eq_true rfl) (wL_passes hW (fun c9 d9 => ?_) (fun c9 => ?_) (fun c9 d9 => ?_))
      · refine aw_if_ne (q := 15) (t := 17) F dL_rows_12 rfl (by decide) (fun c12 => ?_) (fun c12 => absurd c12 (by decide))
        first | (exfalso; omega) | exact absurd ⟨by omega, by omega, by omega⟩ hr
      · refine aw_if_ne (q := 15) (t := 17) F dL_rows_12 rfl (by decide) (fun c12 => absurd c12 (by decide)) (fun c12 => ?_)
        refine aw_iconst (q := 16) F dL_rows_15 rfl (by decide) ?_
        refine aw_iret F C dL_rows_16 rfl (Nat.le_refl _) (Nat.le_refl _) ?_
        first | (exfalso; omega) | exact h.now (by decide) (r1 (by omega)) | exact h.now (by decide) (r2 (by omega) (by omega))
      · refine aw_if_ne (q := 15) (t := 17) F dL_rows_12 rfl (by decide) (fun c12 => absurd c12 (by decide)) (fun c12 => ?_)
        refine aw_iconst (q := 16) F dL_rows_15 rfl (by decide) ?_
        refine aw_iret F C dL_rows_16 rfl (Nat.le_refl _) (Nat.le_refl _) ?_
        first | (exfalso; omega) | exact h.now (by decide) (r1 (by omega)) | exact h.now (by decide) (r2 (by omega) (by omega))
    · refine av_callV2 (q := 12) (ci := 7) F hm mL_passes_i mL_passes_n lL_114 dL_rows_9 rfl rfl rfl (by first | exact hW.o | exact hW.ho | exact hW.to) (by decide) (Nat.le_refl _) (Nat.le_refl _) (Nat.le_of_ble_eq_true rfl) (wL_passes hW (fun c9 d9 => ?_) (fun c9 => ?_) (fun c9 d9 => ?_))
      · refine aw_if_ne (q := 15) (t := 17) F dL_rows_12 rfl (by decide) (fun c12 => ?_) (fun c12 => absurd c12 (by decide))
        first | (exfalso; omega) | exact absurd ⟨by omega, by omega, by omega⟩ hr
      · refine aw_if_ne (q := 15) (t := 17) F dL_rows_12 rfl (by decide) (fun c12 => absurd c12 (by decide)) (fun c12 => ?_)
        refine aw_iconst (q := 16) F dL_rows_15 rfl (by decide) ?_
        refine aw_iret F C dL_rows_16 rfl (Nat.le_refl _) (Nat.le_refl _) ?_
        first | (exfalso; omega) | exact h.now (by decide) (r1 (by omega)) | exact h.now (by decide) (r2 (by omega) (by omega))
      · refine aw_if_ne (q := 15) (t := 17) F dL_rows_12 rfl (by decide) (fun c12 => absurd c12 (by decide)) (fun c12 => ?_)
        refine aw_iconst (q := 16) F dL_rows_15 rfl (by decide) ?_
        refine aw_iret F C dL_rows_16 rfl (Nat.le_refl _) (Nat.le_refl _) ?_
        first | (exfalso; omega) | exact h.now (by decide) (r1 (by omega)) | exact h.now (by decide) (r2 (by omega) (by omega))
theorem wL_lastBy0 {n : Int} (hr : ¬ (0 < tDn (psT S) ∧ 0 ≤ n ∧ n ≤ 6)) (h : CW V σ ow y S kn) (hK : CK K V σ ow (setR S (wy (0 < tDn (psT S)) (0 ≤ n ∧ n ≤ 6))) (knW (wy (0 < tDn (psT S)) (0 ≤ n ∧ n ≤ 6)) kn) (some (vI (rfD (wy (0 < tDn (psT S)) (0 ≤ n ∧ n ≤ 6)) (rwN (psT S) n.toNat % 16 : Nat) (-1))))) : Wp G 8 mL_lastBy [vR 1, vI n] (V, σ) 0 0 K := by
  have hW := h.cs
  have hT1 : V (dT y) 1 = tDn (psT S) := h.tv.1.2.1
  obtain ⟨g, r1, r2⟩ := g3k hK
  refine wp_intro mL_lastBy_i.1 [some (vR 1), some (vI n)] rfl rfl (Nat.le_of_ble_eq_true rfl) ?_
  intro X hG F C
  have hm := C.rm
  refine aw_aload_0 (q := 1) F dL_lastBy_0 rfl ?_
  refine aw_aload_0 (q := 2) F dL_lastBy_1 rfl ?_
  refine av_callV0 (q := 5) (ci := 7) F hm mL_hasLane_i mL_hasLane_n lL_154 dL_lastBy_2 rfl rfl rfl (by first | exact hW.o | exact hW.ho | exact hW.to) (by decide) (Nat.le_refl _) (Nat.le_refl _) (Nat.le_of_ble_eq_true rfl) (wL_hasLane hW (fun c2 => ?_) (fun c2 => ?_))
  · refine aw_iload_1 (q := 6) F dL_lastBy_5 rfl ?_
    refine av_callS1 (q := 9) F hm mL_isRow_i mL_isRow_n lL_230 dL_lastBy_6 rfl (by decide) (Nat.le_refl _) (Nat.le_refl _) (Nat.le_of_ble_eq_true rfl) (wL_isRow (fun c6 => ?_) (fun c6 => ?_))
    · refine av_callV2 (q := 12) (ci := 7) F hm mL_passes_i mL_passes_n lL_114 dL_lastBy_9 rfl rfl rfl (by first | exact hW.o | exact hW.ho | exact hW.to) (by decide) (Nat.le_refl _) (Nat.le_refl _) (Nat.le_of_ble_eq_true rfl) (wL_passes hW (fun c9 d9 => ?_) (fun c9 => ?_) (fun c9 d9 => ?_))
      · refine aw_if_ne (q := 15) (t := 17) F dL_lastBy_12 rfl (by decide) (fun c12 => ?_) (fun c12 => absurd c12 (by decide))
        first | (exfalso; omega) | exact absurd ⟨by omega, by omega, by omega⟩ hr
      · refine aw_if_ne (q := 15) (t := 17) F dL_lastBy_12 rfl (by decide) (fun c12 => absurd c12 (by decide)) (fun c12 => ?_)
        refine aw_iconst (q := 16) F dL_lastBy_15 rfl (by decide) ?_
        refine aw_iret F C dL_lastBy_16 rfl (Nat.le_refl _) (Nat.le_refl _) ?_
        first | (exfalso; omega) | exact h.now (by decide) (r1 (by omega)) | exact h.now (by decide) (r2 (by omega) (by omega))
      · refine aw_if_ne (q := 15) (t := 17) F dL_lastBy_12 rfl (by decide) (fun c12 => absurd c12 (by decide)) (fun c12 => ?_)
        refine aw_iconst (q := 16) F dL_lastBy_15 rfl (by decide) ?_
        refine aw_iret F C dL_lastBy_16 rfl (Nat.le_refl _) (Nat.le_refl _) ?_
        first | (exfalso; omega) | exact h.now (by decide) (r1 (by omega)) | exact h.now (by decide) (r2 (by omega) (by omega))
    · refine av_callV2 (q := 12) (ci := 7) F hm mL_passes_i mL_passes_n lL_114 dL_lastBy_9 rfl rfl rfl (by first | exact hW.o | exact hW.ho | exact hW.to) (by decide) (Nat.le_refl _) (Nat.le_refl _) (Nat.le_of_ble_eq_true rfl) (wL_passes hW (fun c9 d9 => ?_) (fun c9 => ?_) (fun c9 d9 => ?_))
      · refine aw_if_ne (q := 15) (t := 17) F dL_lastBy_12 rfl (by decide) (fun c12 => ?_) (fun c12 => absurd c12 (by decide))
        first | (exfalso; omega) | exact absurd ⟨by omega, by omega, by omega⟩ hr
      · refine aw_if_ne (q := 15) (t := 17) F dL_lastBy_12 rfl (by decide) (fun c12 => absurd c12 (by decide)) (fun c12 => ?_)
        refine aw_iconst (q := 16) F dL_lastBy_15 rfl (by decide) ?_
        refine aw_iret F C dL_lastBy_16 rfl (Nat.le_refl _) (Nat.le_refl _) ?_
        first | (exfalso; omega) | exact h.now (by decide) (r1 (by omega)) | exact h.now (by decide) (r2 (by omega) (by omega))
      · refine aw_if_ne (q := 15) (t := 17) F dL_lastBy_12 rfl (by decide) (fun c12 => absurd c12 (by decide)) (fun c12 => ?_)
        refine aw_iconst (q := 16) F dL_lastBy_15 rfl (by decide) ?_
        refine aw_iret F C dL_lastBy_16 rfl (Nat.le_refl _) (Nat.le_refl _) ?_
        first | (exfalso; omega) | exact h.now (by decide) (r1 (by omega)) | exact h.now (by decide) (r2 (by omega) (by omega))
  · refine aw_iload_1 (q := 6) F dL_lastBy_5 rfl ?_
    refine av_callS1 (q := 9) F hm mL_isRow_i mL_isRow_n lL_230 dL_lastBy_6 rfl (by decide) (Nat.le_refl _) (Nat.le_refl _) (Nat.le_of_ble_eq_true rfl) (wL_isRow (fun c6 => ?_) (fun c6 => ?_))
    · refine av_callV2 (q := 12) (ci := 7) F hm mL_passes_i mL_passes_n lL_114 dL_lastBy_9 rfl rfl rfl (by first | exact hW.o | exact hW.ho | exact hW.to) (by decide) (Nat.le_refl _) (Nat.le_refl _) (Nat.le_of_ble_eq_true rfl) (wL_passes hW (fun c9 d9 => ?_) (fun c9 => ?_) (fun c9 d9 => ?_))
      · refine aw_if_ne (q := 15) (t := 17) F dL_lastBy_12 rfl (by decide) (fun c12 => ?_) (fun c12 => absurd c12 (by decide))
        first | (exfalso; omega) | exact absurd ⟨by omega, by omega, by omega⟩ hr
      · refine aw_if_ne (q := 15) (t := 17) F dL_lastBy_12 rfl (by decide) (fun c12 => absurd c12 (by decide)) (fun c12 => ?_)
        refine aw_iconst (q := 16) F dL_lastBy_15 rfl (by decide) ?_
        refine aw_iret F C dL_lastBy_16 rfl (Nat.le_refl _) (Nat.le_refl _) ?_
        first | (exfalso; omega) | exact h.now (by decide) (r1 (by omega)) | exact h.now (by decide) (r2 (by omega) (by omega))
      · refine aw_if_ne (q := 15) (t := 17) F dL_lastBy_12 rfl (by decide) (fun c12 => absurd c12 (by decide)) (fun c12 => ?_)
        refine aw_iconst (q := 16) F dL_lastBy_15 rfl (by decide) ?_
        refine aw_iret F C dL_lastBy_16 rfl (Nat.le_refl _) (Nat.le_refl _) ?_
        first | (exfalso; omega) | exact h.now (by decide) (r1 (by omega)) | exact h.now (by decide) (r2 (by omega) (by omega))
    · refine av_callV2 (q := 12) (ci := 7) F hm mL_passes_i mL_passes_n lL_114 dL_lastBy_9 rfl rfl rfl (by first | exact hW.o | exact hW.ho | exact hW.to) (by decide) (Nat.le_refl _) (Nat.le_refl _) (Nat.le_of_ble_eq_true rfl) (wL_passes hW (fun c9 d9 => ?_) (fun c9 => ?_) (fun c9 d9 => ?_))
      · refine aw_if_ne (q := 15) (t := 17) F dL_lastBy_12 rfl (by decide) (fun c12 => ?_) (fun c12 => absurd c12 (by decide))
        first | (exfalso; omega) | exact absurd ⟨by omega, by omega, by omega⟩ hr
      · refine aw_if_ne (q := 15) (t := 17) F dL_lastBy_12 rfl (by decide) (fun c12 => absurd c12 (by decide)) (fun c12 => ?_)
        refine aw_iconst (q := 16) F dL_lastBy_15 rfl (by decide) ?_
        refine aw_iret F C dL_lastBy_16 rfl (Nat.le_refl _) (Nat.le_refl _) ?_
        first | (exfalso; omega) | exact h.now (by decide) (r1 (by omega)) | exact h.now (by decide) (r2 (by omega) (by omega))
      · refine aw_if_ne (q := 15) (t := 17) F dL_lastBy_12 rfl (by decide) (fun c12 => absurd c12 (by decide)) (fun c12 => ?_)
        refine aw_iconst (q := 16) F dL_lastBy_15 rfl (by decide) ?_
        refine aw_iret F C dL_lastBy_16 rfl (Nat.le_refl _) (Nat.le_refl _) ?_
        first | (exfalso; omega) | exact h.now (by decide) (r1 (by omega)) | exact h.now (by decide) (r2 (by omega) (by omega))
theorem wL_firstBy0 {x n : Int} (hr : ¬ ((0 ≤ x ∧ x < stN (psC S)) ∧ 1 ≤ n ∧ n ≤ 6)) (h : CW V σ ow y S kn) (hK : CK K V σ ow (setR S (wy (0 ≤ x ∧ x < stN (psC S)) (1 ≤ n ∧ n ≤ 6))) (knW (wy (0 ≤ x ∧ x < stN (psC S)) (1 ≤ n ∧ n ≤ 6)) kn) (some (vI (rfD (wy (0 ≤ x ∧ x < stN (psC S)) (1 ≤ n ∧ n ≤ 6)) (fsV (c0T (psT S)) (siP (psT S)) (sc0 (psT S)).2.2 7 (x.toNat * 7 + n.toNat) / 16 : Nat) (-1))))) : Wp G 8 mL_firstBy [vR 1, vI x, vI n] (V, σ) 0 0 K := by
  have hW := h.cs
  have hv := h.v2
  obtain ⟨g, r1, r2⟩ := g3k hK
  have hst : stN (psC S) ≤ 16 := stN_le (h.oT.okC h.oS)
  refine wp_intro mL_firstBy_i.1 [some (vR 1), some (vI x), some (vI n)] rfl rfl (Nat.le_of_ble_eq_true rfl) ?_
  intro X hG F C
  have hm := C.rm
  refine aw_aload_0 (q := 1) F dL_firstBy_0 rfl ?_
  refine aw_aload_0 (q := 2) F dL_firstBy_1 rfl ?_
  refine av_getaE (q := 5) F fL_23 dL_firstBy_2 rfl rfl (by first | exact hW.o | exact hW.ho | exact hW.to) hW.p6 ?_
  refine aw_iload_1 (q := 6) F dL_firstBy_5 rfl ?_
  refine av_callV1 (q := 9) (ci := 2) F hm mH_isStep_i mH_isStep_n lL_157 dL_firstBy_6 rfl rfl rfl (by first | exact hW.o | exact hW.ho | exact hW.to) (by decide) (Nat.le_refl _) (Nat.le_refl _) (Nat.le_of_ble_eq_true rfl) (wH_isStep hW.h (fun c6 => ?_) (fun c6 => ?_))
  · refine aw_iload_2 (q := 10) F dL_firstBy_9 rfl ?_
    refine av_callS1 (q := 13) F hm mL_isRow_i mL_isRow_n lL_230 dL_firstBy_10 rfl (by decide) (Nat.le_refl _) (Nat.le_refl _) (Nat.le_of_ble_eq_true rfl) (wL_isRow (fun c10 => ?_) (fun c10 => ?_))
    · refine aw_if_eq (q := 16) (t := 24) F dL_firstBy_13 rfl (by decide) (fun c13 => absurd c13 (by decide)) (fun c13 => ?_)
      refine aw_iload_2 (q := 17) F dL_firstBy_16 rfl ?_
      refine aw_if_le (q := 20) (t := 24) F dL_firstBy_17 rfl (by decide) (fun c17 => ?_) (fun c17 => ?_)
      · refine aw_iconst (q := 25) F dL_firstBy_24 rfl (by decide) ?_
        refine av_callV2 (q := 28) (ci := 7) F hm mL_passes_i mL_passes_n lL_114 dL_firstBy_25 rfl rfl rfl (by first | exact hW.o | exact hW.ho | exact hW.to) (by decide) (Nat.le_refl _) (Nat.le_refl _) (Nat.le_of_ble_eq_true rfl) (wL_passes hW (fun c25 d25 => ?_) (fun c25 => ?_) (fun c25 d25 => ?_))
        · refine aw_if_ne (q := 31) (t := 33) F dL_firstBy_28 rfl (by decide) (fun c28 => ?_) (fun c28 => absurd c28 (by decide))
          first | (exfalso; omega) | exact absurd ⟨⟨by omega, by omega⟩, by omega, by omega⟩ hr
        · refine aw_if_ne (q := 31) (t := 33) F dL_firstBy_28 rfl (by decide) (fun c28 => absurd c28 (by decide)) (fun c28 => ?_)
          refine aw_iconst (q := 32) F dL_firstBy_31 rfl (by decide) ?_
          refine aw_iret F C dL_firstBy_32 rfl (Nat.le_refl _) (Nat.le_refl _) ?_
          first | (exfalso; omega) | exact h.now (by decide) (r1 (by omega)) | exact h.now (by decide) (r2 (by omega) (by omega))
        · refine aw_if_ne (q := 31) (t := 33) F dL_firstBy_28 rfl (by decide) (fun c28 => absurd c28 (by decide)) (fun c28 => ?_)
          refine aw_iconst (q := 32) F dL_firstBy_31 rfl (by decide) ?_
          refine aw_iret F C dL_firstBy_32 rfl (Nat.le_refl _) (Nat.le_refl _) ?_
          first | (exfalso; omega) | exact h.now (by decide) (r1 (by omega)) | exact h.now (by decide) (r2 (by omega) (by omega))
      · refine aw_iconst (q := 21) F dL_firstBy_20 rfl (by decide) ?_
        refine aw_goto (t := 25) F dL_firstBy_21 (by decide) ?_
        refine av_callV2 (q := 28) (ci := 7) F hm mL_passes_i mL_passes_n lL_114 dL_firstBy_25 rfl rfl rfl (by first | exact hW.o | exact hW.ho | exact hW.to) (by decide) (Nat.le_refl _) (Nat.le_refl _) (Nat.le_of_ble_eq_true rfl) (wL_passes hW (fun c25 d25 => ?_) (fun c25 => ?_) (fun c25 d25 => ?_))
        · refine aw_if_ne (q := 31) (t := 33) F dL_firstBy_28 rfl (by decide) (fun c28 => ?_) (fun c28 => absurd c28 (by decide))
          first | (exfalso; omega) | exact absurd ⟨⟨by omega, by omega⟩, by omega, by omega⟩ hr
        · refine aw_if_ne (q := 31) (t := 33) F dL_firstBy_28 rfl (by decide) (fun c28 => absurd c28 (by decide)) (fun c28 => ?_)
          refine aw_iconst (q := 32) F dL_firstBy_31 rfl (by decide) ?_
          refine aw_iret F C dL_firstBy_32 rfl (Nat.le_refl _) (Nat.le_refl _) ?_
          first | (exfalso; omega) | exact h.now (by decide) (r1 (by omega)) | exact h.now (by decide) (r2 (by omega) (by omega))
        · refine aw_if_ne (q := 31) (t := 33) F dL_firstBy_28 rfl (by decide) (fun c28 => absurd c28 (by decide)) (fun c28 => ?_)
          refine aw_iconst (q := 32) F dL_firstBy_31 rfl (by decide) ?_
          refine aw_iret F C dL_firstBy_32 rfl (Nat.le_refl _) (Nat.le_refl _) ?_
          first | (exfalso; omega) | exact h.now (by decide) (r1 (by omega)) | exact h.now (by decide) (r2 (by omega) (by omega))
    · refine aw_if_eq (q := 16) (t := 24) F dL_firstBy_13 rfl (by decide) (fun c13 => ?_) (fun c13 => absurd c13 (by decide))
      refine aw_iconst (q := 25) F dL_firstBy_24 rfl (by decide) ?_
      refine av_callV2 (q := 28) (ci := 7) F hm mL_passes_i mL_passes_n lL_114 dL_firstBy_25 rfl rfl rfl (by first | exact hW.o | exact hW.ho | exact hW.to) (by decide) (Nat.le_refl _) (Nat.le_refl _) (Nat.le_of_ble_eq_true rfl) (wL_passes hW (fun c25 d25 => ?_) (fun c25 => ?_) (fun c25 d25 => ?_))
      · refine aw_if_ne (q := 31) (t := 33) F dL_firstBy_28 rfl (by decide) (fun c28 => ?_) (fun c28 => absurd c28 (by decide))
        first | (exfalso; omega) | exact absurd ⟨⟨by omega, by omega⟩, by omega, by omega⟩ hr
      · refine aw_if_ne (q := 31) (t := 33) F dL_firstBy_28 rfl (by decide) (fun c28 => absurd c28 (by decide)) (fun c28 => ?_)
        refine aw_iconst (q := 32) F dL_firstBy_31 rfl (by decide) ?_
        refine aw_iret F C dL_firstBy_32 rfl (Nat.le_refl _) (Nat.le_refl _) ?_
        first | (exfalso; omega) | exact h.now (by decide) (r1 (by omega)) | exact h.now (by decide) (r2 (by omega) (by omega))
      · refine aw_if_ne (q := 31) (t := 33) F dL_firstBy_28 rfl (by decide) (fun c28 => absurd c28 (by decide)) (fun c28 => ?_)
        refine aw_iconst (q := 32) F dL_firstBy_31 rfl (by decide) ?_
        refine aw_iret F C dL_firstBy_32 rfl (Nat.le_refl _) (Nat.le_refl _) ?_
        first | (exfalso; omega) | exact h.now (by decide) (r1 (by omega)) | exact h.now (by decide) (r2 (by omega) (by omega))
  · refine aw_iload_2 (q := 10) F dL_firstBy_9 rfl ?_
    refine av_callS1 (q := 13) F hm mL_isRow_i mL_isRow_n lL_230 dL_firstBy_10 rfl (by decide) (Nat.le_refl _) (Nat.le_refl _) (Nat.le_of_ble_eq_true rfl) (wL_isRow (fun c10 => ?_) (fun c10 => ?_))
    · refine aw_if_eq (q := 16) (t := 24) F dL_firstBy_13 rfl (by decide) (fun c13 => absurd c13 (by decide)) (fun c13 => ?_)
      refine aw_iload_2 (q := 17) F dL_firstBy_16 rfl ?_
      refine aw_if_le (q := 20) (t := 24) F dL_firstBy_17 rfl (by decide) (fun c17 => ?_) (fun c17 => ?_)
      · refine aw_iconst (q := 25) F dL_firstBy_24 rfl (by decide) ?_
        refine av_callV2 (q := 28) (ci := 7) F hm mL_passes_i mL_passes_n lL_114 dL_firstBy_25 rfl rfl rfl (by first | exact hW.o | exact hW.ho | exact hW.to) (by decide) (Nat.le_refl _) (Nat.le_refl _) (Nat.le_of_ble_eq_true rfl) (wL_passes hW (fun c25 d25 => ?_) (fun c25 => ?_) (fun c25 d25 => ?_))
        · refine aw_if_ne (q := 31) (t := 33) F dL_firstBy_28 rfl (by decide) (fun c28 => ?_) (fun c28 => absurd c28 (by decide))
          first | (exfalso; omega) | exact absurd ⟨⟨by omega, by omega⟩, by omega, by omega⟩ hr
        · refine aw_if_ne (q := 31) (t := 33) F dL_firstBy_28 rfl (by decide) (fun c28 => absurd c28 (by decide)) (fun c28 => ?_)
          refine aw_iconst (q := 32) F dL_firstBy_31 rfl (by decide) ?_
          refine aw_iret F C dL_firstBy_32 rfl (Nat.le_refl _) (Nat.le_refl _) ?_
          first | (exfalso; omega) | exact h.now (by decide) (r1 (by omega)) | exact h.now (by decide) (r2 (by omega) (by omega))
        · refine aw_if_ne (q := 31) (t := 33) F dL_firstBy_28 rfl (by decide) (fun c28 => absurd c28 (by decide)) (fun c28 => ?_)
          refine aw_iconst (q := 32) F dL_firstBy_31 rfl (by decide) ?_
          refine aw_iret F C dL_firstBy_32 rfl (Nat.le_refl _) (Nat.le_refl _) ?_
          first | (exfalso; omega) | exact h.now (by decide) (r1 (by omega)) | exact h.now (by decide) (r2 (by omega) (by omega))
      · refine aw_iconst (q := 21) F dL_firstBy_20 rfl (by decide) ?_
        refine aw_goto (t := 25) F dL_firstBy_21 (by decide) ?_
        refine av_callV2 (q := 28) (ci := 7) F hm mL_passes_i mL_passes_n lL_114 dL_firstBy_25 rfl rfl rfl (by first | exact hW.o | exact hW.ho | exact hW.to) (by decide) (Nat.le_refl _) (Nat.le_refl _) (Nat.le_of_ble_eq_true rfl) (wL_passes hW (fun c25 d25 => ?_) (fun c25 => ?_) (fun c25 d25 => ?_))
        · refine aw_if_ne (q := 31) (t := 33) F dL_firstBy_28 rfl (by decide) (fun c28 => ?_) (fun c28 => absurd c28 (by decide))
          first | (exfalso; omega) | exact absurd ⟨⟨by omega, by omega⟩, by omega, by omega⟩ hr
        · refine aw_if_ne (q := 31) (t := 33) F dL_firstBy_28 rfl (by decide) (fun c28 => absurd c28 (by decide)) (fun c28 => ?_)
          refine aw_iconst (q := 32) F dL_firstBy_31 rfl (by decide) ?_
          refine aw_iret F C dL_firstBy_32 rfl (Nat.le_refl _) (Nat.le_refl _) ?_
          first | (exfalso; omega) | exact h.now (by decide) (r1 (by omega)) | exact h.now (by decide) (r2 (by omega) (by omega))
        · refine aw_if_ne (q := 31) (t := 33) F dL_firstBy_28 rfl (by decide) (fun c28 => absurd c28 (by decide)) (fun c28 => ?_)
          refine aw_iconst (q := 32) F dL_firstBy_31 rfl (by decide) ?_
          refine aw_iret F C dL_firstBy_32 rfl (Nat.le_refl _) (Nat.le_refl _) ?_
          first | (exfalso; omega) | exact h.now (by decide) (r1 (by omega)) | exact h.now (by decide) (r2 (by omega) (by omega))
    · refine aw_if_eq (q := 16) (t := 24) F dL_firstBy_13 rfl (by decide) (fun c13 => ?_) (fun c13 => absurd c13 (by decide))
      refine aw_iconst (q := 25) F dL_firstBy_24 rfl (by decide) ?_
      refine av_callV2 (q := 28) (ci := 7) F hm mL_passes_i mL_passes_n lL_114 dL_firstBy_25 rfl rfl rfl (by first | exact hW.o | exact hW.ho | exact hW.to) (by decide) (Nat.le_refl _) (Nat.le_refl _) (Nat.le_of_ble_eq_true rfl) (wL_passes hW (fun c25 d25 => ?_) (fun c25 => ?_) (fun c25 d25 => ?_))
      · refine aw_if_ne (q := 31) (t := 33) F dL_firstBy_28 rfl (by decide) (fun c28 => ?_) (fun c28 => absurd c28 (by decide))
        first | (exfalso; omega) | exact absurd ⟨⟨by omega, by omega⟩, by omega, by omega⟩ hr
      · refine aw_if_ne (q := 31) (t := 33) F dL_firstBy_28 rfl (by decide) (fun c28 => absurd c28 (by decide)) (fun c28 => ?_)
        refine aw_iconst (q := 32) F dL_firstBy_31 rfl (by decide) ?_
        refine aw_iret F C dL_firstBy_32 rfl (Nat.le_refl _) (Nat.le_refl _) ?_
        first | (exfalso; omega) | exact h.now (by decide) (r1 (by omega)) | exact h.now (by decide) (r2 (by omega) (by omega))
      · refine aw_if_ne (q := 31) (t := 33) F dL_firstBy_28 rfl (by decide) (fun c28 => absurd c28 (by decide)) (fun c28 => ?_)
        refine aw_iconst (q := 32) F dL_firstBy_31 rfl (by decide) ?_
        refine aw_iret F C dL_firstBy_32 rfl (Nat.le_refl _) (Nat.le_refl _) ?_
        first | (exfalso; omega) | exact h.now (by decide) (r1 (by omega)) | exact h.now (by decide) (r2 (by omega) (by omega))
theorem wL_fewestSeen0 (hr : ¬ 0 < tDn (psT S)) (h : CW V σ ow y S kn) (hK : CK K V σ ow (setR S (wy (0 < tDn (psT S)) True)) (knW (wy (0 < tDn (psT S)) True) kn) (some (vI (rfD (wy (0 < tDn (psT S)) True) (fwF (psT S) 7 0) (-1))))) : Wp G 8 mL_fewestSeen [vR 1] (V, σ) 0 0 K := by
  have hW := h.cs
  have hT1 : V (dT y) 1 = tDn (psT S) := h.tv.1.2.1
  obtain ⟨g, r1, -⟩ := g3k hK
  refine wp_intro mL_fewestSeen_i.1 [some (vR 1), none] rfl rfl (Nat.le_of_ble_eq_true rfl) ?_
  intro X hG F C
  have hm := C.rm
  refine aw_aload_0 (q := 1) F dL_fewestSeen_0 rfl ?_
  refine aw_aload_0 (q := 2) F dL_fewestSeen_1 rfl ?_
  refine av_callV0 (q := 5) (ci := 7) F hm mL_hasLane_i mL_hasLane_n lL_154 dL_fewestSeen_2 rfl rfl rfl (by first | exact hW.o | exact hW.ho | exact hW.to) (by decide) (Nat.le_refl _) (Nat.le_refl _) (Nat.le_of_ble_eq_true rfl) (wL_hasLane hW (fun c2 => ?_) (fun c2 => ?_))
  · refine aw_iconst (q := 6) F dL_fewestSeen_5 rfl (by decide) ?_
    refine av_callV2 (q := 9) (ci := 7) F hm mL_passes_i mL_passes_n lL_114 dL_fewestSeen_6 rfl rfl rfl (by first | exact hW.o | exact hW.ho | exact hW.to) (by decide) (Nat.le_refl _) (Nat.le_refl _) (Nat.le_of_ble_eq_true rfl) (wL_passes hW (fun c6 d6 => ?_) (fun c6 => ?_) (fun c6 d6 => ?_))
    · refine aw_if_ne (q := 12) (t := 14) F dL_fewestSeen_9 rfl (by decide) (fun c9 => ?_) (fun c9 => absurd c9 (by decide))
      refine aw_iconst (q := 15) F dL_fewestSeen_14 rfl (by decide) ?_
      refine aw_istore_1 (q := 16) F dL_fewestSeen_15 rfl trivial ?_
      first | (exfalso; omega) | exact absurd (by omega) hr
    · refine aw_if_ne (q := 12) (t := 14) F dL_fewestSeen_9 rfl (by decide) (fun c9 => absurd c9 (by decide)) (fun c9 => ?_)
      refine aw_iconst (q := 13) F dL_fewestSeen_12 rfl (by decide) ?_
      refine aw_iret F C dL_fewestSeen_13 rfl (Nat.le_refl _) (Nat.le_refl _) ?_
      first | (exfalso; omega) | exact h.now (by decide) (r1 (by omega))
    · refine aw_if_ne (q := 12) (t := 14) F dL_fewestSeen_9 rfl (by decide) (fun c9 => absurd c9 (by decide)) (fun c9 => ?_)
      refine aw_iconst (q := 13) F dL_fewestSeen_12 rfl (by decide) ?_
      refine aw_iret F C dL_fewestSeen_13 rfl (Nat.le_refl _) (Nat.le_refl _) ?_
      first | (exfalso; omega) | exact h.now (by decide) (r1 (by omega))
  · refine aw_iconst (q := 6) F dL_fewestSeen_5 rfl (by decide) ?_
    refine av_callV2 (q := 9) (ci := 7) F hm mL_passes_i mL_passes_n lL_114 dL_fewestSeen_6 rfl rfl rfl (by first | exact hW.o | exact hW.ho | exact hW.to) (by decide) (Nat.le_refl _) (Nat.le_refl _) (Nat.le_of_ble_eq_true rfl) (wL_passes hW (fun c6 d6 => ?_) (fun c6 => ?_) (fun c6 d6 => ?_))
    · refine aw_if_ne (q := 12) (t := 14) F dL_fewestSeen_9 rfl (by decide) (fun c9 => ?_) (fun c9 => absurd c9 (by decide))
      refine aw_iconst (q := 15) F dL_fewestSeen_14 rfl (by decide) ?_
      refine aw_istore_1 (q := 16) F dL_fewestSeen_15 rfl trivial ?_
      first | (exfalso; omega) | exact absurd (by omega) hr
    · refine aw_if_ne (q := 12) (t := 14) F dL_fewestSeen_9 rfl (by decide) (fun c9 => absurd c9 (by decide)) (fun c9 => ?_)
      refine aw_iconst (q := 13) F dL_fewestSeen_12 rfl (by decide) ?_
      refine aw_iret F C dL_fewestSeen_13 rfl (Nat.le_refl _) (Nat.le_refl _) ?_
      first | (exfalso; omega) | exact h.now (by decide) (r1 (by omega))
    · refine aw_if_ne (q := 12) (t := 14) F dL_fewestSeen_9 rfl (by decide) (fun c9 => absurd c9 (by decide)) (fun c9 => ?_)
      refine aw_iconst (q := 13) F dL_fewestSeen_12 rfl (by decide) ?_
      refine aw_iret F C dL_fewestSeen_13 rfl (Nat.le_refl _) (Nat.le_refl _) ?_
      first | (exfalso; omega) | exact h.now (by decide) (r1 (by omega))
end Rows0
