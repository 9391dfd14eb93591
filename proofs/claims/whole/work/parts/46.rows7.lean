theorem dL_write_0 : decode mL_write.2.1 0 = .ok (.bipush 24, 2) := by decide +kernel
theorem dL_write_2 : decode mL_write.2.1 2 = .ok (.istore_n 2, 1) := by decide +kernel
theorem dL_write_3 : decode mL_write.2.1 3 = .ok (.iload_n 2, 1) := by decide +kernel
theorem dL_write_4 : decode mL_write.2.1 4 = .ok (.ifCond .lt 42, 3) := by decide +kernel
theorem dL_write_7 : decode mL_write.2.1 7 = .ok (.aload_n 0, 1) := by decide +kernel
theorem dL_write_8 : decode mL_write.2.1 8 = .ok (.getfield 69, 3) := by decide +kernel
theorem dL_write_11 : decode mL_write.2.1 11 = .ok (.sipush 800, 3) := by decide +kernel
theorem dL_write_14 : decode mL_write.2.1 14 = .ok (.if_icmp .ge 32, 3) := by decide +kernel
theorem dL_write_17 : decode mL_write.2.1 17 = .ok (.aload_n 0, 1) := by decide +kernel
theorem dL_write_18 : decode mL_write.2.1 18 = .ok (.getfield 9, 3) := by decide +kernel
theorem dL_write_21 : decode mL_write.2.1 21 = .ok (.aload_n 0, 1) := by decide +kernel
theorem dL_write_22 : decode mL_write.2.1 22 = .ok (.getfield 69, 3) := by decide +kernel
theorem dL_write_25 : decode mL_write.2.1 25 = .ok (.iload_n 1, 1) := by decide +kernel
theorem dL_write_26 : decode mL_write.2.1 26 = .ok (.iload_n 2, 1) := by decide +kernel
theorem dL_write_27 : decode mL_write.2.1 27 = .ok (.ishr, 1) := by decide +kernel
theorem dL_write_28 : decode mL_write.2.1 28 = .ok (.i2b, 1) := by decide +kernel
theorem dL_write_29 : decode mL_write.2.1 29 = .ok (.bastore, 1) := by decide +kernel
theorem dL_write_30 : decode mL_write.2.1 30 = .ok (.aload_n 0, 1) := by decide +kernel
theorem dL_write_31 : decode mL_write.2.1 31 = .ok (.dup, 1) := by decide +kernel
theorem dL_write_32 : decode mL_write.2.1 32 = .ok (.getfield 69, 3) := by decide +kernel
theorem dL_write_35 : decode mL_write.2.1 35 = .ok (.iconst 1, 1) := by decide +kernel
theorem dL_write_36 : decode mL_write.2.1 36 = .ok (.iadd, 1) := by decide +kernel
theorem dL_write_37 : decode mL_write.2.1 37 = .ok (.putfield 69, 3) := by decide +kernel
theorem dL_write_40 : decode mL_write.2.1 40 = .ok (.iinc 2 (-8), 3) := by decide +kernel
theorem dL_write_43 : decode mL_write.2.1 43 = .ok (.goto (-40), 3) := by decide +kernel
theorem dL_write_46 : decode mL_write.2.1 46 = .ok (.return_, 1) := by decide +kernel
theorem dL_feed_0 : decode mL_feed.2.1 0 = .ok (.aload_n 0, 1) := by decide +kernel
theorem dL_feed_1 : decode mL_feed.2.1 1 = .ok (.getfield 69, 3) := by decide +kernel
theorem dL_feed_4 : decode mL_feed.2.1 4 = .ok (.bipush 20, 2) := by decide +kernel
theorem dL_feed_6 : decode mL_feed.2.1 6 = .ok (.iadd, 1) := by decide +kernel
theorem dL_feed_7 : decode mL_feed.2.1 7 = .ok (.sipush 800, 3) := by decide +kernel
theorem dL_feed_10 : decode mL_feed.2.1 10 = .ok (.if_icmp .le 5, 3) := by decide +kernel
theorem dL_feed_13 : decode mL_feed.2.1 13 = .ok (.iconst (-1), 1) := by decide +kernel
theorem dL_feed_14 : decode mL_feed.2.1 14 = .ok (.ireturn, 1) := by decide +kernel
theorem dL_feed_15 : decode mL_feed.2.1 15 = .ok (.aload_n 0, 1) := by decide +kernel
theorem dL_feed_16 : decode mL_feed.2.1 16 = .ok (.iload_n 1, 1) := by decide +kernel
theorem dL_feed_17 : decode mL_feed.2.1 17 = .ok (.invokevirtual 72, 3) := by decide +kernel
theorem dL_feed_20 : decode mL_feed.2.1 20 = .ok (.aload_n 0, 1) := by decide +kernel
theorem dL_feed_21 : decode mL_feed.2.1 21 = .ok (.iload_n 2, 1) := by decide +kernel
theorem dL_feed_22 : decode mL_feed.2.1 22 = .ok (.invokevirtual 72, 3) := by decide +kernel
theorem dL_feed_25 : decode mL_feed.2.1 25 = .ok (.aload_n 0, 1) := by decide +kernel
theorem dL_feed_26 : decode mL_feed.2.1 26 = .ok (.iload_n 3, 1) := by decide +kernel
theorem dL_feed_27 : decode mL_feed.2.1 27 = .ok (.invokevirtual 72, 3) := by decide +kernel
theorem dL_feed_30 : decode mL_feed.2.1 30 = .ok (.aload_n 0, 1) := by decide +kernel
theorem dL_feed_31 : decode mL_feed.2.1 31 = .ok (.iload 4, 2) := by decide +kernel
theorem dL_feed_33 : decode mL_feed.2.1 33 = .ok (.invokevirtual 72, 3) := by decide +kernel
theorem dL_feed_36 : decode mL_feed.2.1 36 = .ok (.aload_n 0, 1) := by decide +kernel
theorem dL_feed_37 : decode mL_feed.2.1 37 = .ok (.iload 5, 2) := by decide +kernel
theorem dL_feed_39 : decode mL_feed.2.1 39 = .ok (.invokevirtual 72, 3) := by decide +kernel
theorem dL_feed_42 : decode mL_feed.2.1 42 = .ok (.aload_n 0, 1) := by decide +kernel
theorem dL_feed_43 : decode mL_feed.2.1 43 = .ok (.getfield 69, 3) := by decide +kernel
theorem dL_feed_46 : decode mL_feed.2.1 46 = .ok (.ireturn, 1) := by decide +kernel
def knW (w : Int) (kn : Bool) : Bool := if w = 0 then true else kn
theorem g3k {K : Option AV → Mem → Prop} {V : Nat → Nat → Int} {σ : Shp} {ow : Nat → Nat} {S : PS} {kn : Bool} {s n : Prop} [Decidable s] [Decidable n] {r d : Int} (hK : CK K V σ ow (setR S (wy s n)) (knW (wy s n) kn) (some (vI (rfD (wy s n) r d)))) : (s → n → CK K V σ ow (setR S 0) true (some (vI r))) ∧ (¬ s → CK K V σ ow (setR S 1) kn (some (vI d))) ∧ (s → ¬ n → CK K V σ ow (setR S 2) kn (some (vI d))) :=
  ⟨fun a b => by rw [wy_1 a b] at hK; exact hK, fun a => by rw [wy_2 a] at hK; exact hK, fun a b => by rw [wy_3 a b] at hK; exact hK⟩
abbrev c0T (T : TL) : Cfg := cfS T (sc0 T)
def rwN (T : TL) (n : Nat) : Nat := vlN (c0T T) (siP T) n (sc0 T).2.2
def fwF (T : TL) : Nat → Nat → Int
  | 0, _ => -2
  | f + 1, n => if 0 < rwN T n / 16 then (n : Int) else fwF T f (n + 1)
theorem vl_lt {c : Cfg} (hc : okC c) (P : Nat) {n m : Nat} (hn : n ≤ 6) (hm : m < spc c) : vlN c P n m < 2147483648 := by
  have h1 := vlN_le hc P n m hm
  have h2 : 16 ^ n ≤ 16 ^ 6 := Nat.pow_le_pow_right (by decide) hn
  have h3 : 16 ^ 6 = 16777216 := by decide
  omega
section Rows7
variable {G : GE} {V : Nat → Nat → Int} {σ : Shp} {K : Option AV → Mem → Prop} {ow : Nat → Nat} {y : Dy} {S : PS} {kn : Bool}
theorem wL_rows {n : Int} (hB : sX σ + 20 < BG) (h : CW V σ ow y S kn) (hK : CK K V σ ow (setR S (wy (0 < tDn (psT S)) (0 ≤ n ∧ n ≤ 6))) (knW (wy (0 < tDn (psT S)) (0 ≤ n ∧ n ≤ 6)) kn) (some (vI (rfD (wy (0 < tDn (psT S)) (0 ≤ n ∧ n ≤ 6)) (rwN (psT S) n.toNat / 16 : Nat) (-1))))) : Wp G 8 mL_rows [vR 1, vI n] (V, σ) (if kn then 0 else 5) (if kn then 0 else 190000) K := by
  have hW := h.cs
  have hT1 : V (dT y) 1 = tDn (psT S) := h.tv.1.2.1
  have h2 := h.tr (z := 0) (by decide)
  obtain ⟨g, r1, r2⟩ := g3k hK
  refine wp_intro mL_rows_i.1 [some (vR 1), some (vI n)] rfl rfl (Nat.le_of_ble_eq_true rfl) ?_
  intro X hG F C
  have hm := C.rm
  have go : 0 < tDn (psT S) → 0 ≤ n ∧ n ≤ 6 → AW X 17 [some (vR 1), some (vI n)] [] (up2 V 1 2 0, σ) 0 0 := by
    intro hd hn
    have hs0 := sc0_ok h.oT hd
    refine aw_aload_0 (q := 18) F dL_rows_17 rfl ?_
    refine av_callV0 (q := 21) (ci := 7) F hm mL_knownRows_i mL_knownRows_n lL_233 dL_rows_18 rfl rfl rfl (by first | exact hW.o | exact hW.ho | exact hW.to | exact hW5.o | exact hW5.r.o) (by decide) (by omega) (by omega) (Nat.le_of_ble_eq_true rfl) (wL_knownRows h2 hd hB (fun v18 sg18 ow18 y18 c18 f18 x18 => ?_))
    have hW5 := c18.cs
    have kr := (c18.cr.2.2.2.2.2.2 rfl).2
    refine aw_iload_1 (q := 22) F dL_rows_21 rfl ?_
    refine av_callV1 (q := 25) (ci := 4) F hm mR_howMany_i mR_howMany_n lL_237 dL_rows_22 rfl rfl rfl (by first | exact hW.o | exact hW.ho | exact hW.to | exact hW5.o | exact hW5.r.o) (by decide) (by omega) (by omega) (Nat.le_of_ble_eq_true rfl) (wR_howMany (n := n.toNat) (by omega) (by omega) hW5.r (kr.1 n.toNat (by omega)) (vl_lt (h.oT.okC hs0) _ (by omega) (hs0.2.2.2.1 hd)) ?_)
    refine aw_iret F C dL_rows_25 rfl (by omega) (by omega) ?_
    exact g hd hn _ _ _ _ c18 (h.fr.tr f18)
  refine aw_aload_0 (q := 1) F dL_rows_0 rfl ?_
  refine aw_aload_0 (q := 2) F dL_rows_1 rfl ?_
  refine av_callV0 (q := 5) (ci := 7) F hm mL_hasLane_i mL_hasLane_n lL_154 dL_rows_2 rfl rfl rfl (by first | exact hW.o | exact hW.ho | exact hW.to | exact hW5.o | exact hW5.r.o) (by decide) (Nat.zero_le _) (Nat.zero_le _) (Nat.le_of_ble_eq_true rfl) (wL_hasLane hW (fun c2 => ?_) (fun c2 => ?_))
  · refine aw_iload_1 (q := 6) F dL_rows_5 rfl ?_
    refine av_callS1 (q := 9) F hm mL_isRow_i mL_isRow_n lL_230 dL_rows_6 rfl (by decide) (Nat.zero_le _) (Nat.zero_le _) (Nat.le_of_ble_eq_true rfl) (wL_isRow (fun c6 => ?_) (fun c6 => ?_))
    · refine av_callV2 (q := 12) (ci := 7) F hm mL_passes_i mL_passes_n lL_114 dL_rows_9 rfl rfl rfl (by first | exact hW.o | exact hW.ho | exact hW.to | exact hW5.o | exact hW5.r.o) (by decide) (Nat.zero_le _) (Nat.zero_le _) (Nat.le_of_ble_eq_true rfl) (wL_passes hW (fun c9 d9 => ?_) (fun c9 => ?_) (fun c9 d9 => ?_))
      · refine aw_if_ne (q := 15) (t := 17) F dL_rows_12 rfl (by decide) (fun c12 => ?_) (fun c12 => absurd c12 (by decide))
        first | (exfalso; omega) | exact go (by omega) (by omega)
      · refine aw_if_ne (q := 15) (t := 17) F dL_rows_12 rfl (by decide) (fun c12 => absurd c12 (by decide)) (fun c12 => ?_)
        refine aw_iconst (q := 16) F dL_rows_15 rfl (by decide) ?_
        refine aw_iret F C dL_rows_16 rfl (Nat.zero_le _) (Nat.zero_le _) ?_
        first | (exfalso; omega) | exact h.now (by decide) (r1 (by omega)) | exact h.now (by decide) (r2 (by omega) (by omega))
      · refine aw_if_ne (q := 15) (t := 17) F dL_rows_12 rfl (by decide) (fun c12 => absurd c12 (by decide)) (fun c12 => ?_)
        refine aw_iconst (q := 16) F dL_rows_15 rfl (by decide) ?_
        refine aw_iret F C dL_rows_16 rfl (Nat.zero_le _) (Nat.zero_le _) ?_
        first | (exfalso; omega) | exact h.now (by decide) (r1 (by omega)) | exact h.now (by decide) (r2 (by omega) (by omega))
    · refine av_callV2 (q := 12) (ci := 7) F hm mL_passes_i mL_passes_n lL_114 dL_rows_9 rfl rfl rfl (by first | exact hW.o | exact hW.ho | exact hW.to | exact hW5.o | exact hW5.r.o) (by decide) (Nat.zero_le _) (Nat.zero_le _) (Nat.le_of_ble_eq_true rfl) (wL_passes hW (fun c9 d9 => ?_) (fun c9 => ?_) (fun c9 d9 => ?_))
      · refine aw_if_ne (q := 15) (t := 17) F dL_rows_12 rfl (by decide) (fun c12 => ?_) (fun c12 => absurd c12 (by decide))
        first | (exfalso; omega) | exact go (by omega) (by omega)
      · refine aw_if_ne (q := 15) (t := 17) F dL_rows_12 rfl (by decide) (fun c12 => absurd c12 (by decide)) (fun c12 => ?_)
        refine aw_iconst (q := 16) F dL_rows_15 rfl (by decide) ?_
        refine aw_iret F C dL_rows_16 rfl (Nat.zero_le _) (Nat.zero_le _) ?_
        first | (exfalso; omega) | exact h.now (by decide) (r1 (by omega)) | exact h.now (by decide) (r2 (by omega) (by omega))
      · refine aw_if_ne (q := 15) (t := 17) F dL_rows_12 rfl (by decide) (fun c12 => absurd c12 (by decide)) (fun c12 => ?_)
        refine aw_iconst (q := 16) F dL_rows_15 rfl (by decide) ?_
        refine aw_iret F C dL_rows_16 rfl (Nat.zero_le _) (Nat.zero_le _) ?_
        first | (exfalso; omega) | exact h.now (by decide) (r1 (by omega)) | exact h.now (by decide) (r2 (by omega) (by omega))
  · refine aw_iload_1 (q := 6) F dL_rows_5 rfl ?_
    refine av_callS1 (q := 9) F hm mL_isRow_i mL_isRow_n lL_230 dL_rows_6 rfl (by decide) (Nat.zero_le _) (Nat.zero_le _) (Nat.le_of_ble_eq_true rfl) (wL_isRow (fun c6 => ?_) (fun c6 => ?_))
    · refine av_callV2 (q := 12) (ci := 7) F hm mL_passes_i mL_passes_n lL_114 dL_rows_9 rfl rfl rfl (by first | exact hW.o | exact hW.ho | exact hW.to | exact hW5.o | exact hW5.r.o) (by decide) (Nat.zero_le _) (Nat.zero_le _) (Nat.le_of_ble_eq_true rfl) (wL_passes hW (fun c9 d9 => ?_) (fun c9 => ?_) (fun c9 d9 => ?_))
      · refine aw_if_ne (q := 15) (t := 17) F dL_rows_12 rfl (by decide) (fun c12 => ?_) (fun c12 => absurd c12 (by decide))
        first | (exfalso; omega) | exact go (by omega) (by omega)
      · refine aw_if_ne (q := 15) (t := 17) F dL_rows_12 rfl (by decide) (fun c12 => absurd c12 (by decide)) (fun c12 => ?_)
        refine aw_iconst (q := 16) F dL_rows_15 rfl (by decide) ?_
        refine aw_iret F C dL_rows_16 rfl (Nat.zero_le _) (Nat.zero_le _) ?_
        first | (exfalso; omega) | exact h.now (by decide) (r1 (by omega)) | exact h.now (by decide) (r2 (by omega) (by omega))
      · refine aw_if_ne (q := 15) (t := 17) F dL_rows_12 rfl (by decide) (fun c12 => absurd c12 (by decide)) (fun c12 => ?_)
        refine aw_iconst (q := 16) F dL_rows_15 rfl (by decide) ?_
        refine aw_iret F C dL_rows_16 rfl (Nat.zero_le _) (Nat.zero_le _) ?_
        first | (exfalso; omega) | exact h.now (by decide) (r1 (by omega)) | exact h.now (by decide) (r2 (by omega) (by omega))
    · refine av_callV2 (q := 12) (ci := 7) F hm mL_passes_i mL_passes_n lL_114 dL_rows_9 rfl rfl rfl (by first | exact hW.o | exact hW.ho | exact hW.to | exact hW5.o | exact hW5.r.o) (by decide) (Nat.zero_le _) (Nat.zero_le _) (Nat.le_of_ble_eq_true rfl) (wL_passes hW (fun c9 d9 => ?_) (fun c9 => ?_) (fun c9 d9 => ?_))
      · refine aw_if_ne (q := 15) (t := 17) F dL_rows_12 rfl (by decide) (fun c12 => ?_) (fun c12 => absurd c12 (by decide))
        first | (exfalso; omega) | exact go (by omega) (by omega)
      · refine aw_if_ne (q := 15) (t := 17) F dL_rows_12 rfl (by decide) (fun c12 => absurd c12 (by decide)) (fun c12 => ?_)
        refine aw_iconst (q := 16) F dL_rows_15 rfl (by decide) ?_
        refine aw_iret F C dL_rows_16 rfl (Nat.zero_le _) (Nat.zero_le _) ?_
        first | (exfalso; omega) | exact h.now (by decide) (r1 (by omega)) | exact h.now (by decide) (r2 (by omega) (by omega))
      · refine aw_if_ne (q := 15) (t := 17) F dL_rows_12 rfl (by decide) (fun c12 => absurd c12 (by decide)) (fun c12 => ?_)
        refine aw_iconst (q := 16) F dL_rows_15 rfl (by decide) ?_
        refine aw_iret F C dL_rows_16 rfl (Nat.zero_le _) (Nat.zero_le _) ?_
        first | (exfalso; omega) | exact h.now (by decide) (r1 (by omega)) | exact h.now (by decide) (r2 (by omega) (by omega))
theorem wL_lastBy {n : Int} (hB : sX σ + 20 < BG) (h : CW V σ ow y S kn) (hK : CK K V σ ow (setR S (wy (0 < tDn (psT S)) (0 ≤ n ∧ n ≤ 6))) (knW (wy (0 < tDn (psT S)) (0 ≤ n ∧ n ≤ 6)) kn) (some (vI (rfD (wy (0 < tDn (psT S)) (0 ≤ n ∧ n ≤ 6)) (rwN (psT S) n.toNat % 16 : Nat) (-1))))) : Wp G 8 mL_lastBy [vR 1, vI n] (V, σ) (if kn then 0 else 5) (if kn then 0 else 190000) K := by
  have hW := h.cs
  have hT1 : V (dT y) 1 = tDn (psT S) := h.tv.1.2.1
  have h2 := h.tr (z := 0) (by decide)
  obtain ⟨g, r1, r2⟩ := g3k hK
  refine wp_intro mL_lastBy_i.1 [some (vR 1), some (vI n)] rfl rfl (Nat.le_of_ble_eq_true rfl) ?_
  intro X hG F C
  have hm := C.rm
  have go : 0 < tDn (psT S) → 0 ≤ n ∧ n ≤ 6 → AW X 17 [some (vR 1), some (vI n)] [] (up2 V 1 2 0, σ) 0 0 := by
    intro hd hn
    have hs0 := sc0_ok h.oT hd
    refine aw_aload_0 (q := 18) F dL_lastBy_17 rfl ?_
    refine av_callV0 (q := 21) (ci := 7) F hm mL_knownRows_i mL_knownRows_n lL_233 dL_lastBy_18 rfl rfl rfl (by first | exact hW.o | exact hW.ho | exact hW.to | exact hW5.o | exact hW5.r.o) (by decide) (by omega) (by omega) (Nat.le_of_ble_eq_true rfl) (wL_knownRows h2 hd hB (fun v18 sg18 ow18 y18 c18 f18 x18 => ?_))
    have hW5 := c18.cs
    have kr := (c18.cr.2.2.2.2.2.2 rfl).2
    refine aw_iload_1 (q := 22) F dL_lastBy_21 rfl ?_
    refine av_callV1 (q := 25) (ci := 4) F hm mR_lastDoors_i mR_lastDoors_n lL_240 dL_lastBy_22 rfl rfl rfl (by first | exact hW.o | exact hW.ho | exact hW.to | exact hW5.o | exact hW5.r.o) (by decide) (by omega) (by omega) (Nat.le_of_ble_eq_true rfl) (wR_lastDoors (n := n.toNat) (by omega) (by omega) hW5.r (kr.1 n.toNat (by omega)) (vl_lt (h.oT.okC hs0) _ (by omega) (hs0.2.2.2.1 hd)) ?_)
    refine aw_iret F C dL_lastBy_25 rfl (by omega) (by omega) ?_
    exact g hd hn _ _ _ _ c18 (h.fr.tr f18)
  refine aw_aload_0 (q := 1) F dL_lastBy_0 rfl ?_
  refine aw_aload_0 (q := 2) F dL_lastBy_1 rfl ?_
  refine av_callV0 (q := 5) (ci := 7) F hm mL_hasLane_i mL_hasLane_n lL_154 dL_lastBy_2 rfl rfl rfl (by first | exact hW.o | exact hW.ho | exact hW.to | exact hW5.o | exact hW5.r.o) (by decide) (Nat.zero_le _) (Nat.zero_le _) (Nat.le_of_ble_eq_true rfl) (wL_hasLane hW (fun c2 => ?_) (fun c2 => ?_))
  · refine aw_iload_1 (q := 6) F dL_lastBy_5 rfl ?_
    refine av_callS1 (q := 9) F hm mL_isRow_i mL_isRow_n lL_230 dL_lastBy_6 rfl (by decide) (Nat.zero_le _) (Nat.zero_le _) (Nat.le_of_ble_eq_true rfl) (wL_isRow (fun c6 => ?_) (fun c6 => ?_))
    · refine av_callV2 (q := 12) (ci := 7) F hm mL_passes_i mL_passes_n lL_114 dL_lastBy_9 rfl rfl rfl (by first | exact hW.o | exact hW.ho | exact hW.to | exact hW5.o | exact hW5.r.o) (by decide) (Nat.zero_le _) (Nat.zero_le _) (Nat.le_of_ble_eq_true rfl) (wL_passes hW (fun c9 d9 => ?_) (fun c9 => ?_) (fun c9 d9 => ?_))
      · refine aw_if_ne (q := 15) (t := 17) F dL_lastBy_12 rfl (by decide) (fun c12 => ?_) (fun c12 => absurd c12 (by decide))
        first | (exfalso; omega) | exact go (by omega) (by omega)
      · refine aw_if_ne (q := 15) (t := 17) F dL_lastBy_12 rfl (by decide) (fun c12 => absurd c12 (by decide)) (fun c12 => ?_)
        refine aw_iconst (q := 16) F dL_lastBy_15 rfl (by decide) ?_
        refine aw_iret F C dL_lastBy_16 rfl (Nat.zero_le _) (Nat.zero_le _) ?_
        first | (exfalso; omega) | exact h.now (by decide) (r1 (by omega)) | exact h.now (by decide) (r2 (by omega) (by omega))
      · refine aw_if_ne (q := 15) (t := 17) F dL_lastBy_12 rfl (by decide) (fun c12 => absurd c12 (by decide)) (fun c12 => ?_)
        refine aw_iconst (q := 16) F dL_lastBy_15 rfl (by decide) ?_
        refine aw_iret F C dL_lastBy_16 rfl (Nat.zero_le _) (Nat.zero_le _) ?_
        first | (exfalso; omega) | exact h.now (by decide) (r1 (by omega)) | exact h.now (by decide) (r2 (by omega) (by omega))
    · refine av_callV2 (q := 12) (ci := 7) F hm mL_passes_i mL_passes_n lL_114 dL_lastBy_9 rfl rfl rfl (by first | exact hW.o | exact hW.ho | exact hW.to | exact hW5.o | exact hW5.r.o) (by decide) (Nat.zero_le _) (Nat.zero_le _) (Nat.le_of_ble_eq_true rfl) (wL_passes hW (fun c9 d9 => ?_) (fun c9 => ?_) (fun c9 d9 => ?_))
      · refine aw_if_ne (q := 15) (t := 17) F dL_lastBy_12 rfl (by decide) (fun c12 => ?_) (fun c12 => absurd c12 (by decide))
        first | (exfalso; omega) | exact go (by omega) (by omega)
      · refine aw_if_ne (q := 15) (t := 17) F dL_lastBy_12 rfl (by decide) (fun c12 => absurd c12 (by decide)) (fun c12 => ?_)
        refine aw_iconst (q := 16) F dL_lastBy_15 rfl (by decide) ?_
        refine aw_iret F C dL_lastBy_16 rfl (Nat.zero_le _) (Nat.zero_le _) ?_
        first | (exfalso; omega) | exact h.now (by decide) (r1 (by omega)) | exact h.now (by decide) (r2 (by omega) (by omega))
      · refine aw_if_ne (q := 15) (t := 17) F dL_lastBy_12 rfl (by decide) (fun c12 => absurd c12 (by decide)) (fun c12 => ?_)
        refine aw_iconst (q := 16) F dL_lastBy_15 rfl (by decide) ?_
        refine aw_iret F C dL_lastBy_16 rfl (Nat.zero_le _) (Nat.zero_le _) ?_
        first | (exfalso; omega) | exact h.now (by decide) (r1 (by omega)) | exact h.now (by decide) (r2 (by omega) (by omega))
  · refine aw_iload_1 (q := 6) F dL_lastBy_5 rfl ?_
    refine av_callS1 (q := 9) F hm mL_isRow_i mL_isRow_n lL_230 dL_lastBy_6 rfl (by decide) (Nat.zero_le _) (Nat.zero_le _) (Nat.le_of_ble_eq_true rfl) (wL_isRow (fun c6 => ?_) (fun c6 => ?_))
    · refine av_callV2 (q := 12) (ci := 7) F hm mL_passes_i mL_passes_n lL_114 dL_lastBy_9 rfl rfl rfl (by first | exact hW.o | exact hW.ho | exact hW.to | exact hW5.o | exact hW5.r.o) (by decide) (Nat.zero_le _) (Nat.zero_le _) (Nat.le_of_ble_eq_true rfl) (wL_passes hW (fun c9 d9 => ?_) (fun c9 => ?_) (fun c9 d9 => ?_))
      · refine aw_if_ne (q := 15) (t := 17) F dL_lastBy_12 rfl (by decide) (fun c12 => ?_) (fun c12 => absurd c12 (by decide))
        first | (exfalso; omega) | exact go (by omega) (by omega)
      · refine aw_if_ne (q := 15) (t := 17) F dL_lastBy_12 rfl (by decide) (fun c12 => absurd c12 (by decide)) (fun c12 => ?_)
        refine aw_iconst (q := 16) F dL_lastBy_15 rfl (by decide) ?_
        refine aw_iret F C dL_lastBy_16 rfl (Nat.zero_le _) (Nat.zero_le _) ?_
        first | (exfalso; omega) | exact h.now (by decide) (r1 (by omega)) | exact h.now (by decide) (r2 (by omega) (by omega))
      · refine aw_if_ne (q := 15) (t := 17) F dL_lastBy_12 rfl (by decide) (fun c12 => absurd c12 (by decide)) (fun c12 => ?_)
        refine aw_iconst (q := 16) F dL_lastBy_15 rfl (by decide) ?_
        refine aw_iret F C dL_lastBy_16 rfl (Nat.zero_le _) (Nat.zero_le _) ?_
        first | (exfalso; omega) | exact h.now (by decide) (r1 (by omega)) | exact h.now (by decide) (r2 (by omega) (by omega))
    · refine av_callV2 (q := 12) (ci := 7) F hm mL_passes_i mL_passes_n lL_114 dL_lastBy_9 rfl rfl rfl (by first | exact hW.o | exact hW.ho | exact hW.to | exact hW5.o | exact hW5.r.o) (by decide) (Nat.zero_le _) (Nat.zero_le _) (Nat.le_of_ble_eq_true rfl) (wL_passes hW (fun c9 d9 => ?_) (fun c9 => ?_) (fun c9 d9 => ?_))
      · refine aw_if_ne (q := 15) (t := 17) F dL_lastBy_12 rfl (by decide) (fun c12 => ?_) (fun c12 => absurd c12 (by decide))
        first | (exfalso; omega) | exact go (by omega) (by omega)
      · refine aw_if_ne (q := 15) (t := 17) F dL_lastBy_12 rfl (by decide) (fun c12 => absurd c12 (by decide)) (fun c12 => ?_)
        refine aw_iconst (q := 16) F dL_lastBy_15 rfl (by decide) ?_
        refine aw_iret F C dL_lastBy_16 rfl (Nat.zero_le _) (Nat.zero_le _) ?_
        first | (exfalso; omega) | exact h.now (by decide) (r1 (by omega)) | exact h.now (by decide) (r2 (by omega) (by omega))
      · refine aw_if_ne (q := 15) (t := 17) F dL_lastBy_12 rfl (by decide) (fun c12 => absurd c12 (by decide)) (fun c12 => ?_)
        refine aw_iconst (q := 16) F dL_lastBy_15 rfl (by decide) ?_
        refine aw_iret F C dL_lastBy_16 rfl (Nat.zero_le _) (Nat.zero_le _) ?_
        first | (exfalso; omega) | exact h.now (by decide) (r1 (by omega)) | exact h.now (by decide) (r2 (by omega) (by omega))
theorem wL_firstBy {x n : Int} (hB : sX σ + 20 < BG) (h : CW V σ ow y S kn) (hK : CK K V σ ow (setR S (wy (0 ≤ x ∧ x < stN (psC S)) (1 ≤ n ∧ n ≤ 6))) (knW (wy (0 ≤ x ∧ x < stN (psC S)) (1 ≤ n ∧ n ≤ 6)) kn) (some (vI (rfD (wy (0 ≤ x ∧ x < stN (psC S)) (1 ≤ n ∧ n ≤ 6)) (fsV (c0T (psT S)) (siP (psT S)) (sc0 (psT S)).2.2 7 (x.toNat * 7 + n.toNat) / 16 : Nat) (-1))))) : Wp G 8 mL_firstBy [vR 1, vI x, vI n] (V, σ) (if kn then 0 else 5) (if kn then 0 else 190000) K := by
  have hW := h.cs
  have hv := h.v2
  have h2 := h.tr (z := 0) (by decide)
  obtain ⟨g, r1, r2⟩ := g3k hK
  have hst : stN (psC S) ≤ 16 := stN_le (h.oT.okC h.oS)
  refine wp_intro mL_firstBy_i.1 [some (vR 1), some (vI x), some (vI n)] rfl rfl (Nat.le_of_ble_eq_true rfl) ?_
  intro X hG F C
  have hm := C.rm
  have go : 0 ≤ x ∧ x < stN (psC S) → 1 ≤ n ∧ n ≤ 6 → AW X 33 [some (vR 1), some (vI x), some (vI n)] [] (up2 V 1 2 0, σ) 0 0 := by
    intro hx hn
    have hd : 0 < tDn (psT S) := Nat.pos_of_ne_zero fun e => by
      have : stN (psC S) = 0 := by show tDn (psT S) * _ = 0; rw [e, Nat.zero_mul]
      omega
    have hs0 := sc0_ok h.oT hd
    have hlt : fsV (c0T (psT S)) (siP (psT S)) (sc0 (psT S)).2.2 7 (x.toNat * 7 + n.toNat) < 2147483648 := by
      unfold fsV
      split
      · rename_i hh
        exact vl_lt (h.oT.okC hs0) _ (by omega) (aft_lt (th := allP (c0T (psT S))) (hs0.2.2.2.1 hd) hh.2.1 hh.2.2)
      · decide
    refine aw_aload_0 (q := 34) F dL_firstBy_33 rfl ?_
    refine av_callV0 (q := 37) (ci := 7) F hm mL_knownRows_i mL_knownRows_n lL_233 dL_firstBy_34 rfl rfl rfl (by first | exact hW.o | exact hW.ho | exact hW.to | exact hW5.o | exact hW5.r.o) (by decide) (by omega) (by omega) (Nat.le_of_ble_eq_true rfl) (wL_knownRows h2 hd hB (fun v34 sg34 ow34 y34 c34 f34 x34 => ?_))
    have hW5 := c34.cs
    have kr := (c34.cr.2.2.2.2.2.2 rfl).2
    refine aw_iload_1 (q := 38) F dL_firstBy_37 rfl ?_
    refine aw_iload_2 (q := 39) F dL_firstBy_38 rfl ?_
    refine av_callV2 (q := 42) (ci := 4) F hm mR_beginningWith_i mR_beginningWith_n lL_243 dL_firstBy_39 rfl rfl rfl (by first | exact hW.o | exact hW.ho | exact hW.to | exact hW5.o | exact hW5.r.o) (by decide) (by omega) (by omega) (Nat.le_of_ble_eq_true rfl) (wR_beginningWith (n := n.toNat) (k := x.toNat) (by omega) (by omega) (by omega) (by omega) hW5.r (kr.2 (x.toNat * 7 + n.toNat) (by omega)) hlt ?_)
    refine aw_iret F C dL_firstBy_42 rfl (by omega) (by omega) ?_
    exact g hx hn _ _ _ _ c34 (h.fr.tr f34)
  refine aw_aload_0 (q := 1) F dL_firstBy_0 rfl ?_
  refine aw_aload_0 (q := 2) F dL_firstBy_1 rfl ?_
  refine av_getaE (q := 5) F fL_23 dL_firstBy_2 rfl rfl (by first | exact hW.o | exact hW.ho | exact hW.to | exact hW5.o | exact hW5.r.o) hW.p6 ?_
  refine aw_iload_1 (q := 6) F dL_firstBy_5 rfl ?_
  refine av_callV1 (q := 9) (ci := 2) F hm mH_isStep_i mH_isStep_n lL_157 dL_firstBy_6 rfl rfl rfl (by first | exact hW.o | exact hW.ho | exact hW.to | exact hW5.o | exact hW5.r.o) (by decide) (Nat.zero_le _) (Nat.zero_le _) (Nat.le_of_ble_eq_true rfl) (wH_isStep hW.h (fun c6 => ?_) (fun c6 => ?_))
  · refine aw_iload_2 (q := 10) F dL_firstBy_9 rfl ?_
    refine av_callS1 (q := 13) F hm mL_isRow_i mL_isRow_n lL_230 dL_firstBy_10 rfl (by decide) (Nat.zero_le _) (Nat.zero_le _) (Nat.le_of_ble_eq_true rfl) (wL_isRow (fun c10 => ?_) (fun c10 => ?_))
    · refine aw_if_eq (q := 16) (t := 24) F dL_firstBy_13 rfl (by decide) (fun c13 => absurd c13 (by decide)) (fun c13 => ?_)
      refine aw_iload_2 (q := 17) F dL_firstBy_16 rfl ?_
      refine aw_if_le (q := 20) (t := 24) F dL_firstBy_17 rfl (by decide) (fun c17 => ?_) (fun c17 => ?_)
      · refine aw_iconst (q := 25) F dL_firstBy_24 rfl (by decide) ?_
        refine av_callV2 (q := 28) (ci := 7) F hm mL_passes_i mL_passes_n lL_114 dL_firstBy_25 rfl rfl rfl (by first | exact hW.o | exact hW.ho | exact hW.to | exact hW5.o | exact hW5.r.o) (by decide) (Nat.zero_le _) (Nat.zero_le _) (Nat.le_of_ble_eq_true rfl) (wL_passes hW (fun c25 d25 => ?_) (fun c25 => ?_) (fun c25 d25 => ?_))
        · refine aw_if_ne (q := 31) (t := 33) F dL_firstBy_28 rfl (by decide) (fun c28 => ?_) (fun c28 => absurd c28 (by decide))
          first | (exfalso; omega) | exact go (by omega) (by omega)
        · refine aw_if_ne (q := 31) (t := 33) F dL_firstBy_28 rfl (by decide) (fun c28 => absurd c28 (by decide)) (fun c28 => ?_)
          refine aw_iconst (q := 32) F dL_firstBy_31 rfl (by decide) ?_
          refine aw_iret F C dL_firstBy_32 rfl (Nat.zero_le _) (Nat.zero_le _) ?_
          first | (exfalso; omega) | exact h.now (by decide) (r1 (by omega)) | exact h.now (by decide) (r2 (by omega) (by omega))
        · refine aw_if_ne (q := 31) (t := 33) F dL_firstBy_28 rfl (by decide) (fun c28 => absurd c28 (by decide)) (fun c28 => ?_)
          refine aw_iconst (q := 32) F dL_firstBy_31 rfl (by decide) ?_
          refine aw_iret F C dL_firstBy_32 rfl (Nat.zero_le _) (Nat.zero_le _) ?_
          first | (exfalso; omega) | exact h.now (by decide) (r1 (by omega)) | exact h.now (by decide) (r2 (by omega) (by omega))
      · refine aw_iconst (q := 21) F dL_firstBy_20 rfl (by decide) ?_
        refine aw_goto (t := 25) F dL_firstBy_21 (by decide) ?_
        refine av_callV2 (q := 28) (ci := 7) F hm mL_passes_i mL_passes_n lL_114 dL_firstBy_25 rfl rfl rfl (by first | exact hW.o | exact hW.ho | exact hW.to | exact hW5.o | exact hW5.r.o) (by decide) (Nat.zero_le _) (Nat.zero_le _) (Nat.le_of_ble_eq_true rfl) (wL_passes hW (fun c25 d25 => ?_) (fun c25 => ?_) (fun c25 d25 => ?_))
        · refine aw_if_ne (q := 31) (t := 33) F dL_firstBy_28 rfl (by decide) (fun c28 => ?_) (fun c28 => absurd c28 (by decide))
          first | (exfalso; omega) | exact go (by omega) (by omega)
        · refine aw_if_ne (q := 31) (t := 33) F dL_firstBy_28 rfl (by decide) (fun c28 => absurd c28 (by decide)) (fun c28 => ?_)
          refine aw_iconst (q := 32) F dL_firstBy_31 rfl (by decide) ?_
          refine aw_iret F C dL_firstBy_32 rfl (Nat.zero_le _) (Nat.zero_le _) ?_
          first | (exfalso; omega) | exact h.now (by decide) (r1 (by omega)) | exact h.now (by decide) (r2 (by omega) (by omega))
        · refine aw_if_ne (q := 31) (t := 33) F dL_firstBy_28 rfl (by decide) (fun c28 => absurd c28 (by decide)) (fun c28 => ?_)
          refine aw_iconst (q := 32) F dL_firstBy_31 rfl (by decide) ?_
          refine aw_iret F C dL_firstBy_32 rfl (Nat.zero_le _) (Nat.zero_le _) ?_
          first | (exfalso; omega) | exact h.now (by decide) (r1 (by omega)) | exact h.now (by decide) (r2 (by omega) (by omega))
    · refine aw_if_eq (q := 16) (t := 24) F dL_firstBy_13 rfl (by decide) (fun c13 => ?_) (fun c13 => absurd c13 (by decide))
      refine aw_iconst (q := 25) F dL_firstBy_24 rfl (by decide) ?_
      refine av_callV2 (q := 28) (ci := 7) F hm mL_passes_i mL_passes_n lL_114 dL_firstBy_25 rfl rfl rfl (by first | exact hW.o | exact hW.ho | exact hW.to | exact hW5.o | exact hW5.r.o) (by decide) (Nat.zero_le _) (Nat.zero_le _) (Nat.le_of_ble_eq_true rfl) (wL_passes hW (fun c25 d25 => ?_) (fun c25 => ?_) (fun c25 d25 => ?_))
      · refine aw_if_ne (q := 31) (t := 33) F dL_firstBy_28 rfl (by decide) (fun c28 => ?_) (fun c28 => absurd c28 (by decide))
        first | (exfalso; omega) | exact go (by omega) (by omega)
      · refine aw_if_ne (q := 31) (t := 33) F dL_firstBy_28 rfl (by decide) (fun c28 => absurd c28 (by decide)) (fun c28 => ?_)
        refine aw_iconst (q := 32) F dL_firstBy_31 rfl (by decide) ?_
        refine aw_iret F C dL_firstBy_32 rfl (Nat.zero_le _) (Nat.zero_le _) ?_
        first | (exfalso; omega) | exact h.now (by decide) (r1 (by omega)) | exact h.now (by decide) (r2 (by omega) (by omega))
      · refine aw_if_ne (q := 31) (t := 33) F dL_firstBy_28 rfl (by decide) (fun c28 => absurd c28 (by decide)) (fun c28 => ?_)
        refine aw_iconst (q := 32) F dL_firstBy_31 rfl (by decide) ?_
        refine aw_iret F C dL_firstBy_32 rfl (Nat.zero_le _) (Nat.zero_le _) ?_
        first | (exfalso; omega) | exact h.now (by decide) (r1 (by omega)) | exact h.now (by decide) (r2 (by omega) (by omega))
  · refine aw_iload_2 (q := 10) F dL_firstBy_9 rfl ?_
    refine av_callS1 (q := 13) F hm mL_isRow_i mL_isRow_n lL_230 dL_firstBy_10 rfl (by decide) (Nat.zero_le _) (Nat.zero_le _) (Nat.le_of_ble_eq_true rfl) (wL_isRow (fun c10 => ?_) (fun c10 => ?_))
    · refine aw_if_eq (q := 16) (t := 24) F dL_firstBy_13 rfl (by decide) (fun c13 => absurd c13 (by decide)) (fun c13 => ?_)
      refine aw_iload_2 (q := 17) F dL_firstBy_16 rfl ?_
      refine aw_if_le (q := 20) (t := 24) F dL_firstBy_17 rfl (by decide) (fun c17 => ?_) (fun c17 => ?_)
      · refine aw_iconst (q := 25) F dL_firstBy_24 rfl (by decide) ?_
        refine av_callV2 (q := 28) (ci := 7) F hm mL_passes_i mL_passes_n lL_114 dL_firstBy_25 rfl rfl rfl (by first | exact hW.o | exact hW.ho | exact hW.to | exact hW5.o | exact hW5.r.o) (by decide) (Nat.zero_le _) (Nat.zero_le _) (Nat.le_of_ble_eq_true rfl) (wL_passes hW (fun c25 d25 => ?_) (fun c25 => ?_) (fun c25 d25 => ?_))
        · refine aw_if_ne (q := 31) (t := 33) F dL_firstBy_28 rfl (by decide) (fun c28 => ?_) (fun c28 => absurd c28 (by decide))
          first | (exfalso; omega) | exact go (by omega) (by omega)
        · refine aw_if_ne (q := 31) (t := 33) F dL_firstBy_28 rfl (by decide) (fun c28 => absurd c28 (by decide)) (fun c28 => ?_)
          refine aw_iconst (q := 32) F dL_firstBy_31 rfl (by decide) ?_
          refine aw_iret F C dL_firstBy_32 rfl (Nat.zero_le _) (Nat.zero_le _) ?_
          first | (exfalso; omega) | exact h.now (by decide) (r1 (by omega)) | exact h.now (by decide) (r2 (by omega) (by omega))
        · refine aw_if_ne (q := 31) (t := 33) F dL_firstBy_28 rfl (by decide) (fun c28 => absurd c28 (by decide)) (fun c28 => ?_)
          refine aw_iconst (q := 32) F dL_firstBy_31 rfl (by decide) ?_
          refine aw_iret F C dL_firstBy_32 rfl (Nat.zero_le _) (Nat.zero_le _) ?_
          first | (exfalso; omega) | exact h.now (by decide) (r1 (by omega)) | exact h.now (by decide) (r2 (by omega) (by omega))
      · refine aw_iconst (q := 21) F dL_firstBy_20 rfl (by decide) ?_
        refine aw_goto (t := 25) F dL_firstBy_21 (by decide) ?_
        refine av_callV2 (q := 28) (ci := 7) F hm mL_passes_i mL_passes_n lL_114 dL_firstBy_25 rfl rfl rfl (by first | exact hW.o | exact hW.ho | exact hW.to | exact hW5.o | exact hW5.r.o) (by decide) (Nat.zero_le _) (Nat.zero_le _) (Nat.le_of_ble_eq_true rfl) (wL_passes hW (fun c25 d25 => ?_) (fun c25 => ?_) (fun c25 d25 => ?_))
        · refine aw_if_ne (q := 31) (t := 33) F dL_firstBy_28 rfl (by decide) (fun c28 => ?_) (fun c28 => absurd c28 (by decide))
          first | (exfalso; omega) | exact go (by omega) (by omega)
        · refine aw_if_ne (q := 31) (t := 33) F dL_firstBy_28 rfl (by decide) (fun c28 => absurd c28 (by decide)) (fun c28 => ?_)
          refine aw_iconst (q := 32) F dL_firstBy_31 rfl (by decide) ?_
          refine aw_iret F C dL_firstBy_32 rfl (Nat.zero_le _) (Nat.zero_le _) ?_
          first | (exfalso; omega) | exact h.now (by decide) (r1 (by omega)) | exact h.now (by decide) (r2 (by omega) (by omega))
        · refine aw_if_ne (q := 31) (t := 33) F dL_firstBy_28 rfl (by decide) (fun c28 => absurd c28 (by decide)) (fun c28 => ?_)
          refine aw_iconst (q := 32) F dL_firstBy_31 rfl (by decide) ?_
          refine aw_iret F C dL_firstBy_32 rfl (Nat.zero_le _) (Nat.zero_le _) ?_
          first | (exfalso; omega) | exact h.now (by decide) (r1 (by omega)) | exact h.now (by decide) (r2 (by omega) (by omega))
    · refine aw_if_eq (q := 16) (t := 24) F dL_firstBy_13 rfl (by decide) (fun c13 => ?_) (fun c13 => absurd c13 (by decide))
      refine aw_iconst (q := 25) F dL_firstBy_24 rfl (by decide) ?_
      refine av_callV2 (q := 28) (ci := 7) F hm mL_passes_i mL_passes_n lL_114 dL_firstBy_25 rfl rfl rfl (by first | exact hW.o | exact hW.ho | exact hW.to | exact hW5.o | exact hW5.r.o) (by decide) (Nat.zero_le _) (Nat.zero_le _) (Nat.le_of_ble_eq_true rfl) (wL_passes hW (fun c25 d25 => ?_) (fun c25 => ?_) (fun c25 d25 => ?_))
      · refine aw_if_ne (q := 31) (t := 33) F dL_firstBy_28 rfl (by decide) (fun c28 => ?_) (fun c28 => absurd c28 (by decide))
        first | (exfalso; omega) | exact go (by omega) (by omega)
      · refine aw_if_ne (q := 31) (t := 33) F dL_firstBy_28 rfl (by decide) (fun c28 => absurd c28 (by decide)) (fun c28 => ?_)
        refine aw_iconst (q := 32) F dL_firstBy_31 rfl (by decide) ?_
        refine aw_iret F C dL_firstBy_32 rfl (Nat.zero_le _) (Nat.zero_le _) ?_
        first | (exfalso; omega) | exact h.now (by decide) (r1 (by omega)) | exact h.now (by decide) (r2 (by omega) (by omega))
      · refine aw_if_ne (q := 31) (t := 33) F dL_firstBy_28 rfl (by decide) (fun c28 => absurd c28 (by decide)) (fun c28 => ?_)
        refine aw_iconst (q := 32) F dL_firstBy_31 rfl (by decide) ?_
        refine aw_iret F C dL_firstBy_32 rfl (Nat.zero_le _) (Nat.zero_le _) ?_
        first | (exfalso; omega) | exact h.now (by decide) (r1 (by omega)) | exact h.now (by decide) (r2 (by omega) (by omega))
theorem wL_fewestSeen (hB : sX σ + 30 < BG) (h : CW V σ ow y S kn) (hK : CK K V σ ow (setR S (wy (0 < tDn (psT S)) True)) (knW (wy (0 < tDn (psT S)) True) kn) (some (vI (rfD (wy (0 < tDn (psT S)) True) (fwF (psT S) 7 0) (-1))))) : Wp G 8 mL_fewestSeen [vR 1] (V, σ) (if kn then 0 else 5) (if kn then 0 else 190000) K := by
  have hW := h.cs
  have hT1 : V (dT y) 1 = tDn (psT S) := h.tv.1.2.1
  have h2 := h.tr (z := 0) (by decide)
  obtain ⟨g, r1, -⟩ := g3k hK
  refine wp_intro mL_fewestSeen_i.1 [some (vR 1), none] rfl rfl (Nat.le_of_ble_eq_true rfl) ?_
  intro X hG F C
  have hm := C.rm
  have loop : 0 < tDn (psT S) → ∀ (j n : Nat), 7 - n = j → n ≤ 7 → ∀ (V1 : Nat → Nat → Int) (σ1 : Shp) (ow1 : Nat → Nat) (y1 : Dy) (k1 : Bool) (kc nc : Nat) (w : Int), CW V1 σ1 ow1 y1 (setR S 0) k1 → FR V V1 σ σ1 ow ow1 → kc + (if k1 then 0 else 5) ≤ (if kn then 0 else 5) → nc + (if k1 then 0 else 190000) ≤ (if kn then 0 else 190000) → (n = 0 ∨ k1 = true) → sX σ1 ≤ sX σ + kc → fwF (psT S) (7 - n) n = fwF (psT S) 7 0 → w = n → AW X 16 [some (vR 1), some (vI w)] [] (V1, σ1) kc nc := by
    intro hd j
    have hs0 := sc0_ok h.oT hd
    induction j using Nat.strongRecOn with
    | ind j ih =>
      intro n hj hn V1 σ1 ow1 y1 k1 kc nc w c1 f1 hk1 hn1 hk hX hF hw
      have hW := c1.cs
      have hle : (if kn then 0 else 5) ≤ 5 := by split <;> omega
      have es : n < 7 → fwF (psT S) (7 - n) n = if 0 < rwN (psT S) n / 16 then (n : Int) else fwF (psT S) (7 - (n + 1)) (n + 1) := fun q => by rw [show 7 - n = (7 - (n + 1)) + 1 by omega]; rfl
      refine aw_iload_1 (q := 17) F dL_fewestSeen_16 rfl ?_
      refine aw_bipush (q := 19) F dL_fewestSeen_17 rfl (by decide) ?_
      refine aw_icmp_gt (q := 22) (t := 41) F dL_fewestSeen_19 rfl (by decide) (fun c19 => ?_) (fun c19 => ?_)
      · refine aw_bipush (q := 43) F dL_fewestSeen_41 rfl (by decide) ?_
        refine aw_iret F C dL_fewestSeen_43 rfl (by omega) (by omega) ?_
        rcases hk with e | e
        · omega
        · subst e
          refine kI (g hd trivial _ _ _ _ c1 f1) ?_; rw [← hF, show 7 - n = 0 by omega]; rfl
      · refine aw_aload_0 (q := 23) F dL_fewestSeen_22 rfl ?_
        refine av_callV0 (q := 26) (ci := 7) F hm mL_knownRows_i mL_knownRows_n lL_233 dL_fewestSeen_23 rfl rfl rfl (by first | exact hW.o | exact hW.ho | exact hW.to | exact hW5.o | exact hW5.r.o) (by decide) (by omega) (by omega) (Nat.le_of_ble_eq_true rfl) (wL_knownRows c1 hd (by omega) (fun v23 sg23 ow23 y23 c23 f23 x23 => ?_))
        have hW5 := c23.cs
        have kr := (c23.cr.2.2.2.2.2.2 rfl).2
        refine aw_iload_1 (q := 27) F dL_fewestSeen_26 rfl ?_
        refine av_callV1 (q := 30) (ci := 4) F hm mR_howMany_i mR_howMany_n lL_237 dL_fewestSeen_27 rfl rfl rfl (by first | exact hW.o | exact hW.ho | exact hW.to | exact hW5.o | exact hW5.r.o) (by decide) (by omega) (by omega) (Nat.le_of_ble_eq_true rfl) (wR_howMany (n := n) (v := rwN (psT S) n) hw (by omega) hW5.r (kr.1 n (by omega)) (vl_lt (h.oT.okC hs0) _ (by omega) (hs0.2.2.2.1 hd)) ?_)
        refine aw_if_le (q := 33) (t := 35) F dL_fewestSeen_30 rfl (by decide) (fun c30 => ?_) (fun c30 => ?_)
        · refine aw_iinc_1 (q := 38) F dL_fewestSeen_35 rfl trivial (by constructor <;> omega) ?_
          refine aw_goto (t := 16) F dL_fewestSeen_38 (by decide) ?_
          exact ih _ (by omega) (n + 1) rfl (by omega) v23 sg23 ow23 y23 true _ _ _ c23 (f1.tr f23) hk1 hn1 (Or.inr rfl) (by omega) (by rw [← hF, es (by omega), if_neg (by omega)]) (by omega)
        · refine aw_iload_1 (q := 34) F dL_fewestSeen_33 rfl ?_
          refine aw_iret F C dL_fewestSeen_34 rfl (by omega) (by omega) ?_
          refine kI (g hd trivial _ _ _ _ c23 (f1.tr f23)) ?_; rw [← hF, es (by omega), if_pos (by omega)]; exact hw.symm
  refine aw_aload_0 (q := 1) F dL_fewestSeen_0 rfl ?_
  refine aw_aload_0 (q := 2) F dL_fewestSeen_1 rfl ?_
  refine av_callV0 (q := 5) (ci := 7) F hm mL_hasLane_i mL_hasLane_n lL_154 dL_fewestSeen_2 rfl rfl rfl (by first | exact hW.o | exact hW.ho | exact hW.to | exact hW5.o | exact hW5.r.o) (by decide) (Nat.zero_le _) (Nat.zero_le _) (Nat.le_of_ble_eq_true rfl) (wL_hasLane hW (fun c2 => ?_) (fun c2 => ?_))
  · refine aw_iconst (q := 6) F dL_fewestSeen_5 rfl (by decide) ?_
    refine av_callV2 (q := 9) (ci := 7) F hm mL_passes_i mL_passes_n lL_114 dL_fewestSeen_6 rfl rfl rfl (by first | exact hW.o | exact hW.ho | exact hW.to | exact hW5.o | exact hW5.r.o) (by decide) (Nat.zero_le _) (Nat.zero_le _) (Nat.le_of_ble_eq_true rfl) (wL_passes hW (fun c6 d6 => ?_) (fun c6 => ?_) (fun c6 d6 => ?_))
    · refine aw_if_ne (q := 12) (t := 14) F dL_fewestSeen_9 rfl (by decide) (fun c9 => ?_) (fun c9 => absurd c9 (by decide))
      refine aw_iconst (q := 15) F dL_fewestSeen_14 rfl (by decide) ?_
      refine aw_istore_1 (q := 16) F dL_fewestSeen_15 rfl trivial ?_
      first | (exfalso; omega) | exact loop (by omega) _ 0 rfl (by omega) _ _ _ _ kn 0 0 _ h2 h.fr (by omega) (by omega) (Or.inl rfl) (by omega) rfl rfl
    · refine aw_if_ne (q := 12) (t := 14) F dL_fewestSeen_9 rfl (by decide) (fun c9 => absurd c9 (by decide)) (fun c9 => ?_)
      refine aw_iconst (q := 13) F dL_fewestSeen_12 rfl (by decide) ?_
      refine aw_iret F C dL_fewestSeen_13 rfl (Nat.zero_le _) (Nat.zero_le _) ?_
      first | (exfalso; omega) | exact h.now (by decide) (r1 (by omega))
    · refine aw_if_ne (q := 12) (t := 14) F dL_fewestSeen_9 rfl (by decide) (fun c9 => absurd c9 (by decide)) (fun c9 => ?_)
      refine aw_iconst (q := 13) F dL_fewestSeen_12 rfl (by decide) ?_
      refine aw_iret F C dL_fewestSeen_13 rfl (Nat.zero_le _) (Nat.zero_le _) ?_
      first | (exfalso; omega) | exact h.now (by decide) (r1 (by omega))
  · refine aw_iconst (q := 6) F dL_fewestSeen_5 rfl (by decide) ?_
    refine av_callV2 (q := 9) (ci := 7) F hm mL_passes_i mL_passes_n lL_114 dL_fewestSeen_6 rfl rfl rfl (by first | exact hW.o | exact hW.ho | exact hW.to | exact hW5.o | exact hW5.r.o) (by decide) (Nat.zero_le _) (Nat.zero_le _) (Nat.le_of_ble_eq_true rfl) (wL_passes hW (fun c6 d6 => ?_) (fun c6 => ?_) (fun c6 d6 => ?_))
    · refine aw_if_ne (q := 12) (t := 14) F dL_fewestSeen_9 rfl (by decide) (fun c9 => ?_) (fun c9 => absurd c9 (by decide))
      refine aw_iconst (q := 15) F dL_fewestSeen_14 rfl (by decide) ?_
      refine aw_istore_1 (q := 16) F dL_fewestSeen_15 rfl trivial ?_
      first | (exfalso; omega) | exact loop (by omega) _ 0 rfl (by omega) _ _ _ _ kn 0 0 _ h2 h.fr (by omega) (by omega) (Or.inl rfl) (by omega) rfl rfl
    · refine aw_if_ne (q := 12) (t := 14) F dL_fewestSeen_9 rfl (by decide) (fun c9 => absurd c9 (by decide)) (fun c9 => ?_)
      refine aw_iconst (q := 13) F dL_fewestSeen_12 rfl (by decide) ?_
      refine aw_iret F C dL_fewestSeen_13 rfl (Nat.zero_le _) (Nat.zero_le _) ?_
      first | (exfalso; omega) | exact h.now (by decide) (r1 (by omega))
    · refine aw_if_ne (q := 12) (t := 14) F dL_fewestSeen_9 rfl (by decide) (fun c9 => absurd c9 (by decide)) (fun c9 => ?_)
      refine aw_iconst (q := 13) F dL_fewestSeen_12 rfl (by decide) ?_
      refine aw_iret F C dL_fewestSeen_13 rfl (Nat.zero_le _) (Nat.zero_le _) ?_
      first | (exfalso; omega) | exact h.now (by decide) (r1 (by omega))
end Rows7
-- the tape
def tpS (S : PS) (B : Nat → Int) (n : Nat) : PS := (B, n, S.2.2)
noncomputable def wrI (B : Nat → Int) (n : Nat) (x : Int) (i : Nat) : Nat → Int := fun j => if n ≤ j ∧ j < n + i then zb (zshr x (24 - 8 * ((j - n : Nat) : Int))) else B j
noncomputable def fdB (S : PS) (a b c d e : Int) : Nat → Int := wrI (wrI (wrI (wrI (wrI (psB S) (psN S) a 4) (psN S + 4) b 4) (psN S + 8) c 4) (psN S + 12) d 4) (psN S + 16) e 4
section Feed
variable {G : GE} {V V' : Nat → Nat → Int} {σ : Shp} {K : Option AV → Mem → Prop} {ow : Nat → Nat} {y : Dy} {S : PS} {kn : Bool}
theorem CW.tp {B : Nat → Int} {n : Nat} (h : CW V σ ow y S kn) (hv : ∀ b, b ≠ 1 → b ≠ 2 → V' b = V b) (hf : ∀ j, j ≠ 1 → V' 1 j = V 1 j) (hl : V' 1 1 = n) (h2 : ∀ i, i < n → V' 2 i = B i) (hB : ∀ i, -128 ≤ B i ∧ B i < 128) (hn : n ≤ 800) : CW V' σ ow y (tpS S B n) kn ∧ FR V V' σ σ ow ow := by
  have hL := h.cl
  have hv2 : ∀ {b : Nat}, ow b < 100 → V' b = V b := fun {b} hb => hv b (hL.nf (by unfold fx; omega) hb) (hL.nf (by unfold fx; omega) hb)
  refine ⟨⟨h.cs, hL, h.cb, ?_, ?_, ?_, ?_⟩, hL.fr (P := fun b => b = 1 ∨ b = 2) (fun b q => by unfold fx; omega) (fun b q => hv b (by omega) (by omega))⟩
  · obtain ⟨o1, o2, o3⟩ := h.ok
    exact ⟨hn, hB, o3⟩
  · have := h.cf
    unfold CF at this ⊢
    rw [hf 2 (by decide), hf 3 (by decide), hf 4 (by decide), hf 8 (by decide), hf 10 (by decide)]
    exact ⟨hl, this.2⟩
  · obtain ⟨r1, r2, r3, r4, r5, r6, r7⟩ := h.cr
    exact ⟨h2, r2.same (fun i hi => hv2 (by rw [hL.t hi]; omega)), r3.same (fun b q1 q2 => hv b (by omega) (by omega)), by rw [hv 16 (by omega) (by omega)]; exact r4, by rw [hv 17 (by omega) (by omega)]; exact r5, by rw [hv 36 (by omega) (by omega)]; exact r6, fun q => ⟨(r7 q).1, by unfold KR; rw [hv 37 (by omega) (by omega), hv 38 (by omega) (by omega)]; exact (r7 q).2⟩⟩
  · have hw := h.wk
    unfold WK at hw ⊢
    rw [hf 12 (by decide)]
    rcases hw with hw | ⟨s', k, m, q1, q2, q3, q4⟩
    · exact Or.inl hw
    · refine Or.inr ⟨s', k, m, q1, q2, q3, q4.same (fun b hb => ?_)⟩
      rcases hb with hb | hb | hb
      · exact hv b (by omega) (by omega)
      · rw [hb]; exact hv2 (by rw [hL.2.1.1]; omega)
      · rw [hb]; exact hv2 (by rw [hL.2.1.2.1]; omega)
theorem wrI_ok {B : Nat → Int} {n i : Nat} {x : Int} (hB : ∀ i, -128 ≤ B i ∧ B i < 128) (j : Nat) : -128 ≤ wrI B n x i j ∧ wrI B n x i j < 128 := by
  unfold wrI
  split
  · exact zb_ok _
  · exact hB j
theorem wL_write {x : Int} (h : CW V σ ow y S kn) (hn : psN S + 4 ≤ 800) (hK : ∀ V' : Nat → Nat → Int, CW V' σ ow y (tpS S (wrI (psB S) (psN S) x 4) (psN S + 4)) kn → FR V V' σ σ ow ow → K none (V', σ)) : Wp G 0 mL_write [vR 1, vI x] (V, σ) 0 0 K := by
  have hW := h.cs
  have hN := h.cf.1
  have ht := h.cr.1
  have hBk := h.ok.2.1
  refine wp_intro mL_write_i.1 [some (vR 1), some (vI x), none] rfl rfl (Nat.le_of_ble_eq_true rfl) ?_
  intro X hG F C
  have hm := C.rm
  have loop : ∀ (j i : Nat), 4 - i = j → i ≤ 4 → ∀ (V1 : Nat → Nat → Int) (z : Int), (∀ b, b ≠ 1 → b ≠ 2 → V1 b = V b) → (∀ j, j ≠ 1 → V1 1 j = V 1 j) → V1 1 1 = (psN S + i : Nat) → (∀ j, j < psN S + i → V1 2 j = wrI (psB S) (psN S) x i j) → z = 24 - 8 * (i : Int) → AW X 3 [some (vR 1), some (vI x), some (vI z)] [] (V1, σ) 0 0 := by
    intro j
    induction j using Nat.strongRecOn with
    | ind j ih =>
      intro i hj hi V1 z f1 f2 f3 f4 hz
      refine aw_iload_2 (q := 4) F dL_write_3 rfl ?_
      refine aw_if_lt (q := 7) (t := 46) F dL_write_4 rfl (by decide) (fun c4 => ?_) (fun c4 => ?_)
      · refine aw_vret F C dL_write_46 rfl (Nat.le_refl _) (Nat.le_refl _) ?_
        have hi4 : i = 4 := by omega
        subst hi4
        obtain ⟨q1, q2⟩ := h.tp f1 f2 f3 f4 (wrI_ok hBk) hn
        exact hK _ q1 q2
      · refine aw_aload_0 (q := 8) F dL_write_7 rfl ?_
        refine av_geti (q := 11) F fL_69 dL_write_8 rfl rfl (by first | exact hW.o | exact hW.a2) ?_
        refine aw_sipush (q := 14) F dL_write_11 rfl (by decide) ?_
        refine aw_icmp_ge (q := 17) (t := 46) F dL_write_14 rfl (by decide) (fun c14 => by omega) (fun c14 => ?_)
        refine aw_aload_0 (q := 18) F dL_write_17 rfl ?_
        refine av_getaE (q := 21) F fL_9 dL_write_18 rfl rfl (by first | exact hW.o | exact hW.a2) hW.p0 ?_
        refine aw_aload_0 (q := 22) F dL_write_21 rfl ?_
        refine av_geti (q := 25) F fL_69 dL_write_22 rfl rfl (by first | exact hW.o | exact hW.a2) ?_
        refine aw_iload_1 (q := 26) F dL_write_25 rfl ?_
        refine aw_iload_2 (q := 27) F dL_write_26 rfl ?_
        refine aw_ishr (q := 28) F dL_write_27 rfl ?_
        refine aw_i2b (q := 29) F dL_write_28 rfl ?_
        refine av_bastore (q := 30) F dL_write_29 rfl (by exact hW.a2) (by first | omega) (by first | omega) (by first | exact zb_ok _) ?_
        refine aw_aload_0 (q := 31) F dL_write_30 rfl ?_
        refine aw_dup (q := 32) F dL_write_31 rfl trivial ?_
        refine av_geti (q := 35) F fL_69 dL_write_32 rfl rfl (by first | exact hW.o | exact hW.a2) ?_
        rw [up2_nea _ _ (by decide), f3]
        refine aw_iconst (q := 36) F dL_write_35 rfl (by decide) ?_
        refine aw_iadd (q := 37) F dL_write_36 rfl (by constructor <;> omega) ?_
        refine av_puti (q := 40) F fL_69 dL_write_37 rfl rfl (wr_7_1 _) (by first | exact hW.o | exact hW.a2) ?_
        refine aw_iinc_2 (q := 43) F dL_write_40 rfl trivial (by constructor <;> omega) ?_
        refine aw_goto (t := 3) F dL_write_43 (by decide) ?_
        refine ih _ (by omega) (i + 1) rfl (by omega) _ _ (fun b b1 b2 => by rw [up2_nea _ _ b1, up2_nea _ _ b2]; exact f1 b b1 b2) (fun j hj => by rw [up2_nek _ _ hj, up2_nea _ _ (by decide)]; exact f2 j hj) (by rw [up2_same]; omega) (fun j hj => ?_) (by omega)
        rw [up2_nea _ _ (by decide), Int.toNat_natCast]
        by_cases e : j = psN S + i
        · subst e
          rw [up2_same]
          unfold wrI
          rw [if_pos ⟨by omega, by omega⟩, show ((psN S + i - psN S : Nat) : Int) = i by omega, hz]
        · rw [up2_nek _ _ e, f4 j (by omega)]
          unfold wrI
          by_cases e2 : psN S ≤ j ∧ j < psN S + i
          · rw [if_pos e2, if_pos ⟨e2.1, by omega⟩]
          · rw [if_neg e2, if_neg (fun q => e2 ⟨q.1, by omega⟩)]
  refine aw_bipush (q := 2) F dL_write_0 rfl (by decide) ?_
  refine aw_istore_2 (q := 3) F dL_write_2 rfl trivial ?_
  exact loop _ 0 rfl (by omega) V _ (fun _ _ _ => rfl) (fun _ _ => rfl) hN (fun j hj => by unfold wrI; rw [if_neg (fun q => by omega)]; exact ht j hj) rfl
theorem wL_feed {a b c d e : Int} (h : CW V σ ow y S kn) (hK : CK K V σ ow (if psN S + 20 ≤ 800 then tpS S (fdB S a b c d e) (psN S + 20) else S) kn (some (vI (if psN S + 20 ≤ 800 then ((psN S + 20 : Nat) : Int) else -1)))) : Wp G 1 mL_feed [vR 1, vI a, vI b, vI c, vI d, vI e] (V, σ) 0 0 K := by
  have hW := h.cs
  have hN := h.cf.1
  have hle := h.ok.1
  refine wp_intro mL_feed_i.1 [some (vR 1), some (vI a), some (vI b), some (vI c), some (vI d), some (vI e)] rfl rfl (Nat.le_of_ble_eq_true rfl) ?_
  intro X hG F C
  have hm := C.rm
  refine aw_aload_0 (q := 1) F dL_feed_0 rfl ?_
  refine av_geti (q := 4) F fL_69 dL_feed_1 rfl rfl (by first | exact hW.o | exact hW.a2) ?_
  refine aw_bipush (q := 6) F dL_feed_4 rfl (by decide) ?_
  refine aw_iadd (q := 7) F dL_feed_6 rfl (by constructor <;> omega) ?_
  refine aw_sipush (q := 10) F dL_feed_7 rfl (by decide) ?_
  refine aw_icmp_le (q := 13) (t := 15) F dL_feed_10 rfl (by decide) (fun c10 => ?_) (fun c10 => ?_)
  · refine aw_aload_0 (q := 16) F dL_feed_15 rfl ?_
    refine aw_iload_1 (q := 17) F dL_feed_16 rfl ?_
    refine av_callV1 (q := 20) (ci := 7) F hm mL_write_i mL_write_n lL_72 dL_feed_17 rfl rfl rfl (by first | exact hW.o | exact hW.a2) (by decide) (Nat.le_refl _) (Nat.le_refl _) (Nat.le_of_ble_eq_true rfl) (wL_write h (by omega) (fun v17 c17 f17 => ?_))
    refine aw_aload_0 (q := 21) F dL_feed_20 rfl ?_
    refine aw_iload_2 (q := 22) F dL_feed_21 rfl ?_
    refine av_callV1 (q := 25) (ci := 7) F hm mL_write_i mL_write_n lL_72 dL_feed_22 rfl rfl rfl (by first | exact hW.o | exact hW.a2) (by decide) (Nat.le_refl _) (Nat.le_refl _) (Nat.le_of_ble_eq_true rfl) (wL_write c17 (show psN S + 4 + 4 ≤ 800 by omega) (fun v22 c22 f22 => ?_))
    refine aw_aload_0 (q := 26) F dL_feed_25 rfl ?_
    refine aw_iload_3 (q := 27) F dL_feed_26 rfl ?_
    refine av_callV1 (q := 30) (ci := 7) F hm mL_write_i mL_write_n lL_72 dL_feed_27 rfl rfl rfl (by first | exact hW.o | exact hW.a2) (by decide) (Nat.le_refl _) (Nat.le_refl _) (Nat.le_of_ble_eq_true rfl) (wL_write c22 (show psN S + 4 + 4 + 4 ≤ 800 by omega) (fun v27 c27 f27 => ?_))
    refine aw_aload_0 (q := 31) F dL_feed_30 rfl ?_
    refine aw_iload_4 (q := 33) F dL_feed_31 rfl ?_
    refine av_callV1 (q := 36) (ci := 7) F hm mL_write_i mL_write_n lL_72 dL_feed_33 rfl rfl rfl (by first | exact hW.o | exact hW.a2) (by decide) (Nat.le_refl _) (Nat.le_refl _) (Nat.le_of_ble_eq_true rfl) (wL_write c27 (show psN S + 4 + 4 + 4 + 4 ≤ 800 by omega) (fun v33 c33 f33 => ?_))
    refine aw_aload_0 (q := 37) F dL_feed_36 rfl ?_
    refine aw_iload_5 (q := 39) F dL_feed_37 rfl ?_
    refine av_callV1 (q := 42) (ci := 7) F hm mL_write_i mL_write_n lL_72 dL_feed_39 rfl rfl rfl (by first | exact hW.o | exact hW.a2) (by decide) (Nat.le_refl _) (Nat.le_refl _) (Nat.le_of_ble_eq_true rfl) (wL_write c33 (show psN S + 4 + 4 + 4 + 4 + 4 ≤ 800 by omega) (fun v39 c39 f39 => ?_))
    refine aw_aload_0 (q := 43) F dL_feed_42 rfl ?_
    refine av_geti (q := 46) F fL_69 dL_feed_43 rfl rfl (by first | exact hW.o | exact hW.a2) ?_
    refine aw_iret F C dL_feed_46 rfl (Nat.le_refl _) (Nat.le_refl _) ?_
    rw [if_pos (by omega), if_pos (by omega)] at hK
    have e1 : v39 1 1 = ((psN S + 20 : Nat) : Int) := c39.cf.1
    rw [e1]
    exact hK _ _ _ _ c39 ((((f17.tr f22).tr f27).tr f33).tr f39)
  · refine aw_iconst (q := 14) F dL_feed_13 rfl (by decide) ?_
    refine aw_iret F C dL_feed_14 rfl (Nat.le_refl _) (Nat.le_refl _) ?_
    rw [if_neg (by omega), if_neg (by omega)] at hK
    exact hK V σ ow y h (FR.rf _ _ _)
end Feed
