-- why a call is refused, and what it answers then
def wy (s n : Prop) [Decidable s] [Decidable n] : Int := if s then (if n then 0 else 2) else 1
def rfD (w r d : Int) : Int := if w = 0 then r else d
theorem wy_1 {s n : Prop} [Decidable s] [Decidable n] (h : s) (g : n) : wy s n = 0 := by unfold wy; rw [if_pos h, if_pos g]
theorem wy_2 {s n : Prop} [Decidable s] [Decidable n] (h : ¬ s) : wy s n = 1 := by unfold wy; rw [if_neg h]
theorem wy_3 {s n : Prop} [Decidable s] [Decidable n] (h : s) (g : ¬ n) : wy s n = 2 := by unfold wy; rw [if_pos h, if_neg g]
theorem g3 {K : Option AV → Mem → Prop} {V : Nat → Nat → Int} {σ : Shp} {ow : Nat → Nat} {S : PS} {kn : Bool} {s n : Prop} [Decidable s] [Decidable n] {r d : Int} (hK : CK K V σ ow (setR S (wy s n)) kn (some (vI (rfD (wy s n) r d)))) : (s → n → CK K V σ ow (setR S 0) kn (some (vI r))) ∧ (¬ s → CK K V σ ow (setR S 1) kn (some (vI d))) ∧ (s → ¬ n → CK K V σ ow (setR S 2) kn (some (vI d))) :=
  ⟨fun a b => by rw [wy_1 a b] at hK; exact hK, fun a => by rw [wy_2 a] at hK; exact hK, fun a b => by rw [wy_3 a b] at hK; exact hK⟩
theorem g3L {K : Option AV → Mem → Prop} {V : Nat → Nat → Int} {σ : Shp} {ow : Nat → Nat} {S : PS} {kn : Bool} {s n : Prop} [Decidable s] [Decidable n] {r d : Int} (hK : CK K V σ ow (setR S (wy s n)) kn (some (vL (rfD (wy s n) r d)))) : (s → n → CK K V σ ow (setR S 0) kn (some (vL r))) ∧ (¬ s → CK K V σ ow (setR S 1) kn (some (vL d))) ∧ (s → ¬ n → CK K V σ ow (setR S 2) kn (some (vL d))) :=
  ⟨fun a b => by rw [wy_1 a b] at hK; exact hK, fun a => by rw [wy_2 a] at hK; exact hK, fun a b => by rw [wy_3 a b] at hK; exact hK⟩
theorem CW.now {K : Option AV → Mem → Prop} {V : Nat → Nat → Int} {σ : Shp} {ow : Nat → Nat} {y : Dy} {S : PS} {kn : Bool} {z : Int} {r : Option AV} (h : CW V σ ow y S kn) (hz : z ≠ 4) (hk : CK K V σ ow (setR S z) kn r) : K r (up2 V 1 2 z, σ) := hk _ _ _ _ (h.tr hz) h.fr
def bitN (n d : Nat) : Nat := n / 2 ^ d % 2
def vDoor (S : PS) (d : Nat) (w : Int) : Int := if w = 0 then ((psS S).1 d : Int) else if w = 1 then (ld (psC S) (psA S) d : Int) else if w = 2 then (bitN (tLk (psT S)) d : Int) else if w = 3 then (bitN (psS S).2.1 d : Int) else if w = 4 then (inP (psC S) (psA S) (d + 1) : Int) else if lst (psC S) (psA S) = d then 1 else 0
def vPers (S : PS) (p : Nat) (w : Int) : Int := if w = 0 then (pl (psC S) (psA S) p : Int) else if w = 1 then (bitN (tKy (psT S)) p : Int) else if w = 2 then tHo (psT S) p else if w = 3 then tWi (psT S) p else tSi (psT S) p
def vSize (S : PS) (w : Int) : Int := if w = 0 then (tDr (psT S) : Int) else if w = 1 then (tDn (psT S) : Int) else if w = 2 then (tPn (psT S) : Int) else if w = 3 then (pc4 (tLk (psT S)) : Int) else if w = 4 then (cntB (fun d => tLd (psT S) d != 0) 4 : Int) else if w = 5 then (cntB (fun p => tAt (psT S) p != 0) 2 : Int) else if w = 6 then (pc4 (tKy (psT S)) : Int) else if w = 7 then (cntB (fun p => tHo (psT S) p != -2) 2 : Int) else if w = 8 then (cntB (fun p => tWi (psT S) p != -2) 2 : Int) else if w = 9 then (cntB (fun p => tSi (psT S) p != -2) 2 : Int) else if w = 10 then ((psP S).length : Int) else if w = 11 then ((psI S).length : Int) else if w = 12 then (psN S : Int) else -1
theorem cntB_cong {f g : Nat → Bool} : ∀ {n : Nat}, (∀ i, i < n → f i = g i) → cntB f n = cntB g n
  | 0, _ => rfl
  | n + 1, h => by
    have h1 := cntB_cong (n := n) (fun i hi => h i (by omega))
    show cntB f n + (if f n then 1 else 0) = cntB g n + (if g n then 1 else 0)
    rw [h1, h n (by omega)]
theorem two_le {n : Nat} (h : n ≤ 4) : 2 ^ n ≤ 16 := (show 2 ^ n ≤ 2 ^ 4 from Nat.pow_le_pow_right (by decide) h)
theorem bne_cast (a : Nat) : (a != 0) = (((a : Nat) : Int) != 0) := by
  rw [Bool.eq_iff_iff]
  simp
def shr (q x z : Int) : Int := if x = 0 then (if z = 0 then 2 else 1 - q) else (if z = 0 then 4 else 0)
def rstB (q x z : Int) : Bool := decide (shr q (1 - x) z ≤ shr q x z) && decide (shr q (1 - z) x ≤ shr q z x)
def rsF (q : Int) : Nat → Nat → Int
  | 0, _ => -2
  | j + 1, k => if rstB q (k / 2 : Nat) (k % 2 : Nat) then ((k / 2 * 10 + k % 2 : Nat) : Int) else rsF q j (k + 1)
theorem zand2_t : ∀ k : Nat, k < 4 → (Int32.ofInt (k : Int) &&& Int32.ofInt 2).toInt = ((k / 2 * 2 : Nat) : Int) := by decide +kernel
theorem zand2 {k : Nat} (h : k < 4) : zand k 2 = ((k / 2 * 2 : Nat) : Int) := by rw [zand_eq]; exact zand2_t k h
section Small2
variable {G : GE} {V : Nat → Nat → Int} {σ : Shp} {K : Option AV → Mem → Prop} {ow : Nat → Nat} {y : Dy} {S : PS} {kn : Bool}
theorem wL_can {x : Int} (h : CW V σ ow y S kn) (hK : CK K V σ ow (setR S (wy (0 ≤ x ∧ x < stN (psC S)) True)) kn (some (vI (rfD (wy (0 ≤ x ∧ x < stN (psC S)) True) (bz (mayN (psC S) (psA S) (allP (psC S)) x.toNat)) (-1))))) : Wp G 3 mL_can [vR 1, vI x] (V, σ) 0 0 K := by
  have hW := h.cs
  obtain ⟨g, r1, -⟩ := g3 hK
  have hv := h.v2
  have h2 := h.tr (z := 0) (by decide)
  have hh2 : HH (up2 V 1 2 0) 10 (psC S) (psA S) := h2.hh
  refine wp_intro mL_can_i.1 [some (vR 1), some (vI x)] rfl rfl (Nat.le_of_ble_eq_true rfl) ?_
  intro X hG F C
  have hm := C.rm
  refine aw_aload_0 (q := 1) F dL_can_0 rfl ?_
  refine aw_aload_0 (q := 2) F dL_can_1 rfl ?_
  refine av_getaE (q := 5) F fL_23 dL_can_2 rfl rfl (by first | exact hW.o | exact hW.ho | exact hW.to | exact hW.t.a4 | exact hW.t.a5 | exact hW.t.a6 | exact ha) hW.p6 ?_
  refine aw_iload_1 (q := 6) F dL_can_5 rfl ?_
  refine av_callV1 (q := 9) (ci := 2) F hm mH_isStep_i mH_isStep_n lL_157 dL_can_6 rfl rfl rfl (by first | exact hW.o | exact hW.ho | exact hW.to | exact hW.t.a4 | exact hW.t.a5 | exact hW.t.a6 | exact ha) (by decide) (Nat.le_refl _) (Nat.le_refl _) (Nat.le_of_ble_eq_true rfl) (wH_isStep hW.h (fun c6 => ?_) (fun c6 => ?_))
  · refine aw_iconst (q := 10) F dL_can_9 rfl (by decide) ?_
    refine av_callV2 (q := 13) (ci := 7) F hm mL_passes_i mL_passes_n lL_114 dL_can_10 rfl rfl rfl (by first | exact hW.o | exact hW.ho | exact hW.to | exact hW.t.a4 | exact hW.t.a5 | exact hW.t.a6 | exact ha) (by decide) (Nat.le_refl _) (Nat.le_refl _) (Nat.le_of_ble_eq_true rfl) (wL_passes hW (fun c10 d10 => ?_) (fun c10 => ?_) (fun c10 d10 => ?_))
    · refine aw_if_ne (q := 16) (t := 18) F dL_can_13 rfl (by decide) (fun c13 => ?_) (fun c13 => absurd c13 (by decide))
      refine aw_aload_0 (q := 19) F dL_can_18 rfl ?_
      refine av_getaE (q := 22) F fL_23 dL_can_19 rfl rfl (by first | exact hW.o | exact hW.ho | exact hW.to | exact hW.t.a4 | exact hW.t.a5 | exact hW.t.a6 | exact ha) hW.p6 ?_
      refine aw_iload_1 (q := 23) F dL_can_22 rfl ?_
      refine aw_aload_0 (q := 24) F dL_can_23 rfl ?_
      refine av_getaE (q := 27) F fL_23 dL_can_24 rfl rfl (by first | exact hW.o | exact hW.ho | exact hW.to | exact hW.t.a4 | exact hW.t.a5 | exact hW.t.a6 | exact ha) hW.p6 ?_
      refine av_callV0 (q := 30) (ci := 2) F hm mH_everybody_i mH_everybody_n lL_160 dL_can_27 rfl rfl rfl (by first | exact hW.o | exact hW.ho | exact hW.to | exact hW.t.a4 | exact hW.t.a5 | exact hW.t.a6 | exact ha) (by decide) (Nat.le_refl _) (Nat.le_refl _) (Nat.le_of_ble_eq_true rfl) (wH_everybody hW.h hh2 ?_)
      refine av_callV2 (q := 33) (ci := 2) F hm mH_may_i mH_may_n lL_164 dL_can_30 rfl rfl rfl (by first | exact hW.o | exact hW.ho | exact hW.to | exact hW.t.a4 | exact hW.t.a5 | exact hW.t.a6 | exact ha) (by decide) (Nat.le_refl _) (Nat.le_refl _) (Nat.le_of_ble_eq_true rfl) (wH_may (th := allP (psC S)) rfl (allP_lt hh2.1) hW.h hh2 (fun a30 b30 c30 => ?_) (fun c30 => ?_))
      · refine aw_if_eq (q := 36) (t := 40) F dL_can_33 rfl (by decide) (fun c33 => absurd c33 (by decide)) (fun c33 => ?_)
        refine aw_iconst (q := 37) F dL_can_36 rfl (by decide) ?_
        refine aw_goto (t := 41) F dL_can_37 (by decide) ?_
        refine aw_iret F C dL_can_41 rfl (Nat.le_refl _) (Nat.le_refl _) ?_
        first | (refine kI (h.now (by decide) (g (by omega) trivial)) ?_; rw [c30]; rfl) | (exfalso; omega)
      · refine aw_if_eq (q := 36) (t := 40) F dL_can_33 rfl (by decide) (fun c33 => ?_) (fun c33 => absurd c33 (by decide))
        refine aw_iconst (q := 41) F dL_can_40 rfl (by decide) ?_
        refine aw_iret F C dL_can_41 rfl (Nat.le_refl _) (Nat.le_refl _) ?_
        first | (refine kI (h.now (by decide) (g (by omega) trivial)) ?_; rw [c30 (by omega) (by omega)]; rfl) | (exfalso; omega)
    · refine aw_if_ne (q := 16) (t := 18) F dL_can_13 rfl (by decide) (fun c13 => absurd c13 (by decide)) (fun c13 => ?_)
      refine aw_iconst (q := 17) F dL_can_16 rfl (by decide) ?_
      refine aw_iret F C dL_can_17 rfl (Nat.le_refl _) (Nat.le_refl _) ?_
      first | exact h.now (by decide) (r1 (by omega)) | (exfalso; omega)
    · refine aw_if_ne (q := 16) (t := 18) F dL_can_13 rfl (by decide) (fun c13 => absurd c13 (by decide)) (fun c13 => ?_)
      refine aw_iconst (q := 17) F dL_can_16 rfl (by decide) ?_
      refine aw_iret F C dL_can_17 rfl (Nat.le_refl _) (Nat.le_refl _) ?_
      first | exact h.now (by decide) (r1 (by omega)) | (exfalso; omega)
  · refine aw_iconst (q := 10) F dL_can_9 rfl (by decide) ?_
    refine av_callV2 (q := 13) (ci := 7) F hm mL_passes_i mL_passes_n lL_114 dL_can_10 rfl rfl rfl (by first | exact hW.o | exact hW.ho | exact hW.to | exact hW.t.a4 | exact hW.t.a5 | exact hW.t.a6 | exact ha) (by decide) (Nat.le_refl _) (Nat.le_refl _) (Nat.le_of_ble_eq_true rfl) (wL_passes hW (fun c10 d10 => ?_) (fun c10 => ?_) (fun c10 d10 => ?_))
    · refine aw_if_ne (q := 16) (t := 18) F dL_can_13 rfl (by decide) (fun c13 => ?_) (fun c13 => absurd c13 (by decide))
      refine aw_aload_0 (q := 19) F dL_can_18 rfl ?_
      refine av_getaE (q := 22) F fL_23 dL_can_19 rfl rfl (by first | exact hW.o | exact hW.ho | exact hW.to | exact hW.t.a4 | exact hW.t.a5 | exact hW.t.a6 | exact ha) hW.p6 ?_
      refine aw_iload_1 (q := 23) F dL_can_22 rfl ?_
      refine aw_aload_0 (q := 24) F dL_can_23 rfl ?_
      refine av_getaE (q := 27) F fL_23 dL_can_24 rfl rfl (by first | exact hW.o | exact hW.ho | exact hW.to | exact hW.t.a4 | exact hW.t.a5 | exact hW.t.a6 | exact ha) hW.p6 ?_
      refine av_callV0 (q := 30) (ci := 2) F hm mH_everybody_i mH_everybody_n lL_160 dL_can_27 rfl rfl rfl (by first | exact hW.o | exact hW.ho | exact hW.to | exact hW.t.a4 | exact hW.t.a5 | exact hW.t.a6 | exact ha) (by decide) (Nat.le_refl _) (Nat.le_refl _) (Nat.le_of_ble_eq_true rfl) (wH_everybody hW.h hh2 ?_)
      refine av_callV2 (q := 33) (ci := 2) F hm mH_may_i mH_may_n lL_164 dL_can_30 rfl rfl rfl (by first | exact hW.o | exact hW.ho | exact hW.to | exact hW.t.a4 | exact hW.t.a5 | exact hW.t.a6 | exact ha) (by decide) (Nat.le_refl _) (Nat.le_refl _) (Nat.le_of_ble_eq_true rfl) (wH_may (th := allP (psC S)) rfl (allP_lt hh2.1) hW.h hh2 (fun a30 b30 c30 => ?_) (fun c30 => ?_))
      · refine aw_if_eq (q := 36) (t := 40) F dL_can_33 rfl (by decide) (fun c33 => absurd c33 (by decide)) (fun c33 => ?_)
        refine aw_iconst (q := 37) F dL_can_36 rfl (by decide) ?_
        refine aw_goto (t := 41) F dL_can_37 (by decide) ?_
        refine aw_iret F C dL_can_41 rfl (Nat.le_refl _) (Nat.le_refl _) ?_
        first | (refine kI (h.now (by decide) (g (by omega) trivial)) ?_; rw [c30]; rfl) | (exfalso; omega)
      · refine aw_if_eq (q := 36) (t := 40) F dL_can_33 rfl (by decide) (fun c33 => ?_) (fun c33 => absurd c33 (by decide))
        refine aw_iconst (q := 41) F dL_can_40 rfl (by decide) ?_
        refine aw_iret F C dL_can_41 rfl (Nat.le_refl _) (Nat.le_refl _) ?_
        first | (refine kI (h.now (by decide) (g (by omega) trivial)) ?_; rw [c30 (by omega) (by omega)]; rfl) | (exfalso; omega)
    · refine aw_if_ne (q := 16) (t := 18) F dL_can_13 rfl (by decide) (fun c13 => absurd c13 (by decide)) (fun c13 => ?_)
      refine aw_iconst (q := 17) F dL_can_16 rfl (by decide) ?_
      refine aw_iret F C dL_can_17 rfl (Nat.le_refl _) (Nat.le_refl _) ?_
      first | exact h.now (by decide) (r1 (by omega)) | (exfalso; omega)
    · refine aw_if_ne (q := 16) (t := 18) F dL_can_13 rfl (by decide) (fun c13 => absurd c13 (by decide)) (fun c13 => ?_)
      refine aw_iconst (q := 17) F dL_can_16 rfl (by decide) ?_
      refine aw_iret F C dL_can_17 rfl (Nat.le_refl _) (Nat.le_refl _) ?_
      first | exact h.now (by decide) (r1 (by omega)) | (exfalso; omega)
theorem wL_door {x w : Int} (h : CW V σ ow y S kn) (hK : CK K V σ ow (setR S (wy ((0 ≤ x ∧ x < tDn (psT S)) ∧ 0 ≤ w ∧ w ≤ 5) True)) kn (some (vI (rfD (wy ((0 ≤ x ∧ x < tDn (psT S)) ∧ 0 ≤ w ∧ w ≤ 5) True) (vDoor S x.toNat w) (-1))))) : Wp G 2 mL_door [vR 1, vI x, vI w] (V, σ) 0 0 K := by
  have hW := h.cs
  obtain ⟨g, r1, -⟩ := g3 hK
  have hv := h.v0
  have ed : dN (psC S) = tDn (psT S) := rfl
  have h2 := h.tr (z := 0) (by decide)
  have hh2 : HH (up2 V 1 2 0) 10 (psC S) (psA S) := h2.hh
  have hT := h.oT
  have hd4 : tDn (psT S) ≤ 4 := hT.2.1
  have hlk : tLk (psT S) < 2147483648 := by have := hT.2.2.2.1; have := two_le hT.2.1; omega
  have hnl : (psS S).2.1 < 2147483648 := by have := h.oS.2.2.1; have := two_le hT.2.1; omega
  have ht3 : up2 V 1 2 0 (dT y) 3 = tLk (psT S) := h2.tv.1.2.2.2.1
  have hn6 : up2 V 1 2 0 10 6 = (psS S).2.1 := h2.hh.2.1.2.2.2.2.2.2.1
  have hl7 : up2 V 1 2 0 10 7 = lst (psC S) (psA S) := h2.hh.2.2.2.2.1
  have gg := fun (a : (0 ≤ x ∧ x < tDn (psT S)) ∧ 0 ≤ w ∧ w ≤ 5) => h.now (by decide) (g a trivial)
  refine wp_intro mL_door_i.1 [some (vR 1), some (vI x), some (vI w)] rfl rfl (Nat.le_of_ble_eq_true rfl) ?_
  intro X hG F C
  have hm := C.rm
  refine aw_aload_0 (q := 1) F dL_door_0 rfl ?_
  refine aw_aload_0 (q := 2) F dL_door_1 rfl ?_
  refine av_getaE (q := 5) F fL_23 dL_door_2 rfl rfl (by first | exact hW.o | exact hW.ho | exact hW.to | exact hW.t.a4 | exact hW.t.a5 | exact hW.t.a6 | exact ha) hW.p6 ?_
  refine aw_iload_1 (q := 6) F dL_door_5 rfl ?_
  refine av_callV1 (q := 9) (ci := 2) F hm mH_isDoor_i mH_isDoor_n lL_110 dL_door_6 rfl rfl rfl (by first | exact hW.o | exact hW.ho | exact hW.to | exact hW.t.a4 | exact hW.t.a5 | exact hW.t.a6 | exact ha) (by decide) (Nat.le_refl _) (Nat.le_refl _) (Nat.le_of_ble_eq_true rfl) (wH_isDoor hW.h (fun c6 => ?_) (fun c6 => ?_))
  · refine aw_if_eq (q := 12) (t := 25) F dL_door_9 rfl (by decide) (fun c9 => absurd c9 (by decide)) (fun c9 => ?_)
    refine aw_iload_2 (q := 13) F dL_door_12 rfl ?_
    refine aw_if_lt (q := 16) (t := 25) F dL_door_13 rfl (by decide) (fun c13 => ?_) (fun c13 => ?_)
    · refine aw_iconst (q := 26) F dL_door_25 rfl (by decide) ?_
      refine aw_iconst (q := 27) F dL_door_26 rfl (by decide) ?_
      refine av_callV2 (q := 30) (ci := 7) F hm mL_passes_i mL_passes_n lL_114 dL_door_27 rfl rfl rfl (by first | exact hW.o | exact hW.ho | exact hW.to | exact hW.t.a4 | exact hW.t.a5 | exact hW.t.a6 | exact ha) (by decide) (Nat.le_refl _) (Nat.le_refl _) (Nat.le_of_ble_eq_true rfl) (wL_passes hW (fun c27 d27 => ?_) (fun c27 => ?_) (fun c27 d27 => ?_))
      · refine aw_if_ne (q := 33) (t := 35) F dL_door_30 rfl (by decide) (fun c30 => ?_) (fun c30 => absurd c30 (by decide))
        refine aw_iload_2 (q := 36) F dL_door_35 rfl ?_
        refine aw_table (t := 125) F (fun i => [72, 81, 90, 102, 114].getD i 0) dL_door_36 (by decide) (by decide) (by decide) (fun i hi c36 => ?_) (fun c36 => ?_)
        · match i, hi, c36 with
          | 0, _, c36 =>
            show AW X 72 _ _ _ _ _
            refine aw_aload_0 (q := 73) F dL_door_72 rfl ?_
            refine av_getaE (q := 76) F fL_23 dL_door_73 rfl rfl (by first | exact hW.o | exact hW.ho | exact hW.to | exact hW.t.a4 | exact hW.t.a5 | exact hW.t.a6 | exact ha) hW.p6 ?_
            refine aw_iload_1 (q := 77) F dL_door_76 rfl ?_
            refine av_callV1 (q := 80) (ci := 2) F hm mH_kindOf_i mH_kindOf_n lL_118 dL_door_77 rfl rfl rfl (by first | exact hW.o | exact hW.ho | exact hW.to | exact hW.t.a4 | exact hW.t.a5 | exact hW.t.a6 | exact ha) (by decide) (Nat.le_refl _) (Nat.le_refl _) (Nat.le_of_ble_eq_true rfl) (wH_kindOf hW.h hh2 (fun a77 b77 => ?_) (fun c77 => ?_))
            · refine aw_iret F C dL_door_80 rfl (Nat.le_refl _) (Nat.le_refl _) ?_
              first | (exfalso; omega) | (refine kI (gg (by omega)) ?_; rw [show w = 0 by omega]; rfl) | exact absurd ⟨by omega, by omega⟩ c77
            · refine aw_iret F C dL_door_80 rfl (Nat.le_refl _) (Nat.le_refl _) ?_
              first | (exfalso; omega) | (refine kI (gg (by omega)) ?_; rw [show w = 0 by omega]; rfl) | exact absurd ⟨by omega, by omega⟩ c77
          | 1, _, c36 =>
            show AW X 81 _ _ _ _ _
            refine aw_aload_0 (q := 82) F dL_door_81 rfl ?_
            refine av_getaE (q := 85) F fL_23 dL_door_82 rfl rfl (by first | exact hW.o | exact hW.ho | exact hW.to | exact hW.t.a4 | exact hW.t.a5 | exact hW.t.a6 | exact ha) hW.p6 ?_
            refine aw_iload_1 (q := 86) F dL_door_85 rfl ?_
            refine av_callV1 (q := 89) (ci := 2) F hm mH_leadOf_i mH_leadOf_n lL_121 dL_door_86 rfl rfl rfl (by first | exact hW.o | exact hW.ho | exact hW.to | exact hW.t.a4 | exact hW.t.a5 | exact hW.t.a6 | exact ha) (by decide) (Nat.le_refl _) (Nat.le_refl _) (Nat.le_of_ble_eq_true rfl) (wH_leadOf hW.h hh2 (fun a86 b86 => ?_) (fun c86 => ?_))
            · refine aw_iret F C dL_door_89 rfl (Nat.le_refl _) (Nat.le_refl _) ?_
              first | (exfalso; omega) | (refine kI (gg (by omega)) ?_; rw [show w = 1 by omega]; rfl) | exact absurd ⟨by omega, by omega⟩ c86
            · refine aw_iret F C dL_door_89 rfl (Nat.le_refl _) (Nat.le_refl _) ?_
              first | (exfalso; omega) | (refine kI (gg (by omega)) ?_; rw [show w = 1 by omega]; rfl) | exact absurd ⟨by omega, by omega⟩ c86
          | 2, _, c36 =>
            show AW X 90 _ _ _ _ _
            refine aw_aload_0 (q := 91) F dL_door_90 rfl ?_
            refine av_getaE (q := 94) F fL_16 dL_door_91 rfl rfl (by first | exact hW.o | exact hW.ho | exact hW.to | exact hW.t.a4 | exact hW.t.a5 | exact hW.t.a6 | exact ha) hW.p5 ?_
            refine av_geti (q := 97) F fL_124 dL_door_94 rfl rfl (by first | exact hW.o | exact hW.ho | exact hW.to | exact hW.t.a4 | exact hW.t.a5 | exact hW.t.a6 | exact ha) ?_
            refine aw_iload_1 (q := 98) F dL_door_97 rfl ?_
            refine aw_ishr (q := 99) F dL_door_98 rfl ?_
            refine aw_iconst (q := 100) F dL_door_99 rfl (by decide) ?_
            refine aw_iand (q := 101) F dL_door_100 rfl ?_
            rw [ht3, show x = ((x.toNat : Nat) : Int) by omega, bit_n hlk (by omega)]
            refine aw_iret F C dL_door_101 rfl (Nat.le_refl _) (Nat.le_refl _) ?_
            first | (exfalso; omega) | (refine kI (gg (by omega)) ?_; rw [show w = 2 by omega]; rfl)
          | 3, _, c36 =>
            show AW X 102 _ _ _ _ _
            refine aw_aload_0 (q := 103) F dL_door_102 rfl ?_
            refine av_getaE (q := 106) F fL_23 dL_door_103 rfl rfl (by first | exact hW.o | exact hW.ho | exact hW.to | exact hW.t.a4 | exact hW.t.a5 | exact hW.t.a6 | exact ha) hW.p6 ?_
            refine av_geti (q := 109) F fL_127 dL_door_106 rfl rfl (by first | exact hW.o | exact hW.ho | exact hW.to | exact hW.t.a4 | exact hW.t.a5 | exact hW.t.a6 | exact ha) ?_
            refine aw_iload_1 (q := 110) F dL_door_109 rfl ?_
            refine aw_ishr (q := 111) F dL_door_110 rfl ?_
            refine aw_iconst (q := 112) F dL_door_111 rfl (by decide) ?_
            refine aw_iand (q := 113) F dL_door_112 rfl ?_
            rw [hn6, show x = ((x.toNat : Nat) : Int) by omega, bit_n hnl (by omega)]
            refine aw_iret F C dL_door_113 rfl (Nat.le_refl _) (Nat.le_refl _) ?_
            first | (exfalso; omega) | (refine kI (gg (by omega)) ?_; rw [show w = 3 by omega]; rfl)
          | 4, _, c36 =>
            show AW X 114 _ _ _ _ _
            refine aw_aload_0 (q := 115) F dL_door_114 rfl ?_
            refine av_getaE (q := 118) F fL_23 dL_door_115 rfl rfl (by first | exact hW.o | exact hW.ho | exact hW.to | exact hW.t.a4 | exact hW.t.a5 | exact hW.t.a6 | exact ha) hW.p6 ?_
            refine aw_iload_1 (q := 119) F dL_door_118 rfl ?_
            refine aw_iconst (q := 120) F dL_door_119 rfl (by decide) ?_
            refine aw_iadd (q := 121) F dL_door_120 rfl (by constructor <;> omega) ?_
            refine av_callV1 (q := 124) (ci := 2) F hm mH_peopleAt_i mH_peopleAt_n lL_130 dL_door_121 rfl rfl rfl (by first | exact hW.o | exact hW.ho | exact hW.to | exact hW.t.a4 | exact hW.t.a5 | exact hW.t.a6 | exact ha) (by decide) (Nat.le_refl _) (Nat.le_refl _) (Nat.le_of_ble_eq_true rfl) (wH_peopleAt (r := x.toNat + 1) (by omega) hW.h hh2 ?_)
            refine aw_iret F C dL_door_124 rfl (Nat.le_refl _) (Nat.le_refl _) ?_
            first | (exfalso; omega) | (refine kI (gg (by omega)) ?_; rw [show w = 4 by omega]; rfl)
          | i + 5, hi, _ => exact absurd hi (by show ¬ i + 5 < 5; omega)
        · refine aw_aload_0 (q := 126) F dL_door_125 rfl ?_
          refine av_getaE (q := 129) F fL_23 dL_door_126 rfl rfl (by first | exact hW.o | exact hW.ho | exact hW.to | exact hW.t.a4 | exact hW.t.a5 | exact hW.t.a6 | exact ha) hW.p6 ?_
          refine av_geti (q := 132) F fL_133 dL_door_129 rfl rfl (by first | exact hW.o | exact hW.ho | exact hW.to | exact hW.t.a4 | exact hW.t.a5 | exact hW.t.a6 | exact ha) ?_
          refine aw_iload_1 (q := 133) F dL_door_132 rfl ?_
          refine aw_icmp_ne (q := 136) (t := 140) F dL_door_133 rfl (by decide) (fun c133 => ?_) (fun c133 => ?_)
          · refine aw_iconst (q := 141) F dL_door_140 rfl (by decide) ?_
            refine aw_iret F C dL_door_141 rfl (Nat.le_refl _) (Nat.le_refl _) ?_
            first | (exfalso; omega) | (refine kI (gg (by omega)) ?_; rw [show w = 5 by omega]; show (if lst (psC S) (psA S) = x.toNat then (1 : Int) else 0) = _; first | rw [if_pos (by omega)] | rw [if_neg (by omega)])
          · refine aw_iconst (q := 137) F dL_door_136 rfl (by decide) ?_
            refine aw_goto (t := 141) F dL_door_137 (by decide) ?_
            refine aw_iret F C dL_door_141 rfl (Nat.le_refl _) (Nat.le_refl _) ?_
            first | (exfalso; omega) | (refine kI (gg (by omega)) ?_; rw [show w = 5 by omega]; show (if lst (psC S) (psA S) = x.toNat then (1 : Int) else 0) = _; first | rw [if_pos (by omega)] | rw [if_neg (by omega)])
      · refine aw_if_ne (q := 33) (t := 35) F dL_door_30 rfl (by decide) (fun c30 => absurd c30 (by decide)) (fun c30 => ?_)
        refine aw_iconst (q := 34) F dL_door_33 rfl (by decide) ?_
        refine aw_iret F C dL_door_34 rfl (Nat.le_refl _) (Nat.le_refl _) ?_
        first | exact h.now (by decide) (r1 (by omega)) | (exfalso; omega)
      · refine aw_if_ne (q := 33) (t := 35) F dL_door_30 rfl (by decide) (fun c30 => absurd c30 (by decide)) (fun c30 => ?_)
        refine aw_iconst (q := 34) F dL_door_33 rfl (by decide) ?_
        refine aw_iret F C dL_door_34 rfl (Nat.le_refl _) (Nat.le_refl _) ?_
        first | exact h.now (by decide) (r1 (by omega)) | (exfalso; omega)
    · refine aw_iload_2 (q := 17) F dL_door_16 rfl ?_
      refine aw_iconst (q := 18) F dL_door_17 rfl (by decide) ?_
      refine aw_icmp_gt (q := 21) (t := 25) F dL_door_18 rfl (by decide) (fun c18 => ?_) (fun c18 => ?_)
      · refine aw_iconst (q := 26) F dL_door_25 rfl (by decide) ?_
        refine aw_iconst (q := 27) F dL_door_26 rfl (by decide) ?_
        refine av_callV2 (q := 30) (ci := 7) F hm mL_passes_i mL_passes_n lL_114 dL_door_27 rfl rfl rfl (by first | exact hW.o | exact hW.ho | exact hW.to | exact hW.t.a4 | exact hW.t.a5 | exact hW.t.a6 | exact ha) (by decide) (Nat.le_refl _) (Nat.le_refl _) (Nat.le_of_ble_eq_true rfl) (wL_passes hW (fun c27 d27 => ?_) (fun c27 => ?_) (fun c27 d27 => ?_))
        · refine aw_if_ne (q := 33) (t := 35) F dL_door_30 rfl (by decide) (fun c30 => ?_) (fun c30 => absurd c30 (by decide))
          refine aw_iload_2 (q := 36) F dL_door_35 rfl ?_
          refine aw_table (t := 125) F (fun i => [72, 81, 90, 102, 114].getD i 0) dL_door_36 (by decide) (by decide) (by decide) (fun i hi c36 => ?_) (fun c36 => ?_)
          · match i, hi, c36 with
            | 0, _, c36 =>
              show AW X 72 _ _ _ _ _
              refine aw_aload_0 (q := 73) F dL_door_72 rfl ?_
              refine av_getaE (q := 76) F fL_23 dL_door_73 rfl rfl (by first | exact hW.o | exact hW.ho | exact hW.to | exact hW.t.a4 | exact hW.t.a5 | exact hW.t.a6 | exact ha) hW.p6 ?_
              refine aw_iload_1 (q := 77) F dL_door_76 rfl ?_
              refine av_callV1 (q := 80) (ci := 2) F hm mH_kindOf_i mH_kindOf_n lL_118 dL_door_77 rfl rfl rfl (by first | exact hW.o | exact hW.ho | exact hW.to | exact hW.t.a4 | exact hW.t.a5 | exact hW.t.a6 | exact ha) (by decide) (Nat.le_refl _) (Nat.le_refl _) (Nat.le_of_ble_eq_true rfl) (wH_kindOf hW.h hh2 (fun a77 b77 => ?_) (fun c77 => ?_))
              · refine aw_iret F C dL_door_80 rfl (Nat.le_refl _) (Nat.le_refl _) ?_
                first | (exfalso; omega) | (refine kI (gg (by omega)) ?_; rw [show w = 0 by omega]; rfl) | exact absurd ⟨by omega, by omega⟩ c77
              · refine aw_iret F C dL_door_80 rfl (Nat.le_refl _) (Nat.le_refl _) ?_
                first | (exfalso; omega) | (refine kI (gg (by omega)) ?_; rw [show w = 0 by omega]; rfl) | exact absurd ⟨by omega, by omega⟩ c77
            | 1, _, c36 =>
              show AW X 81 _ _ _ _ _
              refine aw_aload_0 (q := 82) F dL_door_81 rfl ?_
              refine av_getaE (q := 85) F fL_23 dL_door_82 rfl rfl (by first | exact hW.o | exact hW.ho | exact hW.to | exact hW.t.a4 | exact hW.t.a5 | exact hW.t.a6 | exact ha) hW.p6 ?_
              refine aw_iload_1 (q := 86) F dL_door_85 rfl ?_
              refine av_callV1 (q := 89) (ci := 2) F hm mH_leadOf_i mH_leadOf_n lL_121 dL_door_86 rfl rfl rfl (by first | exact hW.o | exact hW.ho | exact hW.to | exact hW.t.a4 | exact hW.t.a5 | exact hW.t.a6 | exact ha) (by decide) (Nat.le_refl _) (Nat.le_refl _) (Nat.le_of_ble_eq_true rfl) (wH_leadOf hW.h hh2 (fun a86 b86 => ?_) (fun c86 => ?_))
              · refine aw_iret F C dL_door_89 rfl (Nat.le_refl _) (Nat.le_refl _) ?_
                first | (exfalso; omega) | (refine kI (gg (by omega)) ?_; rw [show w = 1 by omega]; rfl) | exact absurd ⟨by omega, by omega⟩ c86
              · refine aw_iret F C dL_door_89 rfl (Nat.le_refl _) (Nat.le_refl _) ?_
                first | (exfalso; omega) | (refine kI (gg (by omega)) ?_; rw [show w = 1 by omega]; rfl) | exact absurd ⟨by omega, by omega⟩ c86
            | 2, _, c36 =>
              show AW X 90 _ _ _ _ _
              refine aw_aload_0 (q := 91) F dL_door_90 rfl ?_
              refine av_getaE (q := 94) F fL_16 dL_door_91 rfl rfl (by first | exact hW.o | exact hW.ho | exact hW.to | exact hW.t.a4 | exact hW.t.a5 | exact hW.t.a6 | exact ha) hW.p5 ?_
              refine av_geti (q := 97) F fL_124 dL_door_94 rfl rfl (by first | exact hW.o | exact hW.ho | exact hW.to | exact hW.t.a4 | exact hW.t.a5 | exact hW.t.a6 | exact ha) ?_
              refine aw_iload_1 (q := 98) F dL_door_97 rfl ?_
              refine aw_ishr (q := 99) F dL_door_98 rfl ?_
              refine aw_iconst (q := 100) F dL_door_99 rfl (by decide) ?_
              refine aw_iand (q := 101) F dL_door_100 rfl ?_
              rw [ht3, show x = ((x.toNat : Nat) : Int) by omega, bit_n hlk (by omega)]
              refine aw_iret F C dL_door_101 rfl (Nat.le_refl _) (Nat.le_refl _) ?_
              first | (exfalso; omega) | (refine kI (gg (by omega)) ?_; rw [show w = 2 by omega]; rfl)
            | 3, _, c36 =>
              show AW X 102 _ _ _ _ _
              refine aw_aload_0 (q := 103) F dL_door_102 rfl ?_
              refine av_getaE (q := 106) F fL_23 dL_door_103 rfl rfl (by first | exact hW.o | exact hW.ho | exact hW.to | exact hW.t.a4 | exact hW.t.a5 | exact hW.t.a6 | exact ha) hW.p6 ?_
              refine av_geti (q := 109) F fL_127 dL_door_106 rfl rfl (by first | exact hW.o | exact hW.ho | exact hW.to | exact hW.t.a4 | exact hW.t.a5 | exact hW.t.a6 | exact ha) ?_
              refine aw_iload_1 (q := 110) F dL_door_109 rfl ?_
              refine aw_ishr (q := 111) F dL_door_110 rfl ?_
              refine aw_iconst (q := 112) F dL_door_111 rfl (by decide) ?_
              refine aw_iand (q := 113) F dL_door_112 rfl ?_
              rw [hn6, show x = ((x.toNat : Nat) : Int) by omega, bit_n hnl (by omega)]
              refine aw_iret F C dL_door_113 rfl (Nat.le_refl _) (Nat.le_refl _) ?_
              first | (exfalso; omega) | (refine kI (gg (by omega)) ?_; rw [show w = 3 by omega]; rfl)
            | 4, _, c36 =>
              show AW X 114 _ _ _ _ _
              refine aw_aload_0 (q := 115) F dL_door_114 rfl ?_
              refine av_getaE (q := 118) F fL_23 dL_door_115 rfl rfl (by first | exact hW.o | exact hW.ho | exact hW.to | exact hW.t.a4 | exact hW.t.a5 | exact hW.t.a6 | exact ha) hW.p6 ?_
              refine aw_iload_1 (q := 119) F dL_door_118 rfl ?_
              refine aw_iconst (q := 120) F dL_door_119 rfl (by decide) ?_
              refine aw_iadd (q := 121) F dL_door_120 rfl (by constructor <;> omega) ?_
              refine av_callV1 (q := 124) (ci := 2) F hm mH_peopleAt_i mH_peopleAt_n lL_130 dL_door_121 rfl rfl rfl (by first | exact hW.o | exact hW.ho | exact hW.to | exact hW.t.a4 | exact hW.t.a5 | exact hW.t.a6 | exact ha) (by decide) (Nat.le_refl _) (Nat.le_refl _) (Nat.le_of_ble_eq_true rfl) (wH_peopleAt (r := x.toNat + 1) (by omega) hW.h hh2 ?_)
              refine aw_iret F C dL_door_124 rfl (Nat.le_refl _) (Nat.le_refl _) ?_
              first | (exfalso; omega) | (refine kI (gg (by omega)) ?_; rw [show w = 4 by omega]; rfl)
            | i + 5, hi, _ => exact absurd hi (by show ¬ i + 5 < 5; omega)
          · refine aw_aload_0 (q := 126) F dL_door_125 rfl ?_
            refine av_getaE (q := 129) F fL_23 dL_door_126 rfl rfl (by first | exact hW.o | exact hW.ho | exact hW.to | exact hW.t.a4 | exact hW.t.a5 | exact hW.t.a6 | exact ha) hW.p6 ?_
            refine av_geti (q := 132) F fL_133 dL_door_129 rfl rfl (by first | exact hW.o | exact hW.ho | exact hW.to | exact hW.t.a4 | exact hW.t.a5 | exact hW.t.a6 | exact ha) ?_
            refine aw_iload_1 (q := 133) F dL_door_132 rfl ?_
            refine aw_icmp_ne (q := 136) (t := 140) F dL_door_133 rfl (by decide) (fun c133 => ?_) (fun c133 => ?_)
            · refine aw_iconst (q := 141) F dL_door_140 rfl (by decide) ?_
              refine aw_iret F C dL_door_141 rfl (Nat.le_refl _) (Nat.le_refl _) ?_
              first | (exfalso; omega) | (refine kI (gg (by omega)) ?_; rw [show w = 5 by omega]; show (if lst (psC S) (psA S) = x.toNat then (1 : Int) else 0) = _; first | rw [if_pos (by omega)] | rw [if_neg (by omega)])
            · refine aw_iconst (q := 137) F dL_door_136 rfl (by decide) ?_
              refine aw_goto (t := 141) F dL_door_137 (by decide) ?_
              refine aw_iret F C dL_door_141 rfl (Nat.le_refl _) (Nat.le_refl _) ?_
              first | (exfalso; omega) | (refine kI (gg (by omega)) ?_; rw [show w = 5 by omega]; show (if lst (psC S) (psA S) = x.toNat then (1 : Int) else 0) = _; first | rw [if_pos (by omega)] | rw [if_neg (by omega)])
        · refine aw_if_ne (q := 33) (t := 35) F dL_door_30 rfl (by decide) (fun c30 => absurd c30 (by decide)) (fun c30 => ?_)
          refine aw_iconst (q := 34) F dL_door_33 rfl (by decide) ?_
          refine aw_iret F C dL_door_34 rfl (Nat.le_refl _) (Nat.le_refl _) ?_
          first | exact h.now (by decide) (r1 (by omega)) | (exfalso; omega)
        · refine aw_if_ne (q := 33) (t := 35) F dL_door_30 rfl (by decide) (fun c30 => absurd c30 (by decide)) (fun c30 => ?_)
          refine aw_iconst (q := 34) F dL_door_33 rfl (by decide) ?_
          refine aw_iret F C dL_door_34 rfl (Nat.le_refl _) (Nat.le_refl _) ?_
          first | exact h.now (by decide) (r1 (by omega)) | (exfalso; omega)
      · refine aw_iconst (q := 22) F dL_door_21 rfl (by decide) ?_
        refine aw_goto (t := 26) F dL_door_22 (by decide) ?_
        refine aw_iconst (q := 27) F dL_door_26 rfl (by decide) ?_
        refine av_callV2 (q := 30) (ci := 7) F hm mL_passes_i mL_passes_n lL_114 dL_door_27 rfl rfl rfl (by first | exact hW.o | exact hW.ho | exact hW.to | exact hW.t.a4 | exact hW.t.a5 | exact hW.t.a6 | exact ha) (by decide) (Nat.le_refl _) (Nat.le_refl _) (Nat.le_of_ble_eq_true rfl) (wL_passes hW (fun c27 d27 => ?_) (fun c27 => ?_) (fun c27 d27 => ?_))
        · refine aw_if_ne (q := 33) (t := 35) F dL_door_30 rfl (by decide) (fun c30 => ?_) (fun c30 => absurd c30 (by decide))
          refine aw_iload_2 (q := 36) F dL_door_35 rfl ?_
          refine aw_table (t := 125) F (fun i => [72, 81, 90, 102, 114].getD i 0) dL_door_36 (by decide) (by decide) (by decide) (fun i hi c36 => ?_) (fun c36 => ?_)
          · match i, hi, c36 with
            | 0, _, c36 =>
              show AW X 72 _ _ _ _ _
              refine aw_aload_0 (q := 73) F dL_door_72 rfl ?_
              refine av_getaE (q := 76) F fL_23 dL_door_73 rfl rfl (by first | exact hW.o | exact hW.ho | exact hW.to | exact hW.t.a4 | exact hW.t.a5 | exact hW.t.a6 | exact ha) hW.p6 ?_
              refine aw_iload_1 (q := 77) F dL_door_76 rfl ?_
              refine av_callV1 (q := 80) (ci := 2) F hm mH_kindOf_i mH_kindOf_n lL_118 dL_door_77 rfl rfl rfl (by first | exact hW.o | exact hW.ho | exact hW.to | exact hW.t.a4 | exact hW.t.a5 | exact hW.t.a6 | exact ha) (by decide) (Nat.le_refl _) (Nat.le_refl _) (Nat.le_of_ble_eq_true rfl) (wH_kindOf hW.h hh2 (fun a77 b77 => ?_) (fun c77 => ?_))
              · refine aw_iret F C dL_door_80 rfl (Nat.le_refl _) (Nat.le_refl _) ?_
                first | (exfalso; omega) | (refine kI (gg (by omega)) ?_; rw [show w = 0 by omega]; rfl) | exact absurd ⟨by omega, by omega⟩ c77
              · refine aw_iret F C dL_door_80 rfl (Nat.le_refl _) (Nat.le_refl _) ?_
                first | (exfalso; omega) | (refine kI (gg (by omega)) ?_; rw [show w = 0 by omega]; rfl) | exact absurd ⟨by omega, by omega⟩ c77
            | 1, _, c36 =>
              show AW X 81 _ _ _ _ _
              refine aw_aload_0 (q := 82) F dL_door_81 rfl ?_
              refine av_getaE (q := 85) F fL_23 dL_door_82 rfl rfl (by first | exact hW.o | exact hW.ho | exact hW.to | exact hW.t.a4 | exact hW.t.a5 | exact hW.t.a6 | exact ha) hW.p6 ?_
              refine aw_iload_1 (q := 86) F dL_door_85 rfl ?_
              refine av_callV1 (q := 89) (ci := 2) F hm mH_leadOf_i mH_leadOf_n lL_121 dL_door_86 rfl rfl rfl (by first | exact hW.o | exact hW.ho | exact hW.to | exact hW.t.a4 | exact hW.t.a5 | exact hW.t.a6 | exact ha) (by decide) (Nat.le_refl _) (Nat.le_refl _) (Nat.le_of_ble_eq_true rfl) (wH_leadOf hW.h hh2 (fun a86 b86 => ?_) (fun c86 => ?_))
              · refine aw_iret F C dL_door_89 rfl (Nat.le_refl _) (Nat.le_refl _) ?_
                first | (exfalso; omega) | (refine kI (gg (by omega)) ?_; rw [show w = 1 by omega]; rfl) | exact absurd ⟨by omega, by omega⟩ c86
              · refine aw_iret F C dL_door_89 rfl (Nat.le_refl _) (Nat.le_refl _) ?_
                first | (exfalso; omega) | (refine kI (gg (by omega)) ?_; rw [show w = 1 by omega]; rfl) | exact absurd ⟨by omega, by omega⟩ c86
            | 2, _, c36 =>
              show AW X 90 _ _ _ _ _
              refine aw_aload_0 (q := 91) F dL_door_90 rfl ?_
              refine av_getaE (q := 94) F fL_16 dL_door_91 rfl rfl (by first | exact hW.o | exact hW.ho | exact hW.to | exact hW.t.a4 | exact hW.t.a5 | exact hW.t.a6 | exact ha) hW.p5 ?_
              refine av_geti (q := 97) F fL_124 dL_door_94 rfl rfl (by first | exact hW.o | exact hW.ho | exact hW.to | exact hW.t.a4 | exact hW.t.a5 | exact hW.t.a6 | exact ha) ?_
              refine aw_iload_1 (q := 98) F dL_door_97 rfl ?_
              refine aw_ishr (q := 99) F dL_door_98 rfl ?_
              refine aw_iconst (q := 100) F dL_door_99 rfl (by decide) ?_
              refine aw_iand (q := 101) F dL_door_100 rfl ?_
              rw [ht3, show x = ((x.toNat : Nat) : Int) by omega, bit_n hlk (by omega)]
              refine aw_iret F C dL_door_101 rfl (Nat.le_refl _) (Nat.le_refl _) ?_
              first | (exfalso; omega) | (refine kI (gg (by omega)) ?_; rw [show w = 2 by omega]; rfl)
            | 3, _, c36 =>
              show AW X 102 _ _ _ _ _
              refine aw_aload_0 (q := 103) F dL_door_102 rfl ?_
              refine av_getaE (q := 106) F fL_23 dL_door_103 rfl rfl (by first | exact hW.o | exact hW.ho | exact hW.to | exact hW.t.a4 | exact hW.t.a5 | exact hW.t.a6 | exact ha) hW.p6 ?_
              refine av_geti (q := 109) F fL_127 dL_door_106 rfl rfl (by first | exact hW.o | exact hW.ho | exact hW.to | exact hW.t.a4 | exact hW.t.a5 | exact hW.t.a6 | exact ha) ?_
              refine aw_iload_1 (q := 110) F dL_door_109 rfl ?_
              refine aw_ishr (q := 111) F dL_door_110 rfl ?_
              refine aw_iconst (q := 112) F dL_door_111 rfl (by decide) ?_
              refine aw_iand (q := 113) F dL_door_112 rfl ?_
              rw [hn6, show x = ((x.toNat : Nat) : Int) by omega, bit_n hnl (by omega)]
              refine aw_iret F C dL_door_113 rfl (Nat.le_refl _) (Nat.le_refl _) ?_
              first | (exfalso; omega) | (refine kI (gg (by omega)) ?_; rw [show w = 3 by omega]; rfl)
            | 4, _, c36 =>
              show AW X 114 _ _ _ _ _
              refine aw_aload_0 (q := 115) F dL_door_114 rfl ?_
              refine av_getaE (q := 118) F fL_23 dL_door_115 rfl rfl (by first | exact hW.o | exact hW.ho | exact hW.to | exact hW.t.a4 | exact hW.t.a5 | exact hW.t.a6 | exact ha) hW.p6 ?_
              refine aw_iload_1 (q := 119) F dL_door_118 rfl ?_
              refine aw_iconst (q := 120) F dL_door_119 rfl (by decide) ?_
              refine aw_iadd (q := 121) F dL_door_120 rfl (by constructor <;> omega) ?_
              refine av_callV1 (q := 124) (ci := 2) F hm mH_peopleAt_i mH_peopleAt_n lL_130 dL_door_121 rfl rfl rfl (by first | exact hW.o | exact hW.ho | exact hW.to | exact hW.t.a4 | exact hW.t.a5 | exact hW.t.a6 | exact ha) (by decide) (Nat.le_refl _) (Nat.le_refl _) (Nat.le_of_ble_eq_true rfl) (wH_peopleAt (r := x.toNat + 1) (by omega) hW.h hh2 ?_)
              refine aw_iret F C dL_door_124 rfl (Nat.le_refl _) (Nat.le_refl _) ?_
              first | (exfalso; omega) | (refine kI (gg (by omega)) ?_; rw [show w = 4 by omega]; rfl)
            | i + 5, hi, _ => exact absurd hi (by show ¬ i + 5 < 5; omega)
          · refine aw_aload_0 (q := 126) F dL_door_125 rfl ?_
            refine av_getaE (q := 129) F fL_23 dL_door_126 rfl rfl (by first | exact hW.o | exact hW.ho | exact hW.to | exact hW.t.a4 | exact hW.t.a5 | exact hW.t.a6 | exact ha) hW.p6 ?_
            refine av_geti (q := 132) F fL_133 dL_door_129 rfl rfl (by first | exact hW.o | exact hW.ho | exact hW.to | exact hW.t.a4 | exact hW.t.a5 | exact hW.t.a6 | exact ha) ?_
            refine aw_iload_1 (q := 133) F dL_door_132 rfl ?_
            refine aw_icmp_ne (q := 136) (t := 140) F dL_door_133 rfl (by decide) (fun c133 => ?_) (fun c133 => ?_)
            · refine aw_iconst (q := 141) F dL_door_140 rfl (by decide) ?_
              refine aw_iret F C dL_door_141 rfl (Nat.le_refl _) (Nat.le_refl _) ?_
              first | (exfalso; omega) | (refine kI (gg (by omega)) ?_; rw [show w = 5 by omega]; show (if lst (psC S) (psA S) = x.toNat then (1 : Int) else 0) = _; first | rw [if_pos (by omega)] | rw [if_neg (by omega)])
            · refine aw_iconst (q := 137) F dL_door_136 rfl (by decide) ?_
              refine aw_goto (t := 141) F dL_door_137 (by decide) ?_
              refine aw_iret F C dL_door_141 rfl (Nat.le_refl _) (Nat.le_refl _) ?_
              first | (exfalso; omega) | (refine kI (gg (by omega)) ?_; rw [show w = 5 by omega]; show (if lst (psC S) (psA S) = x.toNat then (1 : Int) else 0) = _; first | rw [if_pos (by omega)] | rw [if_neg (by omega)])
        · refine aw_if_ne (q := 33) (t := 35) F dL_door_30 rfl (by decide) (fun c30 => absurd c30 (by decide)) (fun c30 => ?_)
          refine aw_iconst (q := 34) F dL_door_33 rfl (by decide) ?_
          refine aw_iret F C dL_door_34 rfl (Nat.le_refl _) (Nat.le_refl _) ?_
          first | exact h.now (by decide) (r1 (by omega)) | (exfalso; omega)
        · refine aw_if_ne (q := 33) (t := 35) F dL_door_30 rfl (by decide) (fun c30 => absurd c30 (by decide)) (fun c30 => ?_)
          refine aw_iconst (q := 34) F dL_door_33 rfl (by decide) ?_
          refine aw_iret F C dL_door_34 rfl (Nat.le_refl _) (Nat.le_refl _) ?_
          first | exact h.now (by decide) (r1 (by omega)) | (exfalso; omega)
  · refine aw_if_eq (q := 12) (t := 25) F dL_door_9 rfl (by decide) (fun c9 => ?_) (fun c9 => absurd c9 (by decide))
    refine aw_iconst (q := 26) F dL_door_25 rfl (by decide) ?_
    refine aw_iconst (q := 27) F dL_door_26 rfl (by decide) ?_
    refine av_callV2 (q := 30) (ci := 7) F hm mL_passes_i mL_passes_n lL_114 dL_door_27 rfl rfl rfl (by first | exact hW.o | exact hW.ho | exact hW.to | exact hW.t.a4 | exact hW.t.a5 | exact hW.t.a6 | exact ha) (by decide) (Nat.le_refl _) (Nat.le_refl _) (Nat.le_of_ble_eq_true rfl) (wL_passes hW (fun c27 d27 => ?_) (fun c27 => ?_) (fun c27 d27 => ?_))
    · refine aw_if_ne (q := 33) (t := 35) F dL_door_30 rfl (by decide) (fun c30 => ?_) (fun c30 => absurd c30 (by decide))
      refine aw_iload_2 (q := 36) F dL_door_35 rfl ?_
      refine aw_table (t := 125) F (fun i => [72, 81, 90, 102, 114].getD i 0) dL_door_36 (by decide) (by decide) (by decide) (fun i hi c36 => ?_) (fun c36 => ?_)
      · match i, hi, c36 with
        | 0, _, c36 =>
          show AW X 72 _ _ _ _ _
          refine aw_aload_0 (q := 73) F dL_door_72 rfl ?_
          refine av_getaE (q := 76) F fL_23 dL_door_73 rfl rfl (by first | exact hW.o | exact hW.ho | exact hW.to | exact hW.t.a4 | exact hW.t.a5 | exact hW.t.a6 | exact ha) hW.p6 ?_
          refine aw_iload_1 (q := 77) F dL_door_76 rfl ?_
          refine av_callV1 (q := 80) (ci := 2) F hm mH_kindOf_i mH_kindOf_n lL_118 dL_door_77 rfl rfl rfl (by first | exact hW.o | exact hW.ho | exact hW.to | exact hW.t.a4 | exact hW.t.a5 | exact hW.t.a6 | exact ha) (by decide) (Nat.le_refl _) (Nat.le_refl _) (Nat.le_of_ble_eq_true rfl) (wH_kindOf hW.h hh2 (fun a77 b77 => ?_) (fun c77 => ?_))
          · refine aw_iret F C dL_door_80 rfl (Nat.le_refl _) (Nat.le_refl _) ?_
            first | (exfalso; omega) | (refine kI (gg (by omega)) ?_; rw [show w = 0 by omega]; rfl) | exact absurd ⟨by omega, by omega⟩ c77
          · refine aw_iret F C dL_door_80 rfl (Nat.le_refl _) (Nat.le_refl _) ?_
            first | (exfalso; omega) | (refine kI (gg (by omega)) ?_; rw [show w = 0 by omega]; rfl) | exact absurd ⟨by omega, by omega⟩ c77
        | 1, _, c36 =>
          show AW X 81 _ _ _ _ _
          refine aw_aload_0 (q := 82) F dL_door_81 rfl ?_
          refine av_getaE (q := 85) F fL_23 dL_door_82 rfl rfl (by first | exact hW.o | exact hW.ho | exact hW.to | exact hW.t.a4 | exact hW.t.a5 | exact hW.t.a6 | exact ha) hW.p6 ?_
          refine aw_iload_1 (q := 86) F dL_door_85 rfl ?_
          refine av_callV1 (q := 89) (ci := 2) F hm mH_leadOf_i mH_leadOf_n lL_121 dL_door_86 rfl rfl rfl (by first | exact hW.o | exact hW.ho | exact hW.to | exact hW.t.a4 | exact hW.t.a5 | exact hW.t.a6 | exact ha) (by decide) (Nat.le_refl _) (Nat.le_refl _) (Nat.le_of_ble_eq_true rfl) (wH_leadOf hW.h hh2 (fun a86 b86 => ?_) (fun c86 => ?_))
          · refine aw_iret F C dL_door_89 rfl (Nat.le_refl _) (Nat.le_refl _) ?_
            first | (exfalso; omega) | (refine kI (gg (by omega)) ?_; rw [show w = 1 by omega]; rfl) | exact absurd ⟨by omega, by omega⟩ c86
          · refine aw_iret F C dL_door_89 rfl (Nat.le_refl _) (Nat.le_refl _) ?_
            first | (exfalso; omega) | (refine kI (gg (by omega)) ?_; rw [show w = 1 by omega]; rfl) | exact absurd ⟨by omega, by omega⟩ c86
        | 2, _, c36 =>
          show AW X 90 _ _ _ _ _
          refine aw_aload_0 (q := 91) F dL_door_90 rfl ?_
          refine av_getaE (q := 94) F fL_16 dL_door_91 rfl rfl (by first | exact hW.o | exact hW.ho | exact hW.to | exact hW.t.a4 | exact hW.t.a5 | exact hW.t.a6 | exact ha) hW.p5 ?_
          refine av_geti (q := 97) F fL_124 dL_door_94 rfl rfl (by first | exact hW.o | exact hW.ho | exact hW.to | exact hW.t.a4 | exact hW.t.a5 | exact hW.t.a6 | exact ha) ?_
          refine aw_iload_1 (q := 98) F dL_door_97 rfl ?_
          refine aw_ishr (q := 99) F dL_door_98 rfl ?_
          refine aw_iconst (q := 100) F dL_door_99 rfl (by decide) ?_
          refine aw_iand (q := 101) F dL_door_100 rfl ?_
          rw [ht3, show x = ((x.toNat : Nat) : Int) by omega, bit_n hlk (by omega)]
          refine aw_iret F C dL_door_101 rfl (Nat.le_refl _) (Nat.le_refl _) ?_
          first | (exfalso; omega) | (refine kI (gg (by omega)) ?_; rw [show w = 2 by omega]; rfl)
        | 3, _, c36 =>
          show AW X 102 _ _ _ _ _
          refine aw_aload_0 (q := 103) F dL_door_102 rfl ?_
          refine av_getaE (q := 106) F fL_23 dL_door_103 rfl rfl (by first | exact hW.o | exact hW.ho | exact hW.to | exact hW.t.a4 | exact hW.t.a5 | exact hW.t.a6 | exact ha) hW.p6 ?_
          refine av_geti (q := 109) F fL_127 dL_door_106 rfl rfl (by first | exact hW.o | exact hW.ho | exact hW.to | exact hW.t.a4 | exact hW.t.a5 | exact hW.t.a6 | exact ha) ?_
          refine aw_iload_1 (q := 110) F dL_door_109 rfl ?_
          refine aw_ishr (q := 111) F dL_door_110 rfl ?_
          refine aw_iconst (q := 112) F dL_door_111 rfl (by decide) ?_
          refine aw_iand (q := 113) F dL_door_112 rfl ?_
          rw [hn6, show x = ((x.toNat : Nat) : Int) by omega, bit_n hnl (by omega)]
          refine aw_iret F C dL_door_113 rfl (Nat.le_refl _) (Nat.le_refl _) ?_
          first | (exfalso; omega) | (refine kI (gg (by omega)) ?_; rw [show w = 3 by omega]; rfl)
        | 4, _, c36 =>
          show AW X 114 _ _ _ _ _
          refine aw_aload_0 (q := 115) F dL_door_114 rfl ?_
          refine av_getaE (q := 118) F fL_23 dL_door_115 rfl rfl (by first | exact hW.o | exact hW.ho | exact hW.to | exact hW.t.a4 | exact hW.t.a5 | exact hW.t.a6 | exact ha) hW.p6 ?_
          refine aw_iload_1 (q := 119) F dL_door_118 rfl ?_
          refine aw_iconst (q := 120) F dL_door_119 rfl (by decide) ?_
          refine aw_iadd (q := 121) F dL_door_120 rfl (by constructor <;> omega) ?_
          refine av_callV1 (q := 124) (ci := 2) F hm mH_peopleAt_i mH_peopleAt_n lL_130 dL_door_121 rfl rfl rfl (by first | exact hW.o | exact hW.ho | exact hW.to | exact hW.t.a4 | exact hW.t.a5 | exact hW.t.a6 | exact ha) (by decide) (Nat.le_refl _) (Nat.le_refl _) (Nat.le_of_ble_eq_true rfl) (wH_peopleAt (r := x.toNat + 1) (by omega) hW.h hh2 ?_)
          refine aw_iret F C dL_door_124 rfl (Nat.le_refl _) (Nat.le_refl _) ?_
          first | (exfalso; omega) | (refine kI (gg (by omega)) ?_; rw [show w = 4 by omega]; rfl)
        | i + 5, hi, _ => exact absurd hi (by show ¬ i + 5 < 5; omega)
      · refine aw_aload_0 (q := 126) F dL_door_125 rfl ?_
        refine av_getaE (q := 129) F fL_23 dL_door_126 rfl rfl (by first | exact hW.o | exact hW.ho | exact hW.to | exact hW.t.a4 | exact hW.t.a5 | exact hW.t.a6 | exact ha) hW.p6 ?_
        refine av_geti (q := 132) F fL_133 dL_door_129 rfl rfl (by first | exact hW.o | exact hW.ho | exact hW.to | exact hW.t.a4 | exact hW.t.a5 | exact hW.t.a6 | exact ha) ?_
        refine aw_iload_1 (q := 133) F dL_door_132 rfl ?_
        refine aw_icmp_ne (q := 136) (t := 140) F dL_door_133 rfl (by decide) (fun c133 => ?_) (fun c133 => ?_)
        · refine aw_iconst (q := 141) F dL_door_140 rfl (by decide) ?_
          refine aw_iret F C dL_door_141 rfl (Nat.le_refl _) (Nat.le_refl _) ?_
          first | (exfalso; omega) | (refine kI (gg (by omega)) ?_; rw [show w = 5 by omega]; show (if lst (psC S) (psA S) = x.toNat then (1 : Int) else 0) = _; first | rw [if_pos (by omega)] | rw [if_neg (by omega)])
        · refine aw_iconst (q := 137) F dL_door_136 rfl (by decide) ?_
          refine aw_goto (t := 141) F dL_door_137 (by decide) ?_
          refine aw_iret F C dL_door_141 rfl (Nat.le_refl _) (Nat.le_refl _) ?_
          first | (exfalso; omega) | (refine kI (gg (by omega)) ?_; rw [show w = 5 by omega]; show (if lst (psC S) (psA S) = x.toNat then (1 : Int) else 0) = _; first | rw [if_pos (by omega)] | rw [if_neg (by omega)])
    · refine aw_if_ne (q := 33) (t := 35) F dL_door_30 rfl (by decide) (fun c30 => absurd c30 (by decide)) (fun c30 => ?_)
      refine aw_iconst (q := 34) F dL_door_33 rfl (by decide) ?_
      refine aw_iret F C dL_door_34 rfl (Nat.le_refl _) (Nat.le_refl _) ?_
      first | exact h.now (by decide) (r1 (by omega)) | (exfalso; omega)
    · refine aw_if_ne (q := 33) (t := 35) F dL_door_30 rfl (by decide) (fun c30 => absurd c30 (by decide)) (fun c30 => ?_)
      refine aw_iconst (q := 34) F dL_door_33 rfl (by decide) ?_
      refine aw_iret F C dL_door_34 rfl (Nat.le_refl _) (Nat.le_refl _) ?_
      first | exact h.now (by decide) (r1 (by omega)) | (exfalso; omega)
theorem wL_person {x w : Int} (h : CW V σ ow y S kn) (hK : CK K V σ ow (setR S (wy ((0 ≤ x ∧ x < tPn (psT S)) ∧ 0 ≤ w ∧ w ≤ 4) True)) kn (some (vI (rfD (wy ((0 ≤ x ∧ x < tPn (psT S)) ∧ 0 ≤ w ∧ w ≤ 4) True) (vPers S x.toNat w) (-1))))) : Wp G 2 mL_person [vR 1, vI x, vI w] (V, σ) 0 0 K := by
  have hW := h.cs
  obtain ⟨g, r1, -⟩ := g3 hK
  have hv := h.v1
  have ed : pN (psC S) = tPn (psT S) := rfl
  have h2 := h.tr (z := 0) (by decide)
  have hh2 : HH (up2 V 1 2 0) 10 (psC S) (psA S) := h2.hh
  have hT := h.oT
  have hd4 : tPn (psT S) ≤ 2 := hT.2.2.1
  have hky : tKy (psT S) < 2147483648 := by have := hT.2.2.2.2.1; have := two_le (Nat.le_trans hT.2.2.1 (by decide : 2 ≤ 4)); omega
  have ht4 : up2 V 1 2 0 (dT y) 4 = tKy (psT S) := h2.tv.1.2.2.2.2.1
  have ht := h2.tv.2.2
  have gg := fun (a : (0 ≤ x ∧ x < tPn (psT S)) ∧ 0 ≤ w ∧ w ≤ 4) => h.now (by decide) (g a trivial)
  refine wp_intro mL_person_i.1 [some (vR 1), some (vI x), some (vI w)] rfl rfl (Nat.le_of_ble_eq_true rfl) ?_
  intro X hG F C
  have hm := C.rm
  refine aw_aload_0 (q := 1) F dL_person_0 rfl ?_
  refine aw_aload_0 (q := 2) F dL_person_1 rfl ?_
  refine av_getaE (q := 5) F fL_23 dL_person_2 rfl rfl (by first | exact hW.o | exact hW.ho | exact hW.to | exact hW.t.a4 | exact hW.t.a5 | exact hW.t.a6 | exact ha) hW.p6 ?_
  refine aw_iload_1 (q := 6) F dL_person_5 rfl ?_
  refine av_callV1 (q := 9) (ci := 2) F hm mH_isPerson_i mH_isPerson_n lL_136 dL_person_6 rfl rfl rfl (by first | exact hW.o | exact hW.ho | exact hW.to | exact hW.t.a4 | exact hW.t.a5 | exact hW.t.a6 | exact ha) (by decide) (Nat.le_refl _) (Nat.le_refl _) (Nat.le_of_ble_eq_true rfl) (wH_isPerson hW.h (fun c6 => ?_) (fun c6 => ?_))
  · refine aw_if_eq (q := 12) (t := 25) F dL_person_9 rfl (by decide) (fun c9 => absurd c9 (by decide)) (fun c9 => ?_)
    refine aw_iload_2 (q := 13) F dL_person_12 rfl ?_
    refine aw_if_lt (q := 16) (t := 25) F dL_person_13 rfl (by decide) (fun c13 => ?_) (fun c13 => ?_)
    · refine aw_iconst (q := 26) F dL_person_25 rfl (by decide) ?_
      refine aw_iconst (q := 27) F dL_person_26 rfl (by decide) ?_
      refine av_callV2 (q := 30) (ci := 7) F hm mL_passes_i mL_passes_n lL_114 dL_person_27 rfl rfl rfl (by first | exact hW.o | exact hW.ho | exact hW.to | exact hW.t.a4 | exact hW.t.a5 | exact hW.t.a6 | exact ha) (by decide) (Nat.le_refl _) (Nat.le_refl _) (Nat.le_of_ble_eq_true rfl) (wL_passes hW (fun c27 d27 => ?_) (fun c27 => ?_) (fun c27 d27 => ?_))
      · refine aw_if_ne (q := 33) (t := 35) F dL_person_30 rfl (by decide) (fun c30 => ?_) (fun c30 => absurd c30 (by decide))
        refine aw_iload_2 (q := 36) F dL_person_35 rfl ?_
        refine aw_table (t := 109) F (fun i => [68, 77, 89, 99].getD i 0) dL_person_36 (by decide) (by decide) (by decide) (fun i hi c36 => ?_) (fun c36 => ?_)
        · match i, hi, c36 with
          | 0, _, c36 =>
            show AW X 68 _ _ _ _ _
            refine aw_aload_0 (q := 69) F dL_person_68 rfl ?_
            refine av_getaE (q := 72) F fL_23 dL_person_69 rfl rfl (by first | exact hW.o | exact hW.ho | exact hW.to | exact hW.t.a4 | exact hW.t.a5 | exact hW.t.a6 | exact ha) hW.p6 ?_
            refine aw_iload_1 (q := 73) F dL_person_72 rfl ?_
            refine av_callV1 (q := 76) (ci := 2) F hm mH_placeOf_i mH_placeOf_n lL_139 dL_person_73 rfl rfl rfl (by first | exact hW.o | exact hW.ho | exact hW.to | exact hW.t.a4 | exact hW.t.a5 | exact hW.t.a6 | exact ha) (by decide) (Nat.le_refl _) (Nat.le_refl _) (Nat.le_of_ble_eq_true rfl) (wH_placeOf hW.h hh2 (fun a73 b73 => ?_) (fun c73 => ?_))
            · refine aw_iret F C dL_person_76 rfl (Nat.le_refl _) (Nat.le_refl _) ?_
              first | (exfalso; omega) | (refine kI (gg (by omega)) ?_; rw [show w = 0 by omega]; rfl) | exact absurd ⟨by omega, by omega⟩ c73
            · refine aw_iret F C dL_person_76 rfl (Nat.le_refl _) (Nat.le_refl _) ?_
              first | (exfalso; omega) | (refine kI (gg (by omega)) ?_; rw [show w = 0 by omega]; rfl) | exact absurd ⟨by omega, by omega⟩ c73
          | 1, _, c36 =>
            show AW X 77 _ _ _ _ _
            refine aw_aload_0 (q := 78) F dL_person_77 rfl ?_
            refine av_getaE (q := 81) F fL_16 dL_person_78 rfl rfl (by first | exact hW.o | exact hW.ho | exact hW.to | exact hW.t.a4 | exact hW.t.a5 | exact hW.t.a6 | exact ha) hW.p5 ?_
            refine av_geti (q := 84) F fL_142 dL_person_81 rfl rfl (by first | exact hW.o | exact hW.ho | exact hW.to | exact hW.t.a4 | exact hW.t.a5 | exact hW.t.a6 | exact ha) ?_
            refine aw_iload_1 (q := 85) F dL_person_84 rfl ?_
            refine aw_ishr (q := 86) F dL_person_85 rfl ?_
            refine aw_iconst (q := 87) F dL_person_86 rfl (by decide) ?_
            refine aw_iand (q := 88) F dL_person_87 rfl ?_
            rw [ht4, show x = ((x.toNat : Nat) : Int) by omega, bit_n hky (by omega)]
            refine aw_iret F C dL_person_88 rfl (Nat.le_refl _) (Nat.le_refl _) ?_
            first | (exfalso; omega) | (refine kI (gg (by omega)) ?_; rw [show w = 1 by omega]; rfl)
          | 2, _, c36 =>
            show AW X 89 _ _ _ _ _
            refine aw_aload_0 (q := 90) F dL_person_89 rfl ?_
            refine av_getaE (q := 93) F fL_16 dL_person_90 rfl rfl (by first | exact hW.o | exact hW.ho | exact hW.to | exact hW.t.a4 | exact hW.t.a5 | exact hW.t.a6 | exact ha) hW.p5 ?_
            refine av_getaE (q := 96) F fL_145 dL_person_93 rfl rfl (by first | exact hW.o | exact hW.ho | exact hW.to | exact hW.t.a4 | exact hW.t.a5 | exact hW.t.a6 | exact ha) hW.t.p9 ?_
            refine aw_iload_1 (q := 97) F dL_person_96 rfl ?_
            refine av_iaload (q := 98) F dL_person_97 rfl (by first | exact hW.o | exact hW.ho | exact hW.to | exact hW.t.a4 | exact hW.t.a5 | exact hW.t.a6 | exact ha) (by omega) (by omega) ?_
            refine aw_iret F C dL_person_98 rfl (Nat.le_refl _) (Nat.le_refl _) ?_
            first | (exfalso; omega) | (refine kI (gg (by omega)) ?_; rw [show w = 2 by omega]; exact (ht x.toNat (by omega)).2.1.symm)
          | 3, _, c36 =>
            show AW X 99 _ _ _ _ _
            refine aw_aload_0 (q := 100) F dL_person_99 rfl ?_
            refine av_getaE (q := 103) F fL_16 dL_person_100 rfl rfl (by first | exact hW.o | exact hW.ho | exact hW.to | exact hW.t.a4 | exact hW.t.a5 | exact hW.t.a6 | exact ha) hW.p5 ?_
            refine av_getaE (q := 106) F fL_148 dL_person_103 rfl rfl (by first | exact hW.o | exact hW.ho | exact hW.to | exact hW.t.a4 | exact hW.t.a5 | exact hW.t.a6 | exact ha) hW.t.p10 ?_
            refine aw_iload_1 (q := 107) F dL_person_106 rfl ?_
            refine av_iaload (q := 108) F dL_person_107 rfl (by first | exact hW.o | exact hW.ho | exact hW.to | exact hW.t.a4 | exact hW.t.a5 | exact hW.t.a6 | exact ha) (by omega) (by omega) ?_
            refine aw_iret F C dL_person_108 rfl (Nat.le_refl _) (Nat.le_refl _) ?_
            first | (exfalso; omega) | (refine kI (gg (by omega)) ?_; rw [show w = 3 by omega]; exact (ht x.toNat (by omega)).2.2.1.symm)
          | i + 4, hi, _ => exact absurd hi (by show ¬ i + 4 < 4; omega)
        · refine aw_aload_0 (q := 110) F dL_person_109 rfl ?_
          refine av_getaE (q := 113) F fL_16 dL_person_110 rfl rfl (by first | exact hW.o | exact hW.ho | exact hW.to | exact hW.t.a4 | exact hW.t.a5 | exact hW.t.a6 | exact ha) hW.p5 ?_
          refine av_getaE (q := 116) F fL_151 dL_person_113 rfl rfl (by first | exact hW.o | exact hW.ho | exact hW.to | exact hW.t.a4 | exact hW.t.a5 | exact hW.t.a6 | exact ha) hW.t.p11 ?_
          refine aw_iload_1 (q := 117) F dL_person_116 rfl ?_
          refine av_iaload (q := 118) F dL_person_117 rfl (by first | exact hW.o | exact hW.ho | exact hW.to | exact hW.t.a4 | exact hW.t.a5 | exact hW.t.a6 | exact ha) (by omega) (by omega) ?_
          refine aw_iret F C dL_person_118 rfl (Nat.le_refl _) (Nat.le_refl _) ?_
          first | (exfalso; omega) | (refine kI (gg (by omega)) ?_; rw [show w = 4 by omega]; exact (ht x.toNat (by omega)).2.2.2.symm)
      · refine aw_if_ne (q := 33) (t := 35) F dL_person_30 rfl (by decide) (fun c30 => absurd c30 (by decide)) (fun c30 => ?_)
        refine aw_iconst (q := 34) F dL_person_33 rfl (by decide) ?_
        refine aw_iret F C dL_person_34 rfl (Nat.le_refl _) (Nat.le_refl _) ?_
        first | exact h.now (by decide) (r1 (by omega)) | (exfalso; omega)
      · refine aw_if_ne (q := 33) (t := 35) F dL_person_30 rfl (by decide) (fun c30 => absurd c30 (by decide)) (fun c30 => ?_)
        refine aw_iconst (q := 34) F dL_person_33 rfl (by decide) ?_
        refine aw_iret F C dL_person_34 rfl (Nat.le_refl _) (Nat.le_refl _) ?_
        first | exact h.now (by decide) (r1 (by omega)) | (exfalso; omega)
    · refine aw_iload_2 (q := 17) F dL_person_16 rfl ?_
      refine aw_iconst (q := 18) F dL_person_17 rfl (by decide) ?_
      refine aw_icmp_gt (q := 21) (t := 25) F dL_person_18 rfl (by decide) (fun c18 => ?_) (fun c18 => ?_)
      · refine aw_iconst (q := 26) F dL_person_25 rfl (by decide) ?_
        refine aw_iconst (q := 27) F dL_person_26 rfl (by decide) ?_
        refine av_callV2 (q := 30) (ci := 7) F hm mL_passes_i mL_passes_n lL_114 dL_person_27 rfl rfl rfl (by first | exact hW.o | exact hW.ho | exact hW.to | exact hW.t.a4 | exact hW.t.a5 | exact hW.t.a6 | exact ha) (by decide) (Nat.le_refl _) (Nat.le_refl _) (Nat.le_of_ble_eq_true rfl) (wL_passes hW (fun c27 d27 => ?_) (fun c27 => ?_) (fun c27 d27 => ?_))
        · refine aw_if_ne (q := 33) (t := 35) F dL_person_30 rfl (by decide) (fun c30 => ?_) (fun c30 => absurd c30 (by decide))
          refine aw_iload_2 (q := 36) F dL_person_35 rfl ?_
          refine aw_table (t := 109) F (fun i => [68, 77, 89, 99].getD i 0) dL_person_36 (by decide) (by decide) (by decide) (fun i hi c36 => ?_) (fun c36 => ?_)
          · match i, hi, c36 with
            | 0, _, c36 =>
              show AW X 68 _ _ _ _ _
              refine aw_aload_0 (q := 69) F dL_person_68 rfl ?_
              refine av_getaE (q := 72) F fL_23 dL_person_69 rfl rfl (by first | exact hW.o | exact hW.ho | exact hW.to | exact hW.t.a4 | exact hW.t.a5 | exact hW.t.a6 | exact ha) hW.p6 ?_
              refine aw_iload_1 (q := 73) F dL_person_72 rfl ?_
              refine av_callV1 (q := 76) (ci := 2) F hm mH_placeOf_i mH_placeOf_n lL_139 dL_person_73 rfl rfl rfl (by first | exact hW.o | exact hW.ho | exact hW.to | exact hW.t.a4 | exact hW.t.a5 | exact hW.t.a6 | exact ha) (by decide) (Nat.le_refl _) (Nat.le_refl _) (Nat.le_of_ble_eq_true rfl) (wH_placeOf hW.h hh2 (fun a73 b73 => ?_) (fun c73 => ?_))
              · refine aw_iret F C dL_person_76 rfl (Nat.le_refl _) (Nat.le_refl _) ?_
                first | (exfalso; omega) | (refine kI (gg (by omega)) ?_; rw [show w = 0 by omega]; rfl) | exact absurd ⟨by omega, by omega⟩ c73
              · refine aw_iret F C dL_person_76 rfl (Nat.le_refl _) (Nat.le_refl _) ?_
                first | (exfalso; omega) | (refine kI (gg (by omega)) ?_; rw [show w = 0 by omega]; rfl) | exact absurd ⟨by omega, by omega⟩ c73
            | 1, _, c36 =>
              show AW X 77 _ _ _ _ _
              refine aw_aload_0 (q := 78) F dL_person_77 rfl ?_
              refine av_getaE (q := 81) F fL_16 dL_person_78 rfl rfl (by first | exact hW.o | exact hW.ho | exact hW.to | exact hW.t.a4 | exact hW.t.a5 | exact hW.t.a6 | exact ha) hW.p5 ?_
              refine av_geti (q := 84) F fL_142 dL_person_81 rfl rfl (by first | exact hW.o | exact hW.ho | exact hW.to | exact hW.t.a4 | exact hW.t.a5 | exact hW.t.a6 | exact ha) ?_
              refine aw_iload_1 (q := 85) F dL_person_84 rfl ?_
              refine aw_ishr (q := 86) F dL_person_85 rfl ?_
              refine aw_iconst (q := 87) F dL_person_86 rfl (by decide) ?_
              refine aw_iand (q := 88) F dL_person_87 rfl ?_
              rw [ht4, show x = ((x.toNat : Nat) : Int) by omega, bit_n hky (by omega)]
              refine aw_iret F C dL_person_88 rfl (Nat.le_refl _) (Nat.le_refl _) ?_
              first | (exfalso; omega) | (refine kI (gg (by omega)) ?_; rw [show w = 1 by omega]; rfl)
            | 2, _, c36 =>
              show AW X 89 _ _ _ _ _
              refine aw_aload_0 (q := 90) F dL_person_89 rfl ?_
              refine av_getaE (q := 93) F fL_16 dL_person_90 rfl rfl (by first | exact hW.o | exact hW.ho | exact hW.to | exact hW.t.a4 | exact hW.t.a5 | exact hW.t.a6 | exact ha) hW.p5 ?_
              refine av_getaE (q := 96) F fL_145 dL_person_93 rfl rfl (by first | exact hW.o | exact hW.ho | exact hW.to | exact hW.t.a4 | exact hW.t.a5 | exact hW.t.a6 | exact ha) hW.t.p9 ?_
              refine aw_iload_1 (q := 97) F dL_person_96 rfl ?_
              refine av_iaload (q := 98) F dL_person_97 rfl (by first | exact hW.o | exact hW.ho | exact hW.to | exact hW.t.a4 | exact hW.t.a5 | exact hW.t.a6 | exact ha) (by omega) (by omega) ?_
              refine aw_iret F C dL_person_98 rfl (Nat.le_refl _) (Nat.le_refl _) ?_
              first | (exfalso; omega) | (refine kI (gg (by omega)) ?_; rw [show w = 2 by omega]; exact (ht x.toNat (by omega)).2.1.symm)
            | 3, _, c36 =>
              show AW X 99 _ _ _ _ _
              refine aw_aload_0 (q := 100) F dL_person_99 rfl ?_
              refine av_getaE (q := 103) F fL_16 dL_person_100 rfl rfl (by first | exact hW.o | exact hW.ho | exact hW.to | exact hW.t.a4 | exact hW.t.a5 | exact hW.t.a6 | exact ha) hW.p5 ?_
              refine av_getaE (q := 106) F fL_148 dL_person_103 rfl rfl (by first | exact hW.o | exact hW.ho | exact hW.to | exact hW.t.a4 | exact hW.t.a5 | exact hW.t.a6 | exact ha) hW.t.p10 ?_
              refine aw_iload_1 (q := 107) F dL_person_106 rfl ?_
              refine av_iaload (q := 108) F dL_person_107 rfl (by first | exact hW.o | exact hW.ho | exact hW.to | exact hW.t.a4 | exact hW.t.a5 | exact hW.t.a6 | exact ha) (by omega) (by omega) ?_
              refine aw_iret F C dL_person_108 rfl (Nat.le_refl _) (Nat.le_refl _) ?_
              first | (exfalso; omega) | (refine kI (gg (by omega)) ?_; rw [show w = 3 by omega]; exact (ht x.toNat (by omega)).2.2.1.symm)
            | i + 4, hi, _ => exact absurd hi (by show ¬ i + 4 < 4; omega)
          · refine aw_aload_0 (q := 110) F dL_person_109 rfl ?_
            refine av_getaE (q := 113) F fL_16 dL_person_110 rfl rfl (by first | exact hW.o | exact hW.ho | exact hW.to | exact hW.t.a4 | exact hW.t.a5 | exact hW.t.a6 | exact ha) hW.p5 ?_
            refine av_getaE (q := 116) F fL_151 dL_person_113 rfl rfl (by first | exact hW.o | exact hW.ho | exact hW.to | exact hW.t.a4 | exact hW.t.a5 | exact hW.t.a6 | exact ha) hW.t.p11 ?_
            refine aw_iload_1 (q := 117) F dL_person_116 rfl ?_
            refine av_iaload (q := 118) F dL_person_117 rfl (by first | exact hW.o | exact hW.ho | exact hW.to | exact hW.t.a4 | exact hW.t.a5 | exact hW.t.a6 | exact ha) (by omega) (by omega) ?_
            refine aw_iret F C dL_person_118 rfl (Nat.le_refl _) (Nat.le_refl _) ?_
            first | (exfalso; omega) | (refine kI (gg (by omega)) ?_; rw [show w = 4 by omega]; exact (ht x.toNat (by omega)).2.2.2.symm)
        · refine aw_if_ne (q := 33) (t := 35) F dL_person_30 rfl (by decide) (fun c30 => absurd c30 (by decide)) (fun c30 => ?_)
          refine aw_iconst (q := 34) F dL_person_33 rfl (by decide) ?_
          refine aw_iret F C dL_person_34 rfl (Nat.le_refl _) (Nat.le_refl _) ?_
          first | exact h.now (by decide) (r1 (by omega)) | (exfalso; omega)
        · refine aw_if_ne (q := 33) (t := 35) F dL_person_30 rfl (by decide) (fun c30 => absurd c30 (by decide)) (fun c30 => ?_)
          refine aw_iconst (q := 34) F dL_person_33 rfl (by decide) ?_
          refine aw_iret F C dL_person_34 rfl (Nat.le_refl _) (Nat.le_refl _) ?_
          first | exact h.now (by decide) (r1 (by omega)) | (exfalso; omega)
      · refine aw_iconst (q := 22) F dL_person_21 rfl (by decide) ?_
        refine aw_goto (t := 26) F dL_person_22 (by decide) ?_
        refine aw_iconst (q := 27) F dL_person_26 rfl (by decide) ?_
        refine av_callV2 (q := 30) (ci := 7) F hm mL_passes_i mL_passes_n lL_114 dL_person_27 rfl rfl rfl (by first | exact hW.o | exact hW.ho | exact hW.to | exact hW.t.a4 | exact hW.t.a5 | exact hW.t.a6 | exact ha) (by decide) (Nat.le_refl _) (Nat.le_refl _) (Nat.le_of_ble_eq_true rfl) (wL_passes hW (fun c27 d27 => ?_) (fun c27 => ?_) (fun c27 d27 => ?_))
        · refine aw_if_ne (q := 33) (t := 35) F dL_person_30 rfl (by decide) (fun c30 => ?_) (fun c30 => absurd c30 (by decide))
          refine aw_iload_2 (q := 36) F dL_person_35 rfl ?_
          refine aw_table (t := 109) F (fun i => [68, 77, 89, 99].getD i 0) dL_person_36 (by decide) (by decide) (by decide) (fun i hi c36 => ?_) (fun c36 => ?_)
          · match i, hi, c36 with
            | 0, _, c36 =>
              show AW X 68 _ _ _ _ _
              refine aw_aload_0 (q := 69) F dL_person_68 rfl ?_
              refine av_getaE (q := 72) F fL_23 dL_person_69 rfl rfl (by first | exact hW.o | exact hW.ho | exact hW.to | exact hW.t.a4 | exact hW.t.a5 | exact hW.t.a6 | exact ha) hW.p6 ?_
              refine aw_iload_1 (q := 73) F dL_person_72 rfl ?_
              refine av_callV1 (q := 76) (ci := 2) F hm mH_placeOf_i mH_placeOf_n lL_139 dL_person_73 rfl rfl rfl (by first | exact hW.o | exact hW.ho | exact hW.to | exact hW.t.a4 | exact hW.t.a5 | exact hW.t.a6 | exact ha) (by decide) (Nat.le_refl _) (Nat.le_refl _) (Nat.le_of_ble_eq_true rfl) (wH_placeOf hW.h hh2 (fun a73 b73 => ?_) (fun c73 => ?_))
              · refine aw_iret F C dL_person_76 rfl (Nat.le_refl _) (Nat.le_refl _) ?_
                first | (exfalso; omega) | (refine kI (gg (by omega)) ?_; rw [show w = 0 by omega]; rfl) | exact absurd ⟨by omega, by omega⟩ c73
              · refine aw_iret F C dL_person_76 rfl (Nat.le_refl _) (Nat.le_refl _) ?_
                first | (exfalso; omega) | (refine kI (gg (by omega)) ?_; rw [show w = 0 by omega]; rfl) | exact absurd ⟨by omega, by omega⟩ c73
            | 1, _, c36 =>
              show AW X 77 _ _ _ _ _
              refine aw_aload_0 (q := 78) F dL_person_77 rfl ?_
              refine av_getaE (q := 81) F fL_16 dL_person_78 rfl rfl (by first | exact hW.o | exact hW.ho | exact hW.to | exact hW.t.a4 | exact hW.t.a5 | exact hW.t.a6 | exact ha) hW.p5 ?_
              refine av_geti (q := 84) F fL_142 dL_person_81 rfl rfl (by first | exact hW.o | exact hW.ho | exact hW.to | exact hW.t.a4 | exact hW.t.a5 | exact hW.t.a6 | exact ha) ?_
              refine aw_iload_1 (q := 85) F dL_person_84 rfl ?_
              refine aw_ishr (q := 86) F dL_person_85 rfl ?_
              refine aw_iconst (q := 87) F dL_person_86 rfl (by decide) ?_
              refine aw_iand (q := 88) F dL_person_87 rfl ?_
              rw [ht4, show x = ((x.toNat : Nat) : Int) by omega, bit_n hky (by omega)]
              refine aw_iret F C dL_person_88 rfl (Nat.le_refl _) (Nat.le_refl _) ?_
              first | (exfalso; omega) | (refine kI (gg (by omega)) ?_; rw [show w = 1 by omega]; rfl)
            | 2, _, c36 =>
              show AW X 89 _ _ _ _ _
              refine aw_aload_0 (q := 90) F dL_person_89 rfl ?_
              refine av_getaE (q := 93) F fL_16 dL_person_90 rfl rfl (by first | exact hW.o | exact hW.ho | exact hW.to | exact hW.t.a4 | exact hW.t.a5 | exact hW.t.a6 | exact ha) hW.p5 ?_
              refine av_getaE (q := 96) F fL_145 dL_person_93 rfl rfl (by first | exact hW.o | exact hW.ho | exact hW.to | exact hW.t.a4 | exact hW.t.a5 | exact hW.t.a6 | exact ha) hW.t.p9 ?_
              refine aw_iload_1 (q := 97) F dL_person_96 rfl ?_
              refine av_iaload (q := 98) F dL_person_97 rfl (by first | exact hW.o | exact hW.ho | exact hW.to | exact hW.t.a4 | exact hW.t.a5 | exact hW.t.a6 | exact ha) (by omega) (by omega) ?_
              refine aw_iret F C dL_person_98 rfl (Nat.le_refl _) (Nat.le_refl _) ?_
              first | (exfalso; omega) | (refine kI (gg (by omega)) ?_; rw [show w = 2 by omega]; exact (ht x.toNat (by omega)).2.1.symm)
            | 3, _, c36 =>
              show AW X 99 _ _ _ _ _
              refine aw_aload_0 (q := 100) F dL_person_99 rfl ?_
              refine av_getaE (q := 103) F fL_16 dL_person_100 rfl rfl (by first | exact hW.o | exact hW.ho | exact hW.to | exact hW.t.a4 | exact hW.t.a5 | exact hW.t.a6 | exact ha) hW.p5 ?_
              refine av_getaE (q := 106) F fL_148 dL_person_103 rfl rfl (by first | exact hW.o | exact hW.ho | exact hW.to | exact hW.t.a4 | exact hW.t.a5 | exact hW.t.a6 | exact ha) hW.t.p10 ?_
              refine aw_iload_1 (q := 107) F dL_person_106 rfl ?_
              refine av_iaload (q := 108) F dL_person_107 rfl (by first | exact hW.o | exact hW.ho | exact hW.to | exact hW.t.a4 | exact hW.t.a5 | exact hW.t.a6 | exact ha) (by omega) (by omega) ?_
              refine aw_iret F C dL_person_108 rfl (Nat.le_refl _) (Nat.le_refl _) ?_
              first | (exfalso; omega) | (refine kI (gg (by omega)) ?_; rw [show w = 3 by omega]; exact (ht x.toNat (by omega)).2.2.1.symm)
            | i + 4, hi, _ => exact absurd hi (by show ¬ i + 4 < 4; omega)
          · refine aw_aload_0 (q := 110) F dL_person_109 rfl ?_
            refine av_getaE (q := 113) F fL_16 dL_person_110 rfl rfl (by first | exact hW.o | exact hW.ho | exact hW.to | exact hW.t.a4 | exact hW.t.a5 | exact hW.t.a6 | exact ha) hW.p5 ?_
            refine av_getaE (q := 116) F fL_151 dL_person_113 rfl rfl (by first | exact hW.o | exact hW.ho | exact hW.to | exact hW.t.a4 | exact hW.t.a5 | exact hW.t.a6 | exact ha) hW.t.p11 ?_
            refine aw_iload_1 (q := 117) F dL_person_116 rfl ?_
            refine av_iaload (q := 118) F dL_person_117 rfl (by first | exact hW.o | exact hW.ho | exact hW.to | exact hW.t.a4 | exact hW.t.a5 | exact hW.t.a6 | exact ha) (by omega) (by omega) ?_
            refine aw_iret F C dL_person_118 rfl (Nat.le_refl _) (Nat.le_refl _) ?_
            first | (exfalso; omega) | (refine kI (gg (by omega)) ?_; rw [show w = 4 by omega]; exact (ht x.toNat (by omega)).2.2.2.symm)
        · refine aw_if_ne (q := 33) (t := 35) F dL_person_30 rfl (by decide) (fun c30 => absurd c30 (by decide)) (fun c30 => ?_)
          refine aw_iconst (q := 34) F dL_person_33 rfl (by decide) ?_
          refine aw_iret F C dL_person_34 rfl (Nat.le_refl _) (Nat.le_refl _) ?_
          first | exact h.now (by decide) (r1 (by omega)) | (exfalso; omega)
        · refine aw_if_ne (q := 33) (t := 35) F dL_person_30 rfl (by decide) (fun c30 => absurd c30 (by decide)) (fun c30 => ?_)
          refine aw_iconst (q := 34) F dL_person_33 rfl (by decide) ?_
          refine aw_iret F C dL_person_34 rfl (Nat.le_refl _) (Nat.le_refl _) ?_
          first | exact h.now (by decide) (r1 (by omega)) | (exfalso; omega)
  · refine aw_if_eq (q := 12) (t := 25) F dL_person_9 rfl (by decide) (fun c9 => ?_) (fun c9 => absurd c9 (by decide))
    refine aw_iconst (q := 26) F dL_person_25 rfl (by decide) ?_
    refine aw_iconst (q := 27) F dL_person_26 rfl (by decide) ?_
    refine av_callV2 (q := 30) (ci := 7) F hm mL_passes_i mL_passes_n lL_114 dL_person_27 rfl rfl rfl (by first | exact hW.o | exact hW.ho | exact hW.to | exact hW.t.a4 | exact hW.t.a5 | exact hW.t.a6 | exact ha) (by decide) (Nat.le_refl _) (Nat.le_refl _) (Nat.le_of_ble_eq_true rfl) (wL_passes hW (fun c27 d27 => ?_) (fun c27 => ?_) (fun c27 d27 => ?_))
    · refine aw_if_ne (q := 33) (t := 35) F dL_person_30 rfl (by decide) (fun c30 => ?_) (fun c30 => absurd c30 (by decide))
      refine aw_iload_2 (q := 36) F dL_person_35 rfl ?_
      refine aw_table (t := 109) F (fun i => [68, 77, 89, 99].getD i 0) dL_person_36 (by decide) (by decide) (by decide) (fun i hi c36 => ?_) (fun c36 => ?_)
      · match i, hi, c36 with
        | 0, _, c36 =>
          show AW X 68 _ _ _ _ _
          refine aw_aload_0 (q := 69) F dL_person_68 rfl ?_
          refine av_getaE (q := 72) F fL_23 dL_person_69 rfl rfl (by first | exact hW.o | exact hW.ho | exact hW.to | exact hW.t.a4 | exact hW.t.a5 | exact hW.t.a6 | exact ha) hW.p6 ?_
          refine aw_iload_1 (q := 73) F dL_person_72 rfl ?_
          refine av_callV1 (q := 76) (ci := 2) F hm mH_placeOf_i mH_placeOf_n lL_139 dL_person_73 rfl rfl rfl (by first | exact hW.o | exact hW.ho | exact hW.to | exact hW.t.a4 | exact hW.t.a5 | exact hW.t.a6 | exact ha) (by decide) (Nat.le_refl _) (Nat.le_refl _) (Nat.le_of_ble_eq_true rfl) (wH_placeOf hW.h hh2 (fun a73 b73 => ?_) (fun c73 => ?_))
          · refine aw_iret F C dL_person_76 rfl (Nat.le_refl _) (Nat.le_refl _) ?_
            first | (exfalso; omega) | (refine kI (gg (by omega)) ?_; rw [show w = 0 by omega]; rfl) | exact absurd ⟨by omega, by omega⟩ c73
          · refine aw_iret F C dL_person_76 rfl (Nat.le_refl _) (Nat.le_refl _) ?_
            first | (exfalso; omega) | (refine kI (gg (by omega)) ?_; rw [show w = 0 by omega]; rfl) | exact absurd ⟨by omega, by omega⟩ c73
        | 1, _, c36 =>
          show AW X 77 _ _ _ _ _
          refine aw_aload_0 (q := 78) F dL_person_77 rfl ?_
          refine av_getaE (q := 81) F fL_16 dL_person_78 rfl rfl (by first | exact hW.o | exact hW.ho | exact hW.to | exact hW.t.a4 | exact hW.t.a5 | exact hW.t.a6 | exact ha) hW.p5 ?_
          refine av_geti (q := 84) F fL_142 dL_person_81 rfl rfl (by first | exact hW.o | exact hW.ho | exact hW.to | exact hW.t.a4 | exact hW.t.a5 | exact hW.t.a6 | exact ha) ?_
          refine aw_iload_1 (q := 85) F dL_person_84 rfl ?_
          refine aw_ishr (q := 86) F dL_person_85 rfl ?_
          refine aw_iconst (q := 87) F dL_person_86 rfl (by decide) ?_
          refine aw_iand (q := 88) F dL_person_87 rfl ?_
          rw [ht4, show x = ((x.toNat : Nat) : Int) by omega, bit_n hky (by omega)]
          refine aw_iret F C dL_person_88 rfl (Nat.le_refl _) (Nat.le_refl _) ?_
          first | (exfalso; omega) | (refine kI (gg (by omega)) ?_; rw [show w = 1 by omega]; rfl)
        | 2, _, c36 =>
          show AW X 89 _ _ _ _ _
          refine aw_aload_0 (q := 90) F dL_person_89 rfl ?_
          refine av_getaE (q := 93) F fL_16 dL_person_90 rfl rfl (by first | exact hW.o | exact hW.ho | exact hW.to | exact hW.t.a4 | exact hW.t.a5 | exact hW.t.a6 | exact ha) hW.p5 ?_
          refine av_getaE (q := 96) F fL_145 dL_person_93 rfl rfl (by first | exact hW.o | exact hW.ho | exact hW.to | exact hW.t.a4 | exact hW.t.a5 | exact hW.t.a6 | exact ha) hW.t.p9 ?_
          refine aw_iload_1 (q := 97) F dL_person_96 rfl ?_
          refine av_iaload (q := 98) F dL_person_97 rfl (by first | exact hW.o | exact hW.ho | exact hW.to | exact hW.t.a4 | exact hW.t.a5 | exact hW.t.a6 | exact ha) (by omega) (by omega) ?_
          refine aw_iret F C dL_person_98 rfl (Nat.le_refl _) (Nat.le_refl _) ?_
          first | (exfalso; omega) | (refine kI (gg (by omega)) ?_; rw [show w = 2 by omega]; exact (ht x.toNat (by omega)).2.1.symm)
        | 3, _, c36 =>
          show AW X 99 _ _ _ _ _
          refine aw_aload_0 (q := 100) F dL_person_99 rfl ?_
          refine av_getaE (q := 103) F fL_16 dL_person_100 rfl rfl (by first | exact hW.o | exact hW.ho | exact hW.to | exact hW.t.a4 | exact hW.t.a5 | exact hW.t.a6 | exact ha) hW.p5 ?_
          refine av_getaE (q := 106) F fL_148 dL_person_103 rfl rfl (by first | exact hW.o | exact hW.ho | exact hW.to | exact hW.t.a4 | exact hW.t.a5 | exact hW.t.a6 | exact ha) hW.t.p10 ?_
          refine aw_iload_1 (q := 107) F dL_person_106 rfl ?_
          refine av_iaload (q := 108) F dL_person_107 rfl (by first | exact hW.o | exact hW.ho | exact hW.to | exact hW.t.a4 | exact hW.t.a5 | exact hW.t.a6 | exact ha) (by omega) (by omega) ?_
          refine aw_iret F C dL_person_108 rfl (Nat.le_refl _) (Nat.le_refl _) ?_
          first | (exfalso; omega) | (refine kI (gg (by omega)) ?_; rw [show w = 3 by omega]; exact (ht x.toNat (by omega)).2.2.1.symm)
        | i + 4, hi, _ => exact absurd hi (by show ¬ i + 4 < 4; omega)
      · refine aw_aload_0 (q := 110) F dL_person_109 rfl ?_
        refine av_getaE (q := 113) F fL_16 dL_person_110 rfl rfl (by first | exact hW.o | exact hW.ho | exact hW.to | exact hW.t.a4 | exact hW.t.a5 | exact hW.t.a6 | exact ha) hW.p5 ?_
        refine av_getaE (q := 116) F fL_151 dL_person_113 rfl rfl (by first | exact hW.o | exact hW.ho | exact hW.to | exact hW.t.a4 | exact hW.t.a5 | exact hW.t.a6 | exact ha) hW.t.p11 ?_
        refine aw_iload_1 (q := 117) F dL_person_116 rfl ?_
        refine av_iaload (q := 118) F dL_person_117 rfl (by first | exact hW.o | exact hW.ho | exact hW.to | exact hW.t.a4 | exact hW.t.a5 | exact hW.t.a6 | exact ha) (by omega) (by omega) ?_
        refine aw_iret F C dL_person_118 rfl (Nat.le_refl _) (Nat.le_refl _) ?_
        first | (exfalso; omega) | (refine kI (gg (by omega)) ?_; rw [show w = 4 by omega]; exact (ht x.toNat (by omega)).2.2.2.symm)
    · refine aw_if_ne (q := 33) (t := 35) F dL_person_30 rfl (by decide) (fun c30 => absurd c30 (by decide)) (fun c30 => ?_)
      refine aw_iconst (q := 34) F dL_person_33 rfl (by decide) ?_
      refine aw_iret F C dL_person_34 rfl (Nat.le_refl _) (Nat.le_refl _) ?_
      first | exact h.now (by decide) (r1 (by omega)) | (exfalso; omega)
    · refine aw_if_ne (q := 33) (t := 35) F dL_person_30 rfl (by decide) (fun c30 => absurd c30 (by decide)) (fun c30 => ?_)
      refine aw_iconst (q := 34) F dL_person_33 rfl (by decide) ?_
      refine aw_iret F C dL_person_34 rfl (Nat.le_refl _) (Nat.le_refl _) ?_
      first | exact h.now (by decide) (r1 (by omega)) | (exfalso; omega)
theorem wL_countOther {a N : Nat} {x : Int} (ha : sA σ a 11 N) (hN : N ≤ 1000) (hK : K (some (vI (cntB (fun i => V a i != x) N))) (V, σ)) : Wp G 0 mL_countOther [vR a, vI x] (V, σ) 0 0 K := by
  refine wp_intro mL_countOther_i.1 [some (vR a), some (vI x), none, none, none, none, none] rfl rfl (Nat.le_of_ble_eq_true rfl) ?_
  intro X hG F C
  have hm := C.rm
  have loop : ∀ (j i : Nat), N - i = j → i ≤ N → ∀ (z w : Int) (u : Option AV), z = cntB (fun i => V a i != x) i → w = i → AW X 11 [some (vR a), some (vI x), some (vI z), some (vR a), some (vI N), some (vI w), u] [] (V, σ) 0 0 := by
    intro j
    induction j using Nat.strongRecOn with
    | ind j ih =>
      intro i hj hi z w u hz hw
      have hle := cntB_le (fun i => V a i != x) i
      have hs1 : cntB (fun i => V a i != x) (i + 1) = cntB (fun i => V a i != x) i + if (V a i != x) = true then 1 else 0 := rfl
      refine aw_iload_5 (q := 13) F dL_countOther_11 rfl ?_
      refine aw_iload_4 (q := 15) F dL_countOther_13 rfl ?_
      refine aw_icmp_ge (q := 18) (t := 44) F dL_countOther_15 rfl (by decide) (fun c15 => ?_) (fun c15 => ?_)
      · refine aw_iload_2 (q := 45) F dL_countOther_44 rfl ?_
        refine aw_iret F C dL_countOther_45 rfl (Nat.le_refl _) (Nat.le_refl _) ?_
        refine kI hK ?_; rw [hz, show i = N by omega]
      · refine aw_aload_3 (q := 19) F dL_countOther_18 rfl ?_
        refine aw_iload_5 (q := 21) F dL_countOther_19 rfl ?_
        refine av_iaload (q := 22) F dL_countOther_21 rfl (by first | exact hW.o | exact hW.ho | exact hW.to | exact hW.t.a4 | exact hW.t.a5 | exact hW.t.a6 | exact ha) (by omega) (by omega) ?_
        rw [show w.toNat = i by omega]
        refine aw_istore_6 (q := 24) F dL_countOther_22 rfl trivial ?_
        refine aw_iload_2 (q := 25) F dL_countOther_24 rfl ?_
        refine aw_iload_6 (q := 27) F dL_countOther_25 rfl ?_
        refine aw_iload_1 (q := 28) F dL_countOther_27 rfl ?_
        refine aw_icmp_eq (q := 31) (t := 35) F dL_countOther_28 rfl (by decide) (fun c28 => ?_) (fun c28 => ?_)
        · refine aw_iconst (q := 36) F dL_countOther_35 rfl (by decide) ?_
          refine aw_iadd (q := 37) F dL_countOther_36 rfl (by constructor <;> omega) ?_
          refine aw_istore_2 (q := 38) F dL_countOther_37 rfl trivial ?_
          refine aw_iinc_5 (q := 41) F dL_countOther_38 rfl trivial (by constructor <;> omega) ?_
          refine aw_goto (t := 11) F dL_countOther_41 (by decide) ?_
          refine ih _ (by omega) (i + 1) rfl (by omega) _ _ _ ?_ (by omega)
          rw [hs1]
          first
          | (rw [if_neg (by simp [c28])]; omega)
          | (rw [if_pos (by simp [c28])]; omega)
        · refine aw_iconst (q := 32) F dL_countOther_31 rfl (by decide) ?_
          refine aw_goto (t := 36) F dL_countOther_32 (by decide) ?_
          refine aw_iadd (q := 37) F dL_countOther_36 rfl (by constructor <;> omega) ?_
          refine aw_istore_2 (q := 38) F dL_countOther_37 rfl trivial ?_
          refine aw_iinc_5 (q := 41) F dL_countOther_38 rfl trivial (by constructor <;> omega) ?_
          refine aw_goto (t := 11) F dL_countOther_41 (by decide) ?_
          refine ih _ (by omega) (i + 1) rfl (by omega) _ _ _ ?_ (by omega)
          rw [hs1]
          first
          | (rw [if_neg (by simp [c28])]; omega)
          | (rw [if_pos (by simp [c28])]; omega)
  refine aw_iconst (q := 1) F dL_countOther_0 rfl (by decide) ?_
  refine aw_istore_2 (q := 2) F dL_countOther_1 rfl trivial ?_
  refine aw_aload_0 (q := 3) F dL_countOther_2 rfl ?_
  refine aw_astore_3 (q := 4) F dL_countOther_3 rfl trivial ?_
  refine aw_aload_3 (q := 5) F dL_countOther_4 rfl ?_
  refine av_alen (q := 6) F dL_countOther_5 rfl (by first | exact hW.o | exact hW.ho | exact hW.to | exact hW.t.a4 | exact hW.t.a5 | exact hW.t.a6 | exact ha) (by decide) (by omega) ?_
  refine aw_istore_4 (q := 8) F dL_countOther_6 rfl trivial ?_
  refine aw_iconst (q := 9) F dL_countOther_8 rfl (by decide) ?_
  refine aw_istore_5 (q := 11) F dL_countOther_9 rfl trivial ?_
  exact loop _ 0 rfl (by omega) _ _ _ rfl rfl
theorem wL_size {w : Int} (h : CW V σ ow y S kn) (hK : CK K V σ ow S kn (some (vI (vSize S w)))) : Wp G 1 mL_size [vR 1, vI w] (V, σ) 0 0 K := by
  have hW := h.cs
  have hT := h.oT
  have hd4 : tDn (psT S) ≤ 4 := hT.2.1
  have hlk : tLk (psT S) < 16 := by have := hT.2.2.2.1; have := two_le hT.2.1; omega
  have hky : tKy (psT S) < 16 := by have := hT.2.2.2.2.1; have := two_le (Nat.le_trans hT.2.2.1 (by decide : 2 ≤ 4)); omega
  have ht := h.tv
  have ht1 := ht.1
  have hF := h.cf
  have k0 := hK V σ ow y h (FR.rf _ _ _)
  refine wp_intro mL_size_i.1 [some (vR 1), some (vI w)] rfl rfl (Nat.le_of_ble_eq_true rfl) ?_
  intro X hG F C
  have hm := C.rm
  refine aw_iload_1 (q := 1) F dL_size_0 rfl ?_
  refine aw_table (t := 192) F (fun i => [68, 76, 84, 92, 103, 115, 127, 138, 151, 164, 177, 182, 187].getD i 0) dL_size_1 (by decide) (by decide) (by decide) (fun i hi c1 => ?_) (fun c1 => ?_)
  · match i, hi, c1 with
    | 0, _, c1 =>
      show AW X 68 _ _ _ _ _
      refine aw_aload_0 (q := 69) F dL_size_68 rfl ?_
      refine av_getaE (q := 72) F fL_16 dL_size_69 rfl rfl (by first | exact hW.o | exact hW.ho | exact hW.to | exact hW.t.a4 | exact hW.t.a5 | exact hW.t.a6 | exact ha) hW.p5 ?_
      refine av_geti (q := 75) F fL_282 dL_size_72 rfl rfl (by first | exact hW.o | exact hW.ho | exact hW.to | exact hW.t.a4 | exact hW.t.a5 | exact hW.t.a6 | exact ha) ?_
      refine aw_iret F C dL_size_75 rfl (Nat.le_refl _) (Nat.le_refl _) ?_
      refine kI k0 ?_; rw [show w = 0 by omega, ht1.1]; rfl
    | 1, _, c1 =>
      show AW X 76 _ _ _ _ _
      refine aw_aload_0 (q := 77) F dL_size_76 rfl ?_
      refine av_getaE (q := 80) F fL_16 dL_size_77 rfl rfl (by first | exact hW.o | exact hW.ho | exact hW.to | exact hW.t.a4 | exact hW.t.a5 | exact hW.t.a6 | exact ha) hW.p5 ?_
      refine av_geti (q := 83) F fL_107 dL_size_80 rfl rfl (by first | exact hW.o | exact hW.ho | exact hW.to | exact hW.t.a4 | exact hW.t.a5 | exact hW.t.a6 | exact ha) ?_
      refine aw_iret F C dL_size_83 rfl (Nat.le_refl _) (Nat.le_refl _) ?_
      refine kI k0 ?_; rw [show w = 1 by omega, ht1.2.1]; rfl
    | 2, _, c1 =>
      show AW X 84 _ _ _ _ _
      refine aw_aload_0 (q := 85) F dL_size_84 rfl ?_
      refine av_getaE (q := 88) F fL_16 dL_size_85 rfl rfl (by first | exact hW.o | exact hW.ho | exact hW.to | exact hW.t.a4 | exact hW.t.a5 | exact hW.t.a6 | exact ha) hW.p5 ?_
      refine av_geti (q := 91) F fL_369 dL_size_88 rfl rfl (by first | exact hW.o | exact hW.ho | exact hW.to | exact hW.t.a4 | exact hW.t.a5 | exact hW.t.a6 | exact ha) ?_
      refine aw_iret F C dL_size_91 rfl (Nat.le_refl _) (Nat.le_refl _) ?_
      refine kI k0 ?_; rw [show w = 2 by omega, ht1.2.2.1]; rfl
    | 3, _, c1 =>
      show AW X 92 _ _ _ _ _
      refine aw_aload_0 (q := 93) F dL_size_92 rfl ?_
      refine av_getaE (q := 96) F fL_16 dL_size_93 rfl rfl (by first | exact hW.o | exact hW.ho | exact hW.to | exact hW.t.a4 | exact hW.t.a5 | exact hW.t.a6 | exact ha) hW.p5 ?_
      refine av_geti (q := 99) F fL_124 dL_size_96 rfl rfl (by first | exact hW.o | exact hW.ho | exact hW.to | exact hW.t.a4 | exact hW.t.a5 | exact hW.t.a6 | exact ha) ?_
      refine av_callS1 (q := 102) F hm mJI_bitCount_i mJI_bitCount_n lL_222 dL_size_99 rfl (by decide) (Nat.le_refl _) (Nat.le_refl _) (Nat.le_of_ble_eq_true rfl) (wJI_bitCount (by omega) (by omega) ?_)
      refine aw_iret F C dL_size_102 rfl (Nat.le_refl _) (Nat.le_refl _) ?_
      refine kI k0 ?_; rw [show w = 3 by omega, ht1.2.2.2.1, zbc_p hlk]; rfl
    | 4, _, c1 =>
      show AW X 103 _ _ _ _ _
      refine aw_aload_0 (q := 104) F dL_size_103 rfl ?_
      refine av_getaE (q := 107) F fL_16 dL_size_104 rfl rfl (by first | exact hW.o | exact hW.ho | exact hW.to | exact hW.t.a4 | exact hW.t.a5 | exact hW.t.a6 | exact ha) hW.p5 ?_
      refine av_getaE (q := 110) F fL_372 dL_size_107 rfl rfl (by first | exact hW.o | exact hW.ho | exact hW.to | exact hW.t.a4 | exact hW.t.a5 | exact hW.t.a6 | exact ha) hW.t.p7 ?_
      refine aw_iconst (q := 111) F dL_size_110 rfl (by decide) ?_
      refine av_callS2 (q := 114) F hm mL_countOther_i mL_countOther_n lL_375 dL_size_111 rfl (by decide) (Nat.le_refl _) (Nat.le_refl _) (Nat.le_of_ble_eq_true rfl) (wL_countOther hW.t.a2 (by decide) ?_)
      refine aw_iret F C dL_size_114 rfl (Nat.le_refl _) (Nat.le_refl _) ?_
      refine kI k0 ?_; rw [show w = 4 by omega]; exact congrArg Nat.cast (cntB_cong (fun i hi => by rw [(ht.2.1 i hi).2]; exact bne_cast _))
    | 5, _, c1 =>
      show AW X 115 _ _ _ _ _
      refine aw_aload_0 (q := 116) F dL_size_115 rfl ?_
      refine av_getaE (q := 119) F fL_16 dL_size_116 rfl rfl (by first | exact hW.o | exact hW.ho | exact hW.to | exact hW.t.a4 | exact hW.t.a5 | exact hW.t.a6 | exact ha) hW.p5 ?_
      refine av_getaE (q := 122) F fL_379 dL_size_119 rfl rfl (by first | exact hW.o | exact hW.ho | exact hW.to | exact hW.t.a4 | exact hW.t.a5 | exact hW.t.a6 | exact ha) hW.t.p8 ?_
      refine aw_iconst (q := 123) F dL_size_122 rfl (by decide) ?_
      refine av_callS2 (q := 126) F hm mL_countOther_i mL_countOther_n lL_375 dL_size_123 rfl (by decide) (Nat.le_refl _) (Nat.le_refl _) (Nat.le_of_ble_eq_true rfl) (wL_countOther hW.t.a3 (by decide) ?_)
      refine aw_iret F C dL_size_126 rfl (Nat.le_refl _) (Nat.le_refl _) ?_
      refine kI k0 ?_; rw [show w = 5 by omega]; exact congrArg Nat.cast (cntB_cong (fun i hi => by rw [(ht.2.2 i hi).1]; exact bne_cast _))
    | 6, _, c1 =>
      show AW X 127 _ _ _ _ _
      refine aw_aload_0 (q := 128) F dL_size_127 rfl ?_
      refine av_getaE (q := 131) F fL_16 dL_size_128 rfl rfl (by first | exact hW.o | exact hW.ho | exact hW.to | exact hW.t.a4 | exact hW.t.a5 | exact hW.t.a6 | exact ha) hW.p5 ?_
      refine av_geti (q := 134) F fL_142 dL_size_131 rfl rfl (by first | exact hW.o | exact hW.ho | exact hW.to | exact hW.t.a4 | exact hW.t.a5 | exact hW.t.a6 | exact ha) ?_
      refine av_callS1 (q := 137) F hm mJI_bitCount_i mJI_bitCount_n lL_222 dL_size_134 rfl (by decide) (Nat.le_refl _) (Nat.le_refl _) (Nat.le_of_ble_eq_true rfl) (wJI_bitCount (by omega) (by omega) ?_)
      refine aw_iret F C dL_size_137 rfl (Nat.le_refl _) (Nat.le_refl _) ?_
      refine kI k0 ?_; rw [show w = 6 by omega, ht1.2.2.2.2.1, zbc_p hky]; rfl
    | 7, _, c1 =>
      show AW X 138 _ _ _ _ _
      refine aw_aload_0 (q := 139) F dL_size_138 rfl ?_
      refine av_getaE (q := 142) F fL_16 dL_size_139 rfl rfl (by first | exact hW.o | exact hW.ho | exact hW.to | exact hW.t.a4 | exact hW.t.a5 | exact hW.t.a6 | exact ha) hW.p5 ?_
      refine av_getaE (q := 145) F fL_145 dL_size_142 rfl rfl (by first | exact hW.o | exact hW.ho | exact hW.to | exact hW.t.a4 | exact hW.t.a5 | exact hW.t.a6 | exact ha) hW.t.p9 ?_
      refine aw_bipush (q := 147) F dL_size_145 rfl (by decide) ?_
      refine av_callS2 (q := 150) F hm mL_countOther_i mL_countOther_n lL_375 dL_size_147 rfl (by decide) (Nat.le_refl _) (Nat.le_refl _) (Nat.le_of_ble_eq_true rfl) (wL_countOther hW.t.a4 (by decide) ?_)
      refine aw_iret F C dL_size_150 rfl (Nat.le_refl _) (Nat.le_refl _) ?_
      refine kI k0 ?_; rw [show w = 7 by omega]; exact congrArg Nat.cast (cntB_cong (fun i hi => by rw [(ht.2.2 i hi).2.1]))
    | 8, _, c1 =>
      show AW X 151 _ _ _ _ _
      refine aw_aload_0 (q := 152) F dL_size_151 rfl ?_
      refine av_getaE (q := 155) F fL_16 dL_size_152 rfl rfl (by first | exact hW.o | exact hW.ho | exact hW.to | exact hW.t.a4 | exact hW.t.a5 | exact hW.t.a6 | exact ha) hW.p5 ?_
      refine av_getaE (q := 158) F fL_148 dL_size_155 rfl rfl (by first | exact hW.o | exact hW.ho | exact hW.to | exact hW.t.a4 | exact hW.t.a5 | exact hW.t.a6 | exact ha) hW.t.p10 ?_
      refine aw_bipush (q := 160) F dL_size_158 rfl (by decide) ?_
      refine av_callS2 (q := 163) F hm mL_countOther_i mL_countOther_n lL_375 dL_size_160 rfl (by decide) (Nat.le_refl _) (Nat.le_refl _) (Nat.le_of_ble_eq_true rfl) (wL_countOther hW.t.a5 (by decide) ?_)
      refine aw_iret F C dL_size_163 rfl (Nat.le_refl _) (Nat.le_refl _) ?_
      refine kI k0 ?_; rw [show w = 8 by omega]; exact congrArg Nat.cast (cntB_cong (fun i hi => by rw [(ht.2.2 i hi).2.2.1]))
    | 9, _, c1 =>
      show AW X 164 _ _ _ _ _
      refine aw_aload_0 (q := 165) F dL_size_164 rfl ?_
      refine av_getaE (q := 168) F fL_16 dL_size_165 rfl rfl (by first | exact hW.o | exact hW.ho | exact hW.to | exact hW.t.a4 | exact hW.t.a5 | exact hW.t.a6 | exact ha) hW.p5 ?_
      refine av_getaE (q := 171) F fL_151 dL_size_168 rfl rfl (by first | exact hW.o | exact hW.ho | exact hW.to | exact hW.t.a4 | exact hW.t.a5 | exact hW.t.a6 | exact ha) hW.t.p11 ?_
      refine aw_bipush (q := 173) F dL_size_171 rfl (by decide) ?_
      refine av_callS2 (q := 176) F hm mL_countOther_i mL_countOther_n lL_375 dL_size_173 rfl (by decide) (Nat.le_refl _) (Nat.le_refl _) (Nat.le_of_ble_eq_true rfl) (wL_countOther hW.t.a6 (by decide) ?_)
      refine aw_iret F C dL_size_176 rfl (Nat.le_refl _) (Nat.le_refl _) ?_
      refine kI k0 ?_; rw [show w = 9 by omega]; exact congrArg Nat.cast (cntB_cong (fun i hi => by rw [(ht.2.2 i hi).2.2.2]))
    | 10, _, c1 =>
      show AW X 177 _ _ _ _ _
      refine aw_aload_0 (q := 178) F dL_size_177 rfl ?_
      refine av_geti (q := 181) F fL_354 dL_size_178 rfl rfl (by first | exact hW.o | exact hW.ho | exact hW.to | exact hW.t.a4 | exact hW.t.a5 | exact hW.t.a6 | exact ha) ?_
      refine aw_iret F C dL_size_181 rfl (Nat.le_refl _) (Nat.le_refl _) ?_
      refine kI k0 ?_; rw [show w = 10 by omega, hF.2.2.2.2.1]; rfl
    | 11, _, c1 =>
      show AW X 182 _ _ _ _ _
      refine aw_aload_0 (q := 183) F dL_size_182 rfl ?_
      refine av_geti (q := 186) F fL_360 dL_size_183 rfl rfl (by first | exact hW.o | exact hW.ho | exact hW.to | exact hW.t.a4 | exact hW.t.a5 | exact hW.t.a6 | exact ha) ?_
      refine aw_iret F C dL_size_186 rfl (Nat.le_refl _) (Nat.le_refl _) ?_
      refine kI k0 ?_; rw [show w = 11 by omega, hF.2.2.2.2.2]; rfl
    | 12, _, c1 =>
      show AW X 187 _ _ _ _ _
      refine aw_aload_0 (q := 188) F dL_size_187 rfl ?_
      refine av_geti (q := 191) F fL_69 dL_size_188 rfl rfl (by first | exact hW.o | exact hW.ho | exact hW.to | exact hW.t.a4 | exact hW.t.a5 | exact hW.t.a6 | exact ha) ?_
      refine aw_iret F C dL_size_191 rfl (Nat.le_refl _) (Nat.le_refl _) ?_
      refine kI k0 ?_; rw [show w = 12 by omega, hF.1]; rfl
    | i + 13, hi, _ => exact absurd hi (by show ¬ i + 13 < 13; omega)
  · refine aw_iconst (q := 193) F dL_size_192 rfl (by decide) ?_
    refine aw_iret F C dL_size_193 rfl (Nat.le_refl _) (Nat.le_refl _) ?_
    refine kI k0 ?_; unfold vSize; rw [if_neg (by omega), if_neg (by omega), if_neg (by omega), if_neg (by omega), if_neg (by omega), if_neg (by omega), if_neg (by omega), if_neg (by omega), if_neg (by omega), if_neg (by omega), if_neg (by omega), if_neg (by omega), if_neg (by omega)]
theorem wL_share {q x z : Int} (hq : 0 ≤ q ∧ q ≤ 9) (hK : K (some (vI (shr q x z))) (V, σ)) : Wp G 0 mL_share [vI q, vI x, vI z] (V, σ) 0 0 K := by
  refine wp_intro mL_share_i.1 [some (vI q), some (vI x), some (vI z)] rfl rfl (Nat.le_of_ble_eq_true rfl) ?_
  intro X hG F C
  have hm := C.rm
  refine aw_iload_1 (q := 1) F dL_share_0 rfl ?_
  refine aw_if_eq (q := 4) (t := 14) F dL_share_1 rfl (by decide) (fun c1 => ?_) (fun c1 => ?_)
  · refine aw_iload_2 (q := 15) F dL_share_14 rfl ?_
    refine aw_if_eq (q := 18) (t := 24) F dL_share_15 rfl (by decide) (fun c15 => ?_) (fun c15 => ?_)
    · refine aw_iconst (q := 25) F dL_share_24 rfl (by decide) ?_
      refine aw_iret F C dL_share_25 rfl (Nat.le_refl _) (Nat.le_refl _) ?_
      refine kI hK ?_; unfold shr; rw [if_pos c1]; first | rw [if_neg c15] | rw [if_pos c15]
    · refine aw_iconst (q := 19) F dL_share_18 rfl (by decide) ?_
      refine aw_iload_0 (q := 20) F dL_share_19 rfl ?_
      refine aw_isub (q := 21) F dL_share_20 rfl (by constructor <;> omega) ?_
      refine aw_goto (t := 25) F dL_share_21 (by decide) ?_
      refine aw_iret F C dL_share_25 rfl (Nat.le_refl _) (Nat.le_refl _) ?_
      refine kI hK ?_; unfold shr; rw [if_pos c1]; first | rw [if_neg c15] | rw [if_pos c15]
  · refine aw_iload_2 (q := 5) F dL_share_4 rfl ?_
    refine aw_if_eq (q := 8) (t := 12) F dL_share_5 rfl (by decide) (fun c5 => ?_) (fun c5 => ?_)
    · refine aw_iconst (q := 13) F dL_share_12 rfl (by decide) ?_
      refine aw_iret F C dL_share_13 rfl (Nat.le_refl _) (Nat.le_refl _) ?_
      refine kI hK ?_; unfold shr; rw [if_neg c1]; first | rw [if_neg c5] | rw [if_pos c5]
    · refine aw_iconst (q := 9) F dL_share_8 rfl (by decide) ?_
      refine aw_goto (t := 13) F dL_share_9 (by decide) ?_
      refine aw_iret F C dL_share_13 rfl (Nat.le_refl _) (Nat.le_refl _) ?_
      refine kI hK ?_; unfold shr; rw [if_neg c1]; first | rw [if_neg c5] | rw [if_pos c5]
theorem wL_isRest {q x : Int} {k : Nat} (hq : 0 ≤ q ∧ q ≤ 9) (hx : x = k) (hk : k < 4) (h1 : rstB q (k / 2 : Nat) (k % 2 : Nat) = true → K (some (vI 1)) (V, σ)) (h0 : rstB q (k / 2 : Nat) (k % 2 : Nat) = false → K (some (vI 0)) (V, σ)) : Wp G 1 mL_isRest [vI q, vI x] (V, σ) 0 0 K := by
  have e2 : zand x 2 = ((k / 2 * 2 : Nat) : Int) := by rw [hx]; exact zand2 hk
  have e1 : zand x 1 = ((k % 2 : Nat) : Int) := by rw [hx, zand1]; omega
  have hd : k / 2 = 0 ∨ k / 2 = 1 := by omega
  have hm2 : k % 2 = 0 ∨ k % 2 = 1 := by omega
  refine wp_intro mL_isRest_i.1 [some (vI q), some (vI x), none, none] rfl rfl (Nat.le_of_ble_eq_true rfl) ?_
  intro X hG F C
  have hm := C.rm
  refine aw_iload_1 (q := 1) F dL_isRest_0 rfl ?_
  refine aw_iconst (q := 2) F dL_isRest_1 rfl (by decide) ?_
  refine aw_iand (q := 3) F dL_isRest_2 rfl ?_
  rw [e2]
  refine aw_if_eq (q := 6) (t := 10) F dL_isRest_3 rfl (by decide) (fun c3 => ?_) (fun c3 => ?_)
  · refine aw_iconst (q := 11) F dL_isRest_10 rfl (by decide) ?_
    refine aw_istore_2 (q := 12) F dL_isRest_11 rfl trivial ?_
    refine aw_iload_1 (q := 13) F dL_isRest_12 rfl ?_
    refine aw_iconst (q := 14) F dL_isRest_13 rfl (by decide) ?_
    refine aw_iand (q := 15) F dL_isRest_14 rfl ?_
    rw [e1]
    refine aw_if_eq (q := 18) (t := 22) F dL_isRest_15 rfl (by decide) (fun c15 => ?_) (fun c15 => ?_)
    · refine aw_iconst (q := 23) F dL_isRest_22 rfl (by decide) ?_
      refine aw_istore_3 (q := 24) F dL_isRest_23 rfl trivial ?_
      refine aw_iload_0 (q := 25) F dL_isRest_24 rfl ?_
      refine aw_iload_2 (q := 26) F dL_isRest_25 rfl ?_
      refine aw_iload_3 (q := 27) F dL_isRest_26 rfl ?_
      refine av_callS3 (q := 30) F hm mL_share_i mL_share_n lL_267 dL_isRest_27 rfl (by decide) (Nat.le_refl _) (Nat.le_refl _) (Nat.le_of_ble_eq_true rfl) (wL_share hq ?_)
      refine aw_iload_0 (q := 31) F dL_isRest_30 rfl ?_
      refine aw_iload_2 (q := 32) F dL_isRest_31 rfl ?_
      refine aw_if_ne (q := 35) (t := 39) F dL_isRest_32 rfl (by decide) (fun c32 => absurd c32 (by decide)) (fun c32 => ?_)
      refine aw_iconst (q := 36) F dL_isRest_35 rfl (by decide) ?_
      refine aw_goto (t := 40) F dL_isRest_36 (by decide) ?_
      refine aw_iload_3 (q := 41) F dL_isRest_40 rfl ?_
      refine av_callS3 (q := 44) F hm mL_share_i mL_share_n lL_267 dL_isRest_41 rfl (by decide) (Nat.le_refl _) (Nat.le_refl _) (Nat.le_of_ble_eq_true rfl) (wL_share hq ?_)
      refine aw_icmp_lt (q := 47) (t := 74) F dL_isRest_44 rfl (by decide) (fun c44 => ?_) (fun c44 => ?_)
      · refine aw_iconst (q := 75) F dL_isRest_74 rfl (by decide) ?_
        refine aw_zret F C dL_isRest_75 rfl (by decide) (Nat.le_refl _) (Nat.le_refl _) ?_
        refine h0 ?_; rcases hd with e | e <;> rcases hm2 with f | f <;> rw [e, f] <;> first | (exfalso; omega) | (simp [rstB, shr] at * <;> omega)
      · refine aw_iload_0 (q := 48) F dL_isRest_47 rfl ?_
        refine aw_iload_3 (q := 49) F dL_isRest_48 rfl ?_
        refine aw_iload_2 (q := 50) F dL_isRest_49 rfl ?_
        refine av_callS3 (q := 53) F hm mL_share_i mL_share_n lL_267 dL_isRest_50 rfl (by decide) (Nat.le_refl _) (Nat.le_refl _) (Nat.le_of_ble_eq_true rfl) (wL_share hq ?_)
        refine aw_iload_0 (q := 54) F dL_isRest_53 rfl ?_
        refine aw_iload_3 (q := 55) F dL_isRest_54 rfl ?_
        refine aw_if_ne (q := 58) (t := 62) F dL_isRest_55 rfl (by decide) (fun c55 => absurd c55 (by decide)) (fun c55 => ?_)
        refine aw_iconst (q := 59) F dL_isRest_58 rfl (by decide) ?_
        refine aw_goto (t := 63) F dL_isRest_59 (by decide) ?_
        refine aw_iload_2 (q := 64) F dL_isRest_63 rfl ?_
        refine av_callS3 (q := 67) F hm mL_share_i mL_share_n lL_267 dL_isRest_64 rfl (by decide) (Nat.le_refl _) (Nat.le_refl _) (Nat.le_of_ble_eq_true rfl) (wL_share hq ?_)
        refine aw_icmp_lt (q := 70) (t := 74) F dL_isRest_67 rfl (by decide) (fun c67 => ?_) (fun c67 => ?_)
        · refine aw_iconst (q := 75) F dL_isRest_74 rfl (by decide) ?_
          refine aw_zret F C dL_isRest_75 rfl (by decide) (Nat.le_refl _) (Nat.le_refl _) ?_
          refine h0 ?_; rcases hd with e | e <;> rcases hm2 with f | f <;> rw [e, f] <;> first | (exfalso; omega) | (simp [rstB, shr] at * <;> omega)
        · refine aw_iconst (q := 71) F dL_isRest_70 rfl (by decide) ?_
          refine aw_goto (t := 75) F dL_isRest_71 (by decide) ?_
          refine aw_zret F C dL_isRest_75 rfl (by decide) (Nat.le_refl _) (Nat.le_refl _) ?_
          refine h1 ?_; rcases hd with e | e <;> rcases hm2 with f | f <;> rw [e, f] <;> first | (exfalso; omega) | (simp [rstB, shr] at * <;> omega)
    · refine aw_iconst (q := 19) F dL_isRest_18 rfl (by decide) ?_
      refine aw_goto (t := 23) F dL_isRest_19 (by decide) ?_
      refine aw_istore_3 (q := 24) F dL_isRest_23 rfl trivial ?_
      refine aw_iload_0 (q := 25) F dL_isRest_24 rfl ?_
      refine aw_iload_2 (q := 26) F dL_isRest_25 rfl ?_
      refine aw_iload_3 (q := 27) F dL_isRest_26 rfl ?_
      refine av_callS3 (q := 30) F hm mL_share_i mL_share_n lL_267 dL_isRest_27 rfl (by decide) (Nat.le_refl _) (Nat.le_refl _) (Nat.le_of_ble_eq_true rfl) (wL_share hq ?_)
      refine aw_iload_0 (q := 31) F dL_isRest_30 rfl ?_
      refine aw_iload_2 (q := 32) F dL_isRest_31 rfl ?_
      refine aw_if_ne (q := 35) (t := 39) F dL_isRest_32 rfl (by decide) (fun c32 => absurd c32 (by decide)) (fun c32 => ?_)
      refine aw_iconst (q := 36) F dL_isRest_35 rfl (by decide) ?_
      refine aw_goto (t := 40) F dL_isRest_36 (by decide) ?_
      refine aw_iload_3 (q := 41) F dL_isRest_40 rfl ?_
      refine av_callS3 (q := 44) F hm mL_share_i mL_share_n lL_267 dL_isRest_41 rfl (by decide) (Nat.le_refl _) (Nat.le_refl _) (Nat.le_of_ble_eq_true rfl) (wL_share hq ?_)
      refine aw_icmp_lt (q := 47) (t := 74) F dL_isRest_44 rfl (by decide) (fun c44 => ?_) (fun c44 => ?_)
      · refine aw_iconst (q := 75) F dL_isRest_74 rfl (by decide) ?_
        refine aw_zret F C dL_isRest_75 rfl (by decide) (Nat.le_refl _) (Nat.le_refl _) ?_
        refine h0 ?_; rcases hd with e | e <;> rcases hm2 with f | f <;> rw [e, f] <;> first | (exfalso; omega) | (simp [rstB, shr] at * <;> omega)
      · refine aw_iload_0 (q := 48) F dL_isRest_47 rfl ?_
        refine aw_iload_3 (q := 49) F dL_isRest_48 rfl ?_
        refine aw_iload_2 (q := 50) F dL_isRest_49 rfl ?_
        refine av_callS3 (q := 53) F hm mL_share_i mL_share_n lL_267 dL_isRest_50 rfl (by decide) (Nat.le_refl _) (Nat.le_refl _) (Nat.le_of_ble_eq_true rfl) (wL_share hq ?_)
        refine aw_iload_0 (q := 54) F dL_isRest_53 rfl ?_
        refine aw_iload_3 (q := 55) F dL_isRest_54 rfl ?_
        refine aw_if_ne (q := 58) (t := 62) F dL_isRest_55 rfl (by decide) (fun c55 => ?_) (fun c55 => absurd c55 (by decide))
        refine aw_iconst (q := 63) F dL_isRest_62 rfl (by decide) ?_
        refine aw_iload_2 (q := 64) F dL_isRest_63 rfl ?_
        refine av_callS3 (q := 67) F hm mL_share_i mL_share_n lL_267 dL_isRest_64 rfl (by decide) (Nat.le_refl _) (Nat.le_refl _) (Nat.le_of_ble_eq_true rfl) (wL_share hq ?_)
        refine aw_icmp_lt (q := 70) (t := 74) F dL_isRest_67 rfl (by decide) (fun c67 => ?_) (fun c67 => ?_)
        · refine aw_iconst (q := 75) F dL_isRest_74 rfl (by decide) ?_
          refine aw_zret F C dL_isRest_75 rfl (by decide) (Nat.le_refl _) (Nat.le_refl _) ?_
          refine h0 ?_; rcases hd with e | e <;> rcases hm2 with f | f <;> rw [e, f] <;> first | (exfalso; omega) | (simp [rstB, shr] at * <;> omega)
        · refine aw_iconst (q := 71) F dL_isRest_70 rfl (by decide) ?_
          refine aw_goto (t := 75) F dL_isRest_71 (by decide) ?_
          refine aw_zret F C dL_isRest_75 rfl (by decide) (Nat.le_refl _) (Nat.le_refl _) ?_
          refine h1 ?_; rcases hd with e | e <;> rcases hm2 with f | f <;> rw [e, f] <;> first | (exfalso; omega) | (simp [rstB, shr] at * <;> omega)
  · refine aw_iconst (q := 7) F dL_isRest_6 rfl (by decide) ?_
    refine aw_goto (t := 11) F dL_isRest_7 (by decide) ?_
    refine aw_istore_2 (q := 12) F dL_isRest_11 rfl trivial ?_
    refine aw_iload_1 (q := 13) F dL_isRest_12 rfl ?_
    refine aw_iconst (q := 14) F dL_isRest_13 rfl (by decide) ?_
    refine aw_iand (q := 15) F dL_isRest_14 rfl ?_
    rw [e1]
    refine aw_if_eq (q := 18) (t := 22) F dL_isRest_15 rfl (by decide) (fun c15 => ?_) (fun c15 => ?_)
    · refine aw_iconst (q := 23) F dL_isRest_22 rfl (by decide) ?_
      refine aw_istore_3 (q := 24) F dL_isRest_23 rfl trivial ?_
      refine aw_iload_0 (q := 25) F dL_isRest_24 rfl ?_
      refine aw_iload_2 (q := 26) F dL_isRest_25 rfl ?_
      refine aw_iload_3 (q := 27) F dL_isRest_26 rfl ?_
      refine av_callS3 (q := 30) F hm mL_share_i mL_share_n lL_267 dL_isRest_27 rfl (by decide) (Nat.le_refl _) (Nat.le_refl _) (Nat.le_of_ble_eq_true rfl) (wL_share hq ?_)
      refine aw_iload_0 (q := 31) F dL_isRest_30 rfl ?_
      refine aw_iload_2 (q := 32) F dL_isRest_31 rfl ?_
      refine aw_if_ne (q := 35) (t := 39) F dL_isRest_32 rfl (by decide) (fun c32 => ?_) (fun c32 => absurd c32 (by decide))
      refine aw_iconst (q := 40) F dL_isRest_39 rfl (by decide) ?_
      refine aw_iload_3 (q := 41) F dL_isRest_40 rfl ?_
      refine av_callS3 (q := 44) F hm mL_share_i mL_share_n lL_267 dL_isRest_41 rfl (by decide) (Nat.le_refl _) (Nat.le_refl _) (Nat.le_of_ble_eq_true rfl) (wL_share hq ?_)
      refine aw_icmp_lt (q := 47) (t := 74) F dL_isRest_44 rfl (by decide) (fun c44 => ?_) (fun c44 => ?_)
      · refine aw_iconst (q := 75) F dL_isRest_74 rfl (by decide) ?_
        refine aw_zret F C dL_isRest_75 rfl (by decide) (Nat.le_refl _) (Nat.le_refl _) ?_
        refine h0 ?_; rcases hd with e | e <;> rcases hm2 with f | f <;> rw [e, f] <;> first | (exfalso; omega) | (simp [rstB, shr] at * <;> omega)
      · refine aw_iload_0 (q := 48) F dL_isRest_47 rfl ?_
        refine aw_iload_3 (q := 49) F dL_isRest_48 rfl ?_
        refine aw_iload_2 (q := 50) F dL_isRest_49 rfl ?_
        refine av_callS3 (q := 53) F hm mL_share_i mL_share_n lL_267 dL_isRest_50 rfl (by decide) (Nat.le_refl _) (Nat.le_refl _) (Nat.le_of_ble_eq_true rfl) (wL_share hq ?_)
        refine aw_iload_0 (q := 54) F dL_isRest_53 rfl ?_
        refine aw_iload_3 (q := 55) F dL_isRest_54 rfl ?_
        refine aw_if_ne (q := 58) (t := 62) F dL_isRest_55 rfl (by decide) (fun c55 => absurd c55 (by decide)) (fun c55 => ?_)
        refine aw_iconst (q := 59) F dL_isRest_58 rfl (by decide) ?_
        refine aw_goto (t := 63) F dL_isRest_59 (by decide) ?_
        refine aw_iload_2 (q := 64) F dL_isRest_63 rfl ?_
        refine av_callS3 (q := 67) F hm mL_share_i mL_share_n lL_267 dL_isRest_64 rfl (by decide) (Nat.le_refl _) (Nat.le_refl _) (Nat.le_of_ble_eq_true rfl) (wL_share hq ?_)
        refine aw_icmp_lt (q := 70) (t := 74) F dL_isRest_67 rfl (by decide) (fun c67 => ?_) (fun c67 => ?_)
        · refine aw_iconst (q := 75) F dL_isRest_74 rfl (by decide) ?_
          refine aw_zret F C dL_isRest_75 rfl (by decide) (Nat.le_refl _) (Nat.le_refl _) ?_
          refine h0 ?_; rcases hd with e | e <;> rcases hm2 with f | f <;> rw [e, f] <;> first | (exfalso; omega) | (simp [rstB, shr] at * <;> omega)
        · refine aw_iconst (q := 71) F dL_isRest_70 rfl (by decide) ?_
          refine aw_goto (t := 75) F dL_isRest_71 (by decide) ?_
          refine aw_zret F C dL_isRest_75 rfl (by decide) (Nat.le_refl _) (Nat.le_refl _) ?_
          refine h1 ?_; rcases hd with e | e <;> rcases hm2 with f | f <;> rw [e, f] <;> first | (exfalso; omega) | (simp [rstB, shr] at * <;> omega)
    · refine aw_iconst (q := 19) F dL_isRest_18 rfl (by decide) ?_
      refine aw_goto (t := 23) F dL_isRest_19 (by decide) ?_
      refine aw_istore_3 (q := 24) F dL_isRest_23 rfl trivial ?_
      refine aw_iload_0 (q := 25) F dL_isRest_24 rfl ?_
      refine aw_iload_2 (q := 26) F dL_isRest_25 rfl ?_
      refine aw_iload_3 (q := 27) F dL_isRest_26 rfl ?_
      refine av_callS3 (q := 30) F hm mL_share_i mL_share_n lL_267 dL_isRest_27 rfl (by decide) (Nat.le_refl _) (Nat.le_refl _) (Nat.le_of_ble_eq_true rfl) (wL_share hq ?_)
      refine aw_iload_0 (q := 31) F dL_isRest_30 rfl ?_
      refine aw_iload_2 (q := 32) F dL_isRest_31 rfl ?_
      refine aw_if_ne (q := 35) (t := 39) F dL_isRest_32 rfl (by decide) (fun c32 => ?_) (fun c32 => absurd c32 (by decide))
      refine aw_iconst (q := 40) F dL_isRest_39 rfl (by decide) ?_
      refine aw_iload_3 (q := 41) F dL_isRest_40 rfl ?_
      refine av_callS3 (q := 44) F hm mL_share_i mL_share_n lL_267 dL_isRest_41 rfl (by decide) (Nat.le_refl _) (Nat.le_refl _) (Nat.le_of_ble_eq_true rfl) (wL_share hq ?_)
      refine aw_icmp_lt (q := 47) (t := 74) F dL_isRest_44 rfl (by decide) (fun c44 => ?_) (fun c44 => ?_)
      · refine aw_iconst (q := 75) F dL_isRest_74 rfl (by decide) ?_
        refine aw_zret F C dL_isRest_75 rfl (by decide) (Nat.le_refl _) (Nat.le_refl _) ?_
        refine h0 ?_; rcases hd with e | e <;> rcases hm2 with f | f <;> rw [e, f] <;> first | (exfalso; omega) | (simp [rstB, shr] at * <;> omega)
      · refine aw_iload_0 (q := 48) F dL_isRest_47 rfl ?_
        refine aw_iload_3 (q := 49) F dL_isRest_48 rfl ?_
        refine aw_iload_2 (q := 50) F dL_isRest_49 rfl ?_
        refine av_callS3 (q := 53) F hm mL_share_i mL_share_n lL_267 dL_isRest_50 rfl (by decide) (Nat.le_refl _) (Nat.le_refl _) (Nat.le_of_ble_eq_true rfl) (wL_share hq ?_)
        refine aw_iload_0 (q := 54) F dL_isRest_53 rfl ?_
        refine aw_iload_3 (q := 55) F dL_isRest_54 rfl ?_
        refine aw_if_ne (q := 58) (t := 62) F dL_isRest_55 rfl (by decide) (fun c55 => ?_) (fun c55 => absurd c55 (by decide))
        refine aw_iconst (q := 63) F dL_isRest_62 rfl (by decide) ?_
        refine aw_iload_2 (q := 64) F dL_isRest_63 rfl ?_
        refine av_callS3 (q := 67) F hm mL_share_i mL_share_n lL_267 dL_isRest_64 rfl (by decide) (Nat.le_refl _) (Nat.le_refl _) (Nat.le_of_ble_eq_true rfl) (wL_share hq ?_)
        refine aw_icmp_lt (q := 70) (t := 74) F dL_isRest_67 rfl (by decide) (fun c67 => ?_) (fun c67 => ?_)
        · refine aw_iconst (q := 75) F dL_isRest_74 rfl (by decide) ?_
          refine aw_zret F C dL_isRest_75 rfl (by decide) (Nat.le_refl _) (Nat.le_refl _) ?_
          refine h0 ?_; rcases hd with e | e <;> rcases hm2 with f | f <;> rw [e, f] <;> first | (exfalso; omega) | (simp [rstB, shr] at * <;> omega)
        · refine aw_iconst (q := 71) F dL_isRest_70 rfl (by decide) ?_
          refine aw_goto (t := 75) F dL_isRest_71 (by decide) ?_
          refine aw_zret F C dL_isRest_75 rfl (by decide) (Nat.le_refl _) (Nat.le_refl _) ?_
          refine h1 ?_; rcases hd with e | e <;> rcases hm2 with f | f <;> rw [e, f] <;> first | (exfalso; omega) | (simp [rstB, shr] at * <;> omega)
theorem wL_slams {q x z w : Int} (hw : w = 0 ∨ w = 1) (h : CW V σ ow y S kn) (hK : CK K V σ ow (setR S (wy (0 < tDn (psT S)) (0 ≤ q ∧ q ≤ 9))) kn (some (vI (rfD (wy (0 < tDn (psT S)) (0 ≤ q ∧ q ≤ 9)) (if w = 0 then shr q x z else shr q z x) (-100))))) : Wp G 1 mL_slams [vR 1, vI q, vI x, vI z, vI w] (V, σ) 0 0 K := by
  have hW := h.cs
  obtain ⟨g, r1, r2⟩ := g3 hK
  have hT1 : V (dT y) 1 = tDn (psT S) := h.tv.1.2.1
  refine wp_intro mL_slams_i.1 [some (vR 1), some (vI q), some (vI x), some (vI z), some (vI w)] rfl rfl (Nat.le_of_ble_eq_true rfl) ?_
  intro X hG F C
  have hm := C.rm
  refine aw_aload_0 (q := 1) F dL_slams_0 rfl ?_
  refine aw_aload_0 (q := 2) F dL_slams_1 rfl ?_
  refine av_callV0 (q := 5) (ci := 7) F hm mL_hasLane_i mL_hasLane_n lL_154 dL_slams_2 rfl rfl rfl (by first | exact hW.o | exact hW.ho | exact hW.to | exact hW.t.a4 | exact hW.t.a5 | exact hW.t.a6 | exact ha) (by decide) (Nat.le_refl _) (Nat.le_refl _) (Nat.le_of_ble_eq_true rfl) (wL_hasLane hW (fun c2 => ?_) (fun c2 => ?_))
  · refine aw_iload_1 (q := 6) F dL_slams_5 rfl ?_
    refine av_callS1 (q := 9) F hm mL_isDraught_i mL_isDraught_n lL_264 dL_slams_6 rfl (by decide) (Nat.le_refl _) (Nat.le_refl _) (Nat.le_of_ble_eq_true rfl) (wL_isDraught (fun c6 => ?_) (fun c6 => ?_))
    · refine av_callV2 (q := 12) (ci := 7) F hm mL_passes_i mL_passes_n lL_114 dL_slams_9 rfl rfl rfl (by first | exact hW.o | exact hW.ho | exact hW.to | exact hW.t.a4 | exact hW.t.a5 | exact hW.t.a6 | exact ha) (by decide) (Nat.le_refl _) (Nat.le_refl _) (Nat.le_of_ble_eq_true rfl) (wL_passes hW (fun c9 d9 => ?_) (fun c9 => ?_) (fun c9 d9 => ?_))
      · refine aw_if_ne (q := 15) (t := 18) F dL_slams_12 rfl (by decide) (fun c12 => ?_) (fun c12 => absurd c12 (by decide))
        refine aw_iload_4 (q := 20) F dL_slams_18 rfl ?_
        refine aw_if_eq (q := 23) (t := 32) F dL_slams_20 rfl (by decide) (fun c20 => ?_) (fun c20 => ?_)
        · refine aw_iload_1 (q := 33) F dL_slams_32 rfl ?_
          refine aw_iload_2 (q := 34) F dL_slams_33 rfl ?_
          refine aw_iload_3 (q := 35) F dL_slams_34 rfl ?_
          refine av_callS3 (q := 38) F hm mL_share_i mL_share_n lL_267 dL_slams_35 rfl (by decide) (Nat.le_refl _) (Nat.le_refl _) (Nat.le_of_ble_eq_true rfl) (wL_share (by omega) ?_)
          refine aw_iret F C dL_slams_38 rfl (Nat.le_refl _) (Nat.le_refl _) ?_
          first | (exfalso; omega) | (refine kI (h.now (by decide) (g (by omega) (by omega))) ?_; first | rw [if_pos c20] | rw [if_neg c20])
        · refine aw_iload_1 (q := 24) F dL_slams_23 rfl ?_
          refine aw_iload_3 (q := 25) F dL_slams_24 rfl ?_
          refine aw_iload_2 (q := 26) F dL_slams_25 rfl ?_
          refine av_callS3 (q := 29) F hm mL_share_i mL_share_n lL_267 dL_slams_26 rfl (by decide) (Nat.le_refl _) (Nat.le_refl _) (Nat.le_of_ble_eq_true rfl) (wL_share (by omega) ?_)
          refine aw_goto (t := 38) F dL_slams_29 (by decide) ?_
          refine aw_iret F C dL_slams_38 rfl (Nat.le_refl _) (Nat.le_refl _) ?_
          first | (exfalso; omega) | (refine kI (h.now (by decide) (g (by omega) (by omega))) ?_; first | rw [if_pos c20] | rw [if_neg c20])
      · refine aw_if_ne (q := 15) (t := 18) F dL_slams_12 rfl (by decide) (fun c12 => absurd c12 (by decide)) (fun c12 => ?_)
        refine aw_bipush (q := 17) F dL_slams_15 rfl (by decide) ?_
        refine aw_iret F C dL_slams_17 rfl (Nat.le_refl _) (Nat.le_refl _) ?_
        first | exact h.now (by decide) (r1 (by omega)) | exact h.now (by decide) (r2 (by omega) (by omega)) | (exfalso; omega)
      · refine aw_if_ne (q := 15) (t := 18) F dL_slams_12 rfl (by decide) (fun c12 => absurd c12 (by decide)) (fun c12 => ?_)
        refine aw_bipush (q := 17) F dL_slams_15 rfl (by decide) ?_
        refine aw_iret F C dL_slams_17 rfl (Nat.le_refl _) (Nat.le_refl _) ?_
        first | exact h.now (by decide) (r1 (by omega)) | exact h.now (by decide) (r2 (by omega) (by omega)) | (exfalso; omega)
    · refine av_callV2 (q := 12) (ci := 7) F hm mL_passes_i mL_passes_n lL_114 dL_slams_9 rfl rfl rfl (by first | exact hW.o | exact hW.ho | exact hW.to | exact hW.t.a4 | exact hW.t.a5 | exact hW.t.a6 | exact ha) (by decide) (Nat.le_refl _) (Nat.le_refl _) (Nat.le_of_ble_eq_true rfl) (wL_passes hW (fun c9 d9 => ?_) (fun c9 => ?_) (fun c9 d9 => ?_))
      · refine aw_if_ne (q := 15) (t := 18) F dL_slams_12 rfl (by decide) (fun c12 => ?_) (fun c12 => absurd c12 (by decide))
        refine aw_iload_4 (q := 20) F dL_slams_18 rfl ?_
        refine aw_if_eq (q := 23) (t := 32) F dL_slams_20 rfl (by decide) (fun c20 => ?_) (fun c20 => ?_)
        · refine aw_iload_1 (q := 33) F dL_slams_32 rfl ?_
          refine aw_iload_2 (q := 34) F dL_slams_33 rfl ?_
          refine aw_iload_3 (q := 35) F dL_slams_34 rfl ?_
          refine av_callS3 (q := 38) F hm mL_share_i mL_share_n lL_267 dL_slams_35 rfl (by decide) (Nat.le_refl _) (Nat.le_refl _) (Nat.le_of_ble_eq_true rfl) (wL_share (by omega) ?_)
          refine aw_iret F C dL_slams_38 rfl (Nat.le_refl _) (Nat.le_refl _) ?_
          first | (exfalso; omega) | (refine kI (h.now (by decide) (g (by omega) (by omega))) ?_; first | rw [if_pos c20] | rw [if_neg c20])
        · refine aw_iload_1 (q := 24) F dL_slams_23 rfl ?_
          refine aw_iload_3 (q := 25) F dL_slams_24 rfl ?_
          refine aw_iload_2 (q := 26) F dL_slams_25 rfl ?_
          refine av_callS3 (q := 29) F hm mL_share_i mL_share_n lL_267 dL_slams_26 rfl (by decide) (Nat.le_refl _) (Nat.le_refl _) (Nat.le_of_ble_eq_true rfl) (wL_share (by omega) ?_)
          refine aw_goto (t := 38) F dL_slams_29 (by decide) ?_
          refine aw_iret F C dL_slams_38 rfl (Nat.le_refl _) (Nat.le_refl _) ?_
          first | (exfalso; omega) | (refine kI (h.now (by decide) (g (by omega) (by omega))) ?_; first | rw [if_pos c20] | rw [if_neg c20])
      · refine aw_if_ne (q := 15) (t := 18) F dL_slams_12 rfl (by decide) (fun c12 => absurd c12 (by decide)) (fun c12 => ?_)
        refine aw_bipush (q := 17) F dL_slams_15 rfl (by decide) ?_
        refine aw_iret F C dL_slams_17 rfl (Nat.le_refl _) (Nat.le_refl _) ?_
        first | exact h.now (by decide) (r1 (by omega)) | exact h.now (by decide) (r2 (by omega) (by omega)) | (exfalso; omega)
      · refine aw_if_ne (q := 15) (t := 18) F dL_slams_12 rfl (by decide) (fun c12 => absurd c12 (by decide)) (fun c12 => ?_)
        refine aw_bipush (q := 17) F dL_slams_15 rfl (by decide) ?_
        refine aw_iret F C dL_slams_17 rfl (Nat.le_refl _) (Nat.le_refl _) ?_
        first | exact h.now (by decide) (r1 (by omega)) | exact h.now (by decide) (r2 (by omega) (by omega)) | (exfalso; omega)
  · refine aw_iload_1 (q := 6) F dL_slams_5 rfl ?_
    refine av_callS1 (q := 9) F hm mL_isDraught_i mL_isDraught_n lL_264 dL_slams_6 rfl (by decide) (Nat.le_refl _) (Nat.le_refl _) (Nat.le_of_ble_eq_true rfl) (wL_isDraught (fun c6 => ?_) (fun c6 => ?_))
    · refine av_callV2 (q := 12) (ci := 7) F hm mL_passes_i mL_passes_n lL_114 dL_slams_9 rfl rfl rfl (by first | exact hW.o | exact hW.ho | exact hW.to | exact hW.t.a4 | exact hW.t.a5 | exact hW.t.a6 | exact ha) (by decide) (Nat.le_refl _) (Nat.le_refl _) (Nat.le_of_ble_eq_true rfl) (wL_passes hW (fun c9 d9 => ?_) (fun c9 => ?_) (fun c9 d9 => ?_))
      · refine aw_if_ne (q := 15) (t := 18) F dL_slams_12 rfl (by decide) (fun c12 => ?_) (fun c12 => absurd c12 (by decide))
        refine aw_iload_4 (q := 20) F dL_slams_18 rfl ?_
        refine aw_if_eq (q := 23) (t := 32) F dL_slams_20 rfl (by decide) (fun c20 => ?_) (fun c20 => ?_)
        · refine aw_iload_1 (q := 33) F dL_slams_32 rfl ?_
          refine aw_iload_2 (q := 34) F dL_slams_33 rfl ?_
          refine aw_iload_3 (q := 35) F dL_slams_34 rfl ?_
          refine av_callS3 (q := 38) F hm mL_share_i mL_share_n lL_267 dL_slams_35 rfl (by decide) (Nat.le_refl _) (Nat.le_refl _) (Nat.le_of_ble_eq_true rfl) (wL_share (by omega) ?_)
          refine aw_iret F C dL_slams_38 rfl (Nat.le_refl _) (Nat.le_refl _) ?_
          first | (exfalso; omega) | (refine kI (h.now (by decide) (g (by omega) (by omega))) ?_; first | rw [if_pos c20] | rw [if_neg c20])
        · refine aw_iload_1 (q := 24) F dL_slams_23 rfl ?_
          refine aw_iload_3 (q := 25) F dL_slams_24 rfl ?_
          refine aw_iload_2 (q := 26) F dL_slams_25 rfl ?_
          refine av_callS3 (q := 29) F hm mL_share_i mL_share_n lL_267 dL_slams_26 rfl (by decide) (Nat.le_refl _) (Nat.le_refl _) (Nat.le_of_ble_eq_true rfl) (wL_share (by omega) ?_)
          refine aw_goto (t := 38) F dL_slams_29 (by decide) ?_
          refine aw_iret F C dL_slams_38 rfl (Nat.le_refl _) (Nat.le_refl _) ?_
          first | (exfalso; omega) | (refine kI (h.now (by decide) (g (by omega) (by omega))) ?_; first | rw [if_pos c20] | rw [if_neg c20])
      · refine aw_if_ne (q := 15) (t := 18) F dL_slams_12 rfl (by decide) (fun c12 => absurd c12 (by decide)) (fun c12 => ?_)
        refine aw_bipush (q := 17) F dL_slams_15 rfl (by decide) ?_
        refine aw_iret F C dL_slams_17 rfl (Nat.le_refl _) (Nat.le_refl _) ?_
        first | exact h.now (by decide) (r1 (by omega)) | exact h.now (by decide) (r2 (by omega) (by omega)) | (exfalso; omega)
      · refine aw_if_ne (q := 15) (t := 18) F dL_slams_12 rfl (by decide) (fun c12 => absurd c12 (by decide)) (fun c12 => ?_)
        refine aw_bipush (q := 17) F dL_slams_15 rfl (by decide) ?_
        refine aw_iret F C dL_slams_17 rfl (Nat.le_refl _) (Nat.le_refl _) ?_
        first | exact h.now (by decide) (r1 (by omega)) | exact h.now (by decide) (r2 (by omega) (by omega)) | (exfalso; omega)
    · refine av_callV2 (q := 12) (ci := 7) F hm mL_passes_i mL_passes_n lL_114 dL_slams_9 rfl rfl rfl (by first | exact hW.o | exact hW.ho | exact hW.to | exact hW.t.a4 | exact hW.t.a5 | exact hW.t.a6 | exact ha) (by decide) (Nat.le_refl _) (Nat.le_refl _) (Nat.le_of_ble_eq_true rfl) (wL_passes hW (fun c9 d9 => ?_) (fun c9 => ?_) (fun c9 d9 => ?_))
      · refine aw_if_ne (q := 15) (t := 18) F dL_slams_12 rfl (by decide) (fun c12 => ?_) (fun c12 => absurd c12 (by decide))
        refine aw_iload_4 (q := 20) F dL_slams_18 rfl ?_
        refine aw_if_eq (q := 23) (t := 32) F dL_slams_20 rfl (by decide) (fun c20 => ?_) (fun c20 => ?_)
        · refine aw_iload_1 (q := 33) F dL_slams_32 rfl ?_
          refine aw_iload_2 (q := 34) F dL_slams_33 rfl ?_
          refine aw_iload_3 (q := 35) F dL_slams_34 rfl ?_
          refine av_callS3 (q := 38) F hm mL_share_i mL_share_n lL_267 dL_slams_35 rfl (by decide) (Nat.le_refl _) (Nat.le_refl _) (Nat.le_of_ble_eq_true rfl) (wL_share (by omega) ?_)
          refine aw_iret F C dL_slams_38 rfl (Nat.le_refl _) (Nat.le_refl _) ?_
          first | (exfalso; omega) | (refine kI (h.now (by decide) (g (by omega) (by omega))) ?_; first | rw [if_pos c20] | rw [if_neg c20])
        · refine aw_iload_1 (q := 24) F dL_slams_23 rfl ?_
          refine aw_iload_3 (q := 25) F dL_slams_24 rfl ?_
          refine aw_iload_2 (q := 26) F dL_slams_25 rfl ?_
          refine av_callS3 (q := 29) F hm mL_share_i mL_share_n lL_267 dL_slams_26 rfl (by decide) (Nat.le_refl _) (Nat.le_refl _) (Nat.le_of_ble_eq_true rfl) (wL_share (by omega) ?_)
          refine aw_goto (t := 38) F dL_slams_29 (by decide) ?_
          refine aw_iret F C dL_slams_38 rfl (Nat.le_refl _) (Nat.le_refl _) ?_
          first | (exfalso; omega) | (refine kI (h.now (by decide) (g (by omega) (by omega))) ?_; first | rw [if_pos c20] | rw [if_neg c20])
      · refine aw_if_ne (q := 15) (t := 18) F dL_slams_12 rfl (by decide) (fun c12 => absurd c12 (by decide)) (fun c12 => ?_)
        refine aw_bipush (q := 17) F dL_slams_15 rfl (by decide) ?_
        refine aw_iret F C dL_slams_17 rfl (Nat.le_refl _) (Nat.le_refl _) ?_
        first | exact h.now (by decide) (r1 (by omega)) | exact h.now (by decide) (r2 (by omega) (by omega)) | (exfalso; omega)
      · refine aw_if_ne (q := 15) (t := 18) F dL_slams_12 rfl (by decide) (fun c12 => absurd c12 (by decide)) (fun c12 => ?_)
        refine aw_bipush (q := 17) F dL_slams_15 rfl (by decide) ?_
        refine aw_iret F C dL_slams_17 rfl (Nat.le_refl _) (Nat.le_refl _) ?_
        first | exact h.now (by decide) (r1 (by omega)) | exact h.now (by decide) (r2 (by omega) (by omega)) | (exfalso; omega)
theorem wL_rests {q : Int} (h : CW V σ ow y S kn) (hK : CK K V σ ow (setR S (wy (0 < tDn (psT S)) (0 ≤ q ∧ q ≤ 9))) kn (some (vI (rfD (wy (0 < tDn (psT S)) (0 ≤ q ∧ q ≤ 9)) (cntB (fun k => rstB q (k / 2 : Nat) (k % 2 : Nat)) 4) (-1))))) : Wp G 2 mL_rests [vR 1, vI q] (V, σ) 0 0 K := by
  have hW := h.cs
  obtain ⟨g, r1, r2⟩ := g3 hK
  have hT1 : V (dT y) 1 = tDn (psT S) := h.tv.1.2.1
  refine wp_intro mL_rests_i.1 [some (vR 1), some (vI q), none, none] rfl rfl (Nat.le_of_ble_eq_true rfl) ?_
  intro X hG F C
  have hm := C.rm
  have loop : 0 < tDn (psT S) → 0 ≤ q ∧ q ≤ 9 → ∀ (j k : Nat), 4 - k = j → k ≤ 4 → ∀ (z w : Int), z = cntB (fun k => rstB q (k / 2 : Nat) (k % 2 : Nat)) k → w = k → AW X 21 [some (vR 1), some (vI q), some (vI z), some (vI w)] [] (up2 V 1 2 0, σ) 0 0 := by
    intro hl hq j
    induction j using Nat.strongRecOn with
    | ind j ih =>
      intro k hj hk z w hz hw
      have hle := cntB_le (fun k => rstB q (k / 2 : Nat) (k % 2 : Nat)) k
      refine aw_iload_3 (q := 22) F dL_rests_21 rfl ?_
      refine aw_iconst (q := 23) F dL_rests_22 rfl (by decide) ?_
      refine aw_icmp_ge (q := 26) (t := 48) F dL_rests_23 rfl (by decide) (fun c23 => ?_) (fun c23 => ?_)
      · refine aw_iload_2 (q := 49) F dL_rests_48 rfl ?_
        refine aw_iret F C dL_rests_49 rfl (Nat.le_refl _) (Nat.le_refl _) ?_
        refine kI (h.now (by decide) (g hl hq)) ?_; rw [hz, show k = 4 by omega]
      · refine aw_iload_2 (q := 27) F dL_rests_26 rfl ?_
        refine aw_iload_1 (q := 28) F dL_rests_27 rfl ?_
        refine aw_iload_3 (q := 29) F dL_rests_28 rfl ?_
        refine av_callS2 (q := 32) F hm mL_isRest_i mL_isRest_n lL_271 dL_rests_29 rfl (by decide) (Nat.le_refl _) (Nat.le_refl _) (Nat.le_of_ble_eq_true rfl) (wL_isRest (k := k) hq hw (by omega) (fun c29 => ?_) (fun c29 => ?_))
        · refine aw_if_eq (q := 35) (t := 39) F dL_rests_32 rfl (by decide) (fun c32 => absurd c32 (by decide)) (fun c32 => ?_)
          refine aw_iconst (q := 36) F dL_rests_35 rfl (by decide) ?_
          refine aw_goto (t := 40) F dL_rests_36 (by decide) ?_
          refine aw_iadd (q := 41) F dL_rests_40 rfl (by constructor <;> omega) ?_
          refine aw_istore_2 (q := 42) F dL_rests_41 rfl trivial ?_
          refine aw_iinc_3 (q := 45) F dL_rests_42 rfl trivial (by constructor <;> omega) ?_
          refine aw_goto (t := 21) F dL_rests_45 (by decide) ?_
          refine ih _ (by omega) (k + 1) rfl (by omega) _ _ ?_ (by omega)
          first | (rw [cntB_1 c29]; omega) | (rw [cntB_0 c29]; omega)
        · refine aw_if_eq (q := 35) (t := 39) F dL_rests_32 rfl (by decide) (fun c32 => ?_) (fun c32 => absurd c32 (by decide))
          refine aw_iconst (q := 40) F dL_rests_39 rfl (by decide) ?_
          refine aw_iadd (q := 41) F dL_rests_40 rfl (by constructor <;> omega) ?_
          refine aw_istore_2 (q := 42) F dL_rests_41 rfl trivial ?_
          refine aw_iinc_3 (q := 45) F dL_rests_42 rfl trivial (by constructor <;> omega) ?_
          refine aw_goto (t := 21) F dL_rests_45 (by decide) ?_
          refine ih _ (by omega) (k + 1) rfl (by omega) _ _ ?_ (by omega)
          first | (rw [cntB_1 c29]; omega) | (rw [cntB_0 c29]; omega)
  refine aw_aload_0 (q := 1) F dL_rests_0 rfl ?_
  refine aw_aload_0 (q := 2) F dL_rests_1 rfl ?_
  refine av_callV0 (q := 5) (ci := 7) F hm mL_hasLane_i mL_hasLane_n lL_154 dL_rests_2 rfl rfl rfl (by first | exact hW.o | exact hW.ho | exact hW.to | exact hW.t.a4 | exact hW.t.a5 | exact hW.t.a6 | exact ha) (by decide) (Nat.le_refl _) (Nat.le_refl _) (Nat.le_of_ble_eq_true rfl) (wL_hasLane hW (fun c2 => ?_) (fun c2 => ?_))
  · refine aw_iload_1 (q := 6) F dL_rests_5 rfl ?_
    refine av_callS1 (q := 9) F hm mL_isDraught_i mL_isDraught_n lL_264 dL_rests_6 rfl (by decide) (Nat.le_refl _) (Nat.le_refl _) (Nat.le_of_ble_eq_true rfl) (wL_isDraught (fun c6 => ?_) (fun c6 => ?_))
    · refine av_callV2 (q := 12) (ci := 7) F hm mL_passes_i mL_passes_n lL_114 dL_rests_9 rfl rfl rfl (by first | exact hW.o | exact hW.ho | exact hW.to | exact hW.t.a4 | exact hW.t.a5 | exact hW.t.a6 | exact ha) (by decide) (Nat.le_refl _) (Nat.le_refl _) (Nat.le_of_ble_eq_true rfl) (wL_passes hW (fun c9 d9 => ?_) (fun c9 => ?_) (fun c9 d9 => ?_))
      · refine aw_if_ne (q := 15) (t := 17) F dL_rests_12 rfl (by decide) (fun c12 => ?_) (fun c12 => absurd c12 (by decide))
        refine aw_iconst (q := 18) F dL_rests_17 rfl (by decide) ?_
        refine aw_istore_2 (q := 19) F dL_rests_18 rfl trivial ?_
        refine aw_iconst (q := 20) F dL_rests_19 rfl (by decide) ?_
        refine aw_istore_3 (q := 21) F dL_rests_20 rfl trivial ?_
        first | (exfalso; omega) | exact loop (by omega) (by omega) _ 0 rfl (by omega) _ _ rfl rfl
      · refine aw_if_ne (q := 15) (t := 17) F dL_rests_12 rfl (by decide) (fun c12 => absurd c12 (by decide)) (fun c12 => ?_)
        refine aw_iconst (q := 16) F dL_rests_15 rfl (by decide) ?_
        refine aw_iret F C dL_rests_16 rfl (Nat.le_refl _) (Nat.le_refl _) ?_
        first | exact h.now (by decide) (r1 (by omega)) | exact h.now (by decide) (r2 (by omega) (by omega)) | (exfalso; omega)
      · refine aw_if_ne (q := 15) (t := 17) F dL_rests_12 rfl (by decide) (fun c12 => absurd c12 (by decide)) (fun c12 => ?_)
        refine aw_iconst (q := 16) F dL_rests_15 rfl (by decide) ?_
        refine aw_iret F C dL_rests_16 rfl (Nat.le_refl _) (Nat.le_refl _) ?_
        first | exact h.now (by decide) (r1 (by omega)) | exact h.now (by decide) (r2 (by omega) (by omega)) | (exfalso; omega)
    · refine av_callV2 (q := 12) (ci := 7) F hm mL_passes_i mL_passes_n lL_114 dL_rests_9 rfl rfl rfl (by first | exact hW.o | exact hW.ho | exact hW.to | exact hW.t.a4 | exact hW.t.a5 | exact hW.t.a6 | exact ha) (by decide) (Nat.le_refl _) (Nat.le_refl _) (Nat.le_of_ble_eq_true rfl) (wL_passes hW (fun c9 d9 => ?_) (fun c9 => ?_) (fun c9 d9 => ?_))
      · refine aw_if_ne (q := 15) (t := 17) F dL_rests_12 rfl (by decide) (fun c12 => ?_) (fun c12 => absurd c12 (by decide))
        refine aw_iconst (q := 18) F dL_rests_17 rfl (by decide) ?_
        refine aw_istore_2 (q := 19) F dL_rests_18 rfl trivial ?_
        refine aw_iconst (q := 20) F dL_rests_19 rfl (by decide) ?_
        refine aw_istore_3 (q := 21) F dL_rests_20 rfl trivial ?_
        first | (exfalso; omega) | exact loop (by omega) (by omega) _ 0 rfl (by omega) _ _ rfl rfl
      · refine aw_if_ne (q := 15) (t := 17) F dL_rests_12 rfl (by decide) (fun c12 => absurd c12 (by decide)) (fun c12 => ?_)
        refine aw_iconst (q := 16) F dL_rests_15 rfl (by decide) ?_
        refine aw_iret F C dL_rests_16 rfl (Nat.le_refl _) (Nat.le_refl _) ?_
        first | exact h.now (by decide) (r1 (by omega)) | exact h.now (by decide) (r2 (by omega) (by omega)) | (exfalso; omega)
      · refine aw_if_ne (q := 15) (t := 17) F dL_rests_12 rfl (by decide) (fun c12 => absurd c12 (by decide)) (fun c12 => ?_)
        refine aw_iconst (q := 16) F dL_rests_15 rfl (by decide) ?_
        refine aw_iret F C dL_rests_16 rfl (Nat.le_refl _) (Nat.le_refl _) ?_
        first | exact h.now (by decide) (r1 (by omega)) | exact h.now (by decide) (r2 (by omega) (by omega)) | (exfalso; omega)
  · refine aw_iload_1 (q := 6) F dL_rests_5 rfl ?_
    refine av_callS1 (q := 9) F hm mL_isDraught_i mL_isDraught_n lL_264 dL_rests_6 rfl (by decide) (Nat.le_refl _) (Nat.le_refl _) (Nat.le_of_ble_eq_true rfl) (wL_isDraught (fun c6 => ?_) (fun c6 => ?_))
    · refine av_callV2 (q := 12) (ci := 7) F hm mL_passes_i mL_passes_n lL_114 dL_rests_9 rfl rfl rfl (by first | exact hW.o | exact hW.ho | exact hW.to | exact hW.t.a4 | exact hW.t.a5 | exact hW.t.a6 | exact ha) (by decide) (Nat.le_refl _) (Nat.le_refl _) (Nat.le_of_ble_eq_true rfl) (wL_passes hW (fun c9 d9 => ?_) (fun c9 => ?_) (fun c9 d9 => ?_))
      · refine aw_if_ne (q := 15) (t := 17) F dL_rests_12 rfl (by decide) (fun c12 => ?_) (fun c12 => absurd c12 (by decide))
        refine aw_iconst (q := 18) F dL_rests_17 rfl (by decide) ?_
        refine aw_istore_2 (q := 19) F dL_rests_18 rfl trivial ?_
        refine aw_iconst (q := 20) F dL_rests_19 rfl (by decide) ?_
        refine aw_istore_3 (q := 21) F dL_rests_20 rfl trivial ?_
        first | (exfalso; omega) | exact loop (by omega) (by omega) _ 0 rfl (by omega) _ _ rfl rfl
      · refine aw_if_ne (q := 15) (t := 17) F dL_rests_12 rfl (by decide) (fun c12 => absurd c12 (by decide)) (fun c12 => ?_)
        refine aw_iconst (q := 16) F dL_rests_15 rfl (by decide) ?_
        refine aw_iret F C dL_rests_16 rfl (Nat.le_refl _) (Nat.le_refl _) ?_
        first | exact h.now (by decide) (r1 (by omega)) | exact h.now (by decide) (r2 (by omega) (by omega)) | (exfalso; omega)
      · refine aw_if_ne (q := 15) (t := 17) F dL_rests_12 rfl (by decide) (fun c12 => absurd c12 (by decide)) (fun c12 => ?_)
        refine aw_iconst (q := 16) F dL_rests_15 rfl (by decide) ?_
        refine aw_iret F C dL_rests_16 rfl (Nat.le_refl _) (Nat.le_refl _) ?_
        first | exact h.now (by decide) (r1 (by omega)) | exact h.now (by decide) (r2 (by omega) (by omega)) | (exfalso; omega)
    · refine av_callV2 (q := 12) (ci := 7) F hm mL_passes_i mL_passes_n lL_114 dL_rests_9 rfl rfl rfl (by first | exact hW.o | exact hW.ho | exact hW.to | exact hW.t.a4 | exact hW.t.a5 | exact hW.t.a6 | exact ha) (by decide) (Nat.le_refl _) (Nat.le_refl _) (Nat.le_of_ble_eq_true rfl) (wL_passes hW (fun c9 d9 => ?_) (fun c9 => ?_) (fun c9 d9 => ?_))
      · refine aw_if_ne (q := 15) (t := 17) F dL_rests_12 rfl (by decide) (fun c12 => ?_) (fun c12 => absurd c12 (by decide))
        refine aw_iconst (q := 18) F dL_rests_17 rfl (by decide) ?_
        refine aw_istore_2 (q := 19) F dL_rests_18 rfl trivial ?_
        refine aw_iconst (q := 20) F dL_rests_19 rfl (by decide) ?_
        refine aw_istore_3 (q := 21) F dL_rests_20 rfl trivial ?_
        first | (exfalso; omega) | exact loop (by omega) (by omega) _ 0 rfl (by omega) _ _ rfl rfl
      · refine aw_if_ne (q := 15) (t := 17) F dL_rests_12 rfl (by decide) (fun c12 => absurd c12 (by decide)) (fun c12 => ?_)
        refine aw_iconst (q := 16) F dL_rests_15 rfl (by decide) ?_
        refine aw_iret F C dL_rests_16 rfl (Nat.le_refl _) (Nat.le_refl _) ?_
        first | exact h.now (by decide) (r1 (by omega)) | exact h.now (by decide) (r2 (by omega) (by omega)) | (exfalso; omega)
      · refine aw_if_ne (q := 15) (t := 17) F dL_rests_12 rfl (by decide) (fun c12 => absurd c12 (by decide)) (fun c12 => ?_)
        refine aw_iconst (q := 16) F dL_rests_15 rfl (by decide) ?_
        refine aw_iret F C dL_rests_16 rfl (Nat.le_refl _) (Nat.le_refl _) ?_
        first | exact h.now (by decide) (r1 (by omega)) | exact h.now (by decide) (r2 (by omega) (by omega)) | (exfalso; omega)
theorem wL_rest {q : Int} (h : CW V σ ow y S kn) (hK : CK K V σ ow (setR S (wy (0 < tDn (psT S)) (0 ≤ q ∧ q ≤ 9))) kn (some (vI (rfD (wy (0 < tDn (psT S)) (0 ≤ q ∧ q ≤ 9)) (rsF q 4 0) (-1))))) : Wp G 2 mL_rest [vR 1, vI q] (V, σ) 0 0 K := by
  have hW := h.cs
  obtain ⟨g, r1, r2⟩ := g3 hK
  have hT1 : V (dT y) 1 = tDn (psT S) := h.tv.1.2.1
  refine wp_intro mL_rest_i.1 [some (vR 1), some (vI q), none] rfl rfl (Nat.le_of_ble_eq_true rfl) ?_
  intro X hG F C
  have hm := C.rm
  have loop : 0 < tDn (psT S) → 0 ≤ q ∧ q ≤ 9 → ∀ (j k : Nat), 4 - k = j → k ≤ 4 → ∀ (w : Int), rsF q (4 - k) k = rsF q 4 0 → w = k → AW X 19 [some (vR 1), some (vI q), some (vI w)] [] (up2 V 1 2 0, σ) 0 0 := by
    intro hl hq j
    induction j using Nat.strongRecOn with
    | ind j ih =>
      intro k hj hk w hz hw
      have es : k < 4 → rsF q (4 - k) k = if rstB q (k / 2 : Nat) (k % 2 : Nat) then ((k / 2 * 10 + k % 2 : Nat) : Int) else rsF q (4 - (k + 1)) (k + 1) := fun h => by rw [show 4 - k = (4 - (k + 1)) + 1 by omega]; rfl
      have e1 : zshr w 1 = ((k / 2 : Nat) : Int) := by rw [show (1 : Int) = ((1 : Nat) : Int) from rfl, zshr_i (by omega) (by decide), hw]; omega
      have e2 : zand w 1 = ((k % 2 : Nat) : Int) := by rw [hw, zand1]; omega
      refine aw_iload_2 (q := 20) F dL_rest_19 rfl ?_
      refine aw_iconst (q := 21) F dL_rest_20 rfl (by decide) ?_
      refine aw_icmp_ge (q := 24) (t := 49) F dL_rest_21 rfl (by decide) (fun c21 => ?_) (fun c21 => ?_)
      · refine aw_bipush (q := 51) F dL_rest_49 rfl (by decide) ?_
        refine aw_iret F C dL_rest_51 rfl (Nat.le_refl _) (Nat.le_refl _) ?_
        refine kI (h.now (by decide) (g hl hq)) ?_; rw [← hz, show k = 4 by omega]; rfl
      · refine aw_iload_1 (q := 25) F dL_rest_24 rfl ?_
        refine aw_iload_2 (q := 26) F dL_rest_25 rfl ?_
        refine av_callS2 (q := 29) F hm mL_isRest_i mL_isRest_n lL_271 dL_rest_26 rfl (by decide) (Nat.le_refl _) (Nat.le_refl _) (Nat.le_of_ble_eq_true rfl) (wL_isRest (k := k) hq hw (by omega) (fun c26 => ?_) (fun c26 => ?_))
        · refine aw_if_eq (q := 32) (t := 43) F dL_rest_29 rfl (by decide) (fun c29 => absurd c29 (by decide)) (fun c29 => ?_)
          refine aw_iload_2 (q := 33) F dL_rest_32 rfl ?_
          refine aw_iconst (q := 34) F dL_rest_33 rfl (by decide) ?_
          refine aw_ishr (q := 35) F dL_rest_34 rfl ?_
          rw [e1]
          refine aw_bipush (q := 37) F dL_rest_35 rfl (by decide) ?_
          refine aw_imul (q := 38) F dL_rest_37 rfl (by constructor <;> omega) ?_
          refine aw_iload_2 (q := 39) F dL_rest_38 rfl ?_
          refine aw_iconst (q := 40) F dL_rest_39 rfl (by decide) ?_
          refine aw_iand (q := 41) F dL_rest_40 rfl ?_
          rw [e2]
          refine aw_iadd (q := 42) F dL_rest_41 rfl (by constructor <;> omega) ?_
          refine aw_iret F C dL_rest_42 rfl (Nat.le_refl _) (Nat.le_refl _) ?_
          refine kI (h.now (by decide) (g hl hq)) ?_; rw [← hz, es (by omega), if_pos c26]; omega
        · refine aw_if_eq (q := 32) (t := 43) F dL_rest_29 rfl (by decide) (fun c29 => ?_) (fun c29 => absurd c29 (by decide))
          refine aw_iinc_2 (q := 46) F dL_rest_43 rfl trivial (by constructor <;> omega) ?_
          refine aw_goto (t := 19) F dL_rest_46 (by decide) ?_
          refine ih _ (by omega) (k + 1) rfl (by omega) _ ?_ (by omega)
          rw [← hz, es (by omega), if_neg (by rw [c26]; decide)]
  refine aw_aload_0 (q := 1) F dL_rest_0 rfl ?_
  refine aw_aload_0 (q := 2) F dL_rest_1 rfl ?_
  refine av_callV0 (q := 5) (ci := 7) F hm mL_hasLane_i mL_hasLane_n lL_154 dL_rest_2 rfl rfl rfl (by first | exact hW.o | exact hW.ho | exact hW.to | exact hW.t.a4 | exact hW.t.a5 | exact hW.t.a6 | exact ha) (by decide) (Nat.le_refl _) (Nat.le_refl _) (Nat.le_of_ble_eq_true rfl) (wL_hasLane hW (fun c2 => ?_) (fun c2 => ?_))
  · refine aw_iload_1 (q := 6) F dL_rest_5 rfl ?_
    refine av_callS1 (q := 9) F hm mL_isDraught_i mL_isDraught_n lL_264 dL_rest_6 rfl (by decide) (Nat.le_refl _) (Nat.le_refl _) (Nat.le_of_ble_eq_true rfl) (wL_isDraught (fun c6 => ?_) (fun c6 => ?_))
    · refine av_callV2 (q := 12) (ci := 7) F hm mL_passes_i mL_passes_n lL_114 dL_rest_9 rfl rfl rfl (by first | exact hW.o | exact hW.ho | exact hW.to | exact hW.t.a4 | exact hW.t.a5 | exact hW.t.a6 | exact ha) (by decide) (Nat.le_refl _) (Nat.le_refl _) (Nat.le_of_ble_eq_true rfl) (wL_passes hW (fun c9 d9 => ?_) (fun c9 => ?_) (fun c9 d9 => ?_))
      · refine aw_if_ne (q := 15) (t := 17) F dL_rest_12 rfl (by decide) (fun c12 => ?_) (fun c12 => absurd c12 (by decide))
        refine aw_iconst (q := 18) F dL_rest_17 rfl (by decide) ?_
        refine aw_istore_2 (q := 19) F dL_rest_18 rfl trivial ?_
        first | (exfalso; omega) | exact loop (by omega) (by omega) _ 0 rfl (by omega) _ rfl rfl
      · refine aw_if_ne (q := 15) (t := 17) F dL_rest_12 rfl (by decide) (fun c12 => absurd c12 (by decide)) (fun c12 => ?_)
        refine aw_iconst (q := 16) F dL_rest_15 rfl (by decide) ?_
        refine aw_iret F C dL_rest_16 rfl (Nat.le_refl _) (Nat.le_refl _) ?_
        first | exact h.now (by decide) (r1 (by omega)) | exact h.now (by decide) (r2 (by omega) (by omega)) | (exfalso; omega)
      · refine aw_if_ne (q := 15) (t := 17) F dL_rest_12 rfl (by decide) (fun c12 => absurd c12 (by decide)) (fun c12 => ?_)
        refine aw_iconst (q := 16) F dL_rest_15 rfl (by decide) ?_
        refine aw_iret F C dL_rest_16 rfl (Nat.le_refl _) (Nat.le_refl _) ?_
        first | exact h.now (by decide) (r1 (by omega)) | exact h.now (by decide) (r2 (by omega) (by omega)) | (exfalso; omega)
    · refine av_callV2 (q := 12) (ci := 7) F hm mL_passes_i mL_passes_n lL_114 dL_rest_9 rfl rfl rfl (by first | exact hW.o | exact hW.ho | exact hW.to | exact hW.t.a4 | exact hW.t.a5 | exact hW.t.a6 | exact ha) (by decide) (Nat.le_refl _) (Nat.le_refl _) (Nat.le_of_ble_eq_true rfl) (wL_passes hW (fun c9 d9 => ?_) (fun c9 => ?_) (fun c9 d9 => ?_))
      · refine aw_if_ne (q := 15) (t := 17) F dL_rest_12 rfl (by decide) (fun c12 => ?_) (fun c12 => absurd c12 (by decide))
        refine aw_iconst (q := 18) F dL_rest_17 rfl (by decide) ?_
        refine aw_istore_2 (q := 19) F dL_rest_18 rfl trivial ?_
        first | (exfalso; omega) | exact loop (by omega) (by omega) _ 0 rfl (by omega) _ rfl rfl
      · refine aw_if_ne (q := 15) (t := 17) F dL_rest_12 rfl (by decide) (fun c12 => absurd c12 (by decide)) (fun c12 => ?_)
        refine aw_iconst (q := 16) F dL_rest_15 rfl (by decide) ?_
        refine aw_iret F C dL_rest_16 rfl (Nat.le_refl _) (Nat.le_refl _) ?_
        first | exact h.now (by decide) (r1 (by omega)) | exact h.now (by decide) (r2 (by omega) (by omega)) | (exfalso; omega)
      · refine aw_if_ne (q := 15) (t := 17) F dL_rest_12 rfl (by decide) (fun c12 => absurd c12 (by decide)) (fun c12 => ?_)
        refine aw_iconst (q := 16) F dL_rest_15 rfl (by decide) ?_
        refine aw_iret F C dL_rest_16 rfl (Nat.le_refl _) (Nat.le_refl _) ?_
        first | exact h.now (by decide) (r1 (by omega)) | exact h.now (by decide) (r2 (by omega) (by omega)) | (exfalso; omega)
  · refine aw_iload_1 (q := 6) F dL_rest_5 rfl ?_
    refine av_callS1 (q := 9) F hm mL_isDraught_i mL_isDraught_n lL_264 dL_rest_6 rfl (by decide) (Nat.le_refl _) (Nat.le_refl _) (Nat.le_of_ble_eq_true rfl) (wL_isDraught (fun c6 => ?_) (fun c6 => ?_))
    · refine av_callV2 (q := 12) (ci := 7) F hm mL_passes_i mL_passes_n lL_114 dL_rest_9 rfl rfl rfl (by first | exact hW.o | exact hW.ho | exact hW.to | exact hW.t.a4 | exact hW.t.a5 | exact hW.t.a6 | exact ha) (by decide) (Nat.le_refl _) (Nat.le_refl _) (Nat.le_of_ble_eq_true rfl) (wL_passes hW (fun c9 d9 => ?_) (fun c9 => ?_) (fun c9 d9 => ?_))
      · refine aw_if_ne (q := 15) (t := 17) F dL_rest_12 rfl (by decide) (fun c12 => ?_) (fun c12 => absurd c12 (by decide))
        refine aw_iconst (q := 18) F dL_rest_17 rfl (by decide) ?_
        refine aw_istore_2 (q := 19) F dL_rest_18 rfl trivial ?_
        first | (exfalso; omega) | exact loop (by omega) (by omega) _ 0 rfl (by omega) _ rfl rfl
      · refine aw_if_ne (q := 15) (t := 17) F dL_rest_12 rfl (by decide) (fun c12 => absurd c12 (by decide)) (fun c12 => ?_)
        refine aw_iconst (q := 16) F dL_rest_15 rfl (by decide) ?_
        refine aw_iret F C dL_rest_16 rfl (Nat.le_refl _) (Nat.le_refl _) ?_
        first | exact h.now (by decide) (r1 (by omega)) | exact h.now (by decide) (r2 (by omega) (by omega)) | (exfalso; omega)
      · refine aw_if_ne (q := 15) (t := 17) F dL_rest_12 rfl (by decide) (fun c12 => absurd c12 (by decide)) (fun c12 => ?_)
        refine aw_iconst (q := 16) F dL_rest_15 rfl (by decide) ?_
        refine aw_iret F C dL_rest_16 rfl (Nat.le_refl _) (Nat.le_refl _) ?_
        first | exact h.now (by decide) (r1 (by omega)) | exact h.now (by decide) (r2 (by omega) (by omega)) | (exfalso; omega)
    · refine av_callV2 (q := 12) (ci := 7) F hm mL_passes_i mL_passes_n lL_114 dL_rest_9 rfl rfl rfl (by first | exact hW.o | exact hW.ho | exact hW.to | exact hW.t.a4 | exact hW.t.a5 | exact hW.t.a6 | exact ha) (by decide) (Nat.le_refl _) (Nat.le_refl _) (Nat.le_of_ble_eq_true rfl) (wL_passes hW (fun c9 d9 => ?_) (fun c9 => ?_) (fun c9 d9 => ?_))
      · refine aw_if_ne (q := 15) (t := 17) F dL_rest_12 rfl (by decide) (fun c12 => ?_) (fun c12 => absurd c12 (by decide))
        refine aw_iconst (q := 18) F dL_rest_17 rfl (by decide) ?_
        refine aw_istore_2 (q := 19) F dL_rest_18 rfl trivial ?_
        first | (exfalso; omega) | exact loop (by omega) (by omega) _ 0 rfl (by omega) _ rfl rfl
      · refine aw_if_ne (q := 15) (t := 17) F dL_rest_12 rfl (by decide) (fun c12 => absurd c12 (by decide)) (fun c12 => ?_)
        refine aw_iconst (q := 16) F dL_rest_15 rfl (by decide) ?_
        refine aw_iret F C dL_rest_16 rfl (Nat.le_refl _) (Nat.le_refl _) ?_
        first | exact h.now (by decide) (r1 (by omega)) | exact h.now (by decide) (r2 (by omega) (by omega)) | (exfalso; omega)
      · refine aw_if_ne (q := 15) (t := 17) F dL_rest_12 rfl (by decide) (fun c12 => absurd c12 (by decide)) (fun c12 => ?_)
        refine aw_iconst (q := 16) F dL_rest_15 rfl (by decide) ?_
        refine aw_iret F C dL_rest_16 rfl (Nat.le_refl _) (Nat.le_refl _) ?_
        first | exact h.now (by decide) (r1 (by omega)) | exact h.now (by decide) (r2 (by omega) (by omega)) | (exfalso; omega)
end Small2
