section MayA
variable {c : Cfg} {n th d p : Nat}
theorem may_open (hd : d < dN c) : mayN c n th d = mO c n (inP c n 0 &&& th) d := by
  have h := dm_at (c := c) 0 hd
  rw [Nat.mul_zero, Nat.zero_add] at h
  unfold mayN
  rw [h.1, h.2, if_pos rfl]
theorem may_shut (hd : d < dN c) : mayN c n th (dN c + d) = mS c n th d := by
  have h := dm_at (c := c) 1 hd
  rw [Nat.mul_one] at h
  unfold mayN
  rw [h.1, h.2, if_neg (by decide), if_pos rfl]
theorem may_go (hd : d < dN c) : mayN c n th (dN c * (2 + p) + d) = (th.testBit p && mG c n p d) := by
  have h := dm_at (c := c) (2 + p) hd
  unfold mayN
  rw [h.1, h.2, if_neg (by omega), if_neg (by omega), show 2 + p - 2 = p by omega]
theorem go_lt (hd : d < dN c) (hp : p < pN c) : dN c * (2 + p) + d < stN c := by
  have : dN c * (2 + p) + dN c ≤ dN c * (2 + pN c) := by
    rw [← Nat.mul_succ]
    exact Nat.mul_le_mul_left _ (by omega)
  unfold stN
  omega
theorem mO_lt (hn : n < spc c) (hd : d < dN c) (h : mO c n (inP c n 0 &&& th) d = true) : aO c n d < spc c := by
  rw [← aft_open hd]
  refine aft_lt hn ?_ (by rw [may_open hd]; exact h)
  unfold stN
  have : dN c * 1 ≤ dN c * (2 + pN c) := Nat.mul_le_mul_left _ (by omega)
  omega
theorem mS_lt (hn : n < spc c) (hd : d < dN c) (h : mS c n th d = true) : aS c n d < spc c := by
  rw [← aft_shut hd]
  refine aft_lt hn ?_ (by rw [may_shut hd]; exact h)
  unfold stN
  have : dN c * 2 ≤ dN c * (2 + pN c) := Nat.mul_le_mul_left _ (by omega)
  omega
theorem mG_lt (hn : n < spc c) (hd : d < dN c) (hp : p < pN c) (h : mG c n p d = true) : aG c n p d < spc c := by
  rw [← aft_go hd]
  exact aft_lt hn (go_lt hd hp) (th := allP c) (by rw [may_go hd, allP_bit hp, h]; rfl)
end MayA
def nOpen (S : PS) (d : Nat) : PS := actS S ((psS S).1, (psS S).2.1, aO (psC S) (psA S) d)
def nShut (S : PS) (d : Nat) : PS := actS S ((psS S).1, (psS S).2.1, aS (psC S) (psA S) d)
def nGo (S : PS) (p d : Nat) : PS := actS S ((psS S).1, (psS S).2.1, aG (psC S) (psA S) p d)
def nNail (S : PS) (d : Nat) : PS := actS S ((psS S).1, (psS S).2.1 ||| 2 ^ d, psA S)
def spK (f : Nat → Nat) (d : Nat) : Nat → Nat := fun k => if k = d then 1 - f d else f k
def nSpr (S : PS) (d : Nat) : PS := actS S (spK (psS S).1 d, (psS S).2.1, psA S)
def nUndo (S : PS) : PS := scS (paS (setR S 0) (psP S).dropLast) ((psP S).getD ((psP S).length - 1) (psS S))
def nBack (S : PS) (i : Nat) : PS := paS (scS (setR S 0) ((psI S).getD i (psS S))) []
def nImg (S : PS) : PS := imS (setR S 0) (psI S ++ [psS S])
section Acts2
variable {G : GE} {V : Nat → Nat → Int} {σ : Shp} {K : Option AV → Mem → Prop} {ow : Nat → Nat} {y : Dy} {S : PS} {kn : Bool}
theorem wL_open {x : Int} (h : CW V σ ow y S kn) (hK : CK K V σ ow (ifS (wya (0 ≤ x ∧ x < tDn (psT S)) (ld (psC S) (psA S) x.toNat = 0) (mO (psC S) (psA S) (inP (psC S) (psA S) 0 &&& allP (psC S)) x.toNat = true)) (nOpen S x.toNat) S) kn (some (vI (rfD (wya (0 ≤ x ∧ x < tDn (psT S)) (ld (psC S) (psA S) x.toNat = 0) (mO (psC S) (psA S) (inP (psC S) (psA S) 0 &&& allP (psC S)) x.toNat = true)) (ld (psC S) (aO (psC S) (psA S) x.toNat) x.toNat) (-1))))) : Wp G 2 mL_open [vR 1, vI x] (V, σ) 0 0 K := by
  have hW := h.cs
  have hT := h.oT
  have hd4 : tDn (psT S) ≤ 4 := h.oT.2.1
  have hp2 : tPn (psT S) ≤ 2 := h.oT.2.2.1
  have h2 := h.tr (z := 0) (by decide)
  have hh2 := h.hh
  have hv := h.v0
  have hv1 := h.v1
  have ed : dN (psC S) = tDn (psT S) := rfl
  have ep : pN (psC S) = tPn (psT S) := rfl
  have hc := h.oT.okC h.oS
  have hsl : spc (psC S) ≤ 62500 := spc_le hc
  have hal := allP_lt hc
  obtain ⟨g, r1, r2, r3⟩ := g4 hK
  refine wp_intro mL_open_i.1 [some (vR 1), some (vI x)] rfl rfl (Nat.le_of_ble_eq_true rfl) ?_
  intro X hG F C
  have hm := C.rm
  have go : 0 ≤ x ∧ x < tDn (psT S) → ld (psC S) (psA S) x.toNat = 0 → mO (psC S) (psA S) (inP (psC S) (psA S) 0 &&& allP (psC S)) x.toNat = true → AW X 48 [some (vR 1), some (vI x)] [] (up2 V 1 2 0, σ) 0 0 := by
    intro hx hl hmo
    have hsp : psA S < spc (psC S) := h.oS.2.2.2.1 (by omega)
    have hlt : aO (psC S) (psA S) x.toNat < spc (psC S) := mO_lt (d := x.toNat) hsp (by omega) hmo
    refine aw_aload_0 (q := 49) F dL_open_48 rfl ?_
    refine av_callV0 (q := 52) (ci := 7) F hm mL_keepNow_i mL_keepNow_n lL_327 dL_open_49 rfl rfl rfl (by first | exact hW.o | exact hW.ho | exact hW.to | exact hW.a16 | exact hW.a17 | exact hW.h.a1) (by decide) (Nat.le_refl _) (Nat.le_refl _) (Nat.le_of_ble_eq_true rfl) (wL_keepNow h2 (show 0 < tDn (psT S) by omega) (fun v49 c49 f49 => ?_))
    have hh3 : HH v49 10 (psC S) (psA S) := c49.hh
    refine aw_aload_0 (q := 53) F dL_open_52 rfl ?_
    refine av_getaE (q := 56) F fL_23 dL_open_53 rfl rfl (by first | exact hW.o | exact hW.ho | exact hW.to | exact hW.a16 | exact hW.a17 | exact hW.h.a1) hW.p6 ?_
    refine aw_aload_0 (q := 57) F dL_open_56 rfl ?_
    refine av_getaE (q := 60) F fL_23 dL_open_57 rfl rfl (by first | exact hW.o | exact hW.ho | exact hW.to | exact hW.a16 | exact hW.a17 | exact hW.h.a1) hW.p6 ?_
    refine aw_iload_1 (q := 61) F dL_open_60 rfl ?_
    refine av_callV1 (q := 64) (ci := 2) F hm mH_afterOpen_i mH_afterOpen_n lL_330 dL_open_61 rfl rfl rfl (by first | exact hW.o | exact hW.ho | exact hW.to | exact hW.a16 | exact hW.a17 | exact hW.h.a1) (by decide) (Nat.le_refl _) (Nat.le_refl _) (Nat.le_of_ble_eq_true rfl) (wH_afterOpen (c := psC S) (n := psA S) (by omega) hsp hW.h hh3 ?_)
    refine av_callV1 (q := 67) (ci := 2) F hm mH_put_i mH_put_n lL_333 dL_open_64 rfl rfl rfl (by first | exact hW.o | exact hW.ho | exact hW.to | exact hW.a16 | exact hW.a17 | exact hW.h.a1) (by decide) (Nat.le_refl _) (Nat.le_refl _) (Nat.le_of_ble_eq_true rfl) (wH_put (c := psC S) (m := aO (psC S) (psA S) x.toNat) rfl (by omega) hW.h hc hh3.2.1 (fun v64 p64 a64 => ?_))
    refine aw_aload_0 (q := 68) F dL_open_67 rfl ?_
    refine av_getaE (q := 71) F fL_23 dL_open_68 rfl rfl (by first | exact hW.o | exact hW.ho | exact hW.to | exact hW.a16 | exact hW.a17 | exact hW.h.a1) hW.p6 ?_
    refine aw_iload_1 (q := 72) F dL_open_71 rfl ?_
    refine av_callV1 (q := 75) (ci := 2) F hm mH_leadOf_i mH_leadOf_n lL_121 dL_open_72 rfl rfl rfl (by first | exact hW.o | exact hW.ho | exact hW.to | exact hW.a16 | exact hW.a17 | exact hW.h.a1) (by decide) (Nat.le_refl _) (Nat.le_refl _) (Nat.le_of_ble_eq_true rfl) (wH_leadOf (c := psC S) (n := aO (psC S) (psA S) x.toNat) hW.h (hh3.put p64 a64) (fun a72 b72 => ?_) (fun c72 => ?_))
    · refine aw_iret F C dL_open_75 rfl (Nat.le_refl _) (Nat.le_refl _) ?_
      first
      | (exfalso; omega)
      | (obtain ⟨q1, q2⟩ := c49.hl (s := ((psS S).1, (psS S).2.1, aO (psC S) (psA S) x.toNat)) (fun b hb => p64.1 b (by omega) (by omega) (by omega)) (hh3.put p64 a64) ⟨h.oS.1, h.oS.2.1, h.oS.2.2.1, fun _ => hlt, fun q => absurd (show tDn (psT S) = 0 from q) (by omega)⟩
         exact g hx hl hmo _ _ _ _ q1 ((h.fr.tr f49).tr q2))
    · refine aw_iret F C dL_open_75 rfl (Nat.le_refl _) (Nat.le_refl _) ?_
      first
      | (exfalso; omega)
      | (obtain ⟨q1, q2⟩ := c49.hl (s := ((psS S).1, (psS S).2.1, aO (psC S) (psA S) x.toNat)) (fun b hb => p64.1 b (by omega) (by omega) (by omega)) (hh3.put p64 a64) ⟨h.oS.1, h.oS.2.1, h.oS.2.2.1, fun _ => hlt, fun q => absurd (show tDn (psT S) = 0 from q) (by omega)⟩
         exact g hx hl hmo _ _ _ _ q1 ((h.fr.tr f49).tr q2))
  refine aw_aload_0 (q := 1) F dL_open_0 rfl ?_
  refine aw_aload_0 (q := 2) F dL_open_1 rfl ?_
  refine av_getaE (q := 5) F fL_23 dL_open_2 rfl rfl (by first | exact hW.o | exact hW.ho | exact hW.to | exact hW.a16 | exact hW.a17 | exact hW.h.a1) hW.p6 ?_
  refine aw_iload_1 (q := 6) F dL_open_5 rfl ?_
  refine av_callV1 (q := 9) (ci := 2) F hm mH_isDoor_i mH_isDoor_n lL_110 dL_open_6 rfl rfl rfl (by first | exact hW.o | exact hW.ho | exact hW.to | exact hW.a16 | exact hW.a17 | exact hW.h.a1) (by decide) (Nat.le_refl _) (Nat.le_refl _) (Nat.le_of_ble_eq_true rfl) (wH_isDoor hW.h (fun c6 => ?_) (fun c6 => ?_))
  · refine aw_aload_0 (q := 10) F dL_open_9 rfl ?_
    refine av_getaE (q := 13) F fL_23 dL_open_10 rfl rfl (by first | exact hW.o | exact hW.ho | exact hW.to | exact hW.a16 | exact hW.a17 | exact hW.h.a1) hW.p6 ?_
    refine aw_iload_1 (q := 14) F dL_open_13 rfl ?_
    refine av_callV1 (q := 17) (ci := 2) F hm mH_isOpen_i mH_isOpen_n lL_317 dL_open_14 rfl rfl rfl (by first | exact hW.o | exact hW.ho | exact hW.to | exact hW.a16 | exact hW.a17 | exact hW.h.a1) (by decide) (Nat.le_refl _) (Nat.le_refl _) (Nat.le_of_ble_eq_true rfl) (wH_isOpen hW.h hh2 (fun a14 b14 c14 => ?_) (fun c14 => ?_))
    · refine aw_if_ne (q := 20) (t := 24) F dL_open_17 rfl (by decide) (fun c17 => ?_) (fun c17 => absurd c17 (by decide))
      refine aw_iconst (q := 25) F dL_open_24 rfl (by decide) ?_
      refine aw_aload_0 (q := 26) F dL_open_25 rfl ?_
      refine av_getaE (q := 29) F fL_23 dL_open_26 rfl rfl (by first | exact hW.o | exact hW.ho | exact hW.to | exact hW.a16 | exact hW.a17 | exact hW.h.a1) hW.p6 ?_
      refine aw_iload_1 (q := 30) F dL_open_29 rfl ?_
      refine aw_aload_0 (q := 31) F dL_open_30 rfl ?_
      refine av_getaE (q := 34) F fL_23 dL_open_31 rfl rfl (by first | exact hW.o | exact hW.ho | exact hW.to | exact hW.a16 | exact hW.a17 | exact hW.h.a1) hW.p6 ?_
      refine av_callV0 (q := 37) (ci := 2) F hm mH_everybody_i mH_everybody_n lL_160 dL_open_34 rfl rfl rfl (by first | exact hW.o | exact hW.ho | exact hW.to | exact hW.a16 | exact hW.a17 | exact hW.h.a1) (by decide) (Nat.le_refl _) (Nat.le_refl _) (Nat.le_of_ble_eq_true rfl) (wH_everybody hW.h hh2 ?_)
      refine av_callV2 (q := 40) (ci := 2) F hm mH_mayOpen_i mH_mayOpen_n lL_320 dL_open_37 rfl rfl rfl (by first | exact hW.o | exact hW.ho | exact hW.to | exact hW.a16 | exact hW.a17 | exact hW.h.a1) (by decide) (Nat.le_refl _) (Nat.le_refl _) (Nat.le_of_ble_eq_true rfl) (wH_mayOpen (th := allP (psC S)) rfl hal hW.h hh2 (fun a37 b37 c37 => ?_) (fun c37 => ?_))
      · refine av_callV3 (q := 43) (ci := 7) F hm mL_mayAct_i mL_mayAct_n lL_323 dL_open_40 rfl rfl rfl (by first | exact hW.o | exact hW.ho | exact hW.to | exact hW.a16 | exact hW.a17 | exact hW.h.a1) (by decide) (Nat.le_refl _) (Nat.le_refl _) (Nat.le_of_ble_eq_true rfl) (wL_mayAct hW (fun c40 d40 e40 => ?_) (fun c40 => ?_) (fun c40 d40 => ?_) (fun c40 d40 e40 => ?_))
        · refine aw_if_ne (q := 46) (t := 48) F dL_open_43 rfl (by decide) (fun c43 => ?_) (fun c43 => absurd c43 (by decide))
          first | (exfalso; omega) | exact go (by omega) (c14 (by omega) (by omega)) c37
        · refine aw_if_ne (q := 46) (t := 48) F dL_open_43 rfl (by decide) (fun c43 => absurd c43 (by decide)) (fun c43 => ?_)
          refine aw_iconst (q := 47) F dL_open_46 rfl (by decide) ?_
          refine aw_iret F C dL_open_47 rfl (Nat.le_refl _) (Nat.le_refl _) ?_
          first | (exfalso; omega) | exact h.now (by decide) (r1 (by omega)) | exact h.now (by decide) (r2 (by omega) c14) | exact h.now (by decide) (r3 (by omega) (c14 (by omega) (by omega)) (by rw [c37 (by omega) (by omega)]; decide))
        · refine aw_if_ne (q := 46) (t := 48) F dL_open_43 rfl (by decide) (fun c43 => absurd c43 (by decide)) (fun c43 => ?_)
          refine aw_iconst (q := 47) F dL_open_46 rfl (by decide) ?_
          refine aw_iret F C dL_open_47 rfl (Nat.le_refl _) (Nat.le_refl _) ?_
          first | (exfalso; omega) | exact h.now (by decide) (r1 (by omega)) | exact h.now (by decide) (r2 (by omega) c14) | exact h.now (by decide) (r3 (by omega) (c14 (by omega) (by omega)) (by rw [c37 (by omega) (by omega)]; decide))
        · refine aw_if_ne (q := 46) (t := 48) F dL_open_43 rfl (by decide) (fun c43 => absurd c43 (by decide)) (fun c43 => ?_)
          refine aw_iconst (q := 47) F dL_open_46 rfl (by decide) ?_
          refine aw_iret F C dL_open_47 rfl (Nat.le_refl _) (Nat.le_refl _) ?_
          first | (exfalso; omega) | exact h.now (by decide) (r1 (by omega)) | exact h.now (by decide) (r2 (by omega) c14) | exact h.now (by decide) (r3 (by omega) (c14 (by omega) (by omega)) (by rw [c37 (by omega) (by omega)]; decide))
      · refine av_callV3 (q := 43) (ci := 7) F hm mL_mayAct_i mL_mayAct_n lL_323 dL_open_40 rfl rfl rfl (by first | exact hW.o | exact hW.ho | exact hW.to | exact hW.a16 | exact hW.a17 | exact hW.h.a1) (by decide) (Nat.le_refl _) (Nat.le_refl _) (Nat.le_of_ble_eq_true rfl) (wL_mayAct hW (fun c40 d40 e40 => ?_) (fun c40 => ?_) (fun c40 d40 => ?_) (fun c40 d40 e40 => ?_))
        · refine aw_if_ne (q := 46) (t := 48) F dL_open_43 rfl (by decide) (fun c43 => ?_) (fun c43 => absurd c43 (by decide))
          first | (exfalso; omega) | exact go (by omega) (c14 (by omega) (by omega)) c37
        · refine aw_if_ne (q := 46) (t := 48) F dL_open_43 rfl (by decide) (fun c43 => absurd c43 (by decide)) (fun c43 => ?_)
          refine aw_iconst (q := 47) F dL_open_46 rfl (by decide) ?_
          refine aw_iret F C dL_open_47 rfl (Nat.le_refl _) (Nat.le_refl _) ?_
          first | (exfalso; omega) | exact h.now (by decide) (r1 (by omega)) | exact h.now (by decide) (r2 (by omega) c14) | exact h.now (by decide) (r3 (by omega) (c14 (by omega) (by omega)) (by rw [c37 (by omega) (by omega)]; decide))
        · refine aw_if_ne (q := 46) (t := 48) F dL_open_43 rfl (by decide) (fun c43 => absurd c43 (by decide)) (fun c43 => ?_)
          refine aw_iconst (q := 47) F dL_open_46 rfl (by decide) ?_
          refine aw_iret F C dL_open_47 rfl (Nat.le_refl _) (Nat.le_refl _) ?_
          first | (exfalso; omega) | exact h.now (by decide) (r1 (by omega)) | exact h.now (by decide) (r2 (by omega) c14) | exact h.now (by decide) (r3 (by omega) (c14 (by omega) (by omega)) (by rw [c37 (by omega) (by omega)]; decide))
        · refine aw_if_ne (q := 46) (t := 48) F dL_open_43 rfl (by decide) (fun c43 => absurd c43 (by decide)) (fun c43 => ?_)
          refine aw_iconst (q := 47) F dL_open_46 rfl (by decide) ?_
          refine aw_iret F C dL_open_47 rfl (Nat.le_refl _) (Nat.le_refl _) ?_
          first | (exfalso; omega) | exact h.now (by decide) (r1 (by omega)) | exact h.now (by decide) (r2 (by omega) c14) | exact h.now (by decide) (r3 (by omega) (c14 (by omega) (by omega)) (by rw [c37 (by omega) (by omega)]; decide))
    · refine aw_if_ne (q := 20) (t := 24) F dL_open_17 rfl (by decide) (fun c17 => absurd c17 (by decide)) (fun c17 => ?_)
      refine aw_iconst (q := 21) F dL_open_20 rfl (by decide) ?_
      refine aw_goto (t := 25) F dL_open_21 (by decide) ?_
      refine aw_aload_0 (q := 26) F dL_open_25 rfl ?_
      refine av_getaE (q := 29) F fL_23 dL_open_26 rfl rfl (by first | exact hW.o | exact hW.ho | exact hW.to | exact hW.a16 | exact hW.a17 | exact hW.h.a1) hW.p6 ?_
      refine aw_iload_1 (q := 30) F dL_open_29 rfl ?_
      refine aw_aload_0 (q := 31) F dL_open_30 rfl ?_
      refine av_getaE (q := 34) F fL_23 dL_open_31 rfl rfl (by first | exact hW.o | exact hW.ho | exact hW.to | exact hW.a16 | exact hW.a17 | exact hW.h.a1) hW.p6 ?_
      refine av_callV0 (q := 37) (ci := 2) F hm mH_everybody_i mH_everybody_n lL_160 dL_open_34 rfl rfl rfl (by first | exact hW.o | exact hW.ho | exact hW.to | exact hW.a16 | exact hW.a17 | exact hW.h.a1) (by decide) (Nat.le_refl _) (Nat.le_refl _) (Nat.le_of_ble_eq_true rfl) (wH_everybody hW.h hh2 ?_)
      refine av_callV2 (q := 40) (ci := 2) F hm mH_mayOpen_i mH_mayOpen_n lL_320 dL_open_37 rfl rfl rfl (by first | exact hW.o | exact hW.ho | exact hW.to | exact hW.a16 | exact hW.a17 | exact hW.h.a1) (by decide) (Nat.le_refl _) (Nat.le_refl _) (Nat.le_of_ble_eq_true rfl) (wH_mayOpen (th := allP (psC S)) rfl hal hW.h hh2 (fun a37 b37 c37 => ?_) (fun c37 => ?_))
      · refine av_callV3 (q := 43) (ci := 7) F hm mL_mayAct_i mL_mayAct_n lL_323 dL_open_40 rfl rfl rfl (by first | exact hW.o | exact hW.ho | exact hW.to | exact hW.a16 | exact hW.a17 | exact hW.h.a1) (by decide) (Nat.le_refl _) (Nat.le_refl _) (Nat.le_of_ble_eq_true rfl) (wL_mayAct hW (fun c40 d40 e40 => ?_) (fun c40 => ?_) (fun c40 d40 => ?_) (fun c40 d40 e40 => ?_))
        · refine aw_if_ne (q := 46) (t := 48) F dL_open_43 rfl (by decide) (fun c43 => ?_) (fun c43 => absurd c43 (by decide))
          first | (exfalso; omega) | exact go (by omega) (c14 (by omega) (by omega)) c37
        · refine aw_if_ne (q := 46) (t := 48) F dL_open_43 rfl (by decide) (fun c43 => absurd c43 (by decide)) (fun c43 => ?_)
          refine aw_iconst (q := 47) F dL_open_46 rfl (by decide) ?_
          refine aw_iret F C dL_open_47 rfl (Nat.le_refl _) (Nat.le_refl _) ?_
          first | (exfalso; omega) | exact h.now (by decide) (r1 (by omega)) | exact h.now (by decide) (r2 (by omega) c14) | exact h.now (by decide) (r3 (by omega) (c14 (by omega) (by omega)) (by rw [c37 (by omega) (by omega)]; decide))
        · refine aw_if_ne (q := 46) (t := 48) F dL_open_43 rfl (by decide) (fun c43 => absurd c43 (by decide)) (fun c43 => ?_)
          refine aw_iconst (q := 47) F dL_open_46 rfl (by decide) ?_
          refine aw_iret F C dL_open_47 rfl (Nat.le_refl _) (Nat.le_refl _) ?_
          first | (exfalso; omega) | exact h.now (by decide) (r1 (by omega)) | exact h.now (by decide) (r2 (by omega) c14) | exact h.now (by decide) (r3 (by omega) (c14 (by omega) (by omega)) (by rw [c37 (by omega) (by omega)]; decide))
        · refine aw_if_ne (q := 46) (t := 48) F dL_open_43 rfl (by decide) (fun c43 => absurd c43 (by decide)) (fun c43 => ?_)
          refine aw_iconst (q := 47) F dL_open_46 rfl (by decide) ?_
          refine aw_iret F C dL_open_47 rfl (Nat.le_refl _) (Nat.le_refl _) ?_
          first | (exfalso; omega) | exact h.now (by decide) (r1 (by omega)) | exact h.now (by decide) (r2 (by omega) c14) | exact h.now (by decide) (r3 (by omega) (c14 (by omega) (by omega)) (by rw [c37 (by omega) (by omega)]; decide))
      · refine av_callV3 (q := 43) (ci := 7) F hm mL_mayAct_i mL_mayAct_n lL_323 dL_open_40 rfl rfl rfl (by first | exact hW.o | exact hW.ho | exact hW.to | exact hW.a16 | exact hW.a17 | exact hW.h.a1) (by decide) (Nat.le_refl _) (Nat.le_refl _) (Nat.le_of_ble_eq_true rfl) (wL_mayAct hW (fun c40 d40 e40 => ?_) (fun c40 => ?_) (fun c40 d40 => ?_) (fun c40 d40 e40 => ?_))
        · refine aw_if_ne (q := 46) (t := 48) F dL_open_43 rfl (by decide) (fun c43 => ?_) (fun c43 => absurd c43 (by decide))
          first | (exfalso; omega) | exact go (by omega) (c14 (by omega) (by omega)) c37
        · refine aw_if_ne (q := 46) (t := 48) F dL_open_43 rfl (by decide) (fun c43 => absurd c43 (by decide)) (fun c43 => ?_)
          refine aw_iconst (q := 47) F dL_open_46 rfl (by decide) ?_
          refine aw_iret F C dL_open_47 rfl (Nat.le_refl _) (Nat.le_refl _) ?_
          first | (exfalso; omega) | exact h.now (by decide) (r1 (by omega)) | exact h.now (by decide) (r2 (by omega) c14) | exact h.now (by decide) (r3 (by omega) (c14 (by omega) (by omega)) (by rw [c37 (by omega) (by omega)]; decide))
        · refine aw_if_ne (q := 46) (t := 48) F dL_open_43 rfl (by decide) (fun c43 => absurd c43 (by decide)) (fun c43 => ?_)
          refine aw_iconst (q := 47) F dL_open_46 rfl (by decide) ?_
          refine aw_iret F C dL_open_47 rfl (Nat.le_refl _) (Nat.le_refl _) ?_
          first | (exfalso; omega) | exact h.now (by decide) (r1 (by omega)) | exact h.now (by decide) (r2 (by omega) c14) | exact h.now (by decide) (r3 (by omega) (c14 (by omega) (by omega)) (by rw [c37 (by omega) (by omega)]; decide))
        · refine aw_if_ne (q := 46) (t := 48) F dL_open_43 rfl (by decide) (fun c43 => absurd c43 (by decide)) (fun c43 => ?_)
          refine aw_iconst (q := 47) F dL_open_46 rfl (by decide) ?_
          refine aw_iret F C dL_open_47 rfl (Nat.le_refl _) (Nat.le_refl _) ?_
          first | (exfalso; omega) | exact h.now (by decide) (r1 (by omega)) | exact h.now (by decide) (r2 (by omega) c14) | exact h.now (by decide) (r3 (by omega) (c14 (by omega) (by omega)) (by rw [c37 (by omega) (by omega)]; decide))
  · refine aw_aload_0 (q := 10) F dL_open_9 rfl ?_
    refine av_getaE (q := 13) F fL_23 dL_open_10 rfl rfl (by first | exact hW.o | exact hW.ho | exact hW.to | exact hW.a16 | exact hW.a17 | exact hW.h.a1) hW.p6 ?_
    refine aw_iload_1 (q := 14) F dL_open_13 rfl ?_
    refine av_callV1 (q := 17) (ci := 2) F hm mH_isOpen_i mH_isOpen_n lL_317 dL_open_14 rfl rfl rfl (by first | exact hW.o | exact hW.ho | exact hW.to | exact hW.a16 | exact hW.a17 | exact hW.h.a1) (by decide) (Nat.le_refl _) (Nat.le_refl _) (Nat.le_of_ble_eq_true rfl) (wH_isOpen hW.h hh2 (fun a14 b14 c14 => ?_) (fun c14 => ?_))
    · refine aw_if_ne (q := 20) (t := 24) F dL_open_17 rfl (by decide) (fun c17 => ?_) (fun c17 => absurd c17 (by decide))
      refine aw_iconst (q := 25) F dL_open_24 rfl (by decide) ?_
      refine aw_aload_0 (q := 26) F dL_open_25 rfl ?_
      refine av_getaE (q := 29) F fL_23 dL_open_26 rfl rfl (by first | exact hW.o | exact hW.ho | exact hW.to | exact hW.a16 | exact hW.a17 | exact hW.h.a1) hW.p6 ?_
      refine aw_iload_1 (q := 30) F dL_open_29 rfl ?_
      refine aw_aload_0 (q := 31) F dL_open_30 rfl ?_
      refine av_getaE (q := 34) F fL_23 dL_open_31 rfl rfl (by first | exact hW.o | exact hW.ho | exact hW.to | exact hW.a16 | exact hW.a17 | exact hW.h.a1) hW.p6 ?_
      refine av_callV0 (q := 37) (ci := 2) F hm mH_everybody_i mH_everybody_n lL_160 dL_open_34 rfl rfl rfl (by first | exact hW.o | exact hW.ho | exact hW.to | exact hW.a16 | exact hW.a17 | exact hW.h.a1) (by decide) (Nat.le_refl _) (Nat.le_refl _) (Nat.le_of_ble_eq_true rfl) (wH_everybody hW.h hh2 ?_)
      refine av_callV2 (q := 40) (ci := 2) F hm mH_mayOpen_i mH_mayOpen_n lL_320 dL_open_37 rfl rfl rfl (by first | exact hW.o | exact hW.ho | exact hW.to | exact hW.a16 | exact hW.a17 | exact hW.h.a1) (by decide) (Nat.le_refl _) (Nat.le_refl _) (Nat.le_of_ble_eq_true rfl) (wH_mayOpen (th := allP (psC S)) rfl hal hW.h hh2 (fun a37 b37 c37 => ?_) (fun c37 => ?_))
      · refine av_callV3 (q := 43) (ci := 7) F hm mL_mayAct_i mL_mayAct_n lL_323 dL_open_40 rfl rfl rfl (by first | exact hW.o | exact hW.ho | exact hW.to | exact hW.a16 | exact hW.a17 | exact hW.h.a1) (by decide) (Nat.le_refl _) (Nat.le_refl _) (Nat.le_of_ble_eq_true rfl) (wL_mayAct hW (fun c40 d40 e40 => ?_) (fun c40 => ?_) (fun c40 d40 => ?_) (fun c40 d40 e40 => ?_))
        · refine aw_if_ne (q := 46) (t := 48) F dL_open_43 rfl (by decide) (fun c43 => ?_) (fun c43 => absurd c43 (by decide))
          first | (exfalso; omega) | exact go (by omega) (c14 (by omega) (by omega)) c37
        · refine aw_if_ne (q := 46) (t := 48) F dL_open_43 rfl (by decide) (fun c43 => absurd c43 (by decide)) (fun c43 => ?_)
          refine aw_iconst (q := 47) F dL_open_46 rfl (by decide) ?_
          refine aw_iret F C dL_open_47 rfl (Nat.le_refl _) (Nat.le_refl _) ?_
          first | (exfalso; omega) | exact h.now (by decide) (r1 (by omega)) | exact h.now (by decide) (r2 (by omega) c14) | exact h.now (by decide) (r3 (by omega) (c14 (by omega) (by omega)) (by rw [c37 (by omega) (by omega)]; decide))
        · refine aw_if_ne (q := 46) (t := 48) F dL_open_43 rfl (by decide) (fun c43 => absurd c43 (by decide)) (fun c43 => ?_)
          refine aw_iconst (q := 47) F dL_open_46 rfl (by decide) ?_
          refine aw_iret F C dL_open_47 rfl (Nat.le_refl _) (Nat.le_refl _) ?_
          first | (exfalso; omega) | exact h.now (by decide) (r1 (by omega)) | exact h.now (by decide) (r2 (by omega) c14) | exact h.now (by decide) (r3 (by omega) (c14 (by omega) (by omega)) (by rw [c37 (by omega) (by omega)]; decide))
        · refine aw_if_ne (q := 46) (t := 48) F dL_open_43 rfl (by decide) (fun c43 => absurd c43 (by decide)) (fun c43 => ?_)
          refine aw_iconst (q := 47) F dL_open_46 rfl (by decide) ?_
          refine aw_iret F C dL_open_47 rfl (Nat.le_refl _) (Nat.le_refl _) ?_
          first | (exfalso; omega) | exact h.now (by decide) (r1 (by omega)) | exact h.now (by decide) (r2 (by omega) c14) | exact h.now (by decide) (r3 (by omega) (c14 (by omega) (by omega)) (by rw [c37 (by omega) (by omega)]; decide))
      · refine av_callV3 (q := 43) (ci := 7) F hm mL_mayAct_i mL_mayAct_n lL_323 dL_open_40 rfl rfl rfl (by first | exact hW.o | exact hW.ho | exact hW.to | exact hW.a16 | exact hW.a17 | exact hW.h.a1) (by decide) (Nat.le_refl _) (Nat.le_refl _) (Nat.le_of_ble_eq_true rfl) (wL_mayAct hW (fun c40 d40 e40 => ?_) (fun c40 => ?_) (fun c40 d40 => ?_) (fun c40 d40 e40 => ?_))
        · refine aw_if_ne (q := 46) (t := 48) F dL_open_43 rfl (by decide) (fun c43 => ?_) (fun c43 => absurd c43 (by decide))
          first | (exfalso; omega) | exact go (by omega) (c14 (by omega) (by omega)) c37
        · refine aw_if_ne (q := 46) (t := 48) F dL_open_43 rfl (by decide) (fun c43 => absurd c43 (by decide)) (fun c43 => ?_)
          refine aw_iconst (q := 47) F dL_open_46 rfl (by decide) ?_
          refine aw_iret F C dL_open_47 rfl (Nat.le_refl _) (Nat.le_refl _) ?_
          first | (exfalso; omega) | exact h.now (by decide) (r1 (by omega)) | exact h.now (by decide) (r2 (by omega) c14) | exact h.now (by decide) (r3 (by omega) (c14 (by omega) (by omega)) (by rw [c37 (by omega) (by omega)]; decide))
        · refine aw_if_ne (q := 46) (t := 48) F dL_open_43 rfl (by decide) (fun c43 => absurd c43 (by decide)) (fun c43 => ?_)
          refine aw_iconst (q := 47) F dL_open_46 rfl (by decide) ?_
          refine aw_iret F C dL_open_47 rfl (Nat.le_refl _) (Nat.le_refl _) ?_
          first | (exfalso; omega) | exact h.now (by decide) (r1 (by omega)) | exact h.now (by decide) (r2 (by omega) c14) | exact h.now (by decide) (r3 (by omega) (c14 (by omega) (by omega)) (by rw [c37 (by omega) (by omega)]; decide))
        · refine aw_if_ne (q := 46) (t := 48) F dL_open_43 rfl (by decide) (fun c43 => absurd c43 (by decide)) (fun c43 => ?_)
          refine aw_iconst (q := 47) F dL_open_46 rfl (by decide) ?_
          refine aw_iret F C dL_open_47 rfl (Nat.le_refl _) (Nat.le_refl _) ?_
          first | (exfalso; omega) | exact h.now (by decide) (r1 (by omega)) | exact h.now (by decide) (r2 (by omega) c14) | exact h.now (by decide) (r3 (by omega) (c14 (by omega) (by omega)) (by rw [c37 (by omega) (by omega)]; decide))
    · refine aw_if_ne (q := 20) (t := 24) F dL_open_17 rfl (by decide) (fun c17 => absurd c17 (by decide)) (fun c17 => ?_)
      refine aw_iconst (q := 21) F dL_open_20 rfl (by decide) ?_
      refine aw_goto (t := 25) F dL_open_21 (by decide) ?_
      refine aw_aload_0 (q := 26) F dL_open_25 rfl ?_
      refine av_getaE (q := 29) F fL_23 dL_open_26 rfl rfl (by first | exact hW.o | exact hW.ho | exact hW.to | exact hW.a16 | exact hW.a17 | exact hW.h.a1) hW.p6 ?_
      refine aw_iload_1 (q := 30) F dL_open_29 rfl ?_
      refine aw_aload_0 (q := 31) F dL_open_30 rfl ?_
      refine av_getaE (q := 34) F fL_23 dL_open_31 rfl rfl (by first | exact hW.o | exact hW.ho | exact hW.to | exact hW.a16 | exact hW.a17 | exact hW.h.a1) hW.p6 ?_
      refine av_callV0 (q := 37) (ci := 2) F hm mH_everybody_i mH_everybody_n lL_160 dL_open_34 rfl rfl rfl (by first | exact hW.o | exact hW.ho | exact hW.to | exact hW.a16 | exact hW.a17 | exact hW.h.a1) (by decide) (Nat.le_refl _) (Nat.le_refl _) (Nat.le_of_ble_eq_true rfl) (wH_everybody hW.h hh2 ?_)
      refine av_callV2 (q := 40) (ci := 2) F hm mH_mayOpen_i mH_mayOpen_n lL_320 dL_open_37 rfl rfl rfl (by first | exact hW.o | exact hW.ho | exact hW.to | exact hW.a16 | exact hW.a17 | exact hW.h.a1) (by decide) (Nat.le_refl _) (Nat.le_refl _) (Nat.le_of_ble_eq_true rfl) (wH_mayOpen (th := allP (psC S)) rfl hal hW.h hh2 (fun a37 b37 c37 => ?_) (fun c37 => ?_))
      · refine av_callV3 (q := 43) (ci := 7) F hm mL_mayAct_i mL_mayAct_n lL_323 dL_open_40 rfl rfl rfl (by first | exact hW.o | exact hW.ho | exact hW.to | exact hW.a16 | exact hW.a17 | exact hW.h.a1) (by decide) (Nat.le_refl _) (Nat.le_refl _) (Nat.le_of_ble_eq_true rfl) (wL_mayAct hW (fun c40 d40 e40 => ?_) (fun c40 => ?_) (fun c40 d40 => ?_) (fun c40 d40 e40 => ?_))
        · refine aw_if_ne (q := 46) (t := 48) F dL_open_43 rfl (by decide) (fun c43 => ?_) (fun c43 => absurd c43 (by decide))
          first | (exfalso; omega) | exact go (by omega) (c14 (by omega) (by omega)) c37
        · refine aw_if_ne (q := 46) (t := 48) F dL_open_43 rfl (by decide) (fun c43 => absurd c43 (by decide)) (fun c43 => ?_)
          refine aw_iconst (q := 47) F dL_open_46 rfl (by decide) ?_
          refine aw_iret F C dL_open_47 rfl (Nat.le_refl _) (Nat.le_refl _) ?_
          first | (exfalso; omega) | exact h.now (by decide) (r1 (by omega)) | exact h.now (by decide) (r2 (by omega) c14) | exact h.now (by decide) (r3 (by omega) (c14 (by omega) (by omega)) (by rw [c37 (by omega) (by omega)]; decide))
        · refine aw_if_ne (q := 46) (t := 48) F dL_open_43 rfl (by decide) (fun c43 => absurd c43 (by decide)) (fun c43 => ?_)
          refine aw_iconst (q := 47) F dL_open_46 rfl (by decide) ?_
          refine aw_iret F C dL_open_47 rfl (Nat.le_refl _) (Nat.le_refl _) ?_
          first | (exfalso; omega) | exact h.now (by decide) (r1 (by omega)) | exact h.now (by decide) (r2 (by omega) c14) | exact h.now (by decide) (r3 (by omega) (c14 (by omega) (by omega)) (by rw [c37 (by omega) (by omega)]; decide))
        · refine aw_if_ne (q := 46) (t := 48) F dL_open_43 rfl (by decide) (fun c43 => absurd c43 (by decide)) (fun c43 => ?_)
          refine aw_iconst (q := 47) F dL_open_46 rfl (by decide) ?_
          refine aw_iret F C dL_open_47 rfl (Nat.le_refl _) (Nat.le_refl _) ?_
          first | (exfalso; omega) | exact h.now (by decide) (r1 (by omega)) | exact h.now (by decide) (r2 (by omega) c14) | exact h.now (by decide) (r3 (by omega) (c14 (by omega) (by omega)) (by rw [c37 (by omega) (by omega)]; decide))
      · refine av_callV3 (q := 43) (ci := 7) F hm mL_mayAct_i mL_mayAct_n lL_323 dL_open_40 rfl rfl rfl (by first | exact hW.o | exact hW.ho | exact hW.to | exact hW.a16 | exact hW.a17 | exact hW.h.a1) (by decide) (Nat.le_refl _) (Nat.le_refl _) (Nat.le_of_ble_eq_true rfl) (wL_mayAct hW (fun c40 d40 e40 => ?_) (fun c40 => ?_) (fun c40 d40 => ?_) (fun c40 d40 e40 => ?_))
        · refine aw_if_ne (q := 46) (t := 48) F dL_open_43 rfl (by decide) (fun c43 => ?_) (fun c43 => absurd c43 (by decide))
          first | (exfalso; omega) | exact go (by omega) (c14 (by omega) (by omega)) c37
        · refine aw_if_ne (q := 46) (t := 48) F dL_open_43 rfl (by decide) (fun c43 => absurd c43 (by decide)) (fun c43 => ?_)
          refine aw_iconst (q := 47) F dL_open_46 rfl (by decide) ?_
          refine aw_iret F C dL_open_47 rfl (Nat.le_refl _) (Nat.le_refl _) ?_
          first | (exfalso; omega) | exact h.now (by decide) (r1 (by omega)) | exact h.now (by decide) (r2 (by omega) c14) | exact h.now (by decide) (r3 (by omega) (c14 (by omega) (by omega)) (by rw [c37 (by omega) (by omega)]; decide))
        · refine aw_if_ne (q := 46) (t := 48) F dL_open_43 rfl (by decide) (fun c43 => absurd c43 (by decide)) (fun c43 => ?_)
          refine aw_iconst (q := 47) F dL_open_46 rfl (by decide) ?_
          refine aw_iret F C dL_open_47 rfl (Nat.le_refl _) (Nat.le_refl _) ?_
          first | (exfalso; omega) | exact h.now (by decide) (r1 (by omega)) | exact h.now (by decide) (r2 (by omega) c14) | exact h.now (by decide) (r3 (by omega) (c14 (by omega) (by omega)) (by rw [c37 (by omega) (by omega)]; decide))
        · refine aw_if_ne (q := 46) (t := 48) F dL_open_43 rfl (by decide) (fun c43 => absurd c43 (by decide)) (fun c43 => ?_)
          refine aw_iconst (q := 47) F dL_open_46 rfl (by decide) ?_
          refine aw_iret F C dL_open_47 rfl (Nat.le_refl _) (Nat.le_refl _) ?_
          first | (exfalso; omega) | exact h.now (by decide) (r1 (by omega)) | exact h.now (by decide) (r2 (by omega) c14) | exact h.now (by decide) (r3 (by omega) (c14 (by omega) (by omega)) (by rw [c37 (by omega) (by omega)]; decide))
theorem wL_shut {x : Int} (h : CW V σ ow y S kn) (hK : CK K V σ ow (ifS (wya (0 ≤ x ∧ x < tDn (psT S)) (ld (psC S) (psA S) x.toNat ≠ 0) (mS (psC S) (psA S) (allP (psC S)) x.toNat = true)) (nShut S x.toNat) S) kn (some (vI (rfD (wya (0 ≤ x ∧ x < tDn (psT S)) (ld (psC S) (psA S) x.toNat ≠ 0) (mS (psC S) (psA S) (allP (psC S)) x.toNat = true)) 1 0)))) : Wp G 2 mL_shut [vR 1, vI x] (V, σ) 0 0 K := by
  have hW := h.cs
  have hT := h.oT
  have hd4 : tDn (psT S) ≤ 4 := h.oT.2.1
  have hp2 : tPn (psT S) ≤ 2 := h.oT.2.2.1
  have h2 := h.tr (z := 0) (by decide)
  have hh2 := h.hh
  have hv := h.v0
  have hv1 := h.v1
  have ed : dN (psC S) = tDn (psT S) := rfl
  have ep : pN (psC S) = tPn (psT S) := rfl
  have hc := h.oT.okC h.oS
  have hsl : spc (psC S) ≤ 62500 := spc_le hc
  have hal := allP_lt hc
  obtain ⟨g, r1, r2, r3⟩ := g4 hK
  refine wp_intro mL_shut_i.1 [some (vR 1), some (vI x)] rfl rfl (Nat.le_of_ble_eq_true rfl) ?_
  intro X hG F C
  have hm := C.rm
  have go : 0 ≤ x ∧ x < tDn (psT S) → ld (psC S) (psA S) x.toNat ≠ 0 → mS (psC S) (psA S) (allP (psC S)) x.toNat = true → AW X 40 [some (vR 1), some (vI x)] [] (up2 V 1 2 0, σ) 0 0 := by
    intro hx hl hmo
    have hsp : psA S < spc (psC S) := h.oS.2.2.2.1 (by omega)
    have hlt : aS (psC S) (psA S) x.toNat < spc (psC S) := mS_lt (d := x.toNat) hsp (by omega) hmo
    refine aw_aload_0 (q := 41) F dL_shut_40 rfl ?_
    refine av_callV0 (q := 44) (ci := 7) F hm mL_keepNow_i mL_keepNow_n lL_327 dL_shut_41 rfl rfl rfl (by first | exact hW.o | exact hW.ho | exact hW.to | exact hW.a16 | exact hW.a17 | exact hW.h.a1) (by decide) (Nat.le_refl _) (Nat.le_refl _) (Nat.le_of_ble_eq_true rfl) (wL_keepNow h2 (show 0 < tDn (psT S) by omega) (fun v41 c41 f41 => ?_))
    have hh3 : HH v41 10 (psC S) (psA S) := c41.hh
    refine aw_aload_0 (q := 45) F dL_shut_44 rfl ?_
    refine av_getaE (q := 48) F fL_23 dL_shut_45 rfl rfl (by first | exact hW.o | exact hW.ho | exact hW.to | exact hW.a16 | exact hW.a17 | exact hW.h.a1) hW.p6 ?_
    refine aw_aload_0 (q := 49) F dL_shut_48 rfl ?_
    refine av_getaE (q := 52) F fL_23 dL_shut_49 rfl rfl (by first | exact hW.o | exact hW.ho | exact hW.to | exact hW.a16 | exact hW.a17 | exact hW.h.a1) hW.p6 ?_
    refine aw_iload_1 (q := 53) F dL_shut_52 rfl ?_
    refine av_callV1 (q := 56) (ci := 2) F hm mH_afterShut_i mH_afterShut_n lL_339 dL_shut_53 rfl rfl rfl (by first | exact hW.o | exact hW.ho | exact hW.to | exact hW.a16 | exact hW.a17 | exact hW.h.a1) (by decide) (Nat.le_refl _) (Nat.le_refl _) (Nat.le_of_ble_eq_true rfl) (wH_afterShut (c := psC S) (n := psA S) (by omega) hsp hW.h hh3 ?_)
    refine av_callV1 (q := 59) (ci := 2) F hm mH_put_i mH_put_n lL_333 dL_shut_56 rfl rfl rfl (by first | exact hW.o | exact hW.ho | exact hW.to | exact hW.a16 | exact hW.a17 | exact hW.h.a1) (by decide) (Nat.le_refl _) (Nat.le_refl _) (Nat.le_of_ble_eq_true rfl) (wH_put (c := psC S) (m := aS (psC S) (psA S) x.toNat) rfl (by omega) hW.h hc hh3.2.1 (fun v56 p56 a56 => ?_))
    refine aw_iconst (q := 60) F dL_shut_59 rfl (by decide) ?_
    refine aw_zret F C dL_shut_60 rfl (by decide) (Nat.le_refl _) (Nat.le_refl _) ?_
    obtain ⟨q1, q2⟩ := c41.hl (s := ((psS S).1, (psS S).2.1, aS (psC S) (psA S) x.toNat)) (fun b hb => p56.1 b (by omega) (by omega) (by omega)) (hh3.put p56 a56) ⟨h.oS.1, h.oS.2.1, h.oS.2.2.1, fun _ => hlt, fun q => absurd (show tDn (psT S) = 0 from q) (by omega)⟩
    exact g hx hl hmo _ _ _ _ q1 ((h.fr.tr f41).tr q2)
  refine aw_aload_0 (q := 1) F dL_shut_0 rfl ?_
  refine aw_aload_0 (q := 2) F dL_shut_1 rfl ?_
  refine av_getaE (q := 5) F fL_23 dL_shut_2 rfl rfl (by first | exact hW.o | exact hW.ho | exact hW.to | exact hW.a16 | exact hW.a17 | exact hW.h.a1) hW.p6 ?_
  refine aw_iload_1 (q := 6) F dL_shut_5 rfl ?_
  refine av_callV1 (q := 9) (ci := 2) F hm mH_isDoor_i mH_isDoor_n lL_110 dL_shut_6 rfl rfl rfl (by first | exact hW.o | exact hW.ho | exact hW.to | exact hW.a16 | exact hW.a17 | exact hW.h.a1) (by decide) (Nat.le_refl _) (Nat.le_refl _) (Nat.le_of_ble_eq_true rfl) (wH_isDoor hW.h (fun c6 => ?_) (fun c6 => ?_))
  · refine aw_aload_0 (q := 10) F dL_shut_9 rfl ?_
    refine av_getaE (q := 13) F fL_23 dL_shut_10 rfl rfl (by first | exact hW.o | exact hW.ho | exact hW.to | exact hW.a16 | exact hW.a17 | exact hW.h.a1) hW.p6 ?_
    refine aw_iload_1 (q := 14) F dL_shut_13 rfl ?_
    refine av_callV1 (q := 17) (ci := 2) F hm mH_isOpen_i mH_isOpen_n lL_317 dL_shut_14 rfl rfl rfl (by first | exact hW.o | exact hW.ho | exact hW.to | exact hW.a16 | exact hW.a17 | exact hW.h.a1) (by decide) (Nat.le_refl _) (Nat.le_refl _) (Nat.le_of_ble_eq_true rfl) (wH_isOpen hW.h hh2 (fun a14 b14 c14 => ?_) (fun c14 => ?_))
    · refine aw_aload_0 (q := 18) F dL_shut_17 rfl ?_
      refine av_getaE (q := 21) F fL_23 dL_shut_18 rfl rfl (by first | exact hW.o | exact hW.ho | exact hW.to | exact hW.a16 | exact hW.a17 | exact hW.h.a1) hW.p6 ?_
      refine aw_iload_1 (q := 22) F dL_shut_21 rfl ?_
      refine aw_aload_0 (q := 23) F dL_shut_22 rfl ?_
      refine av_getaE (q := 26) F fL_23 dL_shut_23 rfl rfl (by first | exact hW.o | exact hW.ho | exact hW.to | exact hW.a16 | exact hW.a17 | exact hW.h.a1) hW.p6 ?_
      refine av_callV0 (q := 29) (ci := 2) F hm mH_everybody_i mH_everybody_n lL_160 dL_shut_26 rfl rfl rfl (by first | exact hW.o | exact hW.ho | exact hW.to | exact hW.a16 | exact hW.a17 | exact hW.h.a1) (by decide) (Nat.le_refl _) (Nat.le_refl _) (Nat.le_of_ble_eq_true rfl) (wH_everybody hW.h hh2 ?_)
      refine av_callV2 (q := 32) (ci := 2) F hm mH_mayShut_i mH_mayShut_n lL_336 dL_shut_29 rfl rfl rfl (by first | exact hW.o | exact hW.ho | exact hW.to | exact hW.a16 | exact hW.a17 | exact hW.h.a1) (by decide) (Nat.le_refl _) (Nat.le_refl _) (Nat.le_of_ble_eq_true rfl) (wH_mayShut (th := allP (psC S)) rfl hal hW.h hh2 (fun a29 b29 c29 => ?_) (fun c29 => ?_))
      · refine av_callV3 (q := 35) (ci := 7) F hm mL_mayAct_i mL_mayAct_n lL_323 dL_shut_32 rfl rfl rfl (by first | exact hW.o | exact hW.ho | exact hW.to | exact hW.a16 | exact hW.a17 | exact hW.h.a1) (by decide) (Nat.le_refl _) (Nat.le_refl _) (Nat.le_of_ble_eq_true rfl) (wL_mayAct hW (fun c32 d32 e32 => ?_) (fun c32 => ?_) (fun c32 d32 => ?_) (fun c32 d32 e32 => ?_))
        · refine aw_if_ne (q := 38) (t := 40) F dL_shut_35 rfl (by decide) (fun c35 => ?_) (fun c35 => absurd c35 (by decide))
          first | (exfalso; omega) | exact go (by omega) c14 c29
        · refine aw_if_ne (q := 38) (t := 40) F dL_shut_35 rfl (by decide) (fun c35 => absurd c35 (by decide)) (fun c35 => ?_)
          refine aw_iconst (q := 39) F dL_shut_38 rfl (by decide) ?_
          refine aw_zret F C dL_shut_39 rfl (by decide) (Nat.le_refl _) (Nat.le_refl _) ?_
          first | (exfalso; omega) | exact h.now (by decide) (r1 (by omega)) | exact h.now (by decide) (r2 (by omega) (fun q => q (c14 (by omega) (by omega)))) | exact h.now (by decide) (r3 (by omega) c14 (by rw [c29 (by omega) (by omega)]; decide))
        · refine aw_if_ne (q := 38) (t := 40) F dL_shut_35 rfl (by decide) (fun c35 => absurd c35 (by decide)) (fun c35 => ?_)
          refine aw_iconst (q := 39) F dL_shut_38 rfl (by decide) ?_
          refine aw_zret F C dL_shut_39 rfl (by decide) (Nat.le_refl _) (Nat.le_refl _) ?_
          first | (exfalso; omega) | exact h.now (by decide) (r1 (by omega)) | exact h.now (by decide) (r2 (by omega) (fun q => q (c14 (by omega) (by omega)))) | exact h.now (by decide) (r3 (by omega) c14 (by rw [c29 (by omega) (by omega)]; decide))
        · refine aw_if_ne (q := 38) (t := 40) F dL_shut_35 rfl (by decide) (fun c35 => absurd c35 (by decide)) (fun c35 => ?_)
          refine aw_iconst (q := 39) F dL_shut_38 rfl (by decide) ?_
          refine aw_zret F C dL_shut_39 rfl (by decide) (Nat.le_refl _) (Nat.le_refl _) ?_
          first | (exfalso; omega) | exact h.now (by decide) (r1 (by omega)) | exact h.now (by decide) (r2 (by omega) (fun q => q (c14 (by omega) (by omega)))) | exact h.now (by decide) (r3 (by omega) c14 (by rw [c29 (by omega) (by omega)]; decide))
      · refine av_callV3 (q := 35) (ci := 7) F hm mL_mayAct_i mL_mayAct_n lL_323 dL_shut_32 rfl rfl rfl (by first | exact hW.o | exact hW.ho | exact hW.to | exact hW.a16 | exact hW.a17 | exact hW.h.a1) (by decide) (Nat.le_refl _) (Nat.le_refl _) (Nat.le_of_ble_eq_true rfl) (wL_mayAct hW (fun c32 d32 e32 => ?_) (fun c32 => ?_) (fun c32 d32 => ?_) (fun c32 d32 e32 => ?_))
        · refine aw_if_ne (q := 38) (t := 40) F dL_shut_35 rfl (by decide) (fun c35 => ?_) (fun c35 => absurd c35 (by decide))
          first | (exfalso; omega) | exact go (by omega) c14 c29
        · refine aw_if_ne (q := 38) (t := 40) F dL_shut_35 rfl (by decide) (fun c35 => absurd c35 (by decide)) (fun c35 => ?_)
          refine aw_iconst (q := 39) F dL_shut_38 rfl (by decide) ?_
          refine aw_zret F C dL_shut_39 rfl (by decide) (Nat.le_refl _) (Nat.le_refl _) ?_
          first | (exfalso; omega) | exact h.now (by decide) (r1 (by omega)) | exact h.now (by decide) (r2 (by omega) (fun q => q (c14 (by omega) (by omega)))) | exact h.now (by decide) (r3 (by omega) c14 (by rw [c29 (by omega) (by omega)]; decide))
        · refine aw_if_ne (q := 38) (t := 40) F dL_shut_35 rfl (by decide) (fun c35 => absurd c35 (by decide)) (fun c35 => ?_)
          refine aw_iconst (q := 39) F dL_shut_38 rfl (by decide) ?_
          refine aw_zret F C dL_shut_39 rfl (by decide) (Nat.le_refl _) (Nat.le_refl _) ?_
          first | (exfalso; omega) | exact h.now (by decide) (r1 (by omega)) | exact h.now (by decide) (r2 (by omega) (fun q => q (c14 (by omega) (by omega)))) | exact h.now (by decide) (r3 (by omega) c14 (by rw [c29 (by omega) (by omega)]; decide))
        · refine aw_if_ne (q := 38) (t := 40) F dL_shut_35 rfl (by decide) (fun c35 => absurd c35 (by decide)) (fun c35 => ?_)
          refine aw_iconst (q := 39) F dL_shut_38 rfl (by decide) ?_
          refine aw_zret F C dL_shut_39 rfl (by decide) (Nat.le_refl _) (Nat.le_refl _) ?_
          first | (exfalso; omega) | exact h.now (by decide) (r1 (by omega)) | exact h.now (by decide) (r2 (by omega) (fun q => q (c14 (by omega) (by omega)))) | exact h.now (by decide) (r3 (by omega) c14 (by rw [c29 (by omega) (by omega)]; decide))
    · refine aw_aload_0 (q := 18) F dL_shut_17 rfl ?_
      refine av_getaE (q := 21) F fL_23 dL_shut_18 rfl rfl (by first | exact hW.o | exact hW.ho | exact hW.to | exact hW.a16 | exact hW.a17 | exact hW.h.a1) hW.p6 ?_
      refine aw_iload_1 (q := 22) F dL_shut_21 rfl ?_
      refine aw_aload_0 (q := 23) F dL_shut_22 rfl ?_
      refine av_getaE (q := 26) F fL_23 dL_shut_23 rfl rfl (by first | exact hW.o | exact hW.ho | exact hW.to | exact hW.a16 | exact hW.a17 | exact hW.h.a1) hW.p6 ?_
      refine av_callV0 (q := 29) (ci := 2) F hm mH_everybody_i mH_everybody_n lL_160 dL_shut_26 rfl rfl rfl (by first | exact hW.o | exact hW.ho | exact hW.to | exact hW.a16 | exact hW.a17 | exact hW.h.a1) (by decide) (Nat.le_refl _) (Nat.le_refl _) (Nat.le_of_ble_eq_true rfl) (wH_everybody hW.h hh2 ?_)
      refine av_callV2 (q := 32) (ci := 2) F hm mH_mayShut_i mH_mayShut_n lL_336 dL_shut_29 rfl rfl rfl (by first | exact hW.o | exact hW.ho | exact hW.to | exact hW.a16 | exact hW.a17 | exact hW.h.a1) (by decide) (Nat.le_refl _) (Nat.le_refl _) (Nat.le_of_ble_eq_true rfl) (wH_mayShut (th := allP (psC S)) rfl hal hW.h hh2 (fun a29 b29 c29 => ?_) (fun c29 => ?_))
      · refine av_callV3 (q := 35) (ci := 7) F hm mL_mayAct_i mL_mayAct_n lL_323 dL_shut_32 rfl rfl rfl (by first | exact hW.o | exact hW.ho | exact hW.to | exact hW.a16 | exact hW.a17 | exact hW.h.a1) (by decide) (Nat.le_refl _) (Nat.le_refl _) (Nat.le_of_ble_eq_true rfl) (wL_mayAct hW (fun c32 d32 e32 => ?_) (fun c32 => ?_) (fun c32 d32 => ?_) (fun c32 d32 e32 => ?_))
        · refine aw_if_ne (q := 38) (t := 40) F dL_shut_35 rfl (by decide) (fun c35 => ?_) (fun c35 => absurd c35 (by decide))
          first | (exfalso; omega) | exact go (by omega) c14 c29
        · refine aw_if_ne (q := 38) (t := 40) F dL_shut_35 rfl (by decide) (fun c35 => absurd c35 (by decide)) (fun c35 => ?_)
          refine aw_iconst (q := 39) F dL_shut_38 rfl (by decide) ?_
          refine aw_zret F C dL_shut_39 rfl (by decide) (Nat.le_refl _) (Nat.le_refl _) ?_
          first | (exfalso; omega) | exact h.now (by decide) (r1 (by omega)) | exact h.now (by decide) (r2 (by omega) (fun q => q (c14 (by omega) (by omega)))) | exact h.now (by decide) (r3 (by omega) c14 (by rw [c29 (by omega) (by omega)]; decide))
        · refine aw_if_ne (q := 38) (t := 40) F dL_shut_35 rfl (by decide) (fun c35 => absurd c35 (by decide)) (fun c35 => ?_)
          refine aw_iconst (q := 39) F dL_shut_38 rfl (by decide) ?_
          refine aw_zret F C dL_shut_39 rfl (by decide) (Nat.le_refl _) (Nat.le_refl _) ?_
          first | (exfalso; omega) | exact h.now (by decide) (r1 (by omega)) | exact h.now (by decide) (r2 (by omega) (fun q => q (c14 (by omega) (by omega)))) | exact h.now (by decide) (r3 (by omega) c14 (by rw [c29 (by omega) (by omega)]; decide))
        · refine aw_if_ne (q := 38) (t := 40) F dL_shut_35 rfl (by decide) (fun c35 => absurd c35 (by decide)) (fun c35 => ?_)
          refine aw_iconst (q := 39) F dL_shut_38 rfl (by decide) ?_
          refine aw_zret F C dL_shut_39 rfl (by decide) (Nat.le_refl _) (Nat.le_refl _) ?_
          first | (exfalso; omega) | exact h.now (by decide) (r1 (by omega)) | exact h.now (by decide) (r2 (by omega) (fun q => q (c14 (by omega) (by omega)))) | exact h.now (by decide) (r3 (by omega) c14 (by rw [c29 (by omega) (by omega)]; decide))
      · refine av_callV3 (q := 35) (ci := 7) F hm mL_mayAct_i mL_mayAct_n lL_323 dL_shut_32 rfl rfl rfl (by first | exact hW.o | exact hW.ho | exact hW.to | exact hW.a16 | exact hW.a17 | exact hW.h.a1) (by decide) (Nat.le_refl _) (Nat.le_refl _) (Nat.le_of_ble_eq_true rfl) (wL_mayAct hW (fun c32 d32 e32 => ?_) (fun c32 => ?_) (fun c32 d32 => ?_) (fun c32 d32 e32 => ?_))
        · refine aw_if_ne (q := 38) (t := 40) F dL_shut_35 rfl (by decide) (fun c35 => ?_) (fun c35 => absurd c35 (by decide))
          first | (exfalso; omega) | exact go (by omega) c14 c29
        · refine aw_if_ne (q := 38) (t := 40) F dL_shut_35 rfl (by decide) (fun c35 => absurd c35 (by decide)) (fun c35 => ?_)
          refine aw_iconst (q := 39) F dL_shut_38 rfl (by decide) ?_
          refine aw_zret F C dL_shut_39 rfl (by decide) (Nat.le_refl _) (Nat.le_refl _) ?_
          first | (exfalso; omega) | exact h.now (by decide) (r1 (by omega)) | exact h.now (by decide) (r2 (by omega) (fun q => q (c14 (by omega) (by omega)))) | exact h.now (by decide) (r3 (by omega) c14 (by rw [c29 (by omega) (by omega)]; decide))
        · refine aw_if_ne (q := 38) (t := 40) F dL_shut_35 rfl (by decide) (fun c35 => absurd c35 (by decide)) (fun c35 => ?_)
          refine aw_iconst (q := 39) F dL_shut_38 rfl (by decide) ?_
          refine aw_zret F C dL_shut_39 rfl (by decide) (Nat.le_refl _) (Nat.le_refl _) ?_
          first | (exfalso; omega) | exact h.now (by decide) (r1 (by omega)) | exact h.now (by decide) (r2 (by omega) (fun q => q (c14 (by omega) (by omega)))) | exact h.now (by decide) (r3 (by omega) c14 (by rw [c29 (by omega) (by omega)]; decide))
        · refine aw_if_ne (q := 38) (t := 40) F dL_shut_35 rfl (by decide) (fun c35 => absurd c35 (by decide)) (fun c35 => ?_)
          refine aw_iconst (q := 39) F dL_shut_38 rfl (by decide) ?_
          refine aw_zret F C dL_shut_39 rfl (by decide) (Nat.le_refl _) (Nat.le_refl _) ?_
          first | (exfalso; omega) | exact h.now (by decide) (r1 (by omega)) | exact h.now (by decide) (r2 (by omega) (fun q => q (c14 (by omega) (by omega)))) | exact h.now (by decide) (r3 (by omega) c14 (by rw [c29 (by omega) (by omega)]; decide))
  · refine aw_aload_0 (q := 10) F dL_shut_9 rfl ?_
    refine av_getaE (q := 13) F fL_23 dL_shut_10 rfl rfl (by first | exact hW.o | exact hW.ho | exact hW.to | exact hW.a16 | exact hW.a17 | exact hW.h.a1) hW.p6 ?_
    refine aw_iload_1 (q := 14) F dL_shut_13 rfl ?_
    refine av_callV1 (q := 17) (ci := 2) F hm mH_isOpen_i mH_isOpen_n lL_317 dL_shut_14 rfl rfl rfl (by first | exact hW.o | exact hW.ho | exact hW.to | exact hW.a16 | exact hW.a17 | exact hW.h.a1) (by decide) (Nat.le_refl _) (Nat.le_refl _) (Nat.le_of_ble_eq_true rfl) (wH_isOpen hW.h hh2 (fun a14 b14 c14 => ?_) (fun c14 => ?_))
    · refine aw_aload_0 (q := 18) F dL_shut_17 rfl ?_
      refine av_getaE (q := 21) F fL_23 dL_shut_18 rfl rfl (by first | exact hW.o | exact hW.ho | exact hW.to | exact hW.a16 | exact hW.a17 | exact hW.h.a1) hW.p6 ?_
      refine aw_iload_1 (q := 22) F dL_shut_21 rfl ?_
      refine aw_aload_0 (q := 23) F dL_shut_22 rfl ?_
      refine av_getaE (q := 26) F fL_23 dL_shut_23 rfl rfl (by first | exact hW.o | exact hW.ho | exact hW.to | exact hW.a16 | exact hW.a17 | exact hW.h.a1) hW.p6 ?_
      refine av_callV0 (q := 29) (ci := 2) F hm mH_everybody_i mH_everybody_n lL_160 dL_shut_26 rfl rfl rfl (by first | exact hW.o | exact hW.ho | exact hW.to | exact hW.a16 | exact hW.a17 | exact hW.h.a1) (by decide) (Nat.le_refl _) (Nat.le_refl _) (Nat.le_of_ble_eq_true rfl) (wH_everybody hW.h hh2 ?_)
      refine av_callV2 (q := 32) (ci := 2) F hm mH_mayShut_i mH_mayShut_n lL_336 dL_shut_29 rfl rfl rfl (by first | exact hW.o | exact hW.ho | exact hW.to | exact hW.a16 | exact hW.a17 | exact hW.h.a1) (by decide) (Nat.le_refl _) (Nat.le_refl _) (Nat.le_of_ble_eq_true rfl) (wH_mayShut (th := allP (psC S)) rfl hal hW.h hh2 (fun a29 b29 c29 => ?_) (fun c29 => ?_))
      · refine av_callV3 (q := 35) (ci := 7) F hm mL_mayAct_i mL_mayAct_n lL_323 dL_shut_32 rfl rfl rfl (by first | exact hW.o | exact hW.ho | exact hW.to | exact hW.a16 | exact hW.a17 | exact hW.h.a1) (by decide) (Nat.le_refl _) (Nat.le_refl _) (Nat.le_of_ble_eq_true rfl) (wL_mayAct hW (fun c32 d32 e32 => ?_) (fun c32 => ?_) (fun c32 d32 => ?_) (fun c32 d32 e32 => ?_))
        · refine aw_if_ne (q := 38) (t := 40) F dL_shut_35 rfl (by decide) (fun c35 => ?_) (fun c35 => absurd c35 (by decide))
          first | (exfalso; omega) | exact go (by omega) c14 c29
        · refine aw_if_ne (q := 38) (t := 40) F dL_shut_35 rfl (by decide) (fun c35 => absurd c35 (by decide)) (fun c35 => ?_)
          refine aw_iconst (q := 39) F dL_shut_38 rfl (by decide) ?_
          refine aw_zret F C dL_shut_39 rfl (by decide) (Nat.le_refl _) (Nat.le_refl _) ?_
          first | (exfalso; omega) | exact h.now (by decide) (r1 (by omega)) | exact h.now (by decide) (r2 (by omega) (fun q => q (c14 (by omega) (by omega)))) | exact h.now (by decide) (r3 (by omega) c14 (by rw [c29 (by omega) (by omega)]; decide))
        · refine aw_if_ne (q := 38) (t := 40) F dL_shut_35 rfl (by decide) (fun c35 => absurd c35 (by decide)) (fun c35 => ?_)
          refine aw_iconst (q := 39) F dL_shut_38 rfl (by decide) ?_
          refine aw_zret F C dL_shut_39 rfl (by decide) (Nat.le_refl _) (Nat.le_refl _) ?_
          first | (exfalso; omega) | exact h.now (by decide) (r1 (by omega)) | exact h.now (by decide) (r2 (by omega) (fun q => q (c14 (by omega) (by omega)))) | exact h.now (by decide) (r3 (by omega) c14 (by rw [c29 (by omega) (by omega)]; decide))
        · refine aw_if_ne (q := 38) (t := 40) F dL_shut_35 rfl (by decide) (fun c35 => absurd c35 (by decide)) (fun c35 => ?_)
          refine aw_iconst (q := 39) F dL_shut_38 rfl (by decide) ?_
          refine aw_zret F C dL_shut_39 rfl (by decide) (Nat.le_refl _) (Nat.le_refl _) ?_
          first | (exfalso; omega) | exact h.now (by decide) (r1 (by omega)) | exact h.now (by decide) (r2 (by omega) (fun q => q (c14 (by omega) (by omega)))) | exact h.now (by decide) (r3 (by omega) c14 (by rw [c29 (by omega) (by omega)]; decide))
      · refine av_callV3 (q := 35) (ci := 7) F hm mL_mayAct_i mL_mayAct_n lL_323 dL_shut_32 rfl rfl rfl (by first | exact hW.o | exact hW.ho | exact hW.to | exact hW.a16 | exact hW.a17 | exact hW.h.a1) (by decide) (Nat.le_refl _) (Nat.le_refl _) (Nat.le_of_ble_eq_true rfl) (wL_mayAct hW (fun c32 d32 e32 => ?_) (fun c32 => ?_) (fun c32 d32 => ?_) (fun c32 d32 e32 => ?_))
        · refine aw_if_ne (q := 38) (t := 40) F dL_shut_35 rfl (by decide) (fun c35 => ?_) (fun c35 => absurd c35 (by decide))
          first | (exfalso; omega) | exact go (by omega) c14 c29
        · refine aw_if_ne (q := 38) (t := 40) F dL_shut_35 rfl (by decide) (fun c35 => absurd c35 (by decide)) (fun c35 => ?_)
          refine aw_iconst (q := 39) F dL_shut_38 rfl (by decide) ?_
          refine aw_zret F C dL_shut_39 rfl (by decide) (Nat.le_refl _) (Nat.le_refl _) ?_
          first | (exfalso; omega) | exact h.now (by decide) (r1 (by omega)) | exact h.now (by decide) (r2 (by omega) (fun q => q (c14 (by omega) (by omega)))) | exact h.now (by decide) (r3 (by omega) c14 (by rw [c29 (by omega) (by omega)]; decide))
        · refine aw_if_ne (q := 38) (t := 40) F dL_shut_35 rfl (by decide) (fun c35 => absurd c35 (by decide)) (fun c35 => ?_)
          refine aw_iconst (q := 39) F dL_shut_38 rfl (by decide) ?_
          refine aw_zret F C dL_shut_39 rfl (by decide) (Nat.le_refl _) (Nat.le_refl _) ?_
          first | (exfalso; omega) | exact h.now (by decide) (r1 (by omega)) | exact h.now (by decide) (r2 (by omega) (fun q => q (c14 (by omega) (by omega)))) | exact h.now (by decide) (r3 (by omega) c14 (by rw [c29 (by omega) (by omega)]; decide))
        · refine aw_if_ne (q := 38) (t := 40) F dL_shut_35 rfl (by decide) (fun c35 => absurd c35 (by decide)) (fun c35 => ?_)
          refine aw_iconst (q := 39) F dL_shut_38 rfl (by decide) ?_
          refine aw_zret F C dL_shut_39 rfl (by decide) (Nat.le_refl _) (Nat.le_refl _) ?_
          first | (exfalso; omega) | exact h.now (by decide) (r1 (by omega)) | exact h.now (by decide) (r2 (by omega) (fun q => q (c14 (by omega) (by omega)))) | exact h.now (by decide) (r3 (by omega) c14 (by rw [c29 (by omega) (by omega)]; decide))
    · refine aw_aload_0 (q := 18) F dL_shut_17 rfl ?_
      refine av_getaE (q := 21) F fL_23 dL_shut_18 rfl rfl (by first | exact hW.o | exact hW.ho | exact hW.to | exact hW.a16 | exact hW.a17 | exact hW.h.a1) hW.p6 ?_
      refine aw_iload_1 (q := 22) F dL_shut_21 rfl ?_
      refine aw_aload_0 (q := 23) F dL_shut_22 rfl ?_
      refine av_getaE (q := 26) F fL_23 dL_shut_23 rfl rfl (by first | exact hW.o | exact hW.ho | exact hW.to | exact hW.a16 | exact hW.a17 | exact hW.h.a1) hW.p6 ?_
      refine av_callV0 (q := 29) (ci := 2) F hm mH_everybody_i mH_everybody_n lL_160 dL_shut_26 rfl rfl rfl (by first | exact hW.o | exact hW.ho | exact hW.to | exact hW.a16 | exact hW.a17 | exact hW.h.a1) (by decide) (Nat.le_refl _) (Nat.le_refl _) (Nat.le_of_ble_eq_true rfl) (wH_everybody hW.h hh2 ?_)
      refine av_callV2 (q := 32) (ci := 2) F hm mH_mayShut_i mH_mayShut_n lL_336 dL_shut_29 rfl rfl rfl (by first | exact hW.o | exact hW.ho | exact hW.to | exact hW.a16 | exact hW.a17 | exact hW.h.a1) (by decide) (Nat.le_refl _) (Nat.le_refl _) (Nat.le_of_ble_eq_true rfl) (wH_mayShut (th := allP (psC S)) rfl hal hW.h hh2 (fun a29 b29 c29 => ?_) (fun c29 => ?_))
      · refine av_callV3 (q := 35) (ci := 7) F hm mL_mayAct_i mL_mayAct_n lL_323 dL_shut_32 rfl rfl rfl (by first | exact hW.o | exact hW.ho | exact hW.to | exact hW.a16 | exact hW.a17 | exact hW.h.a1) (by decide) (Nat.le_refl _) (Nat.le_refl _) (Nat.le_of_ble_eq_true rfl) (wL_mayAct hW (fun c32 d32 e32 => ?_) (fun c32 => ?_) (fun c32 d32 => ?_) (fun c32 d32 e32 => ?_))
        · refine aw_if_ne (q := 38) (t := 40) F dL_shut_35 rfl (by decide) (fun c35 => ?_) (fun c35 => absurd c35 (by decide))
          first | (exfalso; omega) | exact go (by omega) c14 c29
        · refine aw_if_ne (q := 38) (t := 40) F dL_shut_35 rfl (by decide) (fun c35 => absurd c35 (by decide)) (fun c35 => ?_)
          refine aw_iconst (q := 39) F dL_shut_38 rfl (by decide) ?_
          refine aw_zret F C dL_shut_39 rfl (by decide) (Nat.le_refl _) (Nat.le_refl _) ?_
          first | (exfalso; omega) | exact h.now (by decide) (r1 (by omega)) | exact h.now (by decide) (r2 (by omega) (fun q => q (c14 (by omega) (by omega)))) | exact h.now (by decide) (r3 (by omega) c14 (by rw [c29 (by omega) (by omega)]; decide))
        · refine aw_if_ne (q := 38) (t := 40) F dL_shut_35 rfl (by decide) (fun c35 => absurd c35 (by decide)) (fun c35 => ?_)
          refine aw_iconst (q := 39) F dL_shut_38 rfl (by decide) ?_
          refine aw_zret F C dL_shut_39 rfl (by decide) (Nat.le_refl _) (Nat.le_refl _) ?_
          first | (exfalso; omega) | exact h.now (by decide) (r1 (by omega)) | exact h.now (by decide) (r2 (by omega) (fun q => q (c14 (by omega) (by omega)))) | exact h.now (by decide) (r3 (by omega) c14 (by rw [c29 (by omega) (by omega)]; decide))
        · refine aw_if_ne (q := 38) (t := 40) F dL_shut_35 rfl (by decide) (fun c35 => absurd c35 (by decide)) (fun c35 => ?_)
          refine aw_iconst (q := 39) F dL_shut_38 rfl (by decide) ?_
          refine aw_zret F C dL_shut_39 rfl (by decide) (Nat.le_refl _) (Nat.le_refl _) ?_
          first | (exfalso; omega) | exact h.now (by decide) (r1 (by omega)) | exact h.now (by decide) (r2 (by omega) (fun q => q (c14 (by omega) (by omega)))) | exact h.now (by decide) (r3 (by omega) c14 (by rw [c29 (by omega) (by omega)]; decide))
      · refine av_callV3 (q := 35) (ci := 7) F hm mL_mayAct_i mL_mayAct_n lL_323 dL_shut_32 rfl rfl rfl (by first | exact hW.o | exact hW.ho | exact hW.to | exact hW.a16 | exact hW.a17 | exact hW.h.a1) (by decide) (Nat.le_refl _) (Nat.le_refl _) (Nat.le_of_ble_eq_true rfl) (wL_mayAct hW (fun c32 d32 e32 => ?_) (fun c32 => ?_) (fun c32 d32 => ?_) (fun c32 d32 e32 => ?_))
        · refine aw_if_ne (q := 38) (t := 40) F dL_shut_35 rfl (by decide) (fun c35 => ?_) (fun c35 => absurd c35 (by decide))
          first | (exfalso; omega) | exact go (by omega) c14 c29
        · refine aw_if_ne (q := 38) (t := 40) F dL_shut_35 rfl (by decide) (fun c35 => absurd c35 (by decide)) (fun c35 => ?_)
          refine aw_iconst (q := 39) F dL_shut_38 rfl (by decide) ?_
          refine aw_zret F C dL_shut_39 rfl (by decide) (Nat.le_refl _) (Nat.le_refl _) ?_
          first | (exfalso; omega) | exact h.now (by decide) (r1 (by omega)) | exact h.now (by decide) (r2 (by omega) (fun q => q (c14 (by omega) (by omega)))) | exact h.now (by decide) (r3 (by omega) c14 (by rw [c29 (by omega) (by omega)]; decide))
        · refine aw_if_ne (q := 38) (t := 40) F dL_shut_35 rfl (by decide) (fun c35 => absurd c35 (by decide)) (fun c35 => ?_)
          refine aw_iconst (q := 39) F dL_shut_38 rfl (by decide) ?_
          refine aw_zret F C dL_shut_39 rfl (by decide) (Nat.le_refl _) (Nat.le_refl _) ?_
          first | (exfalso; omega) | exact h.now (by decide) (r1 (by omega)) | exact h.now (by decide) (r2 (by omega) (fun q => q (c14 (by omega) (by omega)))) | exact h.now (by decide) (r3 (by omega) c14 (by rw [c29 (by omega) (by omega)]; decide))
        · refine aw_if_ne (q := 38) (t := 40) F dL_shut_35 rfl (by decide) (fun c35 => absurd c35 (by decide)) (fun c35 => ?_)
          refine aw_iconst (q := 39) F dL_shut_38 rfl (by decide) ?_
          refine aw_zret F C dL_shut_39 rfl (by decide) (Nat.le_refl _) (Nat.le_refl _) ?_
          first | (exfalso; omega) | exact h.now (by decide) (r1 (by omega)) | exact h.now (by decide) (r2 (by omega) (fun q => q (c14 (by omega) (by omega)))) | exact h.now (by decide) (r3 (by omega) c14 (by rw [c29 (by omega) (by omega)]; decide))
theorem wL_go {w x : Int} (h : CW V σ ow y S kn) (hK : CK K V σ ow (ifS (wya ((0 ≤ w ∧ w < tPn (psT S)) ∧ 0 ≤ x ∧ x < tDn (psT S)) (ld (psC S) (psA S) x.toNat ≠ 0) (mG (psC S) (psA S) w.toNat x.toNat = true)) (nGo S w.toNat x.toNat) S) kn (some (vI (rfD (wya ((0 ≤ w ∧ w < tPn (psT S)) ∧ 0 ≤ x ∧ x < tDn (psT S)) (ld (psC S) (psA S) x.toNat ≠ 0) (mG (psC S) (psA S) w.toNat x.toNat = true)) (pl (psC S) (aG (psC S) (psA S) w.toNat x.toNat) w.toNat) (-1))))) : Wp G 2 mL_go [vR 1, vI w, vI x] (V, σ) 0 0 K := by
  have hW := h.cs
  have hT := h.oT
  have hd4 : tDn (psT S) ≤ 4 := h.oT.2.1
  have hp2 : tPn (psT S) ≤ 2 := h.oT.2.2.1
  have h2 := h.tr (z := 0) (by decide)
  have hh2 := h.hh
  have hv := h.v0
  have hv1 := h.v1
  have ed : dN (psC S) = tDn (psT S) := rfl
  have ep : pN (psC S) = tPn (psT S) := rfl
  have hc := h.oT.okC h.oS
  have hsl : spc (psC S) ≤ 62500 := spc_le hc
  have hal := allP_lt hc
  obtain ⟨g, r1, r2, r3⟩ := g4 hK
  refine wp_intro mL_go_i.1 [some (vR 1), some (vI w), some (vI x)] rfl rfl (Nat.le_of_ble_eq_true rfl) ?_
  intro X hG F C
  have hm := C.rm
  have go : (0 ≤ w ∧ w < tPn (psT S)) ∧ 0 ≤ x ∧ x < tDn (psT S) → ld (psC S) (psA S) x.toNat ≠ 0 → mG (psC S) (psA S) w.toNat x.toNat = true → AW X 53 [some (vR 1), some (vI w), some (vI x)] [] (up2 V 1 2 0, σ) 0 0 := by
    intro hx hl hmo
    have hsp : psA S < spc (psC S) := h.oS.2.2.2.1 (by omega)
    have hlt : aG (psC S) (psA S) w.toNat x.toNat < spc (psC S) := mG_lt (d := x.toNat) (p := w.toNat) hsp (by omega) (by omega) hmo
    refine aw_aload_0 (q := 54) F dL_go_53 rfl ?_
    refine av_callV0 (q := 57) (ci := 7) F hm mL_keepNow_i mL_keepNow_n lL_327 dL_go_54 rfl rfl rfl (by first | exact hW.o | exact hW.ho | exact hW.to | exact hW.a16 | exact hW.a17 | exact hW.h.a1) (by decide) (Nat.le_refl _) (Nat.le_refl _) (Nat.le_of_ble_eq_true rfl) (wL_keepNow h2 (show 0 < tDn (psT S) by omega) (fun v54 c54 f54 => ?_))
    have hh3 : HH v54 10 (psC S) (psA S) := c54.hh
    refine aw_aload_0 (q := 58) F dL_go_57 rfl ?_
    refine av_getaE (q := 61) F fL_23 dL_go_58 rfl rfl (by first | exact hW.o | exact hW.ho | exact hW.to | exact hW.a16 | exact hW.a17 | exact hW.h.a1) hW.p6 ?_
    refine aw_aload_0 (q := 62) F dL_go_61 rfl ?_
    refine av_getaE (q := 65) F fL_23 dL_go_62 rfl rfl (by first | exact hW.o | exact hW.ho | exact hW.to | exact hW.a16 | exact hW.a17 | exact hW.h.a1) hW.p6 ?_
    refine aw_iload_1 (q := 66) F dL_go_65 rfl ?_
    refine aw_iload_2 (q := 67) F dL_go_66 rfl ?_
    refine av_callV2 (q := 70) (ci := 2) F hm mH_afterGo_i mH_afterGo_n lL_345 dL_go_67 rfl rfl rfl (by first | exact hW.o | exact hW.ho | exact hW.to | exact hW.a16 | exact hW.a17 | exact hW.h.a1) (by decide) (Nat.le_refl _) (Nat.le_refl _) (Nat.le_of_ble_eq_true rfl) (wH_afterGo (c := psC S) (n := psA S) (by omega) (by omega) hsp hW.h hh3 ?_)
    refine av_callV1 (q := 73) (ci := 2) F hm mH_put_i mH_put_n lL_333 dL_go_70 rfl rfl rfl (by first | exact hW.o | exact hW.ho | exact hW.to | exact hW.a16 | exact hW.a17 | exact hW.h.a1) (by decide) (Nat.le_refl _) (Nat.le_refl _) (Nat.le_of_ble_eq_true rfl) (wH_put (c := psC S) (m := aG (psC S) (psA S) w.toNat x.toNat) rfl (by omega) hW.h hc hh3.2.1 (fun v70 p70 a70 => ?_))
    refine aw_aload_0 (q := 74) F dL_go_73 rfl ?_
    refine av_getaE (q := 77) F fL_23 dL_go_74 rfl rfl (by first | exact hW.o | exact hW.ho | exact hW.to | exact hW.a16 | exact hW.a17 | exact hW.h.a1) hW.p6 ?_
    refine aw_iload_1 (q := 78) F dL_go_77 rfl ?_
    refine av_callV1 (q := 81) (ci := 2) F hm mH_placeOf_i mH_placeOf_n lL_139 dL_go_78 rfl rfl rfl (by first | exact hW.o | exact hW.ho | exact hW.to | exact hW.a16 | exact hW.a17 | exact hW.h.a1) (by decide) (Nat.le_refl _) (Nat.le_refl _) (Nat.le_of_ble_eq_true rfl) (wH_placeOf (c := psC S) (n := aG (psC S) (psA S) w.toNat x.toNat) hW.h (hh3.put p70 a70) (fun a78 b78 => ?_) (fun c78 => ?_))
    · refine aw_iret F C dL_go_81 rfl (Nat.le_refl _) (Nat.le_refl _) ?_
      first
      | (exfalso; omega)
      | (obtain ⟨q1, q2⟩ := c54.hl (s := ((psS S).1, (psS S).2.1, aG (psC S) (psA S) w.toNat x.toNat)) (fun b hb => p70.1 b (by omega) (by omega) (by omega)) (hh3.put p70 a70) ⟨h.oS.1, h.oS.2.1, h.oS.2.2.1, fun _ => hlt, fun q => absurd (show tDn (psT S) = 0 from q) (by omega)⟩
         exact g hx hl hmo _ _ _ _ q1 ((h.fr.tr f54).tr q2))
    · refine aw_iret F C dL_go_81 rfl (Nat.le_refl _) (Nat.le_refl _) ?_
      first
      | (exfalso; omega)
      | (obtain ⟨q1, q2⟩ := c54.hl (s := ((psS S).1, (psS S).2.1, aG (psC S) (psA S) w.toNat x.toNat)) (fun b hb => p70.1 b (by omega) (by omega) (by omega)) (hh3.put p70 a70) ⟨h.oS.1, h.oS.2.1, h.oS.2.2.1, fun _ => hlt, fun q => absurd (show tDn (psT S) = 0 from q) (by omega)⟩
         exact g hx hl hmo _ _ _ _ q1 ((h.fr.tr f54).tr q2))
  refine aw_aload_0 (q := 1) F dL_go_0 rfl ?_
  refine aw_aload_0 (q := 2) F dL_go_1 rfl ?_
  refine av_getaE (q := 5) F fL_23 dL_go_2 rfl rfl (by first | exact hW.o | exact hW.ho | exact hW.to | exact hW.a16 | exact hW.a17 | exact hW.h.a1) hW.p6 ?_
  refine aw_iload_2 (q := 6) F dL_go_5 rfl ?_
  refine av_callV1 (q := 9) (ci := 2) F hm mH_isDoor_i mH_isDoor_n lL_110 dL_go_6 rfl rfl rfl (by first | exact hW.o | exact hW.ho | exact hW.to | exact hW.a16 | exact hW.a17 | exact hW.h.a1) (by decide) (Nat.le_refl _) (Nat.le_refl _) (Nat.le_of_ble_eq_true rfl) (wH_isDoor hW.h (fun c6 => ?_) (fun c6 => ?_))
  · refine aw_if_eq (q := 12) (t := 27) F dL_go_9 rfl (by decide) (fun c9 => absurd c9 (by decide)) (fun c9 => ?_)
    refine aw_aload_0 (q := 13) F dL_go_12 rfl ?_
    refine av_getaE (q := 16) F fL_23 dL_go_13 rfl rfl (by first | exact hW.o | exact hW.ho | exact hW.to | exact hW.a16 | exact hW.a17 | exact hW.h.a1) hW.p6 ?_
    refine aw_iload_1 (q := 17) F dL_go_16 rfl ?_
    refine av_callV1 (q := 20) (ci := 2) F hm mH_isPerson_i mH_isPerson_n lL_136 dL_go_17 rfl rfl rfl (by first | exact hW.o | exact hW.ho | exact hW.to | exact hW.a16 | exact hW.a17 | exact hW.h.a1) (by decide) (Nat.le_refl _) (Nat.le_refl _) (Nat.le_of_ble_eq_true rfl) (wH_isPerson hW.h (fun c17 => ?_) (fun c17 => ?_))
    · refine aw_if_eq (q := 23) (t := 27) F dL_go_20 rfl (by decide) (fun c20 => absurd c20 (by decide)) (fun c20 => ?_)
      refine aw_iconst (q := 24) F dL_go_23 rfl (by decide) ?_
      refine aw_goto (t := 28) F dL_go_24 (by decide) ?_
      refine aw_aload_0 (q := 29) F dL_go_28 rfl ?_
      refine av_getaE (q := 32) F fL_23 dL_go_29 rfl rfl (by first | exact hW.o | exact hW.ho | exact hW.to | exact hW.a16 | exact hW.a17 | exact hW.h.a1) hW.p6 ?_
      refine aw_iload_2 (q := 33) F dL_go_32 rfl ?_
      refine av_callV1 (q := 36) (ci := 2) F hm mH_isOpen_i mH_isOpen_n lL_317 dL_go_33 rfl rfl rfl (by first | exact hW.o | exact hW.ho | exact hW.to | exact hW.a16 | exact hW.a17 | exact hW.h.a1) (by decide) (Nat.le_refl _) (Nat.le_refl _) (Nat.le_of_ble_eq_true rfl) (wH_isOpen hW.h hh2 (fun a33 b33 c33 => ?_) (fun c33 => ?_))
      · refine aw_aload_0 (q := 37) F dL_go_36 rfl ?_
        refine av_getaE (q := 40) F fL_23 dL_go_37 rfl rfl (by first | exact hW.o | exact hW.ho | exact hW.to | exact hW.a16 | exact hW.a17 | exact hW.h.a1) hW.p6 ?_
        refine aw_iload_1 (q := 41) F dL_go_40 rfl ?_
        refine aw_iload_2 (q := 42) F dL_go_41 rfl ?_
        refine av_callV2 (q := 45) (ci := 2) F hm mH_mayGo_i mH_mayGo_n lL_342 dL_go_42 rfl rfl rfl (by first | exact hW.o | exact hW.ho | exact hW.to | exact hW.a16 | exact hW.a17 | exact hW.h.a1) (by decide) (Nat.le_refl _) (Nat.le_refl _) (Nat.le_of_ble_eq_true rfl) (wH_mayGo hW.h hh2 (fun a42 b42 c42 d42 e42 => ?_) (fun c42 => ?_))
        · refine av_callV3 (q := 48) (ci := 7) F hm mL_mayAct_i mL_mayAct_n lL_323 dL_go_45 rfl rfl rfl (by first | exact hW.o | exact hW.ho | exact hW.to | exact hW.a16 | exact hW.a17 | exact hW.h.a1) (by decide) (Nat.le_refl _) (Nat.le_refl _) (Nat.le_of_ble_eq_true rfl) (wL_mayAct hW (fun c45 d45 e45 => ?_) (fun c45 => ?_) (fun c45 d45 => ?_) (fun c45 d45 e45 => ?_))
          · refine aw_if_ne (q := 51) (t := 53) F dL_go_48 rfl (by decide) (fun c48 => ?_) (fun c48 => absurd c48 (by decide))
            first | (exfalso; omega) | exact go (by omega) c33 e42
          · refine aw_if_ne (q := 51) (t := 53) F dL_go_48 rfl (by decide) (fun c48 => absurd c48 (by decide)) (fun c48 => ?_)
            refine aw_iconst (q := 52) F dL_go_51 rfl (by decide) ?_
            refine aw_iret F C dL_go_52 rfl (Nat.le_refl _) (Nat.le_refl _) ?_
            first | (exfalso; omega) | exact h.now (by decide) (r1 (by omega)) | exact h.now (by decide) (r2 (by omega) (fun q => q (c33 (by omega) (by omega)))) | exact h.now (by decide) (r3 (by omega) c33 (by rw [c42 (by omega) (by omega) (by omega) (by omega)]; decide))
          · refine aw_if_ne (q := 51) (t := 53) F dL_go_48 rfl (by decide) (fun c48 => absurd c48 (by decide)) (fun c48 => ?_)
            refine aw_iconst (q := 52) F dL_go_51 rfl (by decide) ?_
            refine aw_iret F C dL_go_52 rfl (Nat.le_refl _) (Nat.le_refl _) ?_
            first | (exfalso; omega) | exact h.now (by decide) (r1 (by omega)) | exact h.now (by decide) (r2 (by omega) (fun q => q (c33 (by omega) (by omega)))) | exact h.now (by decide) (r3 (by omega) c33 (by rw [c42 (by omega) (by omega) (by omega) (by omega)]; decide))
          · refine aw_if_ne (q := 51) (t := 53) F dL_go_48 rfl (by decide) (fun c48 => absurd c48 (by decide)) (fun c48 => ?_)
            refine aw_iconst (q := 52) F dL_go_51 rfl (by decide) ?_
            refine aw_iret F C dL_go_52 rfl (Nat.le_refl _) (Nat.le_refl _) ?_
            first | (exfalso; omega) | exact h.now (by decide) (r1 (by omega)) | exact h.now (by decide) (r2 (by omega) (fun q => q (c33 (by omega) (by omega)))) | exact h.now (by decide) (r3 (by omega) c33 (by rw [c42 (by omega) (by omega) (by omega) (by omega)]; decide))
        · refine av_callV3 (q := 48) (ci := 7) F hm mL_mayAct_i mL_mayAct_n lL_323 dL_go_45 rfl rfl rfl (by first | exact hW.o | exact hW.ho | exact hW.to | exact hW.a16 | exact hW.a17 | exact hW.h.a1) (by decide) (Nat.le_refl _) (Nat.le_refl _) (Nat.le_of_ble_eq_true rfl) (wL_mayAct hW (fun c45 d45 e45 => ?_) (fun c45 => ?_) (fun c45 d45 => ?_) (fun c45 d45 e45 => ?_))
          · refine aw_if_ne (q := 51) (t := 53) F dL_go_48 rfl (by decide) (fun c48 => ?_) (fun c48 => absurd c48 (by decide))
            first | (exfalso; omega) | exact go (by omega) c33 e42
          · refine aw_if_ne (q := 51) (t := 53) F dL_go_48 rfl (by decide) (fun c48 => absurd c48 (by decide)) (fun c48 => ?_)
            refine aw_iconst (q := 52) F dL_go_51 rfl (by decide) ?_
            refine aw_iret F C dL_go_52 rfl (Nat.le_refl _) (Nat.le_refl _) ?_
            first | (exfalso; omega) | exact h.now (by decide) (r1 (by omega)) | exact h.now (by decide) (r2 (by omega) (fun q => q (c33 (by omega) (by omega)))) | exact h.now (by decide) (r3 (by omega) c33 (by rw [c42 (by omega) (by omega) (by omega) (by omega)]; decide))
          · refine aw_if_ne (q := 51) (t := 53) F dL_go_48 rfl (by decide) (fun c48 => absurd c48 (by decide)) (fun c48 => ?_)
            refine aw_iconst (q := 52) F dL_go_51 rfl (by decide) ?_
            refine aw_iret F C dL_go_52 rfl (Nat.le_refl _) (Nat.le_refl _) ?_
            first | (exfalso; omega) | exact h.now (by decide) (r1 (by omega)) | exact h.now (by decide) (r2 (by omega) (fun q => q (c33 (by omega) (by omega)))) | exact h.now (by decide) (r3 (by omega) c33 (by rw [c42 (by omega) (by omega) (by omega) (by omega)]; decide))
          · refine aw_if_ne (q := 51) (t := 53) F dL_go_48 rfl (by decide) (fun c48 => absurd c48 (by decide)) (fun c48 => ?_)
            refine aw_iconst (q := 52) F dL_go_51 rfl (by decide) ?_
            refine aw_iret F C dL_go_52 rfl (Nat.le_refl _) (Nat.le_refl _) ?_
            first | (exfalso; omega) | exact h.now (by decide) (r1 (by omega)) | exact h.now (by decide) (r2 (by omega) (fun q => q (c33 (by omega) (by omega)))) | exact h.now (by decide) (r3 (by omega) c33 (by rw [c42 (by omega) (by omega) (by omega) (by omega)]; decide))
      · refine aw_aload_0 (q := 37) F dL_go_36 rfl ?_
        refine av_getaE (q := 40) F fL_23 dL_go_37 rfl rfl (by first | exact hW.o | exact hW.ho | exact hW.to | exact hW.a16 | exact hW.a17 | exact hW.h.a1) hW.p6 ?_
        refine aw_iload_1 (q := 41) F dL_go_40 rfl ?_
        refine aw_iload_2 (q := 42) F dL_go_41 rfl ?_
        refine av_callV2 (q := 45) (ci := 2) F hm mH_mayGo_i mH_mayGo_n lL_342 dL_go_42 rfl rfl rfl (by first | exact hW.o | exact hW.ho | exact hW.to | exact hW.a16 | exact hW.a17 | exact hW.h.a1) (by decide) (Nat.le_refl _) (Nat.le_refl _) (Nat.le_of_ble_eq_true rfl) (wH_mayGo hW.h hh2 (fun a42 b42 c42 d42 e42 => ?_) (fun c42 => ?_))
        · refine av_callV3 (q := 48) (ci := 7) F hm mL_mayAct_i mL_mayAct_n lL_323 dL_go_45 rfl rfl rfl (by first | exact hW.o | exact hW.ho | exact hW.to | exact hW.a16 | exact hW.a17 | exact hW.h.a1) (by decide) (Nat.le_refl _) (Nat.le_refl _) (Nat.le_of_ble_eq_true rfl) (wL_mayAct hW (fun c45 d45 e45 => ?_) (fun c45 => ?_) (fun c45 d45 => ?_) (fun c45 d45 e45 => ?_))
          · refine aw_if_ne (q := 51) (t := 53) F dL_go_48 rfl (by decide) (fun c48 => ?_) (fun c48 => absurd c48 (by decide))
            first | (exfalso; omega) | exact go (by omega) c33 e42
          · refine aw_if_ne (q := 51) (t := 53) F dL_go_48 rfl (by decide) (fun c48 => absurd c48 (by decide)) (fun c48 => ?_)
            refine aw_iconst (q := 52) F dL_go_51 rfl (by decide) ?_
            refine aw_iret F C dL_go_52 rfl (Nat.le_refl _) (Nat.le_refl _) ?_
            first | (exfalso; omega) | exact h.now (by decide) (r1 (by omega)) | exact h.now (by decide) (r2 (by omega) (fun q => q (c33 (by omega) (by omega)))) | exact h.now (by decide) (r3 (by omega) c33 (by rw [c42 (by omega) (by omega) (by omega) (by omega)]; decide))
          · refine aw_if_ne (q := 51) (t := 53) F dL_go_48 rfl (by decide) (fun c48 => absurd c48 (by decide)) (fun c48 => ?_)
            refine aw_iconst (q := 52) F dL_go_51 rfl (by decide) ?_
            refine aw_iret F C dL_go_52 rfl (Nat.le_refl _) (Nat.le_refl _) ?_
            first | (exfalso; omega) | exact h.now (by decide) (r1 (by omega)) | exact h.now (by decide) (r2 (by omega) (fun q => q (c33 (by omega) (by omega)))) | exact h.now (by decide) (r3 (by omega) c33 (by rw [c42 (by omega) (by omega) (by omega) (by omega)]; decide))
          · refine aw_if_ne (q := 51) (t := 53) F dL_go_48 rfl (by decide) (fun c48 => absurd c48 (by decide)) (fun c48 => ?_)
            refine aw_iconst (q := 52) F dL_go_51 rfl (by decide) ?_
            refine aw_iret F C dL_go_52 rfl (Nat.le_refl _) (Nat.le_refl _) ?_
            first | (exfalso; omega) | exact h.now (by decide) (r1 (by omega)) | exact h.now (by decide) (r2 (by omega) (fun q => q (c33 (by omega) (by omega)))) | exact h.now (by decide) (r3 (by omega) c33 (by rw [c42 (by omega) (by omega) (by omega) (by omega)]; decide))
        · refine av_callV3 (q := 48) (ci := 7) F hm mL_mayAct_i mL_mayAct_n lL_323 dL_go_45 rfl rfl rfl (by first | exact hW.o | exact hW.ho | exact hW.to | exact hW.a16 | exact hW.a17 | exact hW.h.a1) (by decide) (Nat.le_refl _) (Nat.le_refl _) (Nat.le_of_ble_eq_true rfl) (wL_mayAct hW (fun c45 d45 e45 => ?_) (fun c45 => ?_) (fun c45 d45 => ?_) (fun c45 d45 e45 => ?_))
          · refine aw_if_ne (q := 51) (t := 53) F dL_go_48 rfl (by decide) (fun c48 => ?_) (fun c48 => absurd c48 (by decide))
            first | (exfalso; omega) | exact go (by omega) c33 e42
          · refine aw_if_ne (q := 51) (t := 53) F dL_go_48 rfl (by decide) (fun c48 => absurd c48 (by decide)) (fun c48 => ?_)
            refine aw_iconst (q := 52) F dL_go_51 rfl (by decide) ?_
            refine aw_iret F C dL_go_52 rfl (Nat.le_refl _) (Nat.le_refl _) ?_
            first | (exfalso; omega) | exact h.now (by decide) (r1 (by omega)) | exact h.now (by decide) (r2 (by omega) (fun q => q (c33 (by omega) (by omega)))) | exact h.now (by decide) (r3 (by omega) c33 (by rw [c42 (by omega) (by omega) (by omega) (by omega)]; decide))
          · refine aw_if_ne (q := 51) (t := 53) F dL_go_48 rfl (by decide) (fun c48 => absurd c48 (by decide)) (fun c48 => ?_)
            refine aw_iconst (q := 52) F dL_go_51 rfl (by decide) ?_
            refine aw_iret F C dL_go_52 rfl (Nat.le_refl _) (Nat.le_refl _) ?_
            first | (exfalso; omega) | exact h.now (by decide) (r1 (by omega)) | exact h.now (by decide) (r2 (by omega) (fun q => q (c33 (by omega) (by omega)))) | exact h.now (by decide) (r3 (by omega) c33 (by rw [c42 (by omega) (by omega) (by omega) (by omega)]; decide))
          · refine aw_if_ne (q := 51) (t := 53) F dL_go_48 rfl (by decide) (fun c48 => absurd c48 (by decide)) (fun c48 => ?_)
            refine aw_iconst (q := 52) F dL_go_51 rfl (by decide) ?_
            refine aw_iret F C dL_go_52 rfl (Nat.le_refl _) (Nat.le_refl _) ?_
            first | (exfalso; omega) | exact h.now (by decide) (r1 (by omega)) | exact h.now (by decide) (r2 (by omega) (fun q => q (c33 (by omega) (by omega)))) | exact h.now (by decide) (r3 (by omega) c33 (by rw [c42 (by omega) (by omega) (by omega) (by omega)]; decide))
    · refine aw_if_eq (q := 23) (t := 27) F dL_go_20 rfl (by decide) (fun c20 => ?_) (fun c20 => absurd c20 (by decide))
      refine aw_iconst (q := 28) F dL_go_27 rfl (by decide) ?_
      refine aw_aload_0 (q := 29) F dL_go_28 rfl ?_
      refine av_getaE (q := 32) F fL_23 dL_go_29 rfl rfl (by first | exact hW.o | exact hW.ho | exact hW.to | exact hW.a16 | exact hW.a17 | exact hW.h.a1) hW.p6 ?_
      refine aw_iload_2 (q := 33) F dL_go_32 rfl ?_
      refine av_callV1 (q := 36) (ci := 2) F hm mH_isOpen_i mH_isOpen_n lL_317 dL_go_33 rfl rfl rfl (by first | exact hW.o | exact hW.ho | exact hW.to | exact hW.a16 | exact hW.a17 | exact hW.h.a1) (by decide) (Nat.le_refl _) (Nat.le_refl _) (Nat.le_of_ble_eq_true rfl) (wH_isOpen hW.h hh2 (fun a33 b33 c33 => ?_) (fun c33 => ?_))
      · refine aw_aload_0 (q := 37) F dL_go_36 rfl ?_
        refine av_getaE (q := 40) F fL_23 dL_go_37 rfl rfl (by first | exact hW.o | exact hW.ho | exact hW.to | exact hW.a16 | exact hW.a17 | exact hW.h.a1) hW.p6 ?_
        refine aw_iload_1 (q := 41) F dL_go_40 rfl ?_
        refine aw_iload_2 (q := 42) F dL_go_41 rfl ?_
        refine av_callV2 (q := 45) (ci := 2) F hm mH_mayGo_i mH_mayGo_n lL_342 dL_go_42 rfl rfl rfl (by first | exact hW.o | exact hW.ho | exact hW.to | exact hW.a16 | exact hW.a17 | exact hW.h.a1) (by decide) (Nat.le_refl _) (Nat.le_refl _) (Nat.le_of_ble_eq_true rfl) (wH_mayGo hW.h hh2 (fun a42 b42 c42 d42 e42 => ?_) (fun c42 => ?_))
        · refine av_callV3 (q := 48) (ci := 7) F hm mL_mayAct_i mL_mayAct_n lL_323 dL_go_45 rfl rfl rfl (by first | exact hW.o | exact hW.ho | exact hW.to | exact hW.a16 | exact hW.a17 | exact hW.h.a1) (by decide) (Nat.le_refl _) (Nat.le_refl _) (Nat.le_of_ble_eq_true rfl) (wL_mayAct hW (fun c45 d45 e45 => ?_) (fun c45 => ?_) (fun c45 d45 => ?_) (fun c45 d45 e45 => ?_))
          · refine aw_if_ne (q := 51) (t := 53) F dL_go_48 rfl (by decide) (fun c48 => ?_) (fun c48 => absurd c48 (by decide))
            first | (exfalso; omega) | exact go (by omega) c33 e42
          · refine aw_if_ne (q := 51) (t := 53) F dL_go_48 rfl (by decide) (fun c48 => absurd c48 (by decide)) (fun c48 => ?_)
            refine aw_iconst (q := 52) F dL_go_51 rfl (by decide) ?_
            refine aw_iret F C dL_go_52 rfl (Nat.le_refl _) (Nat.le_refl _) ?_
            first | (exfalso; omega) | exact h.now (by decide) (r1 (by omega)) | exact h.now (by decide) (r2 (by omega) (fun q => q (c33 (by omega) (by omega)))) | exact h.now (by decide) (r3 (by omega) c33 (by rw [c42 (by omega) (by omega) (by omega) (by omega)]; decide))
          · refine aw_if_ne (q := 51) (t := 53) F dL_go_48 rfl (by decide) (fun c48 => absurd c48 (by decide)) (fun c48 => ?_)
            refine aw_iconst (q := 52) F dL_go_51 rfl (by decide) ?_
            refine aw_iret F C dL_go_52 rfl (Nat.le_refl _) (Nat.le_refl _) ?_
            first | (exfalso; omega) | exact h.now (by decide) (r1 (by omega)) | exact h.now (by decide) (r2 (by omega) (fun q => q (c33 (by omega) (by omega)))) | exact h.now (by decide) (r3 (by omega) c33 (by rw [c42 (by omega) (by omega) (by omega) (by omega)]; decide))
          · refine aw_if_ne (q := 51) (t := 53) F dL_go_48 rfl (by decide) (fun c48 => absurd c48 (by decide)) (fun c48 => ?_)
            refine aw_iconst (q := 52) F dL_go_51 rfl (by decide) ?_
            refine aw_iret F C dL_go_52 rfl (Nat.le_refl _) (Nat.le_refl _) ?_
            first | (exfalso; omega) | exact h.now (by decide) (r1 (by omega)) | exact h.now (by decide) (r2 (by omega) (fun q => q (c33 (by omega) (by omega)))) | exact h.now (by decide) (r3 (by omega) c33 (by rw [c42 (by omega) (by omega) (by omega) (by omega)]; decide))
        · refine av_callV3 (q := 48) (ci := 7) F hm mL_mayAct_i mL_mayAct_n lL_323 dL_go_45 rfl rfl rfl (by first | exact hW.o | exact hW.ho | exact hW.to | exact hW.a16 | exact hW.a17 | exact hW.h.a1) (by decide) (Nat.le_refl _) (Nat.le_refl _) (Nat.le_of_ble_eq_true rfl) (wL_mayAct hW (fun c45 d45 e45 => ?_) (fun c45 => ?_) (fun c45 d45 => ?_) (fun c45 d45 e45 => ?_))
          · refine aw_if_ne (q := 51) (t := 53) F dL_go_48 rfl (by decide) (fun c48 => ?_) (fun c48 => absurd c48 (by decide))
            first | (exfalso; omega) | exact go (by omega) c33 e42
          · refine aw_if_ne (q := 51) (t := 53) F dL_go_48 rfl (by decide) (fun c48 => absurd c48 (by decide)) (fun c48 => ?_)
            refine aw_iconst (q := 52) F dL_go_51 rfl (by decide) ?_
            refine aw_iret F C dL_go_52 rfl (Nat.le_refl _) (Nat.le_refl _) ?_
            first | (exfalso; omega) | exact h.now (by decide) (r1 (by omega)) | exact h.now (by decide) (r2 (by omega) (fun q => q (c33 (by omega) (by omega)))) | exact h.now (by decide) (r3 (by omega) c33 (by rw [c42 (by omega) (by omega) (by omega) (by omega)]; decide))
          · refine aw_if_ne (q := 51) (t := 53) F dL_go_48 rfl (by decide) (fun c48 => absurd c48 (by decide)) (fun c48 => ?_)
            refine aw_iconst (q := 52) F dL_go_51 rfl (by decide) ?_
            refine aw_iret F C dL_go_52 rfl (Nat.le_refl _) (Nat.le_refl _) ?_
            first | (exfalso; omega) | exact h.now (by decide) (r1 (by omega)) | exact h.now (by decide) (r2 (by omega) (fun q => q (c33 (by omega) (by omega)))) | exact h.now (by decide) (r3 (by omega) c33 (by rw [c42 (by omega) (by omega) (by omega) (by omega)]; decide))
          · refine aw_if_ne (q := 51) (t := 53) F dL_go_48 rfl (by decide) (fun c48 => absurd c48 (by decide)) (fun c48 => ?_)
            refine aw_iconst (q := 52) F dL_go_51 rfl (by decide) ?_
            refine aw_iret F C dL_go_52 rfl (Nat.le_refl _) (Nat.le_refl _) ?_
            first | (exfalso; omega) | exact h.now (by decide) (r1 (by omega)) | exact h.now (by decide) (r2 (by omega) (fun q => q (c33 (by omega) (by omega)))) | exact h.now (by decide) (r3 (by omega) c33 (by rw [c42 (by omega) (by omega) (by omega) (by omega)]; decide))
      · refine aw_aload_0 (q := 37) F dL_go_36 rfl ?_
        refine av_getaE (q := 40) F fL_23 dL_go_37 rfl rfl (by first | exact hW.o | exact hW.ho | exact hW.to | exact hW.a16 | exact hW.a17 | exact hW.h.a1) hW.p6 ?_
        refine aw_iload_1 (q := 41) F dL_go_40 rfl ?_
        refine aw_iload_2 (q := 42) F dL_go_41 rfl ?_
        refine av_callV2 (q := 45) (ci := 2) F hm mH_mayGo_i mH_mayGo_n lL_342 dL_go_42 rfl rfl rfl (by first | exact hW.o | exact hW.ho | exact hW.to | exact hW.a16 | exact hW.a17 | exact hW.h.a1) (by decide) (Nat.le_refl _) (Nat.le_refl _) (Nat.le_of_ble_eq_true rfl) (wH_mayGo hW.h hh2 (fun a42 b42 c42 d42 e42 => ?_) (fun c42 => ?_))
        · refine av_callV3 (q := 48) (ci := 7) F hm mL_mayAct_i mL_mayAct_n lL_323 dL_go_45 rfl rfl rfl (by first | exact hW.o | exact hW.ho | exact hW.to | exact hW.a16 | exact hW.a17 | exact hW.h.a1) (by decide) (Nat.le_refl _) (Nat.le_refl _) (Nat.le_of_ble_eq_true rfl) (wL_mayAct hW (fun c45 d45 e45 => ?_) (fun c45 => ?_) (fun c45 d45 => ?_) (fun c45 d45 e45 => ?_))
          · refine aw_if_ne (q := 51) (t := 53) F dL_go_48 rfl (by decide) (fun c48 => ?_) (fun c48 => absurd c48 (by decide))
            first | (exfalso; omega) | exact go (by omega) c33 e42
          · refine aw_if_ne (q := 51) (t := 53) F dL_go_48 rfl (by decide) (fun c48 => absurd c48 (by decide)) (fun c48 => ?_)
            refine aw_iconst (q := 52) F dL_go_51 rfl (by decide) ?_
            refine aw_iret F C dL_go_52 rfl (Nat.le_refl _) (Nat.le_refl _) ?_
            first | (exfalso; omega) | exact h.now (by decide) (r1 (by omega)) | exact h.now (by decide) (r2 (by omega) (fun q => q (c33 (by omega) (by omega)))) | exact h.now (by decide) (r3 (by omega) c33 (by rw [c42 (by omega) (by omega) (by omega) (by omega)]; decide))
          · refine aw_if_ne (q := 51) (t := 53) F dL_go_48 rfl (by decide) (fun c48 => absurd c48 (by decide)) (fun c48 => ?_)
            refine aw_iconst (q := 52) F dL_go_51 rfl (by decide) ?_
            refine aw_iret F C dL_go_52 rfl (Nat.le_refl _) (Nat.le_refl _) ?_
            first | (exfalso; omega) | exact h.now (by decide) (r1 (by omega)) | exact h.now (by decide) (r2 (by omega) (fun q => q (c33 (by omega) (by omega)))) | exact h.now (by decide) (r3 (by omega) c33 (by rw [c42 (by omega) (by omega) (by omega) (by omega)]; decide))
          · refine aw_if_ne (q := 51) (t := 53) F dL_go_48 rfl (by decide) (fun c48 => absurd c48 (by decide)) (fun c48 => ?_)
            refine aw_iconst (q := 52) F dL_go_51 rfl (by decide) ?_
            refine aw_iret F C dL_go_52 rfl (Nat.le_refl _) (Nat.le_refl _) ?_
            first | (exfalso; omega) | exact h.now (by decide) (r1 (by omega)) | exact h.now (by decide) (r2 (by omega) (fun q => q (c33 (by omega) (by omega)))) | exact h.now (by decide) (r3 (by omega) c33 (by rw [c42 (by omega) (by omega) (by omega) (by omega)]; decide))
        · refine av_callV3 (q := 48) (ci := 7) F hm mL_mayAct_i mL_mayAct_n lL_323 dL_go_45 rfl rfl rfl (by first | exact hW.o | exact hW.ho | exact hW.to | exact hW.a16 | exact hW.a17 | exact hW.h.a1) (by decide) (Nat.le_refl _) (Nat.le_refl _) (Nat.le_of_ble_eq_true rfl) (wL_mayAct hW (fun c45 d45 e45 => ?_) (fun c45 => ?_) (fun c45 d45 => ?_) (fun c45 d45 e45 => ?_))
          · refine aw_if_ne (q := 51) (t := 53) F dL_go_48 rfl (by decide) (fun c48 => ?_) (fun c48 => absurd c48 (by decide))
            first | (exfalso; omega) | exact go (by omega) c33 e42
          · refine aw_if_ne (q := 51) (t := 53) F dL_go_48 rfl (by decide) (fun c48 => absurd c48 (by decide)) (fun c48 => ?_)
            refine aw_iconst (q := 52) F dL_go_51 rfl (by decide) ?_
            refine aw_iret F C dL_go_52 rfl (Nat.le_refl _) (Nat.le_refl _) ?_
            first | (exfalso; omega) | exact h.now (by decide) (r1 (by omega)) | exact h.now (by decide) (r2 (by omega) (fun q => q (c33 (by omega) (by omega)))) | exact h.now (by decide) (r3 (by omega) c33 (by rw [c42 (by omega) (by omega) (by omega) (by omega)]; decide))
          · refine aw_if_ne (q := 51) (t := 53) F dL_go_48 rfl (by decide) (fun c48 => absurd c48 (by decide)) (fun c48 => ?_)
            refine aw_iconst (q := 52) F dL_go_51 rfl (by decide) ?_
            refine aw_iret F C dL_go_52 rfl (Nat.le_refl _) (Nat.le_refl _) ?_
            first | (exfalso; omega) | exact h.now (by decide) (r1 (by omega)) | exact h.now (by decide) (r2 (by omega) (fun q => q (c33 (by omega) (by omega)))) | exact h.now (by decide) (r3 (by omega) c33 (by rw [c42 (by omega) (by omega) (by omega) (by omega)]; decide))
          · refine aw_if_ne (q := 51) (t := 53) F dL_go_48 rfl (by decide) (fun c48 => absurd c48 (by decide)) (fun c48 => ?_)
            refine aw_iconst (q := 52) F dL_go_51 rfl (by decide) ?_
            refine aw_iret F C dL_go_52 rfl (Nat.le_refl _) (Nat.le_refl _) ?_
            first | (exfalso; omega) | exact h.now (by decide) (r1 (by omega)) | exact h.now (by decide) (r2 (by omega) (fun q => q (c33 (by omega) (by omega)))) | exact h.now (by decide) (r3 (by omega) c33 (by rw [c42 (by omega) (by omega) (by omega) (by omega)]; decide))
  · refine aw_if_eq (q := 12) (t := 27) F dL_go_9 rfl (by decide) (fun c9 => ?_) (fun c9 => absurd c9 (by decide))
    refine aw_iconst (q := 28) F dL_go_27 rfl (by decide) ?_
    refine aw_aload_0 (q := 29) F dL_go_28 rfl ?_
    refine av_getaE (q := 32) F fL_23 dL_go_29 rfl rfl (by first | exact hW.o | exact hW.ho | exact hW.to | exact hW.a16 | exact hW.a17 | exact hW.h.a1) hW.p6 ?_
    refine aw_iload_2 (q := 33) F dL_go_32 rfl ?_
    refine av_callV1 (q := 36) (ci := 2) F hm mH_isOpen_i mH_isOpen_n lL_317 dL_go_33 rfl rfl rfl (by first | exact hW.o | exact hW.ho | exact hW.to | exact hW.a16 | exact hW.a17 | exact hW.h.a1) (by decide) (Nat.le_refl _) (Nat.le_refl _) (Nat.le_of_ble_eq_true rfl) (wH_isOpen hW.h hh2 (fun a33 b33 c33 => ?_) (fun c33 => ?_))
    · refine aw_aload_0 (q := 37) F dL_go_36 rfl ?_
      refine av_getaE (q := 40) F fL_23 dL_go_37 rfl rfl (by first | exact hW.o | exact hW.ho | exact hW.to | exact hW.a16 | exact hW.a17 | exact hW.h.a1) hW.p6 ?_
      refine aw_iload_1 (q := 41) F dL_go_40 rfl ?_
      refine aw_iload_2 (q := 42) F dL_go_41 rfl ?_
      refine av_callV2 (q := 45) (ci := 2) F hm mH_mayGo_i mH_mayGo_n lL_342 dL_go_42 rfl rfl rfl (by first | exact hW.o | exact hW.ho | exact hW.to | exact hW.a16 | exact hW.a17 | exact hW.h.a1) (by decide) (Nat.le_refl _) (Nat.le_refl _) (Nat.le_of_ble_eq_true rfl) (wH_mayGo hW.h hh2 (fun a42 b42 c42 d42 e42 => ?_) (fun c42 => ?_))
      · refine av_callV3 (q := 48) (ci := 7) F hm mL_mayAct_i mL_mayAct_n lL_323 dL_go_45 rfl rfl rfl (by first | exact hW.o | exact hW.ho | exact hW.to | exact hW.a16 | exact hW.a17 | exact hW.h.a1) (by decide) (Nat.le_refl _) (Nat.le_refl _) (Nat.le_of_ble_eq_true rfl) (wL_mayAct hW (fun c45 d45 e45 => ?_) (fun c45 => ?_) (fun c45 d45 => ?_) (fun c45 d45 e45 => ?_))
        · refine aw_if_ne (q := 51) (t := 53) F dL_go_48 rfl (by decide) (fun c48 => ?_) (fun c48 => absurd c48 (by decide))
          first | (exfalso; omega) | exact go (by omega) c33 e42
        · refine aw_if_ne (q := 51) (t := 53) F dL_go_48 rfl (by decide) (fun c48 => absurd c48 (by decide)) (fun c48 => ?_)
          refine aw_iconst (q := 52) F dL_go_51 rfl (by decide) ?_
          refine aw_iret F C dL_go_52 rfl (Nat.le_refl _) (Nat.le_refl _) ?_
          first | (exfalso; omega) | exact h.now (by decide) (r1 (by omega)) | exact h.now (by decide) (r2 (by omega) (fun q => q (c33 (by omega) (by omega)))) | exact h.now (by decide) (r3 (by omega) c33 (by rw [c42 (by omega) (by omega) (by omega) (by omega)]; decide))
        · refine aw_if_ne (q := 51) (t := 53) F dL_go_48 rfl (by decide) (fun c48 => absurd c48 (by decide)) (fun c48 => ?_)
          refine aw_iconst (q := 52) F dL_go_51 rfl (by decide) ?_
          refine aw_iret F C dL_go_52 rfl (Nat.le_refl _) (Nat.le_refl _) ?_
          first | (exfalso; omega) | exact h.now (by decide) (r1 (by omega)) | exact h.now (by decide) (r2 (by omega) (fun q => q (c33 (by omega) (by omega)))) | exact h.now (by decide) (r3 (by omega) c33 (by rw [c42 (by omega) (by omega) (by omega) (by omega)]; decide))
        · refine aw_if_ne (q := 51) (t := 53) F dL_go_48 rfl (by decide) (fun c48 => absurd c48 (by decide)) (fun c48 => ?_)
          refine aw_iconst (q := 52) F dL_go_51 rfl (by decide) ?_
          refine aw_iret F C dL_go_52 rfl (Nat.le_refl _) (Nat.le_refl _) ?_
          first | (exfalso; omega) | exact h.now (by decide) (r1 (by omega)) | exact h.now (by decide) (r2 (by omega) (fun q => q (c33 (by omega) (by omega)))) | exact h.now (by decide) (r3 (by omega) c33 (by rw [c42 (by omega) (by omega) (by omega) (by omega)]; decide))
      · refine av_callV3 (q := 48) (ci := 7) F hm mL_mayAct_i mL_mayAct_n lL_323 dL_go_45 rfl rfl rfl (by first | exact hW.o | exact hW.ho | exact hW.to | exact hW.a16 | exact hW.a17 | exact hW.h.a1) (by decide) (Nat.le_refl _) (Nat.le_refl _) (Nat.le_of_ble_eq_true rfl) (wL_mayAct hW (fun c45 d45 e45 => ?_) (fun c45 => ?_) (fun c45 d45 => ?_) (fun c45 d45 e45 => ?_))
        · refine aw_if_ne (q := 51) (t := 53) F dL_go_48 rfl (by decide) (fun c48 => ?_) (fun c48 => absurd c48 (by decide))
          first | (exfalso; omega) | exact go (by omega) c33 e42
        · refine aw_if_ne (q := 51) (t := 53) F dL_go_48 rfl (by decide) (fun c48 => absurd c48 (by decide)) (fun c48 => ?_)
          refine aw_iconst (q := 52) F dL_go_51 rfl (by decide) ?_
          refine aw_iret F C dL_go_52 rfl (Nat.le_refl _) (Nat.le_refl _) ?_
          first | (exfalso; omega) | exact h.now (by decide) (r1 (by omega)) | exact h.now (by decide) (r2 (by omega) (fun q => q (c33 (by omega) (by omega)))) | exact h.now (by decide) (r3 (by omega) c33 (by rw [c42 (by omega) (by omega) (by omega) (by omega)]; decide))
        · refine aw_if_ne (q := 51) (t := 53) F dL_go_48 rfl (by decide) (fun c48 => absurd c48 (by decide)) (fun c48 => ?_)
          refine aw_iconst (q := 52) F dL_go_51 rfl (by decide) ?_
          refine aw_iret F C dL_go_52 rfl (Nat.le_refl _) (Nat.le_refl _) ?_
          first | (exfalso; omega) | exact h.now (by decide) (r1 (by omega)) | exact h.now (by decide) (r2 (by omega) (fun q => q (c33 (by omega) (by omega)))) | exact h.now (by decide) (r3 (by omega) c33 (by rw [c42 (by omega) (by omega) (by omega) (by omega)]; decide))
        · refine aw_if_ne (q := 51) (t := 53) F dL_go_48 rfl (by decide) (fun c48 => absurd c48 (by decide)) (fun c48 => ?_)
          refine aw_iconst (q := 52) F dL_go_51 rfl (by decide) ?_
          refine aw_iret F C dL_go_52 rfl (Nat.le_refl _) (Nat.le_refl _) ?_
          first | (exfalso; omega) | exact h.now (by decide) (r1 (by omega)) | exact h.now (by decide) (r2 (by omega) (fun q => q (c33 (by omega) (by omega)))) | exact h.now (by decide) (r3 (by omega) c33 (by rw [c42 (by omega) (by omega) (by omega) (by omega)]; decide))
    · refine aw_aload_0 (q := 37) F dL_go_36 rfl ?_
      refine av_getaE (q := 40) F fL_23 dL_go_37 rfl rfl (by first | exact hW.o | exact hW.ho | exact hW.to | exact hW.a16 | exact hW.a17 | exact hW.h.a1) hW.p6 ?_
      refine aw_iload_1 (q := 41) F dL_go_40 rfl ?_
      refine aw_iload_2 (q := 42) F dL_go_41 rfl ?_
      refine av_callV2 (q := 45) (ci := 2) F hm mH_mayGo_i mH_mayGo_n lL_342 dL_go_42 rfl rfl rfl (by first | exact hW.o | exact hW.ho | exact hW.to | exact hW.a16 | exact hW.a17 | exact hW.h.a1) (by decide) (Nat.le_refl _) (Nat.le_refl _) (Nat.le_of_ble_eq_true rfl) (wH_mayGo hW.h hh2 (fun a42 b42 c42 d42 e42 => ?_) (fun c42 => ?_))
      · refine av_callV3 (q := 48) (ci := 7) F hm mL_mayAct_i mL_mayAct_n lL_323 dL_go_45 rfl rfl rfl (by first | exact hW.o | exact hW.ho | exact hW.to | exact hW.a16 | exact hW.a17 | exact hW.h.a1) (by decide) (Nat.le_refl _) (Nat.le_refl _) (Nat.le_of_ble_eq_true rfl) (wL_mayAct hW (fun c45 d45 e45 => ?_) (fun c45 => ?_) (fun c45 d45 => ?_) (fun c45 d45 e45 => ?_))
        · refine aw_if_ne (q := 51) (t := 53) F dL_go_48 rfl (by decide) (fun c48 => ?_) (fun c48 => absurd c48 (by decide))
          first | (exfalso; omega) | exact go (by omega) c33 e42
        · refine aw_if_ne (q := 51) (t := 53) F dL_go_48 rfl (by decide) (fun c48 => absurd c48 (by decide)) (fun c48 => ?_)
          refine aw_iconst (q := 52) F dL_go_51 rfl (by decide) ?_
          refine aw_iret F C dL_go_52 rfl (Nat.le_refl _) (Nat.le_refl _) ?_
          first | (exfalso; omega) | exact h.now (by decide) (r1 (by omega)) | exact h.now (by decide) (r2 (by omega) (fun q => q (c33 (by omega) (by omega)))) | exact h.now (by decide) (r3 (by omega) c33 (by rw [c42 (by omega) (by omega) (by omega) (by omega)]; decide))
        · refine aw_if_ne (q := 51) (t := 53) F dL_go_48 rfl (by decide) (fun c48 => absurd c48 (by decide)) (fun c48 => ?_)
          refine aw_iconst (q := 52) F dL_go_51 rfl (by decide) ?_
          refine aw_iret F C dL_go_52 rfl (Nat.le_refl _) (Nat.le_refl _) ?_
          first | (exfalso; omega) | exact h.now (by decide) (r1 (by omega)) | exact h.now (by decide) (r2 (by omega) (fun q => q (c33 (by omega) (by omega)))) | exact h.now (by decide) (r3 (by omega) c33 (by rw [c42 (by omega) (by omega) (by omega) (by omega)]; decide))
        · refine aw_if_ne (q := 51) (t := 53) F dL_go_48 rfl (by decide) (fun c48 => absurd c48 (by decide)) (fun c48 => ?_)
          refine aw_iconst (q := 52) F dL_go_51 rfl (by decide) ?_
          refine aw_iret F C dL_go_52 rfl (Nat.le_refl _) (Nat.le_refl _) ?_
          first | (exfalso; omega) | exact h.now (by decide) (r1 (by omega)) | exact h.now (by decide) (r2 (by omega) (fun q => q (c33 (by omega) (by omega)))) | exact h.now (by decide) (r3 (by omega) c33 (by rw [c42 (by omega) (by omega) (by omega) (by omega)]; decide))
      · refine av_callV3 (q := 48) (ci := 7) F hm mL_mayAct_i mL_mayAct_n lL_323 dL_go_45 rfl rfl rfl (by first | exact hW.o | exact hW.ho | exact hW.to | exact hW.a16 | exact hW.a17 | exact hW.h.a1) (by decide) (Nat.le_refl _) (Nat.le_refl _) (Nat.le_of_ble_eq_true rfl) (wL_mayAct hW (fun c45 d45 e45 => ?_) (fun c45 => ?_) (fun c45 d45 => ?_) (fun c45 d45 e45 => ?_))
        · refine aw_if_ne (q := 51) (t := 53) F dL_go_48 rfl (by decide) (fun c48 => ?_) (fun c48 => absurd c48 (by decide))
          first | (exfalso; omega) | exact go (by omega) c33 e42
        · refine aw_if_ne (q := 51) (t := 53) F dL_go_48 rfl (by decide) (fun c48 => absurd c48 (by decide)) (fun c48 => ?_)
          refine aw_iconst (q := 52) F dL_go_51 rfl (by decide) ?_
          refine aw_iret F C dL_go_52 rfl (Nat.le_refl _) (Nat.le_refl _) ?_
          first | (exfalso; omega) | exact h.now (by decide) (r1 (by omega)) | exact h.now (by decide) (r2 (by omega) (fun q => q (c33 (by omega) (by omega)))) | exact h.now (by decide) (r3 (by omega) c33 (by rw [c42 (by omega) (by omega) (by omega) (by omega)]; decide))
        · refine aw_if_ne (q := 51) (t := 53) F dL_go_48 rfl (by decide) (fun c48 => absurd c48 (by decide)) (fun c48 => ?_)
          refine aw_iconst (q := 52) F dL_go_51 rfl (by decide) ?_
          refine aw_iret F C dL_go_52 rfl (Nat.le_refl _) (Nat.le_refl _) ?_
          first | (exfalso; omega) | exact h.now (by decide) (r1 (by omega)) | exact h.now (by decide) (r2 (by omega) (fun q => q (c33 (by omega) (by omega)))) | exact h.now (by decide) (r3 (by omega) c33 (by rw [c42 (by omega) (by omega) (by omega) (by omega)]; decide))
        · refine aw_if_ne (q := 51) (t := 53) F dL_go_48 rfl (by decide) (fun c48 => absurd c48 (by decide)) (fun c48 => ?_)
          refine aw_iconst (q := 52) F dL_go_51 rfl (by decide) ?_
          refine aw_iret F C dL_go_52 rfl (Nat.le_refl _) (Nat.le_refl _) ?_
          first | (exfalso; omega) | exact h.now (by decide) (r1 (by omega)) | exact h.now (by decide) (r2 (by omega) (fun q => q (c33 (by omega) (by omega)))) | exact h.now (by decide) (r3 (by omega) c33 (by rw [c42 (by omega) (by omega) (by omega) (by omega)]; decide))
theorem wL_nail {x : Int} (h : CW V σ ow y S kn) (hK : CK K V σ ow (ifS (wya (0 ≤ x ∧ x < tDn (psT S)) ((psS S).2.1.testBit x.toNat = false) (ld (psC S) (psA S) x.toNat = 0)) (nNail S x.toNat) S) kn (some (vI (rfD (wya (0 ≤ x ∧ x < tDn (psT S)) ((psS S).2.1.testBit x.toNat = false) (ld (psC S) (psA S) x.toNat = 0)) 1 0)))) : Wp G 2 mL_nail [vR 1, vI x] (V, σ) 0 0 K := by
  have hW := h.cs
  have hT := h.oT
  have hd4 : tDn (psT S) ≤ 4 := h.oT.2.1
  have hp2 : tPn (psT S) ≤ 2 := h.oT.2.2.1
  have h2 := h.tr (z := 0) (by decide)
  have hh2 := h.hh
  have hv := h.v0
  have hv1 := h.v1
  have ed : dN (psC S) = tDn (psT S) := rfl
  have ep : pN (psC S) = tPn (psT S) := rfl
  have hc := h.oT.okC h.oS
  have hsl : spc (psC S) ≤ 62500 := spc_le hc
  have hal := allP_lt hc
  obtain ⟨g, r1, r2, r3⟩ := g4 hK
  have enl : nlC (psC S) = (psS S).2.1 := rfl
  refine wp_intro mL_nail_i.1 [some (vR 1), some (vI x)] rfl rfl (Nat.le_of_ble_eq_true rfl) ?_
  intro X hG F C
  have hm := C.rm
  have go : 0 ≤ x ∧ x < tDn (psT S) → (psS S).2.1.testBit x.toNat = false → ld (psC S) (psA S) x.toNat = 0 → AW X 49 [some (vR 1), some (vI x)] [] (up2 V 1 2 0, σ) 0 0 := by
    intro hx hl hmo
    have hsp : psA S < spc (psC S) := h.oS.2.2.2.1 (by omega)
    have hor : (psS S).2.1 ||| 2 ^ x.toNat < 2 ^ tDn (psT S) := Nat.or_lt_two_pow h.oS.2.2.1 (Nat.pow_lt_pow_right (by decide) (by omega))
    have ho16 : (psS S).2.1 ||| 2 ^ x.toNat < 2147483648 := Nat.lt_of_lt_of_le hor (Nat.le_trans (two_le hd4) (by decide))
    refine aw_aload_0 (q := 50) F dL_nail_49 rfl ?_
    refine av_callV0 (q := 53) (ci := 7) F hm mL_keepNow_i mL_keepNow_n lL_327 dL_nail_50 rfl rfl rfl (by first | exact hW.o | exact hW.ho | exact hW.to | exact hW.a16 | exact hW.a17 | exact hW.h.a1) (by decide) (Nat.le_refl _) (Nat.le_refl _) (Nat.le_of_ble_eq_true rfl) (wL_keepNow h2 (show 0 < tDn (psT S) by omega) (fun v50 c50 f50 => ?_))
    have hh3 : HH v50 10 (psC S) (psA S) := c50.hh
    have e6 : v50 10 6 = (psS S).2.1 := hh3.2.1.2.2.2.2.2.2.1
    refine aw_aload_0 (q := 54) F dL_nail_53 rfl ?_
    refine av_getaE (q := 57) F fL_23 dL_nail_54 rfl rfl (by first | exact hW.o | exact hW.ho | exact hW.to | exact hW.a16 | exact hW.a17 | exact hW.h.a1) hW.p6 ?_
    refine aw_dup (q := 58) F dL_nail_57 rfl trivial ?_
    refine av_geti (q := 61) F fL_127 dL_nail_58 rfl rfl (by first | exact hW.o | exact hW.ho | exact hW.to | exact hW.a16 | exact hW.a17 | exact hW.h.a1) ?_
    refine aw_iconst (q := 62) F dL_nail_61 rfl (by decide) ?_
    refine aw_iload_1 (q := 63) F dL_nail_62 rfl ?_
    refine aw_ishl (q := 64) F dL_nail_63 rfl ?_
    refine aw_ior (q := 65) F dL_nail_64 rfl ?_
    rw [e6, shl1 (by omega) (by omega), zor_n ho16]
    refine av_puti (q := 68) F fL_127 dL_nail_65 rfl rfl (wr_2_6 _) (by first | exact hW.o | exact hW.ho | exact hW.to | exact hW.a16 | exact hW.a17 | exact hW.h.a1) ?_
    refine aw_iconst (q := 69) F dL_nail_68 rfl (by decide) ?_
    refine aw_zret F C dL_nail_69 rfl (by decide) (Nat.le_refl _) (Nat.le_refl _) ?_
    obtain ⟨hc3, hw3, ha3⟩ := hh3
    have hH4 : HH (up2 v50 10 6 (((psS S).2.1 ||| 2 ^ x.toNat : Nat) : Int)) 10 (cfS (psT S) ((psS S).1, (psS S).2.1 ||| 2 ^ x.toNat, psA S)) (psA S) := by
      obtain ⟨w0, w1, w2, w3, w4, w5, w6, w9, w10, w11, w12, w13⟩ := hw3
      obtain ⟨a1, a2, a3, a4, a5⟩ := ha3
      have ek : ∀ j, j ≠ 6 → up2 v50 10 6 (((psS S).2.1 ||| 2 ^ x.toNat : Nat) : Int) 10 j = v50 10 j := fun j hj => up2_nek _ _ hj
      have eb : ∀ b, b ≠ 10 → up2 v50 10 6 (((psS S).2.1 ||| 2 ^ x.toNat : Nat) : Int) b = v50 b := fun b hb => up2_nea _ _ hb
      refine ⟨⟨hc3.1, hc3.2.1, hc3.2.2.1, hc3.2.2.2.1, hc3.2.2.2.2.1, Nat.lt_of_lt_of_le hor (two_le hd4)⟩, ⟨(ek 0 (by decide)).trans w0, (ek 1 (by decide)).trans w1, (ek 2 (by decide)).trans w2, (ek 3 (by decide)).trans w3, (ek 4 (by decide)).trans w4, (ek 5 (by decide)).trans w5, up2_same _ _ _ _, (ek 9 (by decide)).trans w9, (ek 10 (by decide)).trans w10, fun q => (ek 11 (by decide)).trans (w11 q), ?_, ?_⟩, (ek 13 (by decide)).trans a1, (ek 12 (by decide)).trans a2, (ek 7 (by decide)).trans a3, ?_, ?_⟩
      · rw [eb 11 (by decide), eb 14 (by decide)]; exact w12
      · rw [eb 15 (by decide)]; exact w13
      · rw [eb 12 (by decide)]; exact a4
      · rw [eb 13 (by decide)]; exact a5
    obtain ⟨q1, q2⟩ := c50.hl (V' := up2 v50 10 6 (((psS S).2.1 ||| 2 ^ x.toNat : Nat) : Int)) (s := ((psS S).1, (psS S).2.1 ||| 2 ^ x.toNat, psA S)) (fun b hb => up2_nea _ _ (by omega)) hH4 ⟨h.oS.1, h.oS.2.1, hor, fun _ => hsp, fun q => absurd (show tDn (psT S) = 0 from q) (by omega)⟩
    exact g hx hl hmo _ _ _ _ q1 ((h.fr.tr f50).tr q2)
  refine aw_aload_0 (q := 1) F dL_nail_0 rfl ?_
  refine aw_aload_0 (q := 2) F dL_nail_1 rfl ?_
  refine av_getaE (q := 5) F fL_23 dL_nail_2 rfl rfl (by first | exact hW.o | exact hW.ho | exact hW.to | exact hW.a16 | exact hW.a17 | exact hW.h.a1) hW.p6 ?_
  refine aw_iload_1 (q := 6) F dL_nail_5 rfl ?_
  refine av_callV1 (q := 9) (ci := 2) F hm mH_isDoor_i mH_isDoor_n lL_110 dL_nail_6 rfl rfl rfl (by first | exact hW.o | exact hW.ho | exact hW.to | exact hW.a16 | exact hW.a17 | exact hW.h.a1) (by decide) (Nat.le_refl _) (Nat.le_refl _) (Nat.le_of_ble_eq_true rfl) (wH_isDoor hW.h (fun c6 => ?_) (fun c6 => ?_))
  · refine aw_aload_0 (q := 10) F dL_nail_9 rfl ?_
    refine av_getaE (q := 13) F fL_23 dL_nail_10 rfl rfl (by first | exact hW.o | exact hW.ho | exact hW.to | exact hW.a16 | exact hW.a17 | exact hW.h.a1) hW.p6 ?_
    refine aw_iload_1 (q := 14) F dL_nail_13 rfl ?_
    refine av_callV1 (q := 17) (ci := 2) F hm mH_isNailed_i mH_isNailed_n lL_348 dL_nail_14 rfl rfl rfl (by first | exact hW.o | exact hW.ho | exact hW.to | exact hW.a16 | exact hW.a17 | exact hW.h.a1) (by decide) (Nat.le_refl _) (Nat.le_refl _) (Nat.le_of_ble_eq_true rfl) (wH_isNailed hW.h hh2 (fun a14 b14 c14 => ?_) (fun c14 => ?_))
    · refine aw_if_ne (q := 20) (t := 24) F dL_nail_17 rfl (by decide) (fun c17 => ?_) (fun c17 => absurd c17 (by decide))
      refine aw_iconst (q := 25) F dL_nail_24 rfl (by decide) ?_
      refine aw_aload_0 (q := 26) F dL_nail_25 rfl ?_
      refine av_getaE (q := 29) F fL_23 dL_nail_26 rfl rfl (by first | exact hW.o | exact hW.ho | exact hW.to | exact hW.a16 | exact hW.a17 | exact hW.h.a1) hW.p6 ?_
      refine aw_iload_1 (q := 30) F dL_nail_29 rfl ?_
      refine av_callV1 (q := 33) (ci := 2) F hm mH_isOpen_i mH_isOpen_n lL_317 dL_nail_30 rfl rfl rfl (by first | exact hW.o | exact hW.ho | exact hW.to | exact hW.a16 | exact hW.a17 | exact hW.h.a1) (by decide) (Nat.le_refl _) (Nat.le_refl _) (Nat.le_of_ble_eq_true rfl) (wH_isOpen hW.h hh2 (fun a30 b30 c30 => ?_) (fun c30 => ?_))
      · refine aw_if_ne (q := 36) (t := 40) F dL_nail_33 rfl (by decide) (fun c33 => ?_) (fun c33 => absurd c33 (by decide))
        refine aw_iconst (q := 41) F dL_nail_40 rfl (by decide) ?_
        refine av_callV3 (q := 44) (ci := 7) F hm mL_mayAct_i mL_mayAct_n lL_323 dL_nail_41 rfl rfl rfl (by first | exact hW.o | exact hW.ho | exact hW.to | exact hW.a16 | exact hW.a17 | exact hW.h.a1) (by decide) (Nat.le_refl _) (Nat.le_refl _) (Nat.le_of_ble_eq_true rfl) (wL_mayAct hW (fun c41 d41 e41 => ?_) (fun c41 => ?_) (fun c41 d41 => ?_) (fun c41 d41 e41 => ?_))
        · refine aw_if_ne (q := 47) (t := 49) F dL_nail_44 rfl (by decide) (fun c44 => ?_) (fun c44 => absurd c44 (by decide))
          first | (exfalso; omega) | exact go (by omega) (c14 (by omega) (by omega)) (c30 (by omega) (by omega))
        · refine aw_if_ne (q := 47) (t := 49) F dL_nail_44 rfl (by decide) (fun c44 => absurd c44 (by decide)) (fun c44 => ?_)
          refine aw_iconst (q := 48) F dL_nail_47 rfl (by decide) ?_
          refine aw_zret F C dL_nail_48 rfl (by decide) (Nat.le_refl _) (Nat.le_refl _) ?_
          first | (exfalso; omega) | exact h.now (by decide) (r1 (by omega)) | exact h.now (by decide) (r2 (by omega) (fun q => by rw [enl] at c14; rw [q] at c14; cases c14)) | exact h.now (by decide) (r3 (by omega) (c14 (by omega) (by omega)) c30)
        · refine aw_if_ne (q := 47) (t := 49) F dL_nail_44 rfl (by decide) (fun c44 => absurd c44 (by decide)) (fun c44 => ?_)
          refine aw_iconst (q := 48) F dL_nail_47 rfl (by decide) ?_
          refine aw_zret F C dL_nail_48 rfl (by decide) (Nat.le_refl _) (Nat.le_refl _) ?_
          first | (exfalso; omega) | exact h.now (by decide) (r1 (by omega)) | exact h.now (by decide) (r2 (by omega) (fun q => by rw [enl] at c14; rw [q] at c14; cases c14)) | exact h.now (by decide) (r3 (by omega) (c14 (by omega) (by omega)) c30)
        · refine aw_if_ne (q := 47) (t := 49) F dL_nail_44 rfl (by decide) (fun c44 => absurd c44 (by decide)) (fun c44 => ?_)
          refine aw_iconst (q := 48) F dL_nail_47 rfl (by decide) ?_
          refine aw_zret F C dL_nail_48 rfl (by decide) (Nat.le_refl _) (Nat.le_refl _) ?_
          first | (exfalso; omega) | exact h.now (by decide) (r1 (by omega)) | exact h.now (by decide) (r2 (by omega) (fun q => by rw [enl] at c14; rw [q] at c14; cases c14)) | exact h.now (by decide) (r3 (by omega) (c14 (by omega) (by omega)) c30)
      · refine aw_if_ne (q := 36) (t := 40) F dL_nail_33 rfl (by decide) (fun c33 => absurd c33 (by decide)) (fun c33 => ?_)
        refine aw_iconst (q := 37) F dL_nail_36 rfl (by decide) ?_
        refine aw_goto (t := 41) F dL_nail_37 (by decide) ?_
        refine av_callV3 (q := 44) (ci := 7) F hm mL_mayAct_i mL_mayAct_n lL_323 dL_nail_41 rfl rfl rfl (by first | exact hW.o | exact hW.ho | exact hW.to | exact hW.a16 | exact hW.a17 | exact hW.h.a1) (by decide) (Nat.le_refl _) (Nat.le_refl _) (Nat.le_of_ble_eq_true rfl) (wL_mayAct hW (fun c41 d41 e41 => ?_) (fun c41 => ?_) (fun c41 d41 => ?_) (fun c41 d41 e41 => ?_))
        · refine aw_if_ne (q := 47) (t := 49) F dL_nail_44 rfl (by decide) (fun c44 => ?_) (fun c44 => absurd c44 (by decide))
          first | (exfalso; omega) | exact go (by omega) (c14 (by omega) (by omega)) (c30 (by omega) (by omega))
        · refine aw_if_ne (q := 47) (t := 49) F dL_nail_44 rfl (by decide) (fun c44 => absurd c44 (by decide)) (fun c44 => ?_)
          refine aw_iconst (q := 48) F dL_nail_47 rfl (by decide) ?_
          refine aw_zret F C dL_nail_48 rfl (by decide) (Nat.le_refl _) (Nat.le_refl _) ?_
          first | (exfalso; omega) | exact h.now (by decide) (r1 (by omega)) | exact h.now (by decide) (r2 (by omega) (fun q => by rw [enl] at c14; rw [q] at c14; cases c14)) | exact h.now (by decide) (r3 (by omega) (c14 (by omega) (by omega)) c30)
        · refine aw_if_ne (q := 47) (t := 49) F dL_nail_44 rfl (by decide) (fun c44 => absurd c44 (by decide)) (fun c44 => ?_)
          refine aw_iconst (q := 48) F dL_nail_47 rfl (by decide) ?_
          refine aw_zret F C dL_nail_48 rfl (by decide) (Nat.le_refl _) (Nat.le_refl _) ?_
          first | (exfalso; omega) | exact h.now (by decide) (r1 (by omega)) | exact h.now (by decide) (r2 (by omega) (fun q => by rw [enl] at c14; rw [q] at c14; cases c14)) | exact h.now (by decide) (r3 (by omega) (c14 (by omega) (by omega)) c30)
        · refine aw_if_ne (q := 47) (t := 49) F dL_nail_44 rfl (by decide) (fun c44 => absurd c44 (by decide)) (fun c44 => ?_)
          refine aw_iconst (q := 48) F dL_nail_47 rfl (by decide) ?_
          refine aw_zret F C dL_nail_48 rfl (by decide) (Nat.le_refl _) (Nat.le_refl _) ?_
          first | (exfalso; omega) | exact h.now (by decide) (r1 (by omega)) | exact h.now (by decide) (r2 (by omega) (fun q => by rw [enl] at c14; rw [q] at c14; cases c14)) | exact h.now (by decide) (r3 (by omega) (c14 (by omega) (by omega)) c30)
    · refine aw_if_ne (q := 20) (t := 24) F dL_nail_17 rfl (by decide) (fun c17 => absurd c17 (by decide)) (fun c17 => ?_)
      refine aw_iconst (q := 21) F dL_nail_20 rfl (by decide) ?_
      refine aw_goto (t := 25) F dL_nail_21 (by decide) ?_
      refine aw_aload_0 (q := 26) F dL_nail_25 rfl ?_
      refine av_getaE (q := 29) F fL_23 dL_nail_26 rfl rfl (by first | exact hW.o | exact hW.ho | exact hW.to | exact hW.a16 | exact hW.a17 | exact hW.h.a1) hW.p6 ?_
      refine aw_iload_1 (q := 30) F dL_nail_29 rfl ?_
      refine av_callV1 (q := 33) (ci := 2) F hm mH_isOpen_i mH_isOpen_n lL_317 dL_nail_30 rfl rfl rfl (by first | exact hW.o | exact hW.ho | exact hW.to | exact hW.a16 | exact hW.a17 | exact hW.h.a1) (by decide) (Nat.le_refl _) (Nat.le_refl _) (Nat.le_of_ble_eq_true rfl) (wH_isOpen hW.h hh2 (fun a30 b30 c30 => ?_) (fun c30 => ?_))
      · refine aw_if_ne (q := 36) (t := 40) F dL_nail_33 rfl (by decide) (fun c33 => ?_) (fun c33 => absurd c33 (by decide))
        refine aw_iconst (q := 41) F dL_nail_40 rfl (by decide) ?_
        refine av_callV3 (q := 44) (ci := 7) F hm mL_mayAct_i mL_mayAct_n lL_323 dL_nail_41 rfl rfl rfl (by first | exact hW.o | exact hW.ho | exact hW.to | exact hW.a16 | exact hW.a17 | exact hW.h.a1) (by decide) (Nat.le_refl _) (Nat.le_refl _) (Nat.le_of_ble_eq_true rfl) (wL_mayAct hW (fun c41 d41 e41 => ?_) (fun c41 => ?_) (fun c41 d41 => ?_) (fun c41 d41 e41 => ?_))
        · refine aw_if_ne (q := 47) (t := 49) F dL_nail_44 rfl (by decide) (fun c44 => ?_) (fun c44 => absurd c44 (by decide))
          first | (exfalso; omega) | exact go (by omega) (c14 (by omega) (by omega)) (c30 (by omega) (by omega))
        · refine aw_if_ne (q := 47) (t := 49) F dL_nail_44 rfl (by decide) (fun c44 => absurd c44 (by decide)) (fun c44 => ?_)
          refine aw_iconst (q := 48) F dL_nail_47 rfl (by decide) ?_
          refine aw_zret F C dL_nail_48 rfl (by decide) (Nat.le_refl _) (Nat.le_refl _) ?_
          first | (exfalso; omega) | exact h.now (by decide) (r1 (by omega)) | exact h.now (by decide) (r2 (by omega) (fun q => by rw [enl] at c14; rw [q] at c14; cases c14)) | exact h.now (by decide) (r3 (by omega) (c14 (by omega) (by omega)) c30)
        · refine aw_if_ne (q := 47) (t := 49) F dL_nail_44 rfl (by decide) (fun c44 => absurd c44 (by decide)) (fun c44 => ?_)
          refine aw_iconst (q := 48) F dL_nail_47 rfl (by decide) ?_
          refine aw_zret F C dL_nail_48 rfl (by decide) (Nat.le_refl _) (Nat.le_refl _) ?_
          first | (exfalso; omega) | exact h.now (by decide) (r1 (by omega)) | exact h.now (by decide) (r2 (by omega) (fun q => by rw [enl] at c14; rw [q] at c14; cases c14)) | exact h.now (by decide) (r3 (by omega) (c14 (by omega) (by omega)) c30)
        · refine aw_if_ne (q := 47) (t := 49) F dL_nail_44 rfl (by decide) (fun c44 => absurd c44 (by decide)) (fun c44 => ?_)
          refine aw_iconst (q := 48) F dL_nail_47 rfl (by decide) ?_
          refine aw_zret F C dL_nail_48 rfl (by decide) (Nat.le_refl _) (Nat.le_refl _) ?_
          first | (exfalso; omega) | exact h.now (by decide) (r1 (by omega)) | exact h.now (by decide) (r2 (by omega) (fun q => by rw [enl] at c14; rw [q] at c14; cases c14)) | exact h.now (by decide) (r3 (by omega) (c14 (by omega) (by omega)) c30)
      · refine aw_if_ne (q := 36) (t := 40) F dL_nail_33 rfl (by decide) (fun c33 => absurd c33 (by decide)) (fun c33 => ?_)
        refine aw_iconst (q := 37) F dL_nail_36 rfl (by decide) ?_
        refine aw_goto (t := 41) F dL_nail_37 (by decide) ?_
        refine av_callV3 (q := 44) (ci := 7) F hm mL_mayAct_i mL_mayAct_n lL_323 dL_nail_41 rfl rfl rfl (by first | exact hW.o | exact hW.ho | exact hW.to | exact hW.a16 | exact hW.a17 | exact hW.h.a1) (by decide) (Nat.le_refl _) (Nat.le_refl _) (Nat.le_of_ble_eq_true rfl) (wL_mayAct hW (fun c41 d41 e41 => ?_) (fun c41 => ?_) (fun c41 d41 => ?_) (fun c41 d41 e41 => ?_))
        · refine aw_if_ne (q := 47) (t := 49) F dL_nail_44 rfl (by decide) (fun c44 => ?_) (fun c44 => absurd c44 (by decide))
          first | (exfalso; omega) | exact go (by omega) (c14 (by omega) (by omega)) (c30 (by omega) (by omega))
        · refine aw_if_ne (q := 47) (t := 49) F dL_nail_44 rfl (by decide) (fun c44 => absurd c44 (by decide)) (fun c44 => ?_)
          refine aw_iconst (q := 48) F dL_nail_47 rfl (by decide) ?_
          refine aw_zret F C dL_nail_48 rfl (by decide) (Nat.le_refl _) (Nat.le_refl _) ?_
          first | (exfalso; omega) | exact h.now (by decide) (r1 (by omega)) | exact h.now (by decide) (r2 (by omega) (fun q => by rw [enl] at c14; rw [q] at c14; cases c14)) | exact h.now (by decide) (r3 (by omega) (c14 (by omega) (by omega)) c30)
        · refine aw_if_ne (q := 47) (t := 49) F dL_nail_44 rfl (by decide) (fun c44 => absurd c44 (by decide)) (fun c44 => ?_)
          refine aw_iconst (q := 48) F dL_nail_47 rfl (by decide) ?_
          refine aw_zret F C dL_nail_48 rfl (by decide) (Nat.le_refl _) (Nat.le_refl _) ?_
          first | (exfalso; omega) | exact h.now (by decide) (r1 (by omega)) | exact h.now (by decide) (r2 (by omega) (fun q => by rw [enl] at c14; rw [q] at c14; cases c14)) | exact h.now (by decide) (r3 (by omega) (c14 (by omega) (by omega)) c30)
        · refine aw_if_ne (q := 47) (t := 49) F dL_nail_44 rfl (by decide) (fun c44 => absurd c44 (by decide)) (fun c44 => ?_)
          refine aw_iconst (q := 48) F dL_nail_47 rfl (by decide) ?_
          refine aw_zret F C dL_nail_48 rfl (by decide) (Nat.le_refl _) (Nat.le_refl _) ?_
          first | (exfalso; omega) | exact h.now (by decide) (r1 (by omega)) | exact h.now (by decide) (r2 (by omega) (fun q => by rw [enl] at c14; rw [q] at c14; cases c14)) | exact h.now (by decide) (r3 (by omega) (c14 (by omega) (by omega)) c30)
  · refine aw_aload_0 (q := 10) F dL_nail_9 rfl ?_
    refine av_getaE (q := 13) F fL_23 dL_nail_10 rfl rfl (by first | exact hW.o | exact hW.ho | exact hW.to | exact hW.a16 | exact hW.a17 | exact hW.h.a1) hW.p6 ?_
    refine aw_iload_1 (q := 14) F dL_nail_13 rfl ?_
    refine av_callV1 (q := 17) (ci := 2) F hm mH_isNailed_i mH_isNailed_n lL_348 dL_nail_14 rfl rfl rfl (by first | exact hW.o | exact hW.ho | exact hW.to | exact hW.a16 | exact hW.a17 | exact hW.h.a1) (by decide) (Nat.le_refl _) (Nat.le_refl _) (Nat.le_of_ble_eq_true rfl) (wH_isNailed hW.h hh2 (fun a14 b14 c14 => ?_) (fun c14 => ?_))
    · refine aw_if_ne (q := 20) (t := 24) F dL_nail_17 rfl (by decide) (fun c17 => ?_) (fun c17 => absurd c17 (by decide))
      refine aw_iconst (q := 25) F dL_nail_24 rfl (by decide) ?_
      refine aw_aload_0 (q := 26) F dL_nail_25 rfl ?_
      refine av_getaE (q := 29) F fL_23 dL_nail_26 rfl rfl (by first | exact hW.o | exact hW.ho | exact hW.to | exact hW.a16 | exact hW.a17 | exact hW.h.a1) hW.p6 ?_
      refine aw_iload_1 (q := 30) F dL_nail_29 rfl ?_
      refine av_callV1 (q := 33) (ci := 2) F hm mH_isOpen_i mH_isOpen_n lL_317 dL_nail_30 rfl rfl rfl (by first | exact hW.o | exact hW.ho | exact hW.to | exact hW.a16 | exact hW.a17 | exact hW.h.a1) (by decide) (Nat.le_refl _) (Nat.le_refl _) (Nat.le_of_ble_eq_true rfl) (wH_isOpen hW.h hh2 (fun a30 b30 c30 => ?_) (fun c30 => ?_))
      · refine aw_if_ne (q := 36) (t := 40) F dL_nail_33 rfl (by decide) (fun c33 => ?_) (fun c33 => absurd c33 (by decide))
        refine aw_iconst (q := 41) F dL_nail_40 rfl (by decide) ?_
        refine av_callV3 (q := 44) (ci := 7) F hm mL_mayAct_i mL_mayAct_n lL_323 dL_nail_41 rfl rfl rfl (by first | exact hW.o | exact hW.ho | exact hW.to | exact hW.a16 | exact hW.a17 | exact hW.h.a1) (by decide) (Nat.le_refl _) (Nat.le_refl _) (Nat.le_of_ble_eq_true rfl) (wL_mayAct hW (fun c41 d41 e41 => ?_) (fun c41 => ?_) (fun c41 d41 => ?_) (fun c41 d41 e41 => ?_))
        · refine aw_if_ne (q := 47) (t := 49) F dL_nail_44 rfl (by decide) (fun c44 => ?_) (fun c44 => absurd c44 (by decide))
          first | (exfalso; omega) | exact go (by omega) (c14 (by omega) (by omega)) (c30 (by omega) (by omega))
        · refine aw_if_ne (q := 47) (t := 49) F dL_nail_44 rfl (by decide) (fun c44 => absurd c44 (by decide)) (fun c44 => ?_)
          refine aw_iconst (q := 48) F dL_nail_47 rfl (by decide) ?_
          refine aw_zret F C dL_nail_48 rfl (by decide) (Nat.le_refl _) (Nat.le_refl _) ?_
          first | (exfalso; omega) | exact h.now (by decide) (r1 (by omega)) | exact h.now (by decide) (r2 (by omega) (fun q => by rw [enl] at c14; rw [q] at c14; cases c14)) | exact h.now (by decide) (r3 (by omega) (c14 (by omega) (by omega)) c30)
        · refine aw_if_ne (q := 47) (t := 49) F dL_nail_44 rfl (by decide) (fun c44 => absurd c44 (by decide)) (fun c44 => ?_)
          refine aw_iconst (q := 48) F dL_nail_47 rfl (by decide) ?_
          refine aw_zret F C dL_nail_48 rfl (by decide) (Nat.le_refl _) (Nat.le_refl _) ?_
          first | (exfalso; omega) | exact h.now (by decide) (r1 (by omega)) | exact h.now (by decide) (r2 (by omega) (fun q => by rw [enl] at c14; rw [q] at c14; cases c14)) | exact h.now (by decide) (r3 (by omega) (c14 (by omega) (by omega)) c30)
        · refine aw_if_ne (q := 47) (t := 49) F dL_nail_44 rfl (by decide) (fun c44 => absurd c44 (by decide)) (fun c44 => ?_)
          refine aw_iconst (q := 48) F dL_nail_47 rfl (by decide) ?_
          refine aw_zret F C dL_nail_48 rfl (by decide) (Nat.le_refl _) (Nat.le_refl _) ?_
          first | (exfalso; omega) | exact h.now (by decide) (r1 (by omega)) | exact h.now (by decide) (r2 (by omega) (fun q => by rw [enl] at c14; rw [q] at c14; cases c14)) | exact h.now (by decide) (r3 (by omega) (c14 (by omega) (by omega)) c30)
      · refine aw_if_ne (q := 36) (t := 40) F dL_nail_33 rfl (by decide) (fun c33 => absurd c33 (by decide)) (fun c33 => ?_)
        refine aw_iconst (q := 37) F dL_nail_36 rfl (by decide) ?_
        refine aw_goto (t := 41) F dL_nail_37 (by decide) ?_
        refine av_callV3 (q := 44) (ci := 7) F hm mL_mayAct_i mL_mayAct_n lL_323 dL_nail_41 rfl rfl rfl (by first | exact hW.o | exact hW.ho | exact hW.to | exact hW.a16 | exact hW.a17 | exact hW.h.a1) (by decide) (Nat.le_refl _) (Nat.le_refl _) (Nat.le_of_ble_eq_true rfl) (wL_mayAct hW (fun c41 d41 e41 => ?_) (fun c41 => ?_) (fun c41 d41 => ?_) (fun c41 d41 e41 => ?_))
        · refine aw_if_ne (q := 47) (t := 49) F dL_nail_44 rfl (by decide) (fun c44 => ?_) (fun c44 => absurd c44 (by decide))
          first | (exfalso; omega) | exact go (by omega) (c14 (by omega) (by omega)) (c30 (by omega) (by omega))
        · refine aw_if_ne (q := 47) (t := 49) F dL_nail_44 rfl (by decide) (fun c44 => absurd c44 (by decide)) (fun c44 => ?_)
          refine aw_iconst (q := 48) F dL_nail_47 rfl (by decide) ?_
          refine aw_zret F C dL_nail_48 rfl (by decide) (Nat.le_refl _) (Nat.le_refl _) ?_
          first | (exfalso; omega) | exact h.now (by decide) (r1 (by omega)) | exact h.now (by decide) (r2 (by omega) (fun q => by rw [enl] at c14; rw [q] at c14; cases c14)) | exact h.now (by decide) (r3 (by omega) (c14 (by omega) (by omega)) c30)
        · refine aw_if_ne (q := 47) (t := 49) F dL_nail_44 rfl (by decide) (fun c44 => absurd c44 (by decide)) (fun c44 => ?_)
          refine aw_iconst (q := 48) F dL_nail_47 rfl (by decide) ?_
          refine aw_zret F C dL_nail_48 rfl (by decide) (Nat.le_refl _) (Nat.le_refl _) ?_
          first | (exfalso; omega) | exact h.now (by decide) (r1 (by omega)) | exact h.now (by decide) (r2 (by omega) (fun q => by rw [enl] at c14; rw [q] at c14; cases c14)) | exact h.now (by decide) (r3 (by omega) (c14 (by omega) (by omega)) c30)
        · refine aw_if_ne (q := 47) (t := 49) F dL_nail_44 rfl (by decide) (fun c44 => absurd c44 (by decide)) (fun c44 => ?_)
          refine aw_iconst (q := 48) F dL_nail_47 rfl (by decide) ?_
          refine aw_zret F C dL_nail_48 rfl (by decide) (Nat.le_refl _) (Nat.le_refl _) ?_
          first | (exfalso; omega) | exact h.now (by decide) (r1 (by omega)) | exact h.now (by decide) (r2 (by omega) (fun q => by rw [enl] at c14; rw [q] at c14; cases c14)) | exact h.now (by decide) (r3 (by omega) (c14 (by omega) (by omega)) c30)
    · refine aw_if_ne (q := 20) (t := 24) F dL_nail_17 rfl (by decide) (fun c17 => absurd c17 (by decide)) (fun c17 => ?_)
      refine aw_iconst (q := 21) F dL_nail_20 rfl (by decide) ?_
      refine aw_goto (t := 25) F dL_nail_21 (by decide) ?_
      refine aw_aload_0 (q := 26) F dL_nail_25 rfl ?_
      refine av_getaE (q := 29) F fL_23 dL_nail_26 rfl rfl (by first | exact hW.o | exact hW.ho | exact hW.to | exact hW.a16 | exact hW.a17 | exact hW.h.a1) hW.p6 ?_
      refine aw_iload_1 (q := 30) F dL_nail_29 rfl ?_
      refine av_callV1 (q := 33) (ci := 2) F hm mH_isOpen_i mH_isOpen_n lL_317 dL_nail_30 rfl rfl rfl (by first | exact hW.o | exact hW.ho | exact hW.to | exact hW.a16 | exact hW.a17 | exact hW.h.a1) (by decide) (Nat.le_refl _) (Nat.le_refl _) (Nat.le_of_ble_eq_true rfl) (wH_isOpen hW.h hh2 (fun a30 b30 c30 => ?_) (fun c30 => ?_))
      · refine aw_if_ne (q := 36) (t := 40) F dL_nail_33 rfl (by decide) (fun c33 => ?_) (fun c33 => absurd c33 (by decide))
        refine aw_iconst (q := 41) F dL_nail_40 rfl (by decide) ?_
        refine av_callV3 (q := 44) (ci := 7) F hm mL_mayAct_i mL_mayAct_n lL_323 dL_nail_41 rfl rfl rfl (by first | exact hW.o | exact hW.ho | exact hW.to | exact hW.a16 | exact hW.a17 | exact hW.h.a1) (by decide) (Nat.le_refl _) (Nat.le_refl _) (Nat.le_of_ble_eq_true rfl) (wL_mayAct hW (fun c41 d41 e41 => ?_) (fun c41 => ?_) (fun c41 d41 => ?_) (fun c41 d41 e41 => ?_))
        · refine aw_if_ne (q := 47) (t := 49) F dL_nail_44 rfl (by decide) (fun c44 => ?_) (fun c44 => absurd c44 (by decide))
          first | (exfalso; omega) | exact go (by omega) (c14 (by omega) (by omega)) (c30 (by omega) (by omega))
        · refine aw_if_ne (q := 47) (t := 49) F dL_nail_44 rfl (by decide) (fun c44 => absurd c44 (by decide)) (fun c44 => ?_)
          refine aw_iconst (q := 48) F dL_nail_47 rfl (by decide) ?_
          refine aw_zret F C dL_nail_48 rfl (by decide) (Nat.le_refl _) (Nat.le_refl _) ?_
          first | (exfalso; omega) | exact h.now (by decide) (r1 (by omega)) | exact h.now (by decide) (r2 (by omega) (fun q => by rw [enl] at c14; rw [q] at c14; cases c14)) | exact h.now (by decide) (r3 (by omega) (c14 (by omega) (by omega)) c30)
        · refine aw_if_ne (q := 47) (t := 49) F dL_nail_44 rfl (by decide) (fun c44 => absurd c44 (by decide)) (fun c44 => ?_)
          refine aw_iconst (q := 48) F dL_nail_47 rfl (by decide) ?_
          refine aw_zret F C dL_nail_48 rfl (by decide) (Nat.le_refl _) (Nat.le_refl _) ?_
          first | (exfalso; omega) | exact h.now (by decide) (r1 (by omega)) | exact h.now (by decide) (r2 (by omega) (fun q => by rw [enl] at c14; rw [q] at c14; cases c14)) | exact h.now (by decide) (r3 (by omega) (c14 (by omega) (by omega)) c30)
        · refine aw_if_ne (q := 47) (t := 49) F dL_nail_44 rfl (by decide) (fun c44 => absurd c44 (by decide)) (fun c44 => ?_)
          refine aw_iconst (q := 48) F dL_nail_47 rfl (by decide) ?_
          refine aw_zret F C dL_nail_48 rfl (by decide) (Nat.le_refl _) (Nat.le_refl _) ?_
          first | (exfalso; omega) | exact h.now (by decide) (r1 (by omega)) | exact h.now (by decide) (r2 (by omega) (fun q => by rw [enl] at c14; rw [q] at c14; cases c14)) | exact h.now (by decide) (r3 (by omega) (c14 (by omega) (by omega)) c30)
      · refine aw_if_ne (q := 36) (t := 40) F dL_nail_33 rfl (by decide) (fun c33 => absurd c33 (by decide)) (fun c33 => ?_)
        refine aw_iconst (q := 37) F dL_nail_36 rfl (by decide) ?_
        refine aw_goto (t := 41) F dL_nail_37 (by decide) ?_
        refine av_callV3 (q := 44) (ci := 7) F hm mL_mayAct_i mL_mayAct_n lL_323 dL_nail_41 rfl rfl rfl (by first | exact hW.o | exact hW.ho | exact hW.to | exact hW.a16 | exact hW.a17 | exact hW.h.a1) (by decide) (Nat.le_refl _) (Nat.le_refl _) (Nat.le_of_ble_eq_true rfl) (wL_mayAct hW (fun c41 d41 e41 => ?_) (fun c41 => ?_) (fun c41 d41 => ?_) (fun c41 d41 e41 => ?_))
        · refine aw_if_ne (q := 47) (t := 49) F dL_nail_44 rfl (by decide) (fun c44 => ?_) (fun c44 => absurd c44 (by decide))
          first | (exfalso; omega) | exact go (by omega) (c14 (by omega) (by omega)) (c30 (by omega) (by omega))
        · refine aw_if_ne (q := 47) (t := 49) F dL_nail_44 rfl (by decide) (fun c44 => absurd c44 (by decide)) (fun c44 => ?_)
          refine aw_iconst (q := 48) F dL_nail_47 rfl (by decide) ?_
          refine aw_zret F C dL_nail_48 rfl (by decide) (Nat.le_refl _) (Nat.le_refl _) ?_
          first | (exfalso; omega) | exact h.now (by decide) (r1 (by omega)) | exact h.now (by decide) (r2 (by omega) (fun q => by rw [enl] at c14; rw [q] at c14; cases c14)) | exact h.now (by decide) (r3 (by omega) (c14 (by omega) (by omega)) c30)
        · refine aw_if_ne (q := 47) (t := 49) F dL_nail_44 rfl (by decide) (fun c44 => absurd c44 (by decide)) (fun c44 => ?_)
          refine aw_iconst (q := 48) F dL_nail_47 rfl (by decide) ?_
          refine aw_zret F C dL_nail_48 rfl (by decide) (Nat.le_refl _) (Nat.le_refl _) ?_
          first | (exfalso; omega) | exact h.now (by decide) (r1 (by omega)) | exact h.now (by decide) (r2 (by omega) (fun q => by rw [enl] at c14; rw [q] at c14; cases c14)) | exact h.now (by decide) (r3 (by omega) (c14 (by omega) (by omega)) c30)
        · refine aw_if_ne (q := 47) (t := 49) F dL_nail_44 rfl (by decide) (fun c44 => absurd c44 (by decide)) (fun c44 => ?_)
          refine aw_iconst (q := 48) F dL_nail_47 rfl (by decide) ?_
          refine aw_zret F C dL_nail_48 rfl (by decide) (Nat.le_refl _) (Nat.le_refl _) ?_
          first | (exfalso; omega) | exact h.now (by decide) (r1 (by omega)) | exact h.now (by decide) (r2 (by omega) (fun q => by rw [enl] at c14; rw [q] at c14; cases c14)) | exact h.now (by decide) (r3 (by omega) (c14 (by omega) (by omega)) c30)
theorem wL_spring {x : Int} (h : CW V σ ow y S kn) (hK : CK K V σ ow (ifS (wya (0 ≤ x ∧ x < tDn (psT S)) ((psS S).1 x.toNat ≤ 1) True) (nSpr S x.toNat) S) kn (some (vI (rfD (wya (0 ≤ x ∧ x < tDn (psT S)) ((psS S).1 x.toNat ≤ 1) True) (1 - (psS S).1 x.toNat : Nat) (-1))))) : Wp G 2 mL_spring [vR 1, vI x] (V, σ) 0 0 K := by
  have hW := h.cs
  have hT := h.oT
  have hd4 : tDn (psT S) ≤ 4 := h.oT.2.1
  have hp2 : tPn (psT S) ≤ 2 := h.oT.2.2.1
  have h2 := h.tr (z := 0) (by decide)
  have hh2 := h.hh
  have hv := h.v0
  have hv1 := h.v1
  have ed : dN (psC S) = tDn (psT S) := rfl
  have ep : pN (psC S) = tPn (psT S) := rfl
  have hc := h.oT.okC h.oS
  have hsl : spc (psC S) ≤ 62500 := spc_le hc
  have hal := allP_lt hc
  obtain ⟨g, r1, r2, -⟩ := g4 hK
  have ekd : kdC (psC S) x.toNat = (psS S).1 x.toNat := rfl
  refine wp_intro mL_spring_i.1 [some (vR 1), some (vI x), none] rfl rfl (Nat.le_of_ble_eq_true rfl) ?_
  intro X hG F C
  have hm := C.rm
  have go : 0 ≤ x ∧ x < tDn (psT S) → (psS S).1 x.toNat ≤ 1 → ∀ z : Int, z = (psS S).1 x.toNat → AW X 41 [some (vR 1), some (vI x), some (vI z)] [] (up2 V 1 2 0, σ) 0 0 := by
    intro hx hl z hz
    have hsp : psA S < spc (psC S) := h.oS.2.2.2.1 (by omega)
    have fin : ∀ (V1 : Nat → Nat → Int), CW V1 σ ow y (paS (setR S 0) (kpP (psP S) (psS S))) kn → FR (up2 V 1 2 0) V1 σ σ ow ow → K (some (vI (1 - (psS S).1 x.toNat : Nat))) (up2 V1 11 x.toNat (1 - (psS S).1 x.toNat : Nat), σ) := by
      intro V1 c1 f1
      have hh3 : HH V1 10 (psC S) (psA S) := c1.hh
      obtain ⟨hc3, hw3, ha3⟩ := hh3
      have hH4 : HH (up2 V1 11 x.toNat (1 - (psS S).1 x.toNat : Nat)) 10 (cfS (psT S) (spK (psS S).1 x.toNat, (psS S).2.1, psA S)) (psA S) := by
        obtain ⟨w0, w1, w2, w3, w4, w5, w6, w9, w10, w11, w12, w13⟩ := hw3
        obtain ⟨a1, a2, a3, a4, a5⟩ := ha3
        have eb : ∀ b, b ≠ 11 → up2 V1 11 x.toNat (1 - (psS S).1 x.toNat : Nat) b = V1 b := fun b hb => up2_nea _ _ hb
        have e10 := eb 10 (by decide)
        refine ⟨⟨hc3.1, hc3.2.1, hc3.2.2.1, hc3.2.2.2.1, fun d => ?_, hc3.2.2.2.2.2⟩, ⟨?_, ?_, ?_, ?_, ?_, ?_, ?_, ?_, ?_, fun q => ?_, fun d hd => ⟨?_, ?_⟩, ?_⟩, ?_, ?_, ?_, ?_, ?_⟩
        · show spK (psS S).1 x.toNat d < 4
          have := h.oS.1 d
          unfold spK
          split <;> omega
        · rw [e10]; exact w0
        · rw [e10]; exact w1
        · rw [e10]; exact w2
        · rw [e10]; exact w3
        · rw [e10]; exact w4
        · rw [e10]; exact w5
        · rw [e10]; exact w6
        · rw [e10]; exact w9
        · rw [e10]; exact w10
        · rw [e10]; exact w11 q
        · show up2 V1 11 x.toNat (1 - (psS S).1 x.toNat : Nat) 11 d = (spK (psS S).1 x.toNat d : Nat)
          unfold spK
          by_cases e : d = x.toNat
          · rw [e, up2_same, if_pos rfl]
          · rw [up2_nek _ _ e, if_neg e]; exact (w12 d hd).1
        · rw [eb (10 + 4) (by decide)]; exact (w12 d hd).2
        · rw [eb (10 + 5) (by decide)]; exact w13
        · rw [e10]; exact a1
        · rw [e10]; exact a2
        · rw [e10]; exact a3
        · rw [eb (10 + 2) (by decide)]; exact a4
        · rw [eb (10 + 3) (by decide)]; exact a5
      have hk0 : ∀ d, tDn (psT S) ≤ d → spK (psS S).1 x.toNat d = 0 := fun d hd => by
        unfold spK
        rw [if_neg (by omega)]
        exact h.oS.2.1 d hd
      obtain ⟨q1, q2⟩ := c1.hl (V' := up2 V1 11 x.toNat (1 - (psS S).1 x.toNat : Nat)) (s := (spK (psS S).1 x.toNat, (psS S).2.1, psA S)) (fun b hb => up2_nea _ _ (by omega)) hH4 ⟨hH4.1.2.2.2.2.1, hk0, h.oS.2.2.1, fun _ => hsp, fun q => absurd (show tDn (psT S) = 0 from q) (by omega)⟩
      exact g hx hl trivial _ _ _ _ q1 ((h.fr.tr f1).tr q2)
    refine aw_aload_0 (q := 42) F dL_spring_41 rfl ?_
    refine av_callV0 (q := 45) (ci := 7) F hm mL_keepNow_i mL_keepNow_n lL_327 dL_spring_42 rfl rfl rfl (by first | exact hW.o | exact hW.ho | exact hW.to | exact hW.a16 | exact hW.a17 | exact hW.h.a1) (by decide) (Nat.le_refl _) (Nat.le_refl _) (Nat.le_of_ble_eq_true rfl) (wL_keepNow h2 (show 0 < tDn (psT S) by omega) (fun v42 c42 f42 => ?_))
    have hf := fin v42 c42 f42
    refine aw_aload_0 (q := 46) F dL_spring_45 rfl ?_
    refine av_getaE (q := 49) F fL_23 dL_spring_46 rfl rfl (by first | exact hW.o | exact hW.ho | exact hW.to | exact hW.a16 | exact hW.a17 | exact hW.h.a1) hW.p6 ?_
    refine av_getaE (q := 52) F fL_351 dL_spring_49 rfl rfl (by first | exact hW.o | exact hW.ho | exact hW.to | exact hW.a16 | exact hW.a17 | exact hW.h.a1) hW.h.p8 ?_
    refine aw_iload_1 (q := 53) F dL_spring_52 rfl ?_
    refine aw_iload_2 (q := 54) F dL_spring_53 rfl ?_
    refine aw_if_ne (q := 57) (t := 61) F dL_spring_54 rfl (by decide) (fun c54 => ?_) (fun c54 => ?_)
    · refine aw_iconst (q := 62) F dL_spring_61 rfl (by decide) ?_
      refine av_iastore (q := 63) F dL_spring_62 rfl (by first | exact hW.o | exact hW.ho | exact hW.to | exact hW.a16 | exact hW.a17 | exact hW.h.a1) (by omega) (by omega) ?_
      refine aw_aload_0 (q := 64) F dL_spring_63 rfl ?_
      refine av_getaE (q := 67) F fL_23 dL_spring_64 rfl rfl (by first | exact hW.o | exact hW.ho | exact hW.to | exact hW.a16 | exact hW.a17 | exact hW.h.a1) hW.p6 ?_
      refine av_getaE (q := 70) F fL_351 dL_spring_67 rfl rfl (by first | exact hW.o | exact hW.ho | exact hW.to | exact hW.a16 | exact hW.a17 | exact hW.h.a1) hW.h.p8 ?_
      refine aw_iload_1 (q := 71) F dL_spring_70 rfl ?_
      refine av_iaload (q := 72) F dL_spring_71 rfl (by first | exact hW.o | exact hW.ho | exact hW.to | exact hW.a16 | exact hW.a17 | exact hW.h.a1) (by omega) (by omega) ?_
      refine aw_iret F C dL_spring_72 rfl (Nat.le_refl _) (Nat.le_refl _) ?_
      rw [up2_same]
      first
      | (rw [show (1 - (psS S).1 x.toNat) = 1 by omega] at hf; exact hf)
      | (rw [show (1 - (psS S).1 x.toNat) = 0 by omega] at hf; exact hf)
    · refine aw_iconst (q := 58) F dL_spring_57 rfl (by decide) ?_
      refine aw_goto (t := 62) F dL_spring_58 (by decide) ?_
      refine av_iastore (q := 63) F dL_spring_62 rfl (by first | exact hW.o | exact hW.ho | exact hW.to | exact hW.a16 | exact hW.a17 | exact hW.h.a1) (by omega) (by omega) ?_
      refine aw_aload_0 (q := 64) F dL_spring_63 rfl ?_
      refine av_getaE (q := 67) F fL_23 dL_spring_64 rfl rfl (by first | exact hW.o | exact hW.ho | exact hW.to | exact hW.a16 | exact hW.a17 | exact hW.h.a1) hW.p6 ?_
      refine av_getaE (q := 70) F fL_351 dL_spring_67 rfl rfl (by first | exact hW.o | exact hW.ho | exact hW.to | exact hW.a16 | exact hW.a17 | exact hW.h.a1) hW.h.p8 ?_
      refine aw_iload_1 (q := 71) F dL_spring_70 rfl ?_
      refine av_iaload (q := 72) F dL_spring_71 rfl (by first | exact hW.o | exact hW.ho | exact hW.to | exact hW.a16 | exact hW.a17 | exact hW.h.a1) (by omega) (by omega) ?_
      refine aw_iret F C dL_spring_72 rfl (Nat.le_refl _) (Nat.le_refl _) ?_
      rw [up2_same]
      first
      | (rw [show (1 - (psS S).1 x.toNat) = 1 by omega] at hf; exact hf)
      | (rw [show (1 - (psS S).1 x.toNat) = 0 by omega] at hf; exact hf)
  refine aw_aload_0 (q := 1) F dL_spring_0 rfl ?_
  refine av_getaE (q := 4) F fL_23 dL_spring_1 rfl rfl (by first | exact hW.o | exact hW.ho | exact hW.to | exact hW.a16 | exact hW.a17 | exact hW.h.a1) hW.p6 ?_
  refine aw_iload_1 (q := 5) F dL_spring_4 rfl ?_
  refine av_callV1 (q := 8) (ci := 2) F hm mH_kindOf_i mH_kindOf_n lL_118 dL_spring_5 rfl rfl rfl (by first | exact hW.o | exact hW.ho | exact hW.to | exact hW.a16 | exact hW.a17 | exact hW.h.a1) (by decide) (Nat.le_refl _) (Nat.le_refl _) (Nat.le_of_ble_eq_true rfl) (wH_kindOf hW.h hh2 (fun a5 b5 => ?_) (fun c5 => ?_))
  · refine aw_istore_2 (q := 9) F dL_spring_8 rfl trivial ?_
    refine aw_aload_0 (q := 10) F dL_spring_9 rfl ?_
    refine aw_aload_0 (q := 11) F dL_spring_10 rfl ?_
    refine av_getaE (q := 14) F fL_23 dL_spring_11 rfl rfl (by first | exact hW.o | exact hW.ho | exact hW.to | exact hW.a16 | exact hW.a17 | exact hW.h.a1) hW.p6 ?_
    refine aw_iload_1 (q := 15) F dL_spring_14 rfl ?_
    refine av_callV1 (q := 18) (ci := 2) F hm mH_isDoor_i mH_isDoor_n lL_110 dL_spring_15 rfl rfl rfl (by first | exact hW.o | exact hW.ho | exact hW.to | exact hW.a16 | exact hW.a17 | exact hW.h.a1) (by decide) (Nat.le_refl _) (Nat.le_refl _) (Nat.le_of_ble_eq_true rfl) (wH_isDoor hW.h (fun c15 => ?_) (fun c15 => ?_))
    · refine aw_iload_2 (q := 19) F dL_spring_18 rfl ?_
      refine aw_if_eq (q := 22) (t := 27) F dL_spring_19 rfl (by decide) (fun c19 => ?_) (fun c19 => ?_)
      · refine aw_iconst (q := 28) F dL_spring_27 rfl (by decide) ?_
        refine aw_goto (t := 32) F dL_spring_28 (by decide) ?_
        refine aw_iconst (q := 33) F dL_spring_32 rfl (by decide) ?_
        refine av_callV3 (q := 36) (ci := 7) F hm mL_mayAct_i mL_mayAct_n lL_323 dL_spring_33 rfl rfl rfl (by first | exact hW.o | exact hW.ho | exact hW.to | exact hW.a16 | exact hW.a17 | exact hW.h.a1) (by decide) (Nat.le_refl _) (Nat.le_refl _) (Nat.le_of_ble_eq_true rfl) (wL_mayAct hW (fun c33 d33 e33 => ?_) (fun c33 => ?_) (fun c33 d33 => ?_) (fun c33 d33 e33 => ?_))
        · refine aw_if_ne (q := 39) (t := 41) F dL_spring_36 rfl (by decide) (fun c36 => ?_) (fun c36 => absurd c36 (by decide))
          first | (exfalso; omega) | exact go (by omega) (by omega) _ rfl
        · refine aw_if_ne (q := 39) (t := 41) F dL_spring_36 rfl (by decide) (fun c36 => absurd c36 (by decide)) (fun c36 => ?_)
          refine aw_iconst (q := 40) F dL_spring_39 rfl (by decide) ?_
          refine aw_iret F C dL_spring_40 rfl (Nat.le_refl _) (Nat.le_refl _) ?_
          first | (exfalso; omega) | exact h.now (by decide) (r1 (by omega)) | exact h.now (by decide) (r2 (by omega) (by omega))
        · refine aw_if_ne (q := 39) (t := 41) F dL_spring_36 rfl (by decide) (fun c36 => absurd c36 (by decide)) (fun c36 => ?_)
          refine aw_iconst (q := 40) F dL_spring_39 rfl (by decide) ?_
          refine aw_iret F C dL_spring_40 rfl (Nat.le_refl _) (Nat.le_refl _) ?_
          first | (exfalso; omega) | exact h.now (by decide) (r1 (by omega)) | exact h.now (by decide) (r2 (by omega) (by omega))
        · refine aw_if_ne (q := 39) (t := 41) F dL_spring_36 rfl (by decide) (fun c36 => absurd c36 (by decide)) (fun c36 => ?_)
          refine aw_iconst (q := 40) F dL_spring_39 rfl (by decide) ?_
          refine aw_iret F C dL_spring_40 rfl (Nat.le_refl _) (Nat.le_refl _) ?_
          first | (exfalso; omega) | exact h.now (by decide) (r1 (by omega)) | exact h.now (by decide) (r2 (by omega) (by omega))
      · refine aw_iload_2 (q := 23) F dL_spring_22 rfl ?_
        refine aw_iconst (q := 24) F dL_spring_23 rfl (by decide) ?_
        refine aw_icmp_ne (q := 27) (t := 31) F dL_spring_24 rfl (by decide) (fun c24 => ?_) (fun c24 => ?_)
        · refine aw_iconst (q := 32) F dL_spring_31 rfl (by decide) ?_
          refine aw_iconst (q := 33) F dL_spring_32 rfl (by decide) ?_
          refine av_callV3 (q := 36) (ci := 7) F hm mL_mayAct_i mL_mayAct_n lL_323 dL_spring_33 rfl rfl rfl (by first | exact hW.o | exact hW.ho | exact hW.to | exact hW.a16 | exact hW.a17 | exact hW.h.a1) (by decide) (Nat.le_refl _) (Nat.le_refl _) (Nat.le_of_ble_eq_true rfl) (wL_mayAct hW (fun c33 d33 e33 => ?_) (fun c33 => ?_) (fun c33 d33 => ?_) (fun c33 d33 e33 => ?_))
          · refine aw_if_ne (q := 39) (t := 41) F dL_spring_36 rfl (by decide) (fun c36 => ?_) (fun c36 => absurd c36 (by decide))
            first | (exfalso; omega) | exact go (by omega) (by omega) _ rfl
          · refine aw_if_ne (q := 39) (t := 41) F dL_spring_36 rfl (by decide) (fun c36 => absurd c36 (by decide)) (fun c36 => ?_)
            refine aw_iconst (q := 40) F dL_spring_39 rfl (by decide) ?_
            refine aw_iret F C dL_spring_40 rfl (Nat.le_refl _) (Nat.le_refl _) ?_
            first | (exfalso; omega) | exact h.now (by decide) (r1 (by omega)) | exact h.now (by decide) (r2 (by omega) (by omega))
          · refine aw_if_ne (q := 39) (t := 41) F dL_spring_36 rfl (by decide) (fun c36 => absurd c36 (by decide)) (fun c36 => ?_)
            refine aw_iconst (q := 40) F dL_spring_39 rfl (by decide) ?_
            refine aw_iret F C dL_spring_40 rfl (Nat.le_refl _) (Nat.le_refl _) ?_
            first | (exfalso; omega) | exact h.now (by decide) (r1 (by omega)) | exact h.now (by decide) (r2 (by omega) (by omega))
          · refine aw_if_ne (q := 39) (t := 41) F dL_spring_36 rfl (by decide) (fun c36 => absurd c36 (by decide)) (fun c36 => ?_)
            refine aw_iconst (q := 40) F dL_spring_39 rfl (by decide) ?_
            refine aw_iret F C dL_spring_40 rfl (Nat.le_refl _) (Nat.le_refl _) ?_
            first | (exfalso; omega) | exact h.now (by decide) (r1 (by omega)) | exact h.now (by decide) (r2 (by omega) (by omega))
        · refine aw_iconst (q := 28) F dL_spring_27 rfl (by decide) ?_
          refine aw_goto (t := 32) F dL_spring_28 (by decide) ?_
          refine aw_iconst (q := 33) F dL_spring_32 rfl (by decide) ?_
          refine av_callV3 (q := 36) (ci := 7) F hm mL_mayAct_i mL_mayAct_n lL_323 dL_spring_33 rfl rfl rfl (by first | exact hW.o | exact hW.ho | exact hW.to | exact hW.a16 | exact hW.a17 | exact hW.h.a1) (by decide) (Nat.le_refl _) (Nat.le_refl _) (Nat.le_of_ble_eq_true rfl) (wL_mayAct hW (fun c33 d33 e33 => ?_) (fun c33 => ?_) (fun c33 d33 => ?_) (fun c33 d33 e33 => ?_))
          · refine aw_if_ne (q := 39) (t := 41) F dL_spring_36 rfl (by decide) (fun c36 => ?_) (fun c36 => absurd c36 (by decide))
            first | (exfalso; omega) | exact go (by omega) (by omega) _ rfl
          · refine aw_if_ne (q := 39) (t := 41) F dL_spring_36 rfl (by decide) (fun c36 => absurd c36 (by decide)) (fun c36 => ?_)
            refine aw_iconst (q := 40) F dL_spring_39 rfl (by decide) ?_
            refine aw_iret F C dL_spring_40 rfl (Nat.le_refl _) (Nat.le_refl _) ?_
            first | (exfalso; omega) | exact h.now (by decide) (r1 (by omega)) | exact h.now (by decide) (r2 (by omega) (by omega))
          · refine aw_if_ne (q := 39) (t := 41) F dL_spring_36 rfl (by decide) (fun c36 => absurd c36 (by decide)) (fun c36 => ?_)
            refine aw_iconst (q := 40) F dL_spring_39 rfl (by decide) ?_
            refine aw_iret F C dL_spring_40 rfl (Nat.le_refl _) (Nat.le_refl _) ?_
            first | (exfalso; omega) | exact h.now (by decide) (r1 (by omega)) | exact h.now (by decide) (r2 (by omega) (by omega))
          · refine aw_if_ne (q := 39) (t := 41) F dL_spring_36 rfl (by decide) (fun c36 => absurd c36 (by decide)) (fun c36 => ?_)
            refine aw_iconst (q := 40) F dL_spring_39 rfl (by decide) ?_
            refine aw_iret F C dL_spring_40 rfl (Nat.le_refl _) (Nat.le_refl _) ?_
            first | (exfalso; omega) | exact h.now (by decide) (r1 (by omega)) | exact h.now (by decide) (r2 (by omega) (by omega))
    · refine aw_iload_2 (q := 19) F dL_spring_18 rfl ?_
      refine aw_if_eq (q := 22) (t := 27) F dL_spring_19 rfl (by decide) (fun c19 => ?_) (fun c19 => ?_)
      · refine aw_iconst (q := 28) F dL_spring_27 rfl (by decide) ?_
        refine aw_goto (t := 32) F dL_spring_28 (by decide) ?_
        refine aw_iconst (q := 33) F dL_spring_32 rfl (by decide) ?_
        refine av_callV3 (q := 36) (ci := 7) F hm mL_mayAct_i mL_mayAct_n lL_323 dL_spring_33 rfl rfl rfl (by first | exact hW.o | exact hW.ho | exact hW.to | exact hW.a16 | exact hW.a17 | exact hW.h.a1) (by decide) (Nat.le_refl _) (Nat.le_refl _) (Nat.le_of_ble_eq_true rfl) (wL_mayAct hW (fun c33 d33 e33 => ?_) (fun c33 => ?_) (fun c33 d33 => ?_) (fun c33 d33 e33 => ?_))
        · refine aw_if_ne (q := 39) (t := 41) F dL_spring_36 rfl (by decide) (fun c36 => ?_) (fun c36 => absurd c36 (by decide))
          first | (exfalso; omega) | exact go (by omega) (by omega) _ rfl
        · refine aw_if_ne (q := 39) (t := 41) F dL_spring_36 rfl (by decide) (fun c36 => absurd c36 (by decide)) (fun c36 => ?_)
          refine aw_iconst (q := 40) F dL_spring_39 rfl (by decide) ?_
          refine aw_iret F C dL_spring_40 rfl (Nat.le_refl _) (Nat.le_refl _) ?_
          first | (exfalso; omega) | exact h.now (by decide) (r1 (by omega)) | exact h.now (by decide) (r2 (by omega) (by omega))
        · refine aw_if_ne (q := 39) (t := 41) F dL_spring_36 rfl (by decide) (fun c36 => absurd c36 (by decide)) (fun c36 => ?_)
          refine aw_iconst (q := 40) F dL_spring_39 rfl (by decide) ?_
          refine aw_iret F C dL_spring_40 rfl (Nat.le_refl _) (Nat.le_refl _) ?_
          first | (exfalso; omega) | exact h.now (by decide) (r1 (by omega)) | exact h.now (by decide) (r2 (by omega) (by omega))
        · refine aw_if_ne (q := 39) (t := 41) F dL_spring_36 rfl (by decide) (fun c36 => absurd c36 (by decide)) (fun c36 => ?_)
          refine aw_iconst (q := 40) F dL_spring_39 rfl (by decide) ?_
          refine aw_iret F C dL_spring_40 rfl (Nat.le_refl _) (Nat.le_refl _) ?_
          first | (exfalso; omega) | exact h.now (by decide) (r1 (by omega)) | exact h.now (by decide) (r2 (by omega) (by omega))
      · refine aw_iload_2 (q := 23) F dL_spring_22 rfl ?_
        refine aw_iconst (q := 24) F dL_spring_23 rfl (by decide) ?_
        refine aw_icmp_ne (q := 27) (t := 31) F dL_spring_24 rfl (by decide) (fun c24 => ?_) (fun c24 => ?_)
        · refine aw_iconst (q := 32) F dL_spring_31 rfl (by decide) ?_
          refine aw_iconst (q := 33) F dL_spring_32 rfl (by decide) ?_
          refine av_callV3 (q := 36) (ci := 7) F hm mL_mayAct_i mL_mayAct_n lL_323 dL_spring_33 rfl rfl rfl (by first | exact hW.o | exact hW.ho | exact hW.to | exact hW.a16 | exact hW.a17 | exact hW.h.a1) (by decide) (Nat.le_refl _) (Nat.le_refl _) (Nat.le_of_ble_eq_true rfl) (wL_mayAct hW (fun c33 d33 e33 => ?_) (fun c33 => ?_) (fun c33 d33 => ?_) (fun c33 d33 e33 => ?_))
          · refine aw_if_ne (q := 39) (t := 41) F dL_spring_36 rfl (by decide) (fun c36 => ?_) (fun c36 => absurd c36 (by decide))
            first | (exfalso; omega) | exact go (by omega) (by omega) _ rfl
          · refine aw_if_ne (q := 39) (t := 41) F dL_spring_36 rfl (by decide) (fun c36 => absurd c36 (by decide)) (fun c36 => ?_)
            refine aw_iconst (q := 40) F dL_spring_39 rfl (by decide) ?_
            refine aw_iret F C dL_spring_40 rfl (Nat.le_refl _) (Nat.le_refl _) ?_
            first | (exfalso; omega) | exact h.now (by decide) (r1 (by omega)) | exact h.now (by decide) (r2 (by omega) (by omega))
          · refine aw_if_ne (q := 39) (t := 41) F dL_spring_36 rfl (by decide) (fun c36 => absurd c36 (by decide)) (fun c36 => ?_)
            refine aw_iconst (q := 40) F dL_spring_39 rfl (by decide) ?_
            refine aw_iret F C dL_spring_40 rfl (Nat.le_refl _) (Nat.le_refl _) ?_
            first | (exfalso; omega) | exact h.now (by decide) (r1 (by omega)) | exact h.now (by decide) (r2 (by omega) (by omega))
          · refine aw_if_ne (q := 39) (t := 41) F dL_spring_36 rfl (by decide) (fun c36 => absurd c36 (by decide)) (fun c36 => ?_)
            refine aw_iconst (q := 40) F dL_spring_39 rfl (by decide) ?_
            refine aw_iret F C dL_spring_40 rfl (Nat.le_refl _) (Nat.le_refl _) ?_
            first | (exfalso; omega) | exact h.now (by decide) (r1 (by omega)) | exact h.now (by decide) (r2 (by omega) (by omega))
        · refine aw_iconst (q := 28) F dL_spring_27 rfl (by decide) ?_
          refine aw_goto (t := 32) F dL_spring_28 (by decide) ?_
          refine aw_iconst (q := 33) F dL_spring_32 rfl (by decide) ?_
          refine av_callV3 (q := 36) (ci := 7) F hm mL_mayAct_i mL_mayAct_n lL_323 dL_spring_33 rfl rfl rfl (by first | exact hW.o | exact hW.ho | exact hW.to | exact hW.a16 | exact hW.a17 | exact hW.h.a1) (by decide) (Nat.le_refl _) (Nat.le_refl _) (Nat.le_of_ble_eq_true rfl) (wL_mayAct hW (fun c33 d33 e33 => ?_) (fun c33 => ?_) (fun c33 d33 => ?_) (fun c33 d33 e33 => ?_))
          · refine aw_if_ne (q := 39) (t := 41) F dL_spring_36 rfl (by decide) (fun c36 => ?_) (fun c36 => absurd c36 (by decide))
            first | (exfalso; omega) | exact go (by omega) (by omega) _ rfl
          · refine aw_if_ne (q := 39) (t := 41) F dL_spring_36 rfl (by decide) (fun c36 => absurd c36 (by decide)) (fun c36 => ?_)
            refine aw_iconst (q := 40) F dL_spring_39 rfl (by decide) ?_
            refine aw_iret F C dL_spring_40 rfl (Nat.le_refl _) (Nat.le_refl _) ?_
            first | (exfalso; omega) | exact h.now (by decide) (r1 (by omega)) | exact h.now (by decide) (r2 (by omega) (by omega))
          · refine aw_if_ne (q := 39) (t := 41) F dL_spring_36 rfl (by decide) (fun c36 => absurd c36 (by decide)) (fun c36 => ?_)
            refine aw_iconst (q := 40) F dL_spring_39 rfl (by decide) ?_
            refine aw_iret F C dL_spring_40 rfl (Nat.le_refl _) (Nat.le_refl _) ?_
            first | (exfalso; omega) | exact h.now (by decide) (r1 (by omega)) | exact h.now (by decide) (r2 (by omega) (by omega))
          · refine aw_if_ne (q := 39) (t := 41) F dL_spring_36 rfl (by decide) (fun c36 => absurd c36 (by decide)) (fun c36 => ?_)
            refine aw_iconst (q := 40) F dL_spring_39 rfl (by decide) ?_
            refine aw_iret F C dL_spring_40 rfl (Nat.le_refl _) (Nat.le_refl _) ?_
            first | (exfalso; omega) | exact h.now (by decide) (r1 (by omega)) | exact h.now (by decide) (r2 (by omega) (by omega))
  · refine aw_istore_2 (q := 9) F dL_spring_8 rfl trivial ?_
    refine aw_aload_0 (q := 10) F dL_spring_9 rfl ?_
    refine aw_aload_0 (q := 11) F dL_spring_10 rfl ?_
    refine av_getaE (q := 14) F fL_23 dL_spring_11 rfl rfl (by first | exact hW.o | exact hW.ho | exact hW.to | exact hW.a16 | exact hW.a17 | exact hW.h.a1) hW.p6 ?_
    refine aw_iload_1 (q := 15) F dL_spring_14 rfl ?_
    refine av_callV1 (q := 18) (ci := 2) F hm mH_isDoor_i mH_isDoor_n lL_110 dL_spring_15 rfl rfl rfl (by first | exact hW.o | exact hW.ho | exact hW.to | exact hW.a16 | exact hW.a17 | exact hW.h.a1) (by decide) (Nat.le_refl _) (Nat.le_refl _) (Nat.le_of_ble_eq_true rfl) (wH_isDoor hW.h (fun c15 => ?_) (fun c15 => ?_))
    · refine aw_iload_2 (q := 19) F dL_spring_18 rfl ?_
      refine aw_if_eq (q := 22) (t := 27) F dL_spring_19 rfl (by decide) (fun c19 => absurd c19 (by decide)) (fun c19 => ?_)
      refine aw_iload_2 (q := 23) F dL_spring_22 rfl ?_
      refine aw_iconst (q := 24) F dL_spring_23 rfl (by decide) ?_
      refine aw_icmp_ne (q := 27) (t := 31) F dL_spring_24 rfl (by decide) (fun c24 => ?_) (fun c24 => absurd c24 (by decide))
      refine aw_iconst (q := 32) F dL_spring_31 rfl (by decide) ?_
      refine aw_iconst (q := 33) F dL_spring_32 rfl (by decide) ?_
      refine av_callV3 (q := 36) (ci := 7) F hm mL_mayAct_i mL_mayAct_n lL_323 dL_spring_33 rfl rfl rfl (by first | exact hW.o | exact hW.ho | exact hW.to | exact hW.a16 | exact hW.a17 | exact hW.h.a1) (by decide) (Nat.le_refl _) (Nat.le_refl _) (Nat.le_of_ble_eq_true rfl) (wL_mayAct hW (fun c33 d33 e33 => ?_) (fun c33 => ?_) (fun c33 d33 => ?_) (fun c33 d33 e33 => ?_))
      · refine aw_if_ne (q := 39) (t := 41) F dL_spring_36 rfl (by decide) (fun c36 => ?_) (fun c36 => absurd c36 (by decide))
        first | (exfalso; omega) | exact go (by omega) (by omega) _ rfl
      · refine aw_if_ne (q := 39) (t := 41) F dL_spring_36 rfl (by decide) (fun c36 => absurd c36 (by decide)) (fun c36 => ?_)
        refine aw_iconst (q := 40) F dL_spring_39 rfl (by decide) ?_
        refine aw_iret F C dL_spring_40 rfl (Nat.le_refl _) (Nat.le_refl _) ?_
        first | (exfalso; omega) | exact h.now (by decide) (r1 (by omega)) | exact h.now (by decide) (r2 (by omega) (by omega))
      · refine aw_if_ne (q := 39) (t := 41) F dL_spring_36 rfl (by decide) (fun c36 => absurd c36 (by decide)) (fun c36 => ?_)
        refine aw_iconst (q := 40) F dL_spring_39 rfl (by decide) ?_
        refine aw_iret F C dL_spring_40 rfl (Nat.le_refl _) (Nat.le_refl _) ?_
        first | (exfalso; omega) | exact h.now (by decide) (r1 (by omega)) | exact h.now (by decide) (r2 (by omega) (by omega))
      · refine aw_if_ne (q := 39) (t := 41) F dL_spring_36 rfl (by decide) (fun c36 => absurd c36 (by decide)) (fun c36 => ?_)
        refine aw_iconst (q := 40) F dL_spring_39 rfl (by decide) ?_
        refine aw_iret F C dL_spring_40 rfl (Nat.le_refl _) (Nat.le_refl _) ?_
        first | (exfalso; omega) | exact h.now (by decide) (r1 (by omega)) | exact h.now (by decide) (r2 (by omega) (by omega))
    · refine aw_iload_2 (q := 19) F dL_spring_18 rfl ?_
      refine aw_if_eq (q := 22) (t := 27) F dL_spring_19 rfl (by decide) (fun c19 => absurd c19 (by decide)) (fun c19 => ?_)
      refine aw_iload_2 (q := 23) F dL_spring_22 rfl ?_
      refine aw_iconst (q := 24) F dL_spring_23 rfl (by decide) ?_
      refine aw_icmp_ne (q := 27) (t := 31) F dL_spring_24 rfl (by decide) (fun c24 => ?_) (fun c24 => absurd c24 (by decide))
      refine aw_iconst (q := 32) F dL_spring_31 rfl (by decide) ?_
      refine aw_iconst (q := 33) F dL_spring_32 rfl (by decide) ?_
      refine av_callV3 (q := 36) (ci := 7) F hm mL_mayAct_i mL_mayAct_n lL_323 dL_spring_33 rfl rfl rfl (by first | exact hW.o | exact hW.ho | exact hW.to | exact hW.a16 | exact hW.a17 | exact hW.h.a1) (by decide) (Nat.le_refl _) (Nat.le_refl _) (Nat.le_of_ble_eq_true rfl) (wL_mayAct hW (fun c33 d33 e33 => ?_) (fun c33 => ?_) (fun c33 d33 => ?_) (fun c33 d33 e33 => ?_))
      · refine aw_if_ne (q := 39) (t := 41) F dL_spring_36 rfl (by decide) (fun c36 => ?_) (fun c36 => absurd c36 (by decide))
        first | (exfalso; omega) | exact go (by omega) (by omega) _ rfl
      · refine aw_if_ne (q := 39) (t := 41) F dL_spring_36 rfl (by decide) (fun c36 => absurd c36 (by decide)) (fun c36 => ?_)
        refine aw_iconst (q := 40) F dL_spring_39 rfl (by decide) ?_
        refine aw_iret F C dL_spring_40 rfl (Nat.le_refl _) (Nat.le_refl _) ?_
        first | (exfalso; omega) | exact h.now (by decide) (r1 (by omega)) | exact h.now (by decide) (r2 (by omega) (by omega))
      · refine aw_if_ne (q := 39) (t := 41) F dL_spring_36 rfl (by decide) (fun c36 => absurd c36 (by decide)) (fun c36 => ?_)
        refine aw_iconst (q := 40) F dL_spring_39 rfl (by decide) ?_
        refine aw_iret F C dL_spring_40 rfl (Nat.le_refl _) (Nat.le_refl _) ?_
        first | (exfalso; omega) | exact h.now (by decide) (r1 (by omega)) | exact h.now (by decide) (r2 (by omega) (by omega))
      · refine aw_if_ne (q := 39) (t := 41) F dL_spring_36 rfl (by decide) (fun c36 => absurd c36 (by decide)) (fun c36 => ?_)
        refine aw_iconst (q := 40) F dL_spring_39 rfl (by decide) ?_
        refine aw_iret F C dL_spring_40 rfl (Nat.le_refl _) (Nat.le_refl _) ?_
        first | (exfalso; omega) | exact h.now (by decide) (r1 (by omega)) | exact h.now (by decide) (r2 (by omega) (by omega))
end Acts2
