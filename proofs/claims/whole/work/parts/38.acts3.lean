def wyI (S : PS) : Int := if 0 < tDn (psT S) then (if (psI S).length < 3 then 0 else 3) else 1
section Acts3
variable {G : GE} {V : Nat → Nat → Int} {σ : Shp} {K : Option AV → Mem → Prop} {ow : Nat → Nat} {y : Dy} {S : PS} {kn : Bool}
theorem wL_undo (h : CW V σ ow y S kn) (hK : CK K V σ ow (ifS (wya True True (0 < (psP S).length)) (nUndo S) S) kn (some (vI (rfD (wya True True (0 < (psP S).length)) 1 0)))) : Wp G 2 mL_undo [vR 1] (V, σ) 0 0 K := by
  have hW := h.cs
  have hT := h.oT
  have hd4 : tDn (psT S) ≤ 4 := h.oT.2.1
  have hp2 : tPn (psT S) ≤ 2 := h.oT.2.2.1
  have h2 := h.tr (z := 0) (by decide)
  have hh2 := h.hh
  have hv := h.v0
  have hv1 := h.v1
  have ed : dN (psC S) = tDn (psT S) := rfl
  have ep : pN (psC S) = tPn (psT S) := rfl
  have hc := h.oT.okC h.oS
  have hsl : spc (psC S) ≤ 62500 := spc_le hc
  have hal := allP_lt hc
  obtain ⟨g, -, -, r3⟩ := g4 hK
  have hF8 := h.cf.2.2.2.2.1
  obtain ⟨-, -, -, -, o5, o6, -, -, o9⟩ := h.ok
  have hP := h.cr.2.2.2.1
  refine wp_intro mL_undo_i.1 [some (vR 1)] rfl rfl (Nat.le_of_ble_eq_true rfl) ?_
  intro X hG F C
  have hm := C.rm
  have go : 0 < (psP S).length → AW X 32 [some (vR 1)] [] (up2 V 1 2 0, σ) 0 0 := by
    intro hl
    have hd0 : 0 < tDn (psT S) := Nat.pos_of_ne_zero fun q => by rw [(o9 q).1] at hl; exact absurd hl (by decide)
    obtain ⟨s, hs⟩ : ∃ s, (psP S)[(psP S).length - 1]? = some s := ⟨_, List.getElem?_eq_getElem (by omega)⟩
    have hsm := o6 s (List.mem_of_getElem? hs)
    have hgd : (psP S).getD ((psP S).length - 1) (psS S) = s := by rw [List.getD_eq_getElem?_getD, hs]; rfl
    have hv16 := hP _ s hs
    have hcs := hT.okC hsm
    have hls : s.2.2 < spc (cfS (psT S) s) := hsm.2.2.2.1 hd0
    have hls2 : spc (cfS (psT S) s) ≤ 62500 := spc_le hcs
    obtain ⟨c3, f3⟩ := h2.pa (V' := up2 (up2 V 1 2 0) 1 8 ((psP S).length - 1 : Nat)) (L := (psP S).dropLast) (fun b q1 q2 => up2_nea _ _ q1) (fun j hj => up2_nek _ _ hj) (by rw [up2_same, List.length_dropLast]) (fun i s hi => by
      rw [List.getElem?_dropLast] at hi
      split at hi
      · rw [up2_nea _ _ (by decide), up2_nea _ _ (by decide)]; exact hP i s hi
      · cases hi) (by rw [List.length_dropLast]; omega) (fun s hs => o6 s (List.dropLast_subset _ hs)) (fun q => absurd (show tDn (psT S) = 0 from q) (by omega))
    have hw0 : HW0 (up2 (up2 V 1 2 0) 1 8 ((psP S).length - 1 : Nat)) 10 (cfS (psT S) s) := (show HH (up2 (up2 V 1 2 0) 1 8 ((psP S).length - 1 : Nat)) 10 (psC S) (psA S) from c3.hh).w0 hd0
    have e8 : up2 V 1 2 0 1 8 = ((psP S).length : Int) := by rw [up2_nek _ _ (by decide)]; exact hF8
    refine aw_aload_0 (q := 33) F dL_undo_32 rfl ?_
    refine aw_dup (q := 34) F dL_undo_33 rfl trivial ?_
    refine av_geti (q := 37) F fL_354 dL_undo_34 rfl rfl (by first | exact hW.o | exact hW.ho | exact hW.to | exact hW.a16 | exact hW.a17 | exact hW.h.a1) ?_
    rw [e8]
    refine aw_iconst (q := 38) F dL_undo_37 rfl (by decide) ?_
    refine aw_isub (q := 39) F dL_undo_38 rfl (by constructor <;> omega) ?_
    rw [show (((psP S).length : Nat) : Int) - 1 = (((psP S).length - 1 : Nat) : Int) by omega]
    refine av_puti (q := 42) F fL_354 dL_undo_39 rfl rfl (wr_7_8 _) (by first | exact hW.o | exact hW.ho | exact hW.to | exact hW.a16 | exact hW.a17 | exact hW.h.a1) ?_
    refine aw_aload_0 (q := 43) F dL_undo_42 rfl ?_
    refine av_getaE (q := 46) F fL_23 dL_undo_43 rfl rfl (by first | exact hW.o | exact hW.ho | exact hW.to | exact hW.a16 | exact hW.a17 | exact hW.h.a1) hW.p6 ?_
    refine aw_aload_0 (q := 47) F dL_undo_46 rfl ?_
    refine av_getaE (q := 50) F fL_27 dL_undo_47 rfl rfl (by first | exact hW.o | exact hW.ho | exact hW.to | exact hW.a16 | exact hW.a17 | exact hW.h.a1) hW.p7 ?_
    refine aw_aload_0 (q := 51) F dL_undo_50 rfl ?_
    refine av_geti (q := 54) F fL_354 dL_undo_51 rfl rfl (by first | exact hW.o | exact hW.ho | exact hW.to | exact hW.a16 | exact hW.a17 | exact hW.h.a1) ?_
    rw [up2_same]
    refine av_iaload (q := 55) F dL_undo_54 rfl (by first | exact hW.o | exact hW.ho | exact hW.to | exact hW.a16 | exact hW.a17 | exact hW.h.a1) (by omega) (by omega) ?_
    rw [Int.toNat_natCast, up2_nea _ _ (by decide), up2_nea _ _ (by decide), hv16]
    refine av_callV1 (q := 58) (ci := 2) F hm mH_load_i mH_load_n lL_357 dL_undo_55 rfl rfl rfl (by first | exact hW.o | exact hW.ho | exact hW.to | exact hW.a16 | exact hW.a17 | exact hW.h.a1) (by decide) (Nat.le_refl _) (Nat.le_refl _) (Nat.le_of_ble_eq_true rfl) (wH_load (c := cfS (psT S) s) (n := s.2.2) rfl (by omega) hW.h hcs hw0 (fun v55 l55 a55 => ?_))
    refine aw_iconst (q := 59) F dL_undo_58 rfl (by decide) ?_
    refine aw_zret F C dL_undo_59 rfl (by decide) (Nat.le_refl _) (Nat.le_refl _) ?_
    obtain ⟨q1, q2⟩ := c3.hl (s := s) (fun b hb => l55.1 b (by omega) (by omega) (by omega) (by omega)) a55 hsm
    unfold nUndo at g
    rw [hgd] at g
    exact g trivial trivial hl _ _ _ _ q1 ((h.fr.tr f3).tr q2)
  refine aw_aload_0 (q := 1) F dL_undo_0 rfl ?_
  refine aw_iconst (q := 2) F dL_undo_1 rfl (by decide) ?_
  refine aw_iconst (q := 3) F dL_undo_2 rfl (by decide) ?_
  refine aw_aload_0 (q := 4) F dL_undo_3 rfl ?_
  refine av_geti (q := 7) F fL_354 dL_undo_4 rfl rfl (by first | exact hW.o | exact hW.ho | exact hW.to | exact hW.a16 | exact hW.a17 | exact hW.h.a1) ?_
  refine aw_if_le (q := 10) (t := 23) F dL_undo_7 rfl (by decide) (fun c7 => ?_) (fun c7 => ?_)
  · refine aw_iconst (q := 24) F dL_undo_23 rfl (by decide) ?_
    refine av_callV3 (q := 27) (ci := 7) F hm mL_mayAct_i mL_mayAct_n lL_323 dL_undo_24 rfl rfl rfl (by first | exact hW.o | exact hW.ho | exact hW.to | exact hW.a16 | exact hW.a17 | exact hW.h.a1) (by decide) (Nat.le_refl _) (Nat.le_refl _) (Nat.le_of_ble_eq_true rfl) (wL_mayAct hW (fun c24 d24 e24 => ?_) (fun c24 => ?_) (fun c24 d24 => ?_) (fun c24 d24 e24 => ?_))
    · refine aw_if_ne (q := 30) (t := 32) F dL_undo_27 rfl (by decide) (fun c27 => ?_) (fun c27 => absurd c27 (by decide))
      first | (exfalso; omega) | exact go (by omega)
    · refine aw_if_ne (q := 30) (t := 32) F dL_undo_27 rfl (by decide) (fun c27 => absurd c27 (by decide)) (fun c27 => ?_)
      refine aw_iconst (q := 31) F dL_undo_30 rfl (by decide) ?_
      refine aw_zret F C dL_undo_31 rfl (by decide) (Nat.le_refl _) (Nat.le_refl _) ?_
      first | (exfalso; omega) | exact h.now (by decide) (r3 trivial trivial (by omega))
    · refine aw_if_ne (q := 30) (t := 32) F dL_undo_27 rfl (by decide) (fun c27 => absurd c27 (by decide)) (fun c27 => ?_)
      refine aw_iconst (q := 31) F dL_undo_30 rfl (by decide) ?_
      refine aw_zret F C dL_undo_31 rfl (by decide) (Nat.le_refl _) (Nat.le_refl _) ?_
      first | (exfalso; omega) | exact h.now (by decide) (r3 trivial trivial (by omega))
    · refine aw_if_ne (q := 30) (t := 32) F dL_undo_27 rfl (by decide) (fun c27 => absurd c27 (by decide)) (fun c27 => ?_)
      refine aw_iconst (q := 31) F dL_undo_30 rfl (by decide) ?_
      refine aw_zret F C dL_undo_31 rfl (by decide) (Nat.le_refl _) (Nat.le_refl _) ?_
      first | (exfalso; omega) | exact h.now (by decide) (r3 trivial trivial (by omega))
  · refine aw_aload_0 (q := 11) F dL_undo_10 rfl ?_
    refine av_geti (q := 14) F fL_354 dL_undo_11 rfl rfl (by first | exact hW.o | exact hW.ho | exact hW.to | exact hW.a16 | exact hW.a17 | exact hW.h.a1) ?_
    refine aw_bipush (q := 16) F dL_undo_14 rfl (by decide) ?_
    refine aw_icmp_gt (q := 19) (t := 23) F dL_undo_16 rfl (by decide) (fun c16 => ?_) (fun c16 => ?_)
    · refine aw_iconst (q := 24) F dL_undo_23 rfl (by decide) ?_
      refine av_callV3 (q := 27) (ci := 7) F hm mL_mayAct_i mL_mayAct_n lL_323 dL_undo_24 rfl rfl rfl (by first | exact hW.o | exact hW.ho | exact hW.to | exact hW.a16 | exact hW.a17 | exact hW.h.a1) (by decide) (Nat.le_refl _) (Nat.le_refl _) (Nat.le_of_ble_eq_true rfl) (wL_mayAct hW (fun c24 d24 e24 => ?_) (fun c24 => ?_) (fun c24 d24 => ?_) (fun c24 d24 e24 => ?_))
      · refine aw_if_ne (q := 30) (t := 32) F dL_undo_27 rfl (by decide) (fun c27 => ?_) (fun c27 => absurd c27 (by decide))
        first | (exfalso; omega) | exact go (by omega)
      · refine aw_if_ne (q := 30) (t := 32) F dL_undo_27 rfl (by decide) (fun c27 => absurd c27 (by decide)) (fun c27 => ?_)
        refine aw_iconst (q := 31) F dL_undo_30 rfl (by decide) ?_
        refine aw_zret F C dL_undo_31 rfl (by decide) (Nat.le_refl _) (Nat.le_refl _) ?_
        first | (exfalso; omega) | exact h.now (by decide) (r3 trivial trivial (by omega))
      · refine aw_if_ne (q := 30) (t := 32) F dL_undo_27 rfl (by decide) (fun c27 => absurd c27 (by decide)) (fun c27 => ?_)
        refine aw_iconst (q := 31) F dL_undo_30 rfl (by decide) ?_
        refine aw_zret F C dL_undo_31 rfl (by decide) (Nat.le_refl _) (Nat.le_refl _) ?_
        first | (exfalso; omega) | exact h.now (by decide) (r3 trivial trivial (by omega))
      · refine aw_if_ne (q := 30) (t := 32) F dL_undo_27 rfl (by decide) (fun c27 => absurd c27 (by decide)) (fun c27 => ?_)
        refine aw_iconst (q := 31) F dL_undo_30 rfl (by decide) ?_
        refine aw_zret F C dL_undo_31 rfl (by decide) (Nat.le_refl _) (Nat.le_refl _) ?_
        first | (exfalso; omega) | exact h.now (by decide) (r3 trivial trivial (by omega))
    · refine aw_iconst (q := 20) F dL_undo_19 rfl (by decide) ?_
      refine aw_goto (t := 24) F dL_undo_20 (by decide) ?_
      refine av_callV3 (q := 27) (ci := 7) F hm mL_mayAct_i mL_mayAct_n lL_323 dL_undo_24 rfl rfl rfl (by first | exact hW.o | exact hW.ho | exact hW.to | exact hW.a16 | exact hW.a17 | exact hW.h.a1) (by decide) (Nat.le_refl _) (Nat.le_refl _) (Nat.le_of_ble_eq_true rfl) (wL_mayAct hW (fun c24 d24 e24 => ?_) (fun c24 => ?_) (fun c24 d24 => ?_) (fun c24 d24 e24 => ?_))
      · refine aw_if_ne (q := 30) (t := 32) F dL_undo_27 rfl (by decide) (fun c27 => ?_) (fun c27 => absurd c27 (by decide))
        first | (exfalso; omega) | exact go (by omega)
      · refine aw_if_ne (q := 30) (t := 32) F dL_undo_27 rfl (by decide) (fun c27 => absurd c27 (by decide)) (fun c27 => ?_)
        refine aw_iconst (q := 31) F dL_undo_30 rfl (by decide) ?_
        refine aw_zret F C dL_undo_31 rfl (by decide) (Nat.le_refl _) (Nat.le_refl _) ?_
        first | (exfalso; omega) | exact h.now (by decide) (r3 trivial trivial (by omega))
      · refine aw_if_ne (q := 30) (t := 32) F dL_undo_27 rfl (by decide) (fun c27 => absurd c27 (by decide)) (fun c27 => ?_)
        refine aw_iconst (q := 31) F dL_undo_30 rfl (by decide) ?_
        refine aw_zret F C dL_undo_31 rfl (by decide) (Nat.le_refl _) (Nat.le_refl _) ?_
        first | (exfalso; omega) | exact h.now (by decide) (r3 trivial trivial (by omega))
      · refine aw_if_ne (q := 30) (t := 32) F dL_undo_27 rfl (by decide) (fun c27 => absurd c27 (by decide)) (fun c27 => ?_)
        refine aw_iconst (q := 31) F dL_undo_30 rfl (by decide) ?_
        refine aw_zret F C dL_undo_31 rfl (by decide) (Nat.le_refl _) (Nat.le_refl _) ?_
        first | (exfalso; omega) | exact h.now (by decide) (r3 trivial trivial (by omega))
theorem wL_image (h : CW V σ ow y S kn) (hK : CK K V σ ow (ifS (wyI S) (nImg S) S) kn (some (vI (rfD (wyI S) (psI S).length (-1))))) : Wp G 1 mL_image [vR 1] (V, σ) 0 0 K := by
  have hW := h.cs
  have hT := h.oT
  have hd4 : tDn (psT S) ≤ 4 := h.oT.2.1
  have hp2 : tPn (psT S) ≤ 2 := h.oT.2.2.1
  have h2 := h.tr (z := 0) (by decide)
  have hh2 := h.hh
  have hv := h.v0
  have hv1 := h.v1
  have ed : dN (psC S) = tDn (psT S) := rfl
  have ep : pN (psC S) = tPn (psT S) := rfl
  have hc := h.oT.okC h.oS
  have hsl : spc (psC S) ≤ 62500 := spc_le hc
  have hal := allP_lt hc
  have hT1 : V (dT y) 1 = tDn (psT S) := h.tv.1.2.1
  have hF10 := h.cf.2.2.2.2.2
  obtain ⟨-, -, -, -, -, -, o7, o8, -⟩ := h.ok
  have hP := h.cr.2.2.2.2.1
  have g : 0 < tDn (psT S) → (psI S).length < 3 → CK K V σ ow (nImg S) kn (some (vI (psI S).length)) := fun a b => by unfold wyI at hK; rw [if_pos a, if_pos b] at hK; exact hK
  have r1 : ¬ 0 < tDn (psT S) → CK K V σ ow (setR S 1) kn (some (vI (-1))) := fun a => by unfold wyI at hK; rw [if_neg a] at hK; exact hK
  have r3 : 0 < tDn (psT S) → ¬ (psI S).length < 3 → CK K V σ ow (setR S 3) kn (some (vI (-1))) := fun a b => by unfold wyI at hK; rw [if_pos a, if_neg b] at hK; exact hK
  refine wp_intro mL_image_i.1 [some (vR 1)] rfl rfl (Nat.le_of_ble_eq_true rfl) ?_
  intro X hG F C
  have hm := C.rm
  refine aw_aload_0 (q := 1) F dL_image_0 rfl ?_
  refine av_callV0 (q := 4) (ci := 7) F hm mL_hasLane_i mL_hasLane_n lL_154 dL_image_1 rfl rfl rfl (by first | exact hW.o | exact hW.ho | exact hW.to | exact hW.a16 | exact hW.a17 | exact hW.h.a1) (by decide) (Nat.le_refl _) (Nat.le_refl _) (Nat.le_of_ble_eq_true rfl) (wL_hasLane hW (fun c1 => ?_) (fun c1 => ?_))
  · refine aw_if_ne (q := 7) (t := 13) F dL_image_4 rfl (by decide) (fun c4 => ?_) (fun c4 => absurd c4 (by decide))
    refine aw_aload_0 (q := 14) F dL_image_13 rfl ?_
    refine av_geti (q := 17) F fL_360 dL_image_14 rfl rfl (by first | exact hW.o | exact hW.ho | exact hW.to | exact hW.a16 | exact hW.a17 | exact hW.h.a1) ?_
    refine aw_iconst (q := 18) F dL_image_17 rfl (by decide) ?_
    refine aw_icmp_lt (q := 21) (t := 27) F dL_image_18 rfl (by decide) (fun c18 => ?_) (fun c18 => ?_)
    · refine aw_aload_0 (q := 28) F dL_image_27 rfl ?_
      refine aw_iconst (q := 29) F dL_image_28 rfl (by decide) ?_
      refine av_puti (q := 32) F fL_99 dL_image_29 rfl rfl (wr_7_2 _) (by first | exact hW.o | exact hW.ho | exact hW.to | exact hW.a16 | exact hW.a17 | exact hW.h.a1) ?_
      refine aw_aload_0 (q := 33) F dL_image_32 rfl ?_
      refine av_getaE (q := 36) F fL_31 dL_image_33 rfl rfl (by first | exact hW.o | exact hW.ho | exact hW.to | exact hW.a16 | exact hW.a17 | exact hW.h.a1) hW.p9 ?_
      refine aw_aload_0 (q := 37) F dL_image_36 rfl ?_
      refine av_geti (q := 40) F fL_360 dL_image_37 rfl rfl (by first | exact hW.o | exact hW.ho | exact hW.to | exact hW.a16 | exact hW.a17 | exact hW.h.a1) ?_
      rw [up2_nek _ _ (by decide), hF10]
      refine aw_aload_0 (q := 41) F dL_image_40 rfl ?_
      refine av_getaE (q := 44) F fL_23 dL_image_41 rfl rfl (by first | exact hW.o | exact hW.ho | exact hW.to | exact hW.a16 | exact hW.a17 | exact hW.h.a1) hW.p6 ?_
      refine av_callV0 (q := 47) (ci := 2) F hm mH_scene_i mH_scene_n lL_197 dL_image_44 rfl rfl rfl (by first | exact hW.o | exact hW.ho | exact hW.to | exact hW.a16 | exact hW.a17 | exact hW.h.a1) (by decide) (Nat.le_refl _) (Nat.le_refl _) (Nat.le_of_ble_eq_true rfl) (wH_scene (c := psC S) (n := psA S) (by have h1 : psA S < spc (psC S) := h.oS.2.2.2.1 (by omega); omega) hW.h (show HH (up2 V 1 2 0) 10 (psC S) (psA S) from h2.hh) ?_)
      refine av_iastore (q := 48) F dL_image_47 rfl (by first | exact hW.o | exact hW.ho | exact hW.to | exact hW.a16 | exact hW.a17 | exact hW.h.a1) (by omega) (by omega) ?_
      refine aw_aload_0 (q := 49) F dL_image_48 rfl ?_
      refine aw_dup (q := 50) F dL_image_49 rfl trivial ?_
      refine av_geti (q := 53) F fL_360 dL_image_50 rfl rfl (by first | exact hW.o | exact hW.ho | exact hW.to | exact hW.a16 | exact hW.a17 | exact hW.h.a1) ?_
      rw [up2_nea _ _ (by decide), up2_nek _ _ (by decide), hF10]
      refine aw_iconst (q := 54) F dL_image_53 rfl (by decide) ?_
      refine aw_iadd (q := 55) F dL_image_54 rfl (by constructor <;> omega) ?_
      refine av_puti (q := 58) F fL_360 dL_image_55 rfl rfl (wr_7_10 _) (by first | exact hW.o | exact hW.ho | exact hW.to | exact hW.a16 | exact hW.a17 | exact hW.h.a1) ?_
      refine aw_aload_0 (q := 59) F dL_image_58 rfl ?_
      refine av_geti (q := 62) F fL_360 dL_image_59 rfl rfl (by first | exact hW.o | exact hW.ho | exact hW.to | exact hW.a16 | exact hW.a17 | exact hW.h.a1) ?_
      rw [up2_same]
      refine aw_iconst (q := 63) F dL_image_62 rfl (by decide) ?_
      refine aw_isub (q := 64) F dL_image_63 rfl (by constructor <;> omega) ?_
      refine aw_iret F C dL_image_64 rfl (Nat.le_refl _) (Nat.le_refl _) ?_
      obtain ⟨c3, f3⟩ := h2.im (V' := up2 (up2 (up2 V 1 2 0) 17 (psI S).length (scN (psC S) (psA S))) 1 10 ((psI S).length + 1)) (L := psI S ++ [psS S]) (fun b q1 q2 => by rw [up2_nea _ _ q1, up2_nea _ _ q2]) (fun j hj => by rw [up2_nek _ _ hj, up2_nea _ _ (by decide)]) (by rw [up2_same]; simp) (fun i s hi => by
        rw [up2_nea _ _ (by decide)]
        by_cases e : i = (psI S).length
        · subst e
          rw [up2_same]
          rw [List.getElem?_append_right (Nat.le_refl _), Nat.sub_self] at hi
          cases hi
          rfl
        · have hlt := (List.getElem?_eq_some_iff.mp hi).1
          simp at hlt
          rw [up2_nek _ _ e, up2_nea _ _ (by decide)]
          rw [List.getElem?_append_left (by omega)] at hi
          exact hP i s hi) (by simp; omega) (fun s hs => by
        rcases List.mem_append.mp hs with hs | hs
        · exact o8 s hs
        · rw [List.mem_singleton.mp hs]; exact h.oS) (fun q => absurd (show tDn (psT S) = 0 from q) (by omega))
      exact kI (g (by omega) (by omega) _ _ _ _ c3 (h.fr.tr f3)) (by omega)
    · refine aw_aload_0 (q := 22) F dL_image_21 rfl ?_
      refine aw_iconst (q := 23) F dL_image_22 rfl (by decide) ?_
      refine av_callV1 (q := 26) (ci := 7) F hm mL_refuse_i mL_refuse_n lL_76 dL_image_23 rfl rfl rfl (by first | exact hW.o | exact hW.ho | exact hW.to | exact hW.a16 | exact hW.a17 | exact hW.h.a1) (by decide) (Nat.le_refl _) (Nat.le_refl _) (Nat.le_of_ble_eq_true rfl) (wL_refuse hW ?_)
      refine aw_iret F C dL_image_26 rfl (Nat.le_refl _) (Nat.le_refl _) ?_
      exact h.now (by decide) (r3 (by omega) (by omega))
  · refine aw_if_ne (q := 7) (t := 13) F dL_image_4 rfl (by decide) (fun c4 => absurd c4 (by decide)) (fun c4 => ?_)
    refine aw_aload_0 (q := 8) F dL_image_7 rfl ?_
    refine aw_iconst (q := 9) F dL_image_8 rfl (by decide) ?_
    refine av_callV1 (q := 12) (ci := 7) F hm mL_refuse_i mL_refuse_n lL_76 dL_image_9 rfl rfl rfl (by first | exact hW.o | exact hW.ho | exact hW.to | exact hW.a16 | exact hW.a17 | exact hW.h.a1) (by decide) (Nat.le_refl _) (Nat.le_refl _) (Nat.le_of_ble_eq_true rfl) (wL_refuse hW ?_)
    refine aw_iret F C dL_image_12 rfl (Nat.le_refl _) (Nat.le_refl _) ?_
    exact h.now (by decide) (r1 (by omega))
theorem wL_back {x : Int} (h : CW V σ ow y S kn) (hK : CK K V σ ow (ifS (wy (0 ≤ x ∧ x < (psI S).length) True) (nBack S x.toNat) S) kn (some (vI (rfD (wy (0 ≤ x ∧ x < (psI S).length) True) 1 0)))) : Wp G 2 mL_back [vR 1, vI x] (V, σ) 0 0 K := by
  have hW := h.cs
  have hT := h.oT
  have hd4 : tDn (psT S) ≤ 4 := h.oT.2.1
  have hp2 : tPn (psT S) ≤ 2 := h.oT.2.2.1
  have h2 := h.tr (z := 0) (by decide)
  have hh2 := h.hh
  have hv := h.v0
  have hv1 := h.v1
  have ed : dN (psC S) = tDn (psT S) := rfl
  have ep : pN (psC S) = tPn (psT S) := rfl
  have hc := h.oT.okC h.oS
  have hsl : spc (psC S) ≤ 62500 := spc_le hc
  have hal := allP_lt hc
  have hF10 := h.cf.2.2.2.2.2
  obtain ⟨-, -, -, -, -, -, o7, o8, o9⟩ := h.ok
  have hP := h.cr.2.2.2.2.1
  have g : 0 ≤ x ∧ x < (psI S).length → CK K V σ ow (nBack S x.toNat) kn (some (vI 1)) := fun a => by rw [wy_1 a trivial] at hK; exact hK
  have r1 : ¬ (0 ≤ x ∧ x < (psI S).length) → CK K V σ ow (setR S 1) kn (some (vI 0)) := fun a => by rw [wy_2 a] at hK; exact hK
  refine wp_intro mL_back_i.1 [some (vR 1), some (vI x)] rfl rfl (Nat.le_of_ble_eq_true rfl) ?_
  intro X hG F C
  have hm := C.rm
  have go : 0 ≤ x ∧ x < (psI S).length → AW X 27 [some (vR 1), some (vI x)] [] (up2 V 1 2 0, σ) 0 0 := by
    intro hl
    have hd0 : 0 < tDn (psT S) := Nat.pos_of_ne_zero fun q => by rw [(o9 q).2] at hl; exact absurd hl.2 (by show ¬ x < 0; omega)
    obtain ⟨s, hs⟩ : ∃ s, (psI S)[x.toNat]? = some s := ⟨_, List.getElem?_eq_getElem (by omega)⟩
    have hsm := o8 s (List.mem_of_getElem? hs)
    have hgd : (psI S).getD x.toNat (psS S) = s := by rw [List.getD_eq_getElem?_getD, hs]; rfl
    have hv17 := hP _ s hs
    have hcs := hT.okC hsm
    have hls : s.2.2 < spc (cfS (psT S) s) := hsm.2.2.2.1 hd0
    have hls2 : spc (cfS (psT S) s) ≤ 62500 := spc_le hcs
    have hw0 : HW0 (up2 V 1 2 0) 10 (cfS (psT S) s) := (show HH (up2 V 1 2 0) 10 (psC S) (psA S) from h2.hh).w0 hd0
    refine aw_aload_0 (q := 28) F dL_back_27 rfl ?_
    refine av_getaE (q := 31) F fL_23 dL_back_28 rfl rfl (by first | exact hW.o | exact hW.ho | exact hW.to | exact hW.a16 | exact hW.a17 | exact hW.h.a1) hW.p6 ?_
    refine aw_aload_0 (q := 32) F dL_back_31 rfl ?_
    refine av_getaE (q := 35) F fL_31 dL_back_32 rfl rfl (by first | exact hW.o | exact hW.ho | exact hW.to | exact hW.a16 | exact hW.a17 | exact hW.h.a1) hW.p9 ?_
    refine aw_iload_1 (q := 36) F dL_back_35 rfl ?_
    refine av_iaload (q := 37) F dL_back_36 rfl (by first | exact hW.o | exact hW.ho | exact hW.to | exact hW.a16 | exact hW.a17 | exact hW.h.a1) (by omega) (by omega) ?_
    rw [up2_nea _ _ (by decide), hv17]
    refine av_callV1 (q := 40) (ci := 2) F hm mH_load_i mH_load_n lL_357 dL_back_37 rfl rfl rfl (by first | exact hW.o | exact hW.ho | exact hW.to | exact hW.a16 | exact hW.a17 | exact hW.h.a1) (by decide) (Nat.le_refl _) (Nat.le_refl _) (Nat.le_of_ble_eq_true rfl) (wH_load (c := cfS (psT S) s) (n := s.2.2) rfl (by omega) hW.h hcs hw0 (fun v37 l37 a37 => ?_))
    refine aw_aload_0 (q := 41) F dL_back_40 rfl ?_
    refine aw_iconst (q := 42) F dL_back_41 rfl (by decide) ?_
    refine av_puti (q := 45) F fL_354 dL_back_42 rfl rfl (wr_7_8 _) (by first | exact hW.o | exact hW.ho | exact hW.to | exact hW.a16 | exact hW.a17 | exact hW.h.a1) ?_
    refine aw_iconst (q := 46) F dL_back_45 rfl (by decide) ?_
    refine aw_zret F C dL_back_46 rfl (by decide) (Nat.le_refl _) (Nat.le_refl _) ?_
    obtain ⟨q1, q2⟩ := h2.hl (s := s) (fun b hb => l37.1 b (by omega) (by omega) (by omega) (by omega)) a37 hsm
    obtain ⟨q3, q4⟩ := q1.pa (V' := up2 v37 1 8 0) (L := []) (fun b b1 b2 => up2_nea _ _ b1) (fun j hj => up2_nek _ _ hj) (up2_same _ _ _ _) (fun i s hi => by cases hi) (by decide) (fun s hs => by cases hs) (fun _ => rfl)
    unfold nBack at g
    rw [hgd] at g
    exact g hl _ _ _ _ q3 ((h.fr.tr q2).tr q4)
  refine aw_aload_0 (q := 1) F dL_back_0 rfl ?_
  refine aw_iload_1 (q := 2) F dL_back_1 rfl ?_
  refine aw_if_lt (q := 5) (t := 17) F dL_back_2 rfl (by decide) (fun c2 => ?_) (fun c2 => ?_)
  · refine aw_iconst (q := 18) F dL_back_17 rfl (by decide) ?_
    refine aw_iconst (q := 19) F dL_back_18 rfl (by decide) ?_
    refine av_callV2 (q := 22) (ci := 7) F hm mL_passes_i mL_passes_n lL_114 dL_back_19 rfl rfl rfl (by first | exact hW.o | exact hW.ho | exact hW.to | exact hW.a16 | exact hW.a17 | exact hW.h.a1) (by decide) (Nat.le_refl _) (Nat.le_refl _) (Nat.le_of_ble_eq_true rfl) (wL_passes hW (fun c19 d19 => ?_) (fun c19 => ?_) (fun c19 d19 => ?_))
    · refine aw_if_ne (q := 25) (t := 27) F dL_back_22 rfl (by decide) (fun c22 => ?_) (fun c22 => absurd c22 (by decide))
      first | (exfalso; omega) | exact go (by omega)
    · refine aw_if_ne (q := 25) (t := 27) F dL_back_22 rfl (by decide) (fun c22 => absurd c22 (by decide)) (fun c22 => ?_)
      refine aw_iconst (q := 26) F dL_back_25 rfl (by decide) ?_
      refine aw_zret F C dL_back_26 rfl (by decide) (Nat.le_refl _) (Nat.le_refl _) ?_
      first | (exfalso; omega) | exact h.now (by decide) (r1 (by omega))
    · refine aw_if_ne (q := 25) (t := 27) F dL_back_22 rfl (by decide) (fun c22 => absurd c22 (by decide)) (fun c22 => ?_)
      refine aw_iconst (q := 26) F dL_back_25 rfl (by decide) ?_
      refine aw_zret F C dL_back_26 rfl (by decide) (Nat.le_refl _) (Nat.le_refl _) ?_
      first | (exfalso; omega) | exact h.now (by decide) (r1 (by omega))
  · refine aw_iload_1 (q := 6) F dL_back_5 rfl ?_
    refine aw_aload_0 (q := 7) F dL_back_6 rfl ?_
    refine av_geti (q := 10) F fL_360 dL_back_7 rfl rfl (by first | exact hW.o | exact hW.ho | exact hW.to | exact hW.a16 | exact hW.a17 | exact hW.h.a1) ?_
    refine aw_icmp_ge (q := 13) (t := 17) F dL_back_10 rfl (by decide) (fun c10 => ?_) (fun c10 => ?_)
    · refine aw_iconst (q := 18) F dL_back_17 rfl (by decide) ?_
      refine aw_iconst (q := 19) F dL_back_18 rfl (by decide) ?_
      refine av_callV2 (q := 22) (ci := 7) F hm mL_passes_i mL_passes_n lL_114 dL_back_19 rfl rfl rfl (by first | exact hW.o | exact hW.ho | exact hW.to | exact hW.a16 | exact hW.a17 | exact hW.h.a1) (by decide) (Nat.le_refl _) (Nat.le_refl _) (Nat.le_of_ble_eq_true rfl) (wL_passes hW (fun c19 d19 => ?_) (fun c19 => ?_) (fun c19 d19 => ?_))
      · refine aw_if_ne (q := 25) (t := 27) F dL_back_22 rfl (by decide) (fun c22 => ?_) (fun c22 => absurd c22 (by decide))
        first | (exfalso; omega) | exact go (by omega)
      · refine aw_if_ne (q := 25) (t := 27) F dL_back_22 rfl (by decide) (fun c22 => absurd c22 (by decide)) (fun c22 => ?_)
        refine aw_iconst (q := 26) F dL_back_25 rfl (by decide) ?_
        refine aw_zret F C dL_back_26 rfl (by decide) (Nat.le_refl _) (Nat.le_refl _) ?_
        first | (exfalso; omega) | exact h.now (by decide) (r1 (by omega))
      · refine aw_if_ne (q := 25) (t := 27) F dL_back_22 rfl (by decide) (fun c22 => absurd c22 (by decide)) (fun c22 => ?_)
        refine aw_iconst (q := 26) F dL_back_25 rfl (by decide) ?_
        refine aw_zret F C dL_back_26 rfl (by decide) (Nat.le_refl _) (Nat.le_refl _) ?_
        first | (exfalso; omega) | exact h.now (by decide) (r1 (by omega))
    · refine aw_iconst (q := 14) F dL_back_13 rfl (by decide) ?_
      refine aw_goto (t := 18) F dL_back_14 (by decide) ?_
      refine aw_iconst (q := 19) F dL_back_18 rfl (by decide) ?_
      refine av_callV2 (q := 22) (ci := 7) F hm mL_passes_i mL_passes_n lL_114 dL_back_19 rfl rfl rfl (by first | exact hW.o | exact hW.ho | exact hW.to | exact hW.a16 | exact hW.a17 | exact hW.h.a1) (by decide) (Nat.le_refl _) (Nat.le_refl _) (Nat.le_of_ble_eq_true rfl) (wL_passes hW (fun c19 d19 => ?_) (fun c19 => ?_) (fun c19 d19 => ?_))
      · refine aw_if_ne (q := 25) (t := 27) F dL_back_22 rfl (by decide) (fun c22 => ?_) (fun c22 => absurd c22 (by decide))
        first | (exfalso; omega) | exact go (by omega)
      · refine aw_if_ne (q := 25) (t := 27) F dL_back_22 rfl (by decide) (fun c22 => absurd c22 (by decide)) (fun c22 => ?_)
        refine aw_iconst (q := 26) F dL_back_25 rfl (by decide) ?_
        refine aw_zret F C dL_back_26 rfl (by decide) (Nat.le_refl _) (Nat.le_refl _) ?_
        first | (exfalso; omega) | exact h.now (by decide) (r1 (by omega))
      · refine aw_if_ne (q := 25) (t := 27) F dL_back_22 rfl (by decide) (fun c22 => absurd c22 (by decide)) (fun c22 => ?_)
        refine aw_iconst (q := 26) F dL_back_25 rfl (by decide) ?_
        refine aw_zret F C dL_back_26 rfl (by decide) (Nat.le_refl _) (Nat.le_refl _) ?_
        first | (exfalso; omega) | exact h.now (by decide) (r1 (by omega))
end Acts3
