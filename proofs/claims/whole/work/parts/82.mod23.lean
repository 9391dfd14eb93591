section Mod23
variable {G : GE} {V V' V1 V2 : Nat → Nat → Int} {σ : Shp} {K : Option AV → Mem → Prop} {l : Nat} {c : Cfg} {n : Nat} {S : PS}
theorem getD_some {L : List Sc} {i : Nat} {s d : Sc} (h : L[i]? = some s) : L.getD i d = s := by rw [List.getD_eq_getElem?_getD, h]; rfl
theorem wM_undo (h : MW V σ l S) (hok : okP (ifS (wya True True (0 < (psP S).length)) (nUndo S) S)) (hK : MK K V σ l (ifS (wya True True (0 < (psP S).length)) (nUndo S) S) (some (vI (rfD (wya True True (0 < (psP S).length)) 1 0)))) : Wp G 2 mM_undo [vR 53] (V, σ) 0 0 K := by
  obtain ⟨g, -, -, r6⟩ := m4 hok hK
  have hM := h.mo
  have hlen : (psP S).length ≤ 16 := h.1.2.2.2.2.1
  have hz : l = 0 → ¬ 0 < (psP S).length := fun e => by rw [(h.1.2.2.2.2.2.2.2.2 (h.zer e)).1]; decide
  have e19 : up2 V 53 0 0 53 19 = (psP S).length := h.th.f.2.2.2.2.1
  refine wp_intro mM_undo_i.1 [some (vR 53), none] rfl rfl (Nat.le_of_ble_eq_true rfl) ?_
  intro X hG F C
  have hm := C.rm
  have copy : ∀ (m : Nat) (Vb : Nat → Nat → Int), m + 1 = (psP S).length → l ≠ 0 → (∀ b, b ≠ 53 → Vb b = V b) → (∀ j, j ≠ 0 → j ≠ 19 → j ≠ 26 → Vb 53 j = V 53 j) → Vb 53 19 = m → Vb 53 26 = 0 → ∀ (j k : Nat), k + j = 12 → ∀ (V2 : Nat → Nat → Int) (z : Int), z = k → (∀ b, b ≠ 55 → V2 b = Vb b) → (∀ i, i < k → V2 55 i = V 57 (12 * m + i)) → AW X 43 [some (vR 53), some (vI z)] [] (V2, σ) 0 0 := by
    intro m Vb hmm hl0 b1 b2 b3 b4 j
    have hd := h.pos hl0
    have hq := List.getElem?_eq_getElem (show m < (psP S).length by omega)
    generalize (psP S)[m] = s' at hq
    induction j with
    | zero =>
      intro k hk V2 z hz f1 f2
      obtain ⟨ok, g'⟩ := g trivial trivial (by omega)
      have eS : nUndo S = scS (paS (setR S 0) (psP S).dropLast) s' := by unfold nUndo; rw [show (psP S).length - 1 = m by omega, getD_some hq]
      rw [eS] at ok g'
      refine aw_iload_1 (q := 44) F dM_undo_43 rfl ?_
      refine aw_bipush (q := 46) F dM_undo_44 rfl (by decide) ?_
      refine aw_icmp_ge (q := 49) (t := 75) F dM_undo_46 rfl (by decide) (fun c46 => ?_) (fun c46 => by omega)
      refine aw_aload_0 (q := 76) F dM_undo_75 rfl ?_
      refine av_callV0 (q := 79) (ci := 9) F hm mM_granted_i mM_granted_n lM_508 dM_undo_76 rfl rfl rfl (by first | exact hM.o | exact hl.o | exact hM.a55 | exact hM.a56 | exact hM.a57 | exact hM.a58) (by decide) (Nat.le_refl _) (Nat.le_refl _) (Nat.le_of_ble_eq_true rfl) (wM_granted hM ?_)
      refine aw_zret F C dM_undo_79 rfl (by decide) (Nat.le_refl _) (Nat.le_refl _) ?_
      have ee : ∀ b, b ≠ 53 → b ≠ 55 → up2 (up2 V2 53 1 0) 53 2 (-1) b = V b := fun b h1 h2 => by rw [up2_nea _ _ h1, up2_nea _ _ h1, f1 b h2, b1 b h1]
      have ef : ∀ j, j ≠ 0 → j ≠ 1 → j ≠ 2 → j ≠ 19 → j ≠ 26 → up2 (up2 V2 53 1 0) 53 2 (-1) 53 j = V 53 j := fun j h0 h1 h2 h3 h4 => by rw [up2_nek _ _ h2, up2_nek _ _ h1, f1 53 (by decide), b2 j h0 h3 h4]
      obtain ⟨h1, h2, h3, h4, h5, h6, h7⟩ := h
      obtain ⟨a1, a2, a3, a4, a5, a6⟩ := h4 hd
      refine g' _ ⟨ok, h2, h3, fun _ => ⟨a1, a2, ?_, a4.same (fun i hi => ee _ (by omega) (by omega)), fun i s hs => ?_, fun i s hs => by rw [ee 58 (by decide) (by decide)]; exact a6 i s hs⟩, ?_, ?_, ?_⟩ (fun b hb => ee b (by omega) (by omega))
      · rw [up2_nea _ _ (by decide), up2_nea _ _ (by decide)]
        exact (a5 m s' hq).same fun k hk => f2 k (by omega)
      · rw [ee 57 (by decide) (by decide)]
        have hs2 : ((psP S).dropLast)[i]? = some s := hs
        have hil := (List.getElem?_eq_some_iff.mp hs2).1
        rw [List.length_dropLast] at hil
        rw [List.getElem?_dropLast, if_pos (by omega)] at hs2
        exact a5 i s hs2
      · rw [ee 54 (by decide) (by decide)]; exact h5
      · unfold MWf
        rw [ef 6 (by decide) (by decide) (by decide) (by decide) (by decide), ef 12 (by decide) (by decide) (by decide) (by decide) (by decide), ef 20 (by decide) (by decide) (by decide) (by decide) (by decide)]
        refine ⟨by rw [up2_nek _ _ (by decide), up2_same]; rfl, by rw [up2_same]; rfl, h6.2.2.1, h6.2.2.2.1, ?_, h6.2.2.2.2.2⟩
        rw [up2_nek _ _ (by decide), up2_nek _ _ (by decide), f1 53 (by decide), b3]
        show (m : Int) = (((psP S).dropLast).length : Int)
        rw [List.length_dropLast]
        omega
      · left
        rw [up2_nek _ _ (by decide), up2_nek _ _ (by decide), f1 53 (by decide)]
        exact b4
    | succ j ih =>
      intro k hk V2 z hz f1 f2
      have e19' : V2 53 19 = m := by rw [f1 53 (by decide)]; exact b3
      have e57 : V2 57 = V 57 := by rw [f1 57 (by decide)]; exact b1 57 (by decide)
      refine aw_iload_1 (q := 44) F dM_undo_43 rfl ?_
      refine aw_bipush (q := 46) F dM_undo_44 rfl (by decide) ?_
      refine aw_icmp_ge (q := 49) (t := 75) F dM_undo_46 rfl (by decide) (fun c46 => by omega) (fun c46 => ?_)
      refine aw_aload_0 (q := 50) F dM_undo_49 rfl ?_
      refine av_getaE (q := 53) F fM_17 dM_undo_50 rfl rfl (by first | exact hM.o | exact hl.o | exact hM.a55 | exact hM.a56 | exact hM.a57 | exact hM.a58) hM.p15 ?_
      refine aw_iload_1 (q := 54) F dM_undo_53 rfl ?_
      refine aw_aload_0 (q := 55) F dM_undo_54 rfl ?_
      refine av_getaE (q := 58) F fM_24 dM_undo_55 rfl rfl (by first | exact hM.o | exact hl.o | exact hM.a55 | exact hM.a56 | exact hM.a57 | exact hM.a58) hM.p17 ?_
      refine aw_bipush (q := 60) F dM_undo_58 rfl (by decide) ?_
      refine aw_aload_0 (q := 61) F dM_undo_60 rfl ?_
      refine av_geti (q := 64) F fM_290 dM_undo_61 rfl rfl (by first | exact hM.o | exact hl.o | exact hM.a55 | exact hM.a56 | exact hM.a57 | exact hM.a58) ?_
      rw [e19']
      refine aw_imul (q := 65) F dM_undo_64 rfl (by constructor <;> omega) ?_
      refine aw_iload_1 (q := 66) F dM_undo_65 rfl ?_
      refine aw_iadd (q := 67) F dM_undo_66 rfl (by constructor <;> omega) ?_
      refine av_iaload (q := 68) F dM_undo_67 rfl (by first | exact hM.o | exact hl.o | exact hM.a55 | exact hM.a56 | exact hM.a57 | exact hM.a58) (by omega) (by omega) ?_
      rw [e57, show (12 * (m : Int) + z).toNat = 12 * m + k by omega]
      refine av_iastore (q := 69) F dM_undo_68 rfl (by first | exact hM.o | exact hl.o | exact hM.a55 | exact hM.a56 | exact hM.a57 | exact hM.a58) (by omega) (by omega) ?_
      refine aw_iinc_1 (q := 72) F dM_undo_69 rfl trivial (by constructor <;> omega) ?_
      refine aw_goto (t := 43) F dM_undo_72 (by decide) ?_
      refine ih (k + 1) (by omega) _ _ (by omega) (fun b hb => by rw [up2_nea _ _ hb]; exact f1 b hb) (fun i hi => ?_)
      rw [show z.toNat = k by omega]
      by_cases q : i = k
      · rw [q, up2_same]
      · rw [up2_nek _ _ q]; exact f2 i (by omega)
  refine aw_aload_0 (q := 1) F dM_undo_0 rfl ?_
  refine aw_iconst (q := 2) F dM_undo_1 rfl (by decide) ?_
  refine av_puti (q := 5) F fM_46 dM_undo_2 rfl rfl (wr_9_0 _) (by first | exact hM.o | exact hl.o | exact hM.a55 | exact hM.a56 | exact hM.a57 | exact hM.a58) ?_
  refine aw_aload_0 (q := 6) F dM_undo_5 rfl ?_
  refine av_getaE (q := 9) F fM_281 dM_undo_6 rfl rfl (by first | exact hM.o | exact hl.o | exact hM.a55 | exact hM.a56 | exact hM.a57 | exact hM.a58) hM.p3 ?_
  refine aw_ifnull (q := 12) (t := 19) F dM_undo_9 rfl (by decide) (fun c9 => ?_) (fun c9 => ?_)
  · refine aw_aload_0 (q := 20) F dM_undo_19 rfl ?_
    refine aw_bipush (q := 22) F dM_undo_20 rfl (by decide) ?_
    refine av_callV1 (q := 25) (ci := 9) F hm mM_denied_i mM_denied_n lM_505 dM_undo_22 rfl rfl rfl (by first | exact hM.o | exact hl.o | exact hM.a55 | exact hM.a56 | exact hM.a57 | exact hM.a58) (by decide) (Nat.le_refl _) (Nat.le_refl _) (Nat.le_of_ble_eq_true rfl) (wM_denied hM ?_)
    refine aw_zret F C dM_undo_25 rfl (by decide) (Nat.le_refl _) (Nat.le_refl _) ?_
    first | exact MK.fin0 (r6 trivial trivial (hz c9)) h (by decide) | exact MK.fin0 (r6 trivial trivial (by omega)) h (by decide)
  · refine aw_aload_0 (q := 13) F dM_undo_12 rfl ?_
    refine av_geti (q := 16) F fM_290 dM_undo_13 rfl rfl (by first | exact hM.o | exact hl.o | exact hM.a55 | exact hM.a56 | exact hM.a57 | exact hM.a58) ?_
    rw [e19]
    refine aw_if_ne (q := 19) (t := 26) F dM_undo_16 rfl (by decide) (fun c16 => ?_) (fun c16 => ?_)
    · refine aw_aload_0 (q := 27) F dM_undo_26 rfl ?_
      refine aw_dup (q := 28) F dM_undo_27 rfl trivial ?_
      refine av_geti (q := 31) F fM_290 dM_undo_28 rfl rfl (by first | exact hM.o | exact hl.o | exact hM.a55 | exact hM.a56 | exact hM.a57 | exact hM.a58) ?_
      rw [e19]
      refine aw_iconst (q := 32) F dM_undo_31 rfl (by decide) ?_
      refine aw_isub (q := 33) F dM_undo_32 rfl (by constructor <;> omega) ?_
      refine av_puti (q := 36) F fM_290 dM_undo_33 rfl rfl (wr_9_19 _) (by first | exact hM.o | exact hl.o | exact hM.a55 | exact hM.a56 | exact hM.a57 | exact hM.a58) ?_
      refine aw_aload_0 (q := 37) F dM_undo_36 rfl ?_
      refine aw_iconst (q := 38) F dM_undo_37 rfl (by decide) ?_
      refine av_putz (q := 41) F fM_286 dM_undo_38 rfl rfl (wr_9_26 _) (by first | exact hM.o | exact hl.o | exact hM.a55 | exact hM.a56 | exact hM.a57 | exact hM.a58) (by first | exact Or.inl rfl | exact Or.inr rfl | omega) ?_
      refine aw_iconst (q := 42) F dM_undo_41 rfl (by decide) ?_
      refine aw_istore_1 (q := 43) F dM_undo_42 rfl trivial ?_
      refine copy ((psP S).length - 1) _ (by omega) c9 (fun b hb => ?_) (fun j h0 h1 h2 => ?_) ?_ ?_ 12 0 rfl _ _ rfl (fun _ _ => rfl) (fun i hi => absurd hi (by omega))
      · rw [up2_nea _ _ hb, up2_nea _ _ hb, up2_nea _ _ hb]
      · rw [up2_nek _ _ h2, up2_nek _ _ h1, up2_nek _ _ h0]
      · rw [up2_nek _ _ (by decide), up2_same]; omega
      · exact up2_same _ _ _ _
    · refine aw_aload_0 (q := 20) F dM_undo_19 rfl ?_
      refine aw_bipush (q := 22) F dM_undo_20 rfl (by decide) ?_
      refine av_callV1 (q := 25) (ci := 9) F hm mM_denied_i mM_denied_n lM_505 dM_undo_22 rfl rfl rfl (by first | exact hM.o | exact hl.o | exact hM.a55 | exact hM.a56 | exact hM.a57 | exact hM.a58) (by decide) (Nat.le_refl _) (Nat.le_refl _) (Nat.le_of_ble_eq_true rfl) (wM_denied hM ?_)
      refine aw_zret F C dM_undo_25 rfl (by decide) (Nat.le_refl _) (Nat.le_refl _) ?_
      first | exact MK.fin0 (r6 trivial trivial (hz c9)) h (by decide) | exact MK.fin0 (r6 trivial trivial (by omega)) h (by decide)
theorem wM_image (h : MW V σ l S) (hok : okP (ifS (wyI S) (nImg S) S)) (hK : MK K V σ l (ifS (wyI S) (nImg S) S) (some (vI (rfD (wyI S) (psI S).length (-1))))) : Wp G 1 mM_image [vR 53] (V, σ) 0 0 K := by
  have hM := h.mo
  have hlen : (psI S).length ≤ 3 := h.1.2.2.2.2.2.2.1
  have e20 : up2 V 53 0 0 53 20 = (psI S).length := h.th.f.2.2.2.2.2
  have g0 : 0 < tDn (psT S) → (psI S).length < 3 → okP (nImg S) ∧ MK K V σ l (nImg S) (some (vI (psI S).length)) := fun a b => by
    have e : wyI S = 0 := by unfold wyI; rw [if_pos a, if_pos b]
    rw [e] at hok hK; exact ⟨hok, hK⟩
  have g3' : 0 < tDn (psT S) → ¬ (psI S).length < 3 → MK K V σ l (setR S 3) (some (vI (-1))) := fun a b => by
    have e : wyI S = 3 := by unfold wyI; rw [if_pos a, if_neg b]
    rw [e] at hK; exact hK
  have g1 : ¬ 0 < tDn (psT S) → MK K V σ l (setR S 1) (some (vI (-1))) := fun a => by
    have e : wyI S = 1 := by unfold wyI; rw [if_neg a]
    rw [e] at hK; exact hK
  refine wp_intro mM_image_i.1 [some (vR 53), none] rfl rfl (Nat.le_of_ble_eq_true rfl) ?_
  intro X hG F C
  have hm := C.rm
  have copy : ∀ (hl0 : l ≠ 0), (psI S).length < 3 → ∀ (j k : Nat), k + j = 12 → ∀ (V2 : Nat → Nat → Int) (z : Int), z = k → (∀ b, b ≠ 58 → V2 b = up2 V 53 0 0 b) → (∀ i, i < 12 * (psI S).length → V2 58 i = V 58 i) → (∀ i, i < k → V2 58 (12 * (psI S).length + i) = V 55 i) → AW X 34 [some (vR 53), some (vI z)] [] (V2, σ) 0 0 := by
    intro hl0 h3 j
    have hd := h.pos hl0
    induction j with
    | zero =>
      intro k hk V2 z hz f1 f2 f3
      obtain ⟨ok, g'⟩ := g0 hd h3
      have e20' : V2 53 20 = (psI S).length := by rw [f1 53 (by decide)]; exact e20
      refine aw_iload_1 (q := 35) F dM_image_34 rfl ?_
      refine aw_bipush (q := 37) F dM_image_35 rfl (by decide) ?_
      refine aw_icmp_ge (q := 40) (t := 66) F dM_image_37 rfl (by decide) (fun c37 => ?_) (fun c37 => by omega)
      refine aw_aload_0 (q := 67) F dM_image_66 rfl ?_
      refine aw_dup (q := 68) F dM_image_67 rfl trivial ?_
      refine av_geti (q := 71) F fM_293 dM_image_68 rfl rfl (by first | exact hM.o | exact hl.o | exact hM.a55 | exact hM.a56 | exact hM.a57 | exact hM.a58) ?_
      rw [e20']
      refine aw_iconst (q := 72) F dM_image_71 rfl (by decide) ?_
      refine aw_iadd (q := 73) F dM_image_72 rfl (by constructor <;> omega) ?_
      refine av_puti (q := 76) F fM_293 dM_image_73 rfl rfl (wr_9_20 _) (by first | exact hM.o | exact hl.o | exact hM.a55 | exact hM.a56 | exact hM.a57 | exact hM.a58) ?_
      refine aw_aload_0 (q := 77) F dM_image_76 rfl ?_
      refine aw_aload_0 (q := 78) F dM_image_77 rfl ?_
      refine av_geti (q := 81) F fM_293 dM_image_78 rfl rfl (by first | exact hM.o | exact hl.o | exact hM.a55 | exact hM.a56 | exact hM.a57 | exact hM.a58) ?_
      rw [up2_same]
      refine aw_iconst (q := 82) F dM_image_81 rfl (by decide) ?_
      refine aw_isub (q := 83) F dM_image_82 rfl (by constructor <;> omega) ?_
      refine av_callV1 (q := 86) (ci := 9) F hm mM_good_i mM_good_n lM_56 dM_image_83 rfl rfl rfl (by first | exact hM.o | exact hl.o | exact hM.a55 | exact hM.a56 | exact hM.a57 | exact hM.a58) (by decide) (Nat.le_refl _) (Nat.le_refl _) (Nat.le_of_ble_eq_true rfl) (wM_good hM ?_)
      refine aw_iret F C dM_image_86 rfl (Nat.le_refl _) (Nat.le_refl _) ?_
      have ee : ∀ b, b ≠ 53 → b ≠ 58 → up2 (up2 (up2 V2 53 20 ((psI S).length + 1)) 53 1 0) 53 2 (-1) b = V b := fun b h1 h2 => by rw [up2_nea _ _ h1, up2_nea _ _ h1, up2_nea _ _ h1, f1 b h2, up2_nea _ _ h1]
      have ef : ∀ j, j ≠ 0 → j ≠ 1 → j ≠ 2 → j ≠ 20 → up2 (up2 (up2 V2 53 20 ((psI S).length + 1)) 53 1 0) 53 2 (-1) 53 j = V 53 j := fun j h0 h1 h2 h3 => by rw [up2_nek _ _ h2, up2_nek _ _ h1, up2_nek _ _ h3, f1 53 (by decide), up2_nek _ _ h0]
      have e58 : up2 (up2 (up2 V2 53 20 ((psI S).length + 1)) 53 1 0) 53 2 (-1) 58 = V2 58 := by rw [up2_nea _ _ (by decide), up2_nea _ _ (by decide), up2_nea _ _ (by decide)]
      obtain ⟨h1, h2, h3, h4, h5, h6, h7⟩ := h
      obtain ⟨a1, a2, a3, a4, a5, a6⟩ := h4 hd
      refine kI (g' _ ⟨ok, h2, h3, fun _ => ⟨a1, a2, ?_, a4.same (fun i hi => ee _ (by omega) (by omega)), fun i s hs => by rw [ee 57 (by decide) (by decide)]; exact a5 i s hs, fun i s hs => ?_⟩, ?_, ?_, ?_⟩ (fun b hb => ee b (by omega) (by omega))) (by omega)
      · rw [ee 55 (by decide) (by decide)]; exact a3
      · rw [e58]
        have hs2 : (psI S ++ [psS S])[i]? = some s := hs
        by_cases q : i < (psI S).length
        · rw [List.getElem?_append_left q] at hs2
          exact (a6 i s hs2).same fun k hk => f2 _ (by omega)
        · have hil := (List.getElem?_eq_some_iff.mp hs2).1
          rw [List.length_append, List.length_singleton] at hil
          have q' : i = (psI S).length := by omega
          subst q'
          rw [List.getElem?_append_right (Nat.le_refl _), Nat.sub_self] at hs2
          cases hs2
          exact a3.same fun k hk => f3 k (by omega)
      · rw [ee 54 (by decide) (by decide)]; exact h5
      · unfold MWf
        rw [ef 6 (by decide) (by decide) (by decide) (by decide), ef 12 (by decide) (by decide) (by decide) (by decide), ef 19 (by decide) (by decide) (by decide) (by decide)]
        refine ⟨by rw [up2_nek _ _ (by decide), up2_same]; rfl, by rw [up2_same]; rfl, h6.2.2.1, h6.2.2.2.1, h6.2.2.2.2.1, ?_⟩
        rw [up2_nek _ _ (by decide), up2_nek _ _ (by decide), up2_same]
        show _ = ((psI S ++ [psS S]).length : Int)
        rw [List.length_append]
        rfl
      · exact MWq.fl (S := S) h7 (ef _ (by decide) (by decide) (by decide) (by decide)) (ef _ (by decide) (by decide) (by decide) (by decide)) (ee _ (by decide) (by decide)) (ee _ (by decide) (by decide)) (ee _ (by decide) (by decide))
    | succ j ih =>
      intro k hk V2 z hz f1 f2 f3
      have e20' : V2 53 20 = (psI S).length := by rw [f1 53 (by decide)]; exact e20
      have e55 : V2 55 = V 55 := by rw [f1 55 (by decide)]; exact up2_nea _ _ (by decide)
      refine aw_iload_1 (q := 35) F dM_image_34 rfl ?_
      refine aw_bipush (q := 37) F dM_image_35 rfl (by decide) ?_
      refine aw_icmp_ge (q := 40) (t := 66) F dM_image_37 rfl (by decide) (fun c37 => by omega) (fun c37 => ?_)
      refine aw_aload_0 (q := 41) F dM_image_40 rfl ?_
      refine av_getaE (q := 44) F fM_27 dM_image_41 rfl rfl (by first | exact hM.o | exact hl.o | exact hM.a55 | exact hM.a56 | exact hM.a57 | exact hM.a58) hM.p18 ?_
      refine aw_bipush (q := 46) F dM_image_44 rfl (by decide) ?_
      refine aw_aload_0 (q := 47) F dM_image_46 rfl ?_
      refine av_geti (q := 50) F fM_293 dM_image_47 rfl rfl (by first | exact hM.o | exact hl.o | exact hM.a55 | exact hM.a56 | exact hM.a57 | exact hM.a58) ?_
      rw [e20']
      refine aw_imul (q := 51) F dM_image_50 rfl (by constructor <;> omega) ?_
      refine aw_iload_1 (q := 52) F dM_image_51 rfl ?_
      refine aw_iadd (q := 53) F dM_image_52 rfl (by constructor <;> omega) ?_
      refine aw_aload_0 (q := 54) F dM_image_53 rfl ?_
      refine av_getaE (q := 57) F fM_17 dM_image_54 rfl rfl (by first | exact hM.o | exact hl.o | exact hM.a55 | exact hM.a56 | exact hM.a57 | exact hM.a58) hM.p15 ?_
      refine aw_iload_1 (q := 58) F dM_image_57 rfl ?_
      refine av_iaload (q := 59) F dM_image_58 rfl (by first | exact hM.o | exact hl.o | exact hM.a55 | exact hM.a56 | exact hM.a57 | exact hM.a58) (by omega) (by omega) ?_
      rw [e55, show z.toNat = k by omega]
      refine av_iastore (q := 60) F dM_image_59 rfl (by first | exact hM.o | exact hl.o | exact hM.a55 | exact hM.a56 | exact hM.a57 | exact hM.a58) (by omega) (by omega) ?_
      refine aw_iinc_1 (q := 63) F dM_image_60 rfl trivial (by constructor <;> omega) ?_
      refine aw_goto (t := 34) F dM_image_63 (by decide) ?_
      refine ih (k + 1) (by omega) _ _ (by omega) (fun b hb => by rw [up2_nea _ _ hb]; exact f1 b hb) (fun i hi => ?_) (fun i hi => ?_)
      · rw [show (12 * ((psI S).length : Int) + z).toNat = 12 * (psI S).length + k by omega, up2_nek _ _ (by omega)]; exact f2 i hi
      · rw [show (12 * ((psI S).length : Int) + z).toNat = 12 * (psI S).length + k by omega]
        by_cases q : i = k
        · rw [q, up2_same]
        · rw [up2_nek _ _ (by omega)]; exact f3 i (by omega)
  refine aw_aload_0 (q := 1) F dM_image_0 rfl ?_
  refine aw_iconst (q := 2) F dM_image_1 rfl (by decide) ?_
  refine av_puti (q := 5) F fM_46 dM_image_2 rfl rfl (wr_9_0 _) (by first | exact hM.o | exact hl.o | exact hM.a55 | exact hM.a56 | exact hM.a57 | exact hM.a58) ?_
  refine aw_aload_0 (q := 6) F dM_image_5 rfl ?_
  refine av_getaE (q := 9) F fM_281 dM_image_6 rfl rfl (by first | exact hM.o | exact hl.o | exact hM.a55 | exact hM.a56 | exact hM.a57 | exact hM.a58) hM.p3 ?_
  refine aw_ifnonnull (q := 12) (t := 18) F dM_image_9 rfl (by decide) (fun c9 => ?_) (fun c9 => ?_)
  · refine aw_aload_0 (q := 19) F dM_image_18 rfl ?_
    refine av_geti (q := 22) F fM_293 dM_image_19 rfl rfl (by first | exact hM.o | exact hl.o | exact hM.a55 | exact hM.a56 | exact hM.a57 | exact hM.a58) ?_
    rw [e20]
    refine aw_iconst (q := 23) F dM_image_22 rfl (by decide) ?_
    refine aw_icmp_ne (q := 26) (t := 32) F dM_image_23 rfl (by decide) (fun c23 => ?_) (fun c23 => ?_)
    · refine aw_iconst (q := 33) F dM_image_32 rfl (by decide) ?_
      refine aw_istore_1 (q := 34) F dM_image_33 rfl trivial ?_
      exact copy c9 (by omega) 12 0 rfl _ _ rfl (fun _ _ => rfl) (fun i hi => by rw [up2_nea _ _ (by decide)]) (fun i hi => absurd hi (by omega))
    · refine aw_aload_0 (q := 27) F dM_image_26 rfl ?_
      refine aw_iconst (q := 28) F dM_image_27 rfl (by decide) ?_
      refine av_callV1 (q := 31) (ci := 9) F hm mM_refused_i mM_refused_n lM_52 dM_image_28 rfl rfl rfl (by first | exact hM.o | exact hl.o | exact hM.a55 | exact hM.a56 | exact hM.a57 | exact hM.a58) (by decide) (Nat.le_refl _) (Nat.le_refl _) (Nat.le_of_ble_eq_true rfl) (wM_refused hM ?_)
      refine aw_iret F C dM_image_31 rfl (Nat.le_refl _) (Nat.le_refl _) ?_
      exact MK.fin0 (g3' (h.pos c9) (by omega)) h (by decide)
  · refine aw_aload_0 (q := 13) F dM_image_12 rfl ?_
    refine aw_iconst (q := 14) F dM_image_13 rfl (by decide) ?_
    refine av_callV1 (q := 17) (ci := 9) F hm mM_refused_i mM_refused_n lM_52 dM_image_14 rfl rfl rfl (by first | exact hM.o | exact hl.o | exact hM.a55 | exact hM.a56 | exact hM.a57 | exact hM.a58) (by decide) (Nat.le_refl _) (Nat.le_refl _) (Nat.le_of_ble_eq_true rfl) (wM_refused hM ?_)
    refine aw_iret F C dM_image_17 rfl (Nat.le_refl _) (Nat.le_refl _) ?_
    exact MK.fin0 (g1 (by rw [h.zer c9]; decide)) h (by decide)
theorem wM_back {x : Int} (h : MW V σ l S) (hok : okP (ifS (wy (0 ≤ x ∧ x < (psI S).length) True) (nBack S x.toNat) S)) (hK : MK K V σ l (ifS (wy (0 ≤ x ∧ x < (psI S).length) True) (nBack S x.toNat) S) (some (vI (rfD (wy (0 ≤ x ∧ x < (psI S).length) True) 1 0)))) : Wp G 2 mM_back [vR 53, vI x] (V, σ) 0 0 K := by
  have hM := h.mo
  have hlen : (psI S).length ≤ 3 := h.1.2.2.2.2.2.2.1
  have e20 : up2 V 53 0 0 53 20 = (psI S).length := h.th.f.2.2.2.2.2
  have hz : l = 0 → (psI S).length = 0 := fun e => by rw [(h.1.2.2.2.2.2.2.2.2 (h.zer e)).2]; rfl
  have g0 : (0 ≤ x ∧ x < (psI S).length) → okP (nBack S x.toNat) ∧ MK K V σ l (nBack S x.toNat) (some (vI 1)) := fun a => by
    rw [wy_1 a trivial] at hok hK; exact ⟨hok, hK⟩
  have g1 : ¬ (0 ≤ x ∧ x < (psI S).length) → MK K V σ l (setR S 1) (some (vI 0)) := fun a => by
    rw [wy_2 a] at hK; exact hK
  refine wp_intro mM_back_i.1 [some (vR 53), some (vI x), none] rfl rfl (Nat.le_of_ble_eq_true rfl) ?_
  intro X hG F C
  have hm := C.rm
  have copy : (0 ≤ x ∧ x < (psI S).length) → l ≠ 0 → ∀ (j k : Nat), k + j = 12 → ∀ (V2 : Nat → Nat → Int) (z : Int), z = k → (∀ b, b ≠ 55 → V2 b = up2 V 53 0 0 b) → (∀ i, i < k → V2 55 i = V 58 (12 * x.toNat + i)) → AW X 32 [some (vR 53), some (vI x), some (vI z)] [] (V2, σ) 0 0 := by
    intro hx hl0 j
    have hd := h.pos hl0
    have hq := List.getElem?_eq_getElem (show x.toNat < (psI S).length by omega)
    generalize (psI S)[x.toNat] = s' at hq
    induction j with
    | zero =>
      intro k hk V2 z hz f1 f2
      obtain ⟨ok, g'⟩ := g0 hx
      have eS : nBack S x.toNat = paS (scS (setR S 0) s') [] := by unfold nBack; rw [getD_some hq]
      rw [eS] at ok g'
      refine aw_iload_2 (q := 33) F dM_back_32 rfl ?_
      refine aw_bipush (q := 35) F dM_back_33 rfl (by decide) ?_
      refine aw_icmp_ge (q := 38) (t := 61) F dM_back_35 rfl (by decide) (fun c35 => ?_) (fun c35 => by omega)
      refine aw_aload_0 (q := 62) F dM_back_61 rfl ?_
      refine aw_iconst (q := 63) F dM_back_62 rfl (by decide) ?_
      refine av_puti (q := 66) F fM_290 dM_back_63 rfl rfl (wr_9_19 _) (by first | exact hM.o | exact hl.o | exact hM.a55 | exact hM.a56 | exact hM.a57 | exact hM.a58) ?_
      refine aw_aload_0 (q := 67) F dM_back_66 rfl ?_
      refine aw_iconst (q := 68) F dM_back_67 rfl (by decide) ?_
      refine av_putz (q := 71) F fM_286 dM_back_68 rfl rfl (wr_9_26 _) (by first | exact hM.o | exact hl.o | exact hM.a55 | exact hM.a56 | exact hM.a57 | exact hM.a58) (by first | exact Or.inl rfl | exact Or.inr rfl | omega) ?_
      refine aw_aload_0 (q := 72) F dM_back_71 rfl ?_
      refine av_callV0 (q := 75) (ci := 9) F hm mM_granted_i mM_granted_n lM_508 dM_back_72 rfl rfl rfl (by first | exact hM.o | exact hl.o | exact hM.a55 | exact hM.a56 | exact hM.a57 | exact hM.a58) (by decide) (Nat.le_refl _) (Nat.le_refl _) (Nat.le_of_ble_eq_true rfl) (wM_granted hM ?_)
      refine aw_zret F C dM_back_75 rfl (by decide) (Nat.le_refl _) (Nat.le_refl _) ?_
      have ee : ∀ b, b ≠ 53 → b ≠ 55 → up2 (up2 (up2 (up2 V2 53 19 0) 53 26 0) 53 1 0) 53 2 (-1) b = V b := fun b h1 h2 => by rw [up2_nea _ _ h1, up2_nea _ _ h1, up2_nea _ _ h1, up2_nea _ _ h1, f1 b h2, up2_nea _ _ h1]
      have ef : ∀ j, j ≠ 0 → j ≠ 1 → j ≠ 2 → j ≠ 19 → j ≠ 26 → up2 (up2 (up2 (up2 V2 53 19 0) 53 26 0) 53 1 0) 53 2 (-1) 53 j = V 53 j := fun j h0 h1 h2 h3 h4 => by rw [up2_nek _ _ h2, up2_nek _ _ h1, up2_nek _ _ h4, up2_nek _ _ h3, f1 53 (by decide), up2_nek _ _ h0]
      obtain ⟨h1, h2, h3, h4, h5, h6, h7⟩ := h
      obtain ⟨a1, a2, a3, a4, a5, a6⟩ := h4 hd
      refine g' _ ⟨ok, h2, h3, fun _ => ⟨a1, a2, ?_, a4.same (fun i hi => ee _ (by omega) (by omega)), fun i s hs => ?_, fun i s hs => by rw [ee 58 (by decide) (by decide)]; exact a6 i s hs⟩, ?_, ?_, ?_⟩ (fun b hb => ee b (by omega) (by omega))
      · rw [up2_nea _ _ (by decide), up2_nea _ _ (by decide), up2_nea _ _ (by decide), up2_nea _ _ (by decide)]
        exact (a6 x.toNat s' hq).same fun k hk => f2 k (by omega)
      · have hs2 : ([] : List Sc)[i]? = some s := hs
        simp at hs2
      · rw [ee 54 (by decide) (by decide)]; exact h5
      · unfold MWf
        rw [ef 6 (by decide) (by decide) (by decide) (by decide) (by decide), ef 12 (by decide) (by decide) (by decide) (by decide) (by decide), ef 20 (by decide) (by decide) (by decide) (by decide) (by decide)]
        refine ⟨by rw [up2_nek _ _ (by decide), up2_same]; rfl, by rw [up2_same]; rfl, h6.2.2.1, h6.2.2.2.1, ?_, h6.2.2.2.2.2⟩
        rw [up2_nek _ _ (by decide), up2_nek _ _ (by decide), up2_nek _ _ (by decide), up2_same]
        rfl
      · left
        rw [up2_nek _ _ (by decide), up2_nek _ _ (by decide), up2_same]
    | succ j ih =>
      intro k hk V2 z hz f1 f2
      have e58 : V2 58 = V 58 := by rw [f1 58 (by decide)]; exact up2_nea _ _ (by decide)
      refine aw_iload_2 (q := 33) F dM_back_32 rfl ?_
      refine aw_bipush (q := 35) F dM_back_33 rfl (by decide) ?_
      refine aw_icmp_ge (q := 38) (t := 61) F dM_back_35 rfl (by decide) (fun c35 => by omega) (fun c35 => ?_)
      refine aw_aload_0 (q := 39) F dM_back_38 rfl ?_
      refine av_getaE (q := 42) F fM_17 dM_back_39 rfl rfl (by first | exact hM.o | exact hl.o | exact hM.a55 | exact hM.a56 | exact hM.a57 | exact hM.a58) hM.p15 ?_
      refine aw_iload_2 (q := 43) F dM_back_42 rfl ?_
      refine aw_aload_0 (q := 44) F dM_back_43 rfl ?_
      refine av_getaE (q := 47) F fM_27 dM_back_44 rfl rfl (by first | exact hM.o | exact hl.o | exact hM.a55 | exact hM.a56 | exact hM.a57 | exact hM.a58) hM.p18 ?_
      refine aw_bipush (q := 49) F dM_back_47 rfl (by decide) ?_
      refine aw_iload_1 (q := 50) F dM_back_49 rfl ?_
      refine aw_imul (q := 51) F dM_back_50 rfl (by constructor <;> omega) ?_
      refine aw_iload_2 (q := 52) F dM_back_51 rfl ?_
      refine aw_iadd (q := 53) F dM_back_52 rfl (by constructor <;> omega) ?_
      refine av_iaload (q := 54) F dM_back_53 rfl (by first | exact hM.o | exact hl.o | exact hM.a55 | exact hM.a56 | exact hM.a57 | exact hM.a58) (by omega) (by omega) ?_
      rw [e58, show (12 * x + z).toNat = 12 * x.toNat + k by omega]
      refine av_iastore (q := 55) F dM_back_54 rfl (by first | exact hM.o | exact hl.o | exact hM.a55 | exact hM.a56 | exact hM.a57 | exact hM.a58) (by omega) (by omega) ?_
      refine aw_iinc_2 (q := 58) F dM_back_55 rfl trivial (by constructor <;> omega) ?_
      refine aw_goto (t := 32) F dM_back_58 (by decide) ?_
      refine ih (k + 1) (by omega) _ _ (by omega) (fun b hb => by rw [up2_nea _ _ hb]; exact f1 b hb) (fun i hi => ?_)
      rw [show z.toNat = k by omega]
      by_cases q : i = k
      · rw [q, up2_same]
      · rw [up2_nek _ _ q]; exact f2 i (by omega)
  refine aw_aload_0 (q := 1) F dM_back_0 rfl ?_
  refine aw_iconst (q := 2) F dM_back_1 rfl (by decide) ?_
  refine av_puti (q := 5) F fM_46 dM_back_2 rfl rfl (wr_9_0 _) (by first | exact hM.o | exact hl.o | exact hM.a55 | exact hM.a56 | exact hM.a57 | exact hM.a58) ?_
  refine aw_aload_0 (q := 6) F dM_back_5 rfl ?_
  refine av_getaE (q := 9) F fM_281 dM_back_6 rfl rfl (by first | exact hM.o | exact hl.o | exact hM.a55 | exact hM.a56 | exact hM.a57 | exact hM.a58) hM.p3 ?_
  refine aw_ifnull (q := 12) (t := 24) F dM_back_9 rfl (by decide) (fun c9 => ?_) (fun c9 => ?_)
  · refine aw_aload_0 (q := 25) F dM_back_24 rfl ?_
    refine aw_iconst (q := 26) F dM_back_25 rfl (by decide) ?_
    refine av_callV1 (q := 29) (ci := 9) F hm mM_denied_i mM_denied_n lM_505 dM_back_26 rfl rfl rfl (by first | exact hM.o | exact hl.o | exact hM.a55 | exact hM.a56 | exact hM.a57 | exact hM.a58) (by decide) (Nat.le_refl _) (Nat.le_refl _) (Nat.le_of_ble_eq_true rfl) (wM_denied hM ?_)
    refine aw_zret F C dM_back_29 rfl (by decide) (Nat.le_refl _) (Nat.le_refl _) ?_
    first | exact MK.fin0 (g1 (by have := hz c9; omega)) h (by decide) | exact MK.fin0 (g1 (by omega)) h (by decide)
  · refine aw_iload_1 (q := 13) F dM_back_12 rfl ?_
    refine aw_if_lt (q := 16) (t := 24) F dM_back_13 rfl (by decide) (fun c13 => ?_) (fun c13 => ?_)
    · refine aw_aload_0 (q := 25) F dM_back_24 rfl ?_
      refine aw_iconst (q := 26) F dM_back_25 rfl (by decide) ?_
      refine av_callV1 (q := 29) (ci := 9) F hm mM_denied_i mM_denied_n lM_505 dM_back_26 rfl rfl rfl (by first | exact hM.o | exact hl.o | exact hM.a55 | exact hM.a56 | exact hM.a57 | exact hM.a58) (by decide) (Nat.le_refl _) (Nat.le_refl _) (Nat.le_of_ble_eq_true rfl) (wM_denied hM ?_)
      refine aw_zret F C dM_back_29 rfl (by decide) (Nat.le_refl _) (Nat.le_refl _) ?_
      first | exact MK.fin0 (g1 (by have := hz c9; omega)) h (by decide) | exact MK.fin0 (g1 (by omega)) h (by decide)
    · refine aw_iload_1 (q := 17) F dM_back_16 rfl ?_
      refine aw_aload_0 (q := 18) F dM_back_17 rfl ?_
      refine av_geti (q := 21) F fM_293 dM_back_18 rfl rfl (by first | exact hM.o | exact hl.o | exact hM.a55 | exact hM.a56 | exact hM.a57 | exact hM.a58) ?_
      rw [e20]
      refine aw_icmp_lt (q := 24) (t := 30) F dM_back_21 rfl (by decide) (fun c21 => ?_) (fun c21 => ?_)
      · refine aw_iconst (q := 31) F dM_back_30 rfl (by decide) ?_
        refine aw_istore_2 (q := 32) F dM_back_31 rfl trivial ?_
        exact copy (by omega) c9 12 0 rfl _ _ rfl (fun _ _ => rfl) (fun i hi => absurd hi (by omega))
      · refine aw_aload_0 (q := 25) F dM_back_24 rfl ?_
        refine aw_iconst (q := 26) F dM_back_25 rfl (by decide) ?_
        refine av_callV1 (q := 29) (ci := 9) F hm mM_denied_i mM_denied_n lM_505 dM_back_26 rfl rfl rfl (by first | exact hM.o | exact hl.o | exact hM.a55 | exact hM.a56 | exact hM.a57 | exact hM.a58) (by decide) (Nat.le_refl _) (Nat.le_refl _) (Nat.le_of_ble_eq_true rfl) (wM_denied hM ?_)
        refine aw_zret F C dM_back_29 rfl (by decide) (Nat.le_refl _) (Nat.le_refl _) ?_
        first | exact MK.fin0 (g1 (by have := hz c9; omega)) h (by decide) | exact MK.fin0 (g1 (by omega)) h (by decide)
end Mod23
