section Mod7
variable {G : GE} {V : Nat → Nat → Int} {σ : Shp} {K : Option AV → Mem → Prop} {l : Nat} {c : Cfg} {n : Nat}
/-- does a step shut a door: told by the door's number before and after -/
theorem may_shS {s : Nat} (hs : s < stN c) (hc : okC c) (hn : n < spc c) (hm : mayN c n (allP c) s = true) : (shS c s = true → ld c n (s % dN c) ≠ 0 ∧ ld c (aftN c n s) (s % dN c) = 0) ∧ (shS c s = false → ld c n (s % dN c) = 0 ∨ ld c (aftN c n s) (s % dN c) ≠ 0) := by
  obtain ⟨hD, hm1, hm2⟩ := divmod_lt (s := s) (D := dN c) (R := 2 + pN c) (by have : stN c = dN c * (2 + pN c) := rfl; omega)
  unfold mayN at hm
  unfold shS aftN
  generalize s / dN c = row at *
  generalize s % dN c = dd at *
  by_cases r0 : row = 0
  · rw [if_pos r0] at hm
    have h0 := (mO_iff.mp hm).1
    subst r0
    exact ⟨fun q => by simp at q, fun _ => Or.inl h0⟩
  · rw [if_neg r0] at hm
    rw [if_neg r0]
    by_cases r1 : row = 1
    · rw [if_pos r1] at hm
      rw [if_pos r1]
      subst r1
      unfold mS at hm
      simp only [Bool.and_eq_true, bne_iff_ne] at hm
      exact ⟨fun _ => ⟨hm.1.1, by rw [(aS_dig hm1).2 dd hm1, if_pos rfl]⟩, fun q => by simp at q⟩
    · rw [if_neg r1] at hm
      rw [if_neg r1]
      unfold mG at hm
      simp only [Bool.and_eq_true, bne_iff_ne] at hm
      have hp : row - 2 < pN c := by omega
      have hg := (aG1_dig (n := n) (d := dd) hp).2.1
      unfold aG
      by_cases k1 : kdC c dd = 1
      · rw [if_pos k1, (aS_dig hm1).2 dd hm1, if_pos rfl]
        exact ⟨fun _ => ⟨hm.2.1, rfl⟩, fun q => absurd q (by simp [k1, r0, r1]; omega)⟩
      · rw [if_neg k1, hg]
        exact ⟨fun q => absurd q (by simp [k1, r1]), fun _ => Or.inr hm.2.1⟩
theorem wM_steps {w : Int} {s : Nat} (hw : w = s) (hs : s < stN c) (hn : n < spc c) (hm : mayN c n (allP c) s = true) (hM : moS σ l) (hl : laS σ l) (hC : LC V l c) (hA : AR (V 56) c n) (hc : okC c) (h1 : shS c s = true → ∀ V', XF V V' → AR (V' 56) c (aftN c n s) → K (some (vI 1)) (V', σ)) (h0 : shS c s = false → ∀ V', XF V V' → AR (V' 56) c (aftN c n s) → K (some (vI 0)) (V', σ)) : Wp G 2 mM_steps [vR 53, vI w] (V, σ) 0 0 K := by
  have hd4 : dN c ≤ 4 := hc.1
  have hp2 : pN c ≤ 2 := hc.2.1
  have hst : stN c ≤ 16 := stN_le hc
  have v1 := hC.1
  obtain ⟨t1, t0⟩ := may_shS hs hc hn hm
  obtain ⟨hD, hm1, hm2⟩ := divmod_lt (s := s) (D := dN c) (R := 2 + pN c) (by have : stN c = dN c * (2 + pN c) := rfl; omega)
  obtain ⟨q1, q2⟩ := tdm (s := w) (D := dN c) (by omega)
  rw [show w.toNat = s by omega] at q1 q2
  have eO : s / dN c = 0 → aftN c n s = aO c n (s % dN c) := fun q => by unfold aftN; rw [if_pos q]
  have eS : s / dN c = 1 → aftN c n s = aS c n (s % dN c) := fun q => by unfold aftN; rw [if_neg (by omega), if_pos q]
  have eG : 2 ≤ s / dN c → aftN c n s = aG c n (s / dN c - 2) (s % dN c) := fun q => by unfold aftN; rw [if_neg (by omega), if_neg (by omega)]
  have hO : s / dN c = 0 → ld c n (s % dN c) = 0 := fun q => by unfold mayN at hm; rw [if_pos q] at hm; exact (mO_iff.mp hm).1
  have e2 : V 56 (2 + s % dN c) = (ld c n (s % dN c) : Int) := ar_ld hA (by omega) hm1
  generalize aftN c n s = n1 at *
  generalize s / dN c = row at *
  generalize s % dN c = dd at *
  have fin1 : ∀ V', XF V V' → AR (V' 56) c n1 → ld c n dd ≠ 0 → V' 56 (2 + dd) = 0 → K (some (vI 1)) (V', σ) := fun V' f g x y => by
    have e3 : V' 56 (2 + dd) = (ld c n1 dd : Int) := ar_ld g (by omega) hm1
    cases hb : shS c s with
    | true => exact h1 hb V' f g
    | false =>
      rcases t0 hb with z | z
      · exact absurd z x
      · exact absurd y (by omega)
  have fin0 : ∀ V', XF V V' → AR (V' 56) c n1 → (ld c n dd ≠ 0 → V' 56 (2 + dd) ≠ 0) → K (some (vI 0)) (V', σ) := fun V' f g x => by
    have e3 : V' 56 (2 + dd) = (ld c n1 dd : Int) := ar_ld g (by omega) hm1
    cases hb : shS c s with
    | true =>
      obtain ⟨z1, z2⟩ := t1 hb
      exact absurd (x z1) (by omega)
    | false => exact h0 hb V' f g
  clear t1 t0 h1 h0 hm
  refine wp_intro mM_steps_i.1 [some (vR 53), some (vI w), none, none, none] rfl rfl (Nat.le_of_ble_eq_true rfl) ?_
  intro X hG F C
  have hm := C.rm
  refine aw_iload_1 (q := 1) F dM_steps_0 rfl ?_
  refine aw_aload_0 (q := 2) F dM_steps_1 rfl ?_
  refine av_getaE (q := 5) F fM_281 dM_steps_2 rfl rfl (by first | exact hM.o | exact hl.o | exact hM.a55 | exact hM.a56) hM.p3 ?_
  refine av_geti (q := 8) F fM_183 dM_steps_5 rfl rfl (by first | exact hM.o | exact hl.o | exact hM.a55 | exact hM.a56) ?_
  rw [v1]
  refine aw_irem (q := 9) F dM_steps_8 rfl (by omega) (by omega) ?_
  rw [q2]
  refine aw_istore_2 (q := 10) F dM_steps_9 rfl trivial ?_
  refine aw_iload_1 (q := 11) F dM_steps_10 rfl ?_
  refine aw_aload_0 (q := 12) F dM_steps_11 rfl ?_
  refine av_getaE (q := 15) F fM_281 dM_steps_12 rfl rfl (by first | exact hM.o | exact hl.o | exact hM.a55 | exact hM.a56) hM.p3 ?_
  refine av_geti (q := 18) F fM_183 dM_steps_15 rfl rfl (by first | exact hM.o | exact hl.o | exact hM.a55 | exact hM.a56) ?_
  rw [v1]
  refine aw_idiv (q := 19) F dM_steps_18 rfl (by omega) (by omega) ?_
  rw [q1]
  refine aw_istore_3 (q := 20) F dM_steps_19 rfl trivial ?_
  refine aw_aload_0 (q := 21) F dM_steps_20 rfl ?_
  refine av_getaE (q := 24) F fM_21 dM_steps_21 rfl rfl (by first | exact hM.o | exact hl.o | exact hM.a55 | exact hM.a56) hM.p16 ?_
  refine aw_iconst (q := 25) F dM_steps_24 rfl (by decide) ?_
  refine aw_iload_2 (q := 26) F dM_steps_25 rfl ?_
  refine aw_iadd (q := 27) F dM_steps_26 rfl (by constructor <;> omega) ?_
  refine av_iaload (q := 28) F dM_steps_27 rfl (by first | exact hM.o | exact hl.o | exact hM.a55 | exact hM.a56) (by omega) (by omega) ?_
  rw [show (2 + (dd : Int)).toNat = 2 + dd by omega, e2]
  refine aw_if_le (q := 31) (t := 35) F dM_steps_28 rfl (by decide) (fun c28 => ?_) (fun c28 => ?_)
  · refine aw_iconst (q := 36) F dM_steps_35 rfl (by decide) ?_
    refine aw_istore_4 (q := 38) F dM_steps_36 rfl trivial ?_
    refine aw_iload_3 (q := 39) F dM_steps_38 rfl ?_
    refine aw_if_ne (q := 42) (t := 50) F dM_steps_39 rfl (by decide) (fun c39 => ?_) (fun c39 => ?_)
    · refine aw_iload_3 (q := 51) F dM_steps_50 rfl ?_
      refine aw_iconst (q := 52) F dM_steps_51 rfl (by decide) ?_
      refine aw_icmp_ne (q := 55) (t := 63) F dM_steps_52 rfl (by decide) (fun c52 => ?_) (fun c52 => ?_)
      · refine aw_aload_0 (q := 64) F dM_steps_63 rfl ?_
        refine aw_iload_3 (q := 65) F dM_steps_64 rfl ?_
        refine aw_iconst (q := 66) F dM_steps_65 rfl (by decide) ?_
        refine aw_isub (q := 67) F dM_steps_66 rfl (by constructor <;> omega) ?_
        refine aw_iload_2 (q := 68) F dM_steps_67 rfl ?_
        refine av_callV2 (q := 71) (ci := 9) F hm mM_goes_i mM_goes_n lM_323 dM_steps_68 rfl rfl rfl (by first | exact hM.o | exact hl.o | exact hM.a55 | exact hM.a56) (by decide) (Nat.le_refl _) (Nat.le_refl _) (Nat.le_of_ble_eq_true rfl) (wM_goes (p := row - 2) (d := dd) (by omega) (by omega) rfl hm1 hM hA hc (fun V' f68 g68 => ?_))
        refine aw_iload_4 (q := 73) F dM_steps_71 rfl ?_
        refine aw_if_eq (q := 76) (t := 91) F dM_steps_73 rfl (by decide) (fun c73 => ?_) (fun c73 => absurd c73 (by decide))
        refine aw_iconst (q := 92) F dM_steps_91 rfl (by decide) ?_
        refine aw_zret F C dM_steps_92 rfl (by decide) (Nat.le_refl _) (Nat.le_refl _) ?_
        first
        | (rw [← eO (by omega)] at g44; exact fin0 _ f44 g44 (by omega))
        | (rw [← eS (by omega)] at g57; exact fin0 _ f57 g57 (by omega))
        | (rw [← eG (by omega)] at g68; exact fin0 _ f68 g68 (by omega))
      · refine aw_aload_0 (q := 56) F dM_steps_55 rfl ?_
        refine aw_iload_2 (q := 57) F dM_steps_56 rfl ?_
        refine av_callV1 (q := 60) (ci := 9) F hm mM_shuts_i mM_shuts_n lM_317 dM_steps_57 rfl rfl rfl (by first | exact hM.o | exact hl.o | exact hM.a55 | exact hM.a56) (by decide) (Nat.le_refl _) (Nat.le_refl _) (Nat.le_of_ble_eq_true rfl) (wM_shuts (d := dd) rfl hm1 hM hA hc (fun V' f57 g57 => ?_))
        refine aw_goto (t := 71) F dM_steps_60 (by decide) ?_
        refine aw_iload_4 (q := 73) F dM_steps_71 rfl ?_
        refine aw_if_eq (q := 76) (t := 91) F dM_steps_73 rfl (by decide) (fun c73 => ?_) (fun c73 => absurd c73 (by decide))
        refine aw_iconst (q := 92) F dM_steps_91 rfl (by decide) ?_
        refine aw_zret F C dM_steps_92 rfl (by decide) (Nat.le_refl _) (Nat.le_refl _) ?_
        first
        | (rw [← eO (by omega)] at g44; exact fin0 _ f44 g44 (by omega))
        | (rw [← eS (by omega)] at g57; exact fin0 _ f57 g57 (by omega))
        | (rw [← eG (by omega)] at g68; exact fin0 _ f68 g68 (by omega))
    · refine aw_aload_0 (q := 43) F dM_steps_42 rfl ?_
      refine aw_iload_2 (q := 44) F dM_steps_43 rfl ?_
      refine av_callV1 (q := 47) (ci := 9) F hm mM_opens_i mM_opens_n lM_320 dM_steps_44 rfl rfl rfl (by first | exact hM.o | exact hl.o | exact hM.a55 | exact hM.a56) (by decide) (Nat.le_refl _) (Nat.le_refl _) (Nat.le_of_ble_eq_true rfl) (wM_opens (d := dd) rfl hm1 (hO (by omega)) hn hM hA hc (fun V' f44 g44 => ?_))
      refine aw_goto (t := 71) F dM_steps_47 (by decide) ?_
      refine aw_iload_4 (q := 73) F dM_steps_71 rfl ?_
      refine aw_if_eq (q := 76) (t := 91) F dM_steps_73 rfl (by decide) (fun c73 => ?_) (fun c73 => absurd c73 (by decide))
      refine aw_iconst (q := 92) F dM_steps_91 rfl (by decide) ?_
      refine aw_zret F C dM_steps_92 rfl (by decide) (Nat.le_refl _) (Nat.le_refl _) ?_
      first
      | (rw [← eO (by omega)] at g44; exact fin0 _ f44 g44 (by omega))
      | (rw [← eS (by omega)] at g57; exact fin0 _ f57 g57 (by omega))
      | (rw [← eG (by omega)] at g68; exact fin0 _ f68 g68 (by omega))
  · refine aw_iconst (q := 32) F dM_steps_31 rfl (by decide) ?_
    refine aw_goto (t := 36) F dM_steps_32 (by decide) ?_
    refine aw_istore_4 (q := 38) F dM_steps_36 rfl trivial ?_
    refine aw_iload_3 (q := 39) F dM_steps_38 rfl ?_
    refine aw_if_ne (q := 42) (t := 50) F dM_steps_39 rfl (by decide) (fun c39 => ?_) (fun c39 => ?_)
    · refine aw_iload_3 (q := 51) F dM_steps_50 rfl ?_
      refine aw_iconst (q := 52) F dM_steps_51 rfl (by decide) ?_
      refine aw_icmp_ne (q := 55) (t := 63) F dM_steps_52 rfl (by decide) (fun c52 => ?_) (fun c52 => ?_)
      · refine aw_aload_0 (q := 64) F dM_steps_63 rfl ?_
        refine aw_iload_3 (q := 65) F dM_steps_64 rfl ?_
        refine aw_iconst (q := 66) F dM_steps_65 rfl (by decide) ?_
        refine aw_isub (q := 67) F dM_steps_66 rfl (by constructor <;> omega) ?_
        refine aw_iload_2 (q := 68) F dM_steps_67 rfl ?_
        refine av_callV2 (q := 71) (ci := 9) F hm mM_goes_i mM_goes_n lM_323 dM_steps_68 rfl rfl rfl (by first | exact hM.o | exact hl.o | exact hM.a55 | exact hM.a56) (by decide) (Nat.le_refl _) (Nat.le_refl _) (Nat.le_of_ble_eq_true rfl) (wM_goes (p := row - 2) (d := dd) (by omega) (by omega) rfl hm1 hM hA hc (fun V' f68 g68 => ?_))
        refine aw_iload_4 (q := 73) F dM_steps_71 rfl ?_
        refine aw_if_eq (q := 76) (t := 91) F dM_steps_73 rfl (by decide) (fun c73 => absurd c73 (by decide)) (fun c73 => ?_)
        refine aw_aload_0 (q := 77) F dM_steps_76 rfl ?_
        refine av_getaE (q := 80) F fM_21 dM_steps_77 rfl rfl (by first | exact hM.o | exact hl.o | exact hM.a55 | exact hM.a56) hM.p16 ?_
        refine aw_iconst (q := 81) F dM_steps_80 rfl (by decide) ?_
        refine aw_iload_2 (q := 82) F dM_steps_81 rfl ?_
        refine aw_iadd (q := 83) F dM_steps_82 rfl (by constructor <;> omega) ?_
        refine av_iaload (q := 84) F dM_steps_83 rfl (by first | exact hM.o | exact hl.o | exact hM.a55 | exact hM.a56) (by omega) (by omega) ?_
        rw [show (2 + (dd : Int)).toNat = 2 + dd by omega]
        refine aw_if_ne (q := 87) (t := 91) F dM_steps_84 rfl (by decide) (fun c84 => ?_) (fun c84 => ?_)
        · refine aw_iconst (q := 92) F dM_steps_91 rfl (by decide) ?_
          refine aw_zret F C dM_steps_92 rfl (by decide) (Nat.le_refl _) (Nat.le_refl _) ?_
          first
          | (rw [← eO (by omega)] at g44; exact fin0 _ f44 g44 (by omega))
          | (rw [← eS (by omega)] at g57; exact fin0 _ f57 g57 (by omega))
          | (rw [← eG (by omega)] at g68; exact fin0 _ f68 g68 (by omega))
        · refine aw_iconst (q := 88) F dM_steps_87 rfl (by decide) ?_
          refine aw_goto (t := 92) F dM_steps_88 (by decide) ?_
          refine aw_zret F C dM_steps_92 rfl (by decide) (Nat.le_refl _) (Nat.le_refl _) ?_
          first
          | (rw [← eO (by omega)] at g44; exact fin1 _ f44 g44 (by omega) (by omega))
          | (rw [← eS (by omega)] at g57; exact fin1 _ f57 g57 (by omega) (by omega))
          | (rw [← eG (by omega)] at g68; exact fin1 _ f68 g68 (by omega) (by omega))
      · refine aw_aload_0 (q := 56) F dM_steps_55 rfl ?_
        refine aw_iload_2 (q := 57) F dM_steps_56 rfl ?_
        refine av_callV1 (q := 60) (ci := 9) F hm mM_shuts_i mM_shuts_n lM_317 dM_steps_57 rfl rfl rfl (by first | exact hM.o | exact hl.o | exact hM.a55 | exact hM.a56) (by decide) (Nat.le_refl _) (Nat.le_refl _) (Nat.le_of_ble_eq_true rfl) (wM_shuts (d := dd) rfl hm1 hM hA hc (fun V' f57 g57 => ?_))
        refine aw_goto (t := 71) F dM_steps_60 (by decide) ?_
        refine aw_iload_4 (q := 73) F dM_steps_71 rfl ?_
        refine aw_if_eq (q := 76) (t := 91) F dM_steps_73 rfl (by decide) (fun c73 => absurd c73 (by decide)) (fun c73 => ?_)
        refine aw_aload_0 (q := 77) F dM_steps_76 rfl ?_
        refine av_getaE (q := 80) F fM_21 dM_steps_77 rfl rfl (by first | exact hM.o | exact hl.o | exact hM.a55 | exact hM.a56) hM.p16 ?_
        refine aw_iconst (q := 81) F dM_steps_80 rfl (by decide) ?_
        refine aw_iload_2 (q := 82) F dM_steps_81 rfl ?_
        refine aw_iadd (q := 83) F dM_steps_82 rfl (by constructor <;> omega) ?_
        refine av_iaload (q := 84) F dM_steps_83 rfl (by first | exact hM.o | exact hl.o | exact hM.a55 | exact hM.a56) (by omega) (by omega) ?_
        rw [show (2 + (dd : Int)).toNat = 2 + dd by omega]
        refine aw_if_ne (q := 87) (t := 91) F dM_steps_84 rfl (by decide) (fun c84 => ?_) (fun c84 => ?_)
        · refine aw_iconst (q := 92) F dM_steps_91 rfl (by decide) ?_
          refine aw_zret F C dM_steps_92 rfl (by decide) (Nat.le_refl _) (Nat.le_refl _) ?_
          first
          | (rw [← eO (by omega)] at g44; exact fin0 _ f44 g44 (by omega))
          | (rw [← eS (by omega)] at g57; exact fin0 _ f57 g57 (by omega))
          | (rw [← eG (by omega)] at g68; exact fin0 _ f68 g68 (by omega))
        · refine aw_iconst (q := 88) F dM_steps_87 rfl (by decide) ?_
          refine aw_goto (t := 92) F dM_steps_88 (by decide) ?_
          refine aw_zret F C dM_steps_92 rfl (by decide) (Nat.le_refl _) (Nat.le_refl _) ?_
          first
          | (rw [← eO (by omega)] at g44; exact fin1 _ f44 g44 (by omega) (by omega))
          | (rw [← eS (by omega)] at g57; exact fin1 _ f57 g57 (by omega) (by omega))
          | (rw [← eG (by omega)] at g68; exact fin1 _ f68 g68 (by omega) (by omega))
    · refine aw_aload_0 (q := 43) F dM_steps_42 rfl ?_
      refine aw_iload_2 (q := 44) F dM_steps_43 rfl ?_
      refine av_callV1 (q := 47) (ci := 9) F hm mM_opens_i mM_opens_n lM_320 dM_steps_44 rfl rfl rfl (by first | exact hM.o | exact hl.o | exact hM.a55 | exact hM.a56) (by decide) (Nat.le_refl _) (Nat.le_refl _) (Nat.le_of_ble_eq_true rfl) (wM_opens (d := dd) rfl hm1 (hO (by omega)) hn hM hA hc (fun V' f44 g44 => ?_))
      refine aw_goto (t := 71) F dM_steps_47 (by decide) ?_
      refine aw_iload_4 (q := 73) F dM_steps_71 rfl ?_
      refine aw_if_eq (q := 76) (t := 91) F dM_steps_73 rfl (by decide) (fun c73 => absurd c73 (by decide)) (fun c73 => ?_)
      refine aw_aload_0 (q := 77) F dM_steps_76 rfl ?_
      refine av_getaE (q := 80) F fM_21 dM_steps_77 rfl rfl (by first | exact hM.o | exact hl.o | exact hM.a55 | exact hM.a56) hM.p16 ?_
      refine aw_iconst (q := 81) F dM_steps_80 rfl (by decide) ?_
      refine aw_iload_2 (q := 82) F dM_steps_81 rfl ?_
      refine aw_iadd (q := 83) F dM_steps_82 rfl (by constructor <;> omega) ?_
      refine av_iaload (q := 84) F dM_steps_83 rfl (by first | exact hM.o | exact hl.o | exact hM.a55 | exact hM.a56) (by omega) (by omega) ?_
      rw [show (2 + (dd : Int)).toNat = 2 + dd by omega]
      refine aw_if_ne (q := 87) (t := 91) F dM_steps_84 rfl (by decide) (fun c84 => ?_) (fun c84 => ?_)
      · refine aw_iconst (q := 92) F dM_steps_91 rfl (by decide) ?_
        refine aw_zret F C dM_steps_92 rfl (by decide) (Nat.le_refl _) (Nat.le_refl _) ?_
        first
        | (rw [← eO (by omega)] at g44; exact fin0 _ f44 g44 (by omega))
        | (rw [← eS (by omega)] at g57; exact fin0 _ f57 g57 (by omega))
        | (rw [← eG (by omega)] at g68; exact fin0 _ f68 g68 (by omega))
      · refine aw_iconst (q := 88) F dM_steps_87 rfl (by decide) ?_
        refine aw_goto (t := 92) F dM_steps_88 (by decide) ?_
        refine aw_zret F C dM_steps_92 rfl (by decide) (Nat.le_refl _) (Nat.le_refl _) ?_
        first
        | (rw [← eO (by omega)] at g44; exact fin1 _ f44 g44 (by omega) (by omega))
        | (rw [← eS (by omega)] at g57; exact fin1 _ f57 g57 (by omega) (by omega))
        | (rw [← eG (by omega)] at g68; exact fin1 _ f68 g68 (by omega) (by omega))
end Mod7
