def lnP (S : PS) (n : Nat) : TL ⊕ (Nat × Nat) := pAll (psB S) n (n + 1) r0 (lexT (psB S) n 0)
section Lane3
variable {G : GE} {V : Nat → Nat → Int} {σ : Shp} {K : Option AV → Mem → Prop} {ow : Nat → Nat} {y : Dy} {S : PS} {kn : Bool}
theorem wL_lane {x : Int} (hB : sX σ + 30 < BG) (h : CW V σ ow y S kn) (hK2 : ¬ (0 ≤ x ∧ x ≤ psN S) → CK K V σ ow (setR S 2) kn (some (vI (-1)))) (hKf : ∀ f a : Nat, 0 ≤ x ∧ x ≤ psN S → lnP S x.toNat = .inr (f, a) → CK K V σ ow (psB S, 0, 4, f, a, S.2.2.2.2.2) kn (some (vI (-1)))) (hKg : ∀ T : TL, 0 ≤ x ∧ x ≤ psN S → lnP S x.toNat = .inl T → CK K V σ ow (nwS (psB S, 0, 0, 0, 0, S.2.2.2.2.2) T) false (some (vI (tDn T)))) : Wp G 10 mL_lane [vR 1, vI x] (V, σ) 9 60 K := by
  have hW := h.cs
  have hN := h.cf.1
  have hle := h.ok.1
  have hX53 := hW.x53
  obtain ⟨⟨n1, n2, n3, n4⟩, ⟨n5, n6, n7⟩, n8⟩ := hW.nm
  have hx0 : 0 < sX σ := by omega
  have ha2 : sA (newS σ 3 0) 2 10 800 := sA_n hW.a2
  have hw1 := h.cl.f (b := 1) (by unfold fx; omega)
  refine wp_intro mL_lane_i.1 [some (vR 1), some (vI x), none, none] rfl rfl (Nat.le_of_ble_eq_true rfl) ?_
  intro X hG F C
  have hm := C.rm
  refine aw_iload_1 (q := 1) F dL_lane_0 rfl ?_
  refine aw_if_lt (q := 4) (t := 12) F dL_lane_1 rfl (by decide) (fun c1 => ?_) (fun c1 => ?_)
  · refine aw_aload_0 (q := 13) F dL_lane_12 rfl ?_
    refine aw_iconst (q := 14) F dL_lane_13 rfl (by decide) ?_
    refine av_callV1 (q := 17) (ci := 7) F hm mL_refuse_i mL_refuse_n lL_76 dL_lane_14 rfl rfl rfl (by first | exact hW.o | exact o1n | exact hW5.o | exact o1 | exact hs27.o | exact hto) (by decide) (by decide) (by decide) (Nat.le_of_ble_eq_true rfl) (wL_refuse hW ?_)
    refine aw_iret F C dL_lane_17 rfl (by decide) (by decide) ?_
    exact h.now (by decide) (hK2 (by omega))
  · refine aw_iload_1 (q := 5) F dL_lane_4 rfl ?_
    refine aw_aload_0 (q := 6) F dL_lane_5 rfl ?_
    refine av_geti (q := 9) F fL_69 dL_lane_6 rfl rfl (by first | exact hW.o | exact o1n | exact hW5.o | exact o1 | exact hs27.o | exact hto) ?_
    refine aw_icmp_le (q := 12) (t := 18) F dL_lane_9 rfl (by decide) (fun c9 => ?_) (fun c9 => ?_)
    · refine av_new (q := 21) (ci := 3) F hm rfl cL_80 dL_lane_18 rfl (by show sX σ < BG; omega) (by first | omega | decide) (by first | decide | omega) ?_
      have o1n : sO (newS σ 3 0) 1 7 := sO_n hW.o
      have hp0n : sP (newS σ 3 0) 1 0 = 2 := by show (if 1 = sX σ then 0 else sP σ 1 0) = 2; rw [if_neg (by omega)]; exact hW.p0
      refine aw_dup (q := 22) F dL_lane_21 rfl trivial ?_
      refine aw_aload_0 (q := 23) F dL_lane_22 rfl ?_
      refine av_getaE (q := 26) F fL_9 dL_lane_23 rfl rfl o1n hp0n ?_
      refine aw_iload_1 (q := 27) F dL_lane_26 rfl ?_
      refine av_callI2 (q := 30) F hm mE_init_i mE_init_n lL_82 dL_lane_27 rfl (by omega) (by decide) (by decide) (by decide) (Nat.le_of_ble_eq_true rfl) (wE_init (e := sX σ) (n := x.toNat) (sO_new σ 3 0 hx0) rfl (fun j => if_pos rfl) (by omega) ha2 (by omega) (by omega) (by omega) (fun v27 sg27 hs27 e27 x27 f27 w27 r27 => ?_))
      have eV : ∀ b, b < sX σ → v27 b = V b := fun b hb => (f27 b hb).trans (funext fun j => if_neg (by omega))
      have eE : eS σ sg27 (fun b _ => b = sX σ) := (eS_new σ 3 0 _).tr e27
      have hTX : TX v27 (sX σ) x.toNat (psB S) := ⟨w27.1, by omega, fun i hi => by rw [eV 2 (by omega)]; exact h.cr.1 i (by omega), h.ok.2.1⟩
      refine aw_astore_2 (q := 31) F dL_lane_30 rfl trivial ?_
      refine aw_aload_2 (q := 32) F dL_lane_31 rfl ?_
      refine av_callV0 (q := 35) (ci := 3) F hm mE_readText_i mE_readText_n lL_85 dL_lane_32 rfl rfl rfl (by first | exact hW.o | exact o1n | exact hW5.o | exact o1 | exact hs27.o | exact hto) (by decide) (by decide) (by decide) (Nat.le_of_ble_eq_true rfl) (wE_readText hs27 hTX w27.2.1 w27.2.2.1 r27 r0_ok ⟨(fun v32 t32 a32 b32 c32 d32 g32 h32 => ?_), (fun v32 f32 p32 a32 b32 c32 d32 => ?_)⟩)
      · have eV2 : ∀ b, b < sX σ → v32 b = V b := fun b hb => (b32.1 b (by omega)).trans (eV b hb)
        have c5 : CW v32 sg27 ow y S kn := h.gr eE (fun b j hb q => by omega) eV2
        have hW5 := c5.cs
        have o1 := hW5.o
        refine aw_istore_3 (q := 36) F dL_lane_35 rfl trivial ?_
        refine aw_aload_0 (q := 37) F dL_lane_36 rfl ?_
        refine aw_iconst (q := 38) F dL_lane_37 rfl (by decide) ?_
        refine av_puti (q := 41) F fL_69 dL_lane_38 rfl rfl (wr_7_1 _) (by first | exact hW.o | exact o1n | exact hW5.o | exact o1 | exact hs27.o | exact hto) ?_
        refine aw_aload_0 (q := 42) F dL_lane_41 rfl ?_
        refine aw_aload_2 (q := 43) F dL_lane_42 rfl ?_
        refine av_geti (q := 46) F fL_89 dL_lane_43 rfl rfl (by first | exact hW.o | exact o1n | exact hW5.o | exact o1 | exact hs27.o | exact hto) ?_
        rw [up2_nea _ _ (show sX σ ≠ 1 by omega)]
        refine av_puti (q := 49) F fL_92 dL_lane_46 rfl rfl (wr_7_3 _) (by first | exact hW.o | exact o1n | exact hW5.o | exact o1 | exact hs27.o | exact hto) ?_
        refine aw_aload_0 (q := 50) F dL_lane_49 rfl ?_
        refine aw_aload_2 (q := 51) F dL_lane_50 rfl ?_
        refine av_geti (q := 54) F fL_93 dL_lane_51 rfl rfl (by first | exact hW.o | exact o1n | exact hW5.o | exact o1 | exact hs27.o | exact hto) ?_
        rw [up2_nea _ _ (show sX σ ≠ 1 by omega), up2_nea _ _ (show sX σ ≠ 1 by omega)]
        refine av_puti (q := 57) F fL_96 dL_lane_54 rfl rfl (wr_7_4 _) (by first | exact hW.o | exact o1n | exact hW5.o | exact o1 | exact hs27.o | exact hto) ?_
        refine aw_iload_3 (q := 58) F dL_lane_57 rfl ?_
        refine aw_if_ne (q := 61) (t := 67) F dL_lane_58 rfl (by decide) (fun c58 => ?_) (fun c58 => absurd c58 (by decide))
        refine aw_aload_0 (q := 68) F dL_lane_67 rfl ?_
        refine aw_iconst (q := 69) F dL_lane_68 rfl (by decide) ?_
        refine av_puti (q := 72) F fL_99 dL_lane_69 rfl rfl (wr_7_2 _) (by first | exact hW.o | exact o1n | exact hW5.o | exact o1 | exact hs27.o | exact hto) ?_
        refine aw_aload_0 (q := 73) F dL_lane_72 rfl ?_
        refine aw_aload_2 (q := 74) F dL_lane_73 rfl ?_
        refine av_getaE (q := 77) F fL_102 dL_lane_74 rfl rfl (by first | exact hW.o | exact o1n | exact hW5.o | exact o1 | exact hs27.o | exact hto) hs27.p0 ?_
        have c6 : CW (up2 (up2 (up2 (up2 v32 1 1 0) 1 3 (v32 (sX σ) 1)) 1 4 (v32 (sX σ) 2)) 1 2 0) sg27 ow y (psB S, 0, 0, 0, 0, S.2.2.2.2.2) kn := c5.o4 (fun b hb => by rw [up2_nea _ _ hb, up2_nea _ _ hb, up2_nea _ _ hb, up2_nea _ _ hb]) (fun j j1 j2 j3 j4 => by rw [up2_nek _ _ j2, up2_nek _ _ j4, up2_nek _ _ j3, up2_nek _ _ j1]) (by rw [up2_nek _ _ (by decide), up2_nek _ _ (by decide), up2_nek _ _ (by decide), up2_same]; rfl) (up2_same _ _ _ _) (by rw [up2_nek _ _ (by decide), up2_nek _ _ (by decide), up2_same]; exact h32.trans w27.2.2.2) (fun q => absurd q (by decide)) (Nat.zero_le _)
        have tV6 : TV (up2 (up2 (up2 (up2 v32 1 1 0) 1 3 (v32 (sX σ) 1)) 1 4 (v32 (sX σ) 2)) 1 2 0) (sX σ + 1) t32 := c32.same (fun i hi => by rw [up2_nea _ _ (by omega), up2_nea _ _ (by omega), up2_nea _ _ (by omega), up2_nea _ _ (by omega)])
        refine av_callV1 (q := 80) (ci := 7) F hm mL_begin_i mL_begin_n lL_103 dL_lane_77 rfl rfl rfl (by first | exact hW.o | exact o1n | exact hW5.o | exact o1 | exact hs27.o | exact hto) (by decide) (by decide) (by decide) (Nat.le_of_ble_eq_true rfl) (wL_begin c6 hs27.t tV6 d32 g32 (by omega) ⟨⟨by omega, by omega, by omega, by omega⟩, by omega, by omega, by omega⟩ (fun v77 c77 f77 => ?_))
        have hp5 : sP (pS sg27 1 5 (sX σ + 1)) 1 5 = sX σ + 1 := c77.cs.p5
        have hto : sO (pS sg27 1 5 (sX σ + 1)) (sX σ + 1) 6 := c77.cs.to
        have o1 := c77.cs.o
        refine aw_aload_0 (q := 81) F dL_lane_80 rfl ?_
        refine av_getaE (q := 84) F fL_16 dL_lane_81 rfl rfl (by first | exact hW.o | exact o1n | exact hW5.o | exact o1 | exact hs27.o | exact hto) hp5 ?_
        refine av_geti (q := 87) F fL_107 dL_lane_84 rfl rfl (by first | exact hW.o | exact o1n | exact hW5.o | exact o1 | exact hs27.o | exact hto) ?_
        refine aw_iret F C dL_lane_87 rfl (by decide) (by decide) ?_
        refine kI (hKg t32 (by omega) a32 _ _ _ _ c77 ⟨eE.1, fun b hb hob => ?_⟩) c77.tv.1.2.1.symm
        have b1 : b ≠ 1 := CL.ne (ow := ow) (by omega)
        have b36 : b ≠ 36 := CL.ne (ow := ow) (by rw [h.cl.f (b := 36) (by unfold fx; omega)]; omega)
        have q := eE.2 b hb
        refine ⟨?_, if_neg (by omega), q.1, q.2.1, fun j => ?_⟩
        · rw [f77 b b1 (h.cl.rg (Or.inr hob) (fun z z1 z2 => by unfold fx; omega)) b36, up2_nea _ _ b1, up2_nea _ _ b1, up2_nea _ _ b1, up2_nea _ _ b1]; exact eV2 b hb
        · show up2 (sP sg27) 1 5 (sX σ + 1) b j = sP σ b j
          rw [up2_nea _ _ b1]; exact q.2.2 j (by omega)
      · have eV2 : ∀ b, b < sX σ → v32 b = V b := fun b hb => (b32.1 b (by omega)).trans (eV b hb)
        have c5 : CW v32 sg27 ow y S kn := h.gr eE (fun b j hb q => by omega) eV2
        have hW5 := c5.cs
        have o1 := hW5.o
        refine aw_istore_3 (q := 36) F dL_lane_35 rfl trivial ?_
        refine aw_aload_0 (q := 37) F dL_lane_36 rfl ?_
        refine aw_iconst (q := 38) F dL_lane_37 rfl (by decide) ?_
        refine av_puti (q := 41) F fL_69 dL_lane_38 rfl rfl (wr_7_1 _) (by first | exact hW.o | exact o1n | exact hW5.o | exact o1 | exact hs27.o | exact hto) ?_
        refine aw_aload_0 (q := 42) F dL_lane_41 rfl ?_
        refine aw_aload_2 (q := 43) F dL_lane_42 rfl ?_
        refine av_geti (q := 46) F fL_89 dL_lane_43 rfl rfl (by first | exact hW.o | exact o1n | exact hW5.o | exact o1 | exact hs27.o | exact hto) ?_
        rw [up2_nea _ _ (show sX σ ≠ 1 by omega)]
        refine av_puti (q := 49) F fL_92 dL_lane_46 rfl rfl (wr_7_3 _) (by first | exact hW.o | exact o1n | exact hW5.o | exact o1 | exact hs27.o | exact hto) ?_
        refine aw_aload_0 (q := 50) F dL_lane_49 rfl ?_
        refine aw_aload_2 (q := 51) F dL_lane_50 rfl ?_
        refine av_geti (q := 54) F fL_93 dL_lane_51 rfl rfl (by first | exact hW.o | exact o1n | exact hW5.o | exact o1 | exact hs27.o | exact hto) ?_
        rw [up2_nea _ _ (show sX σ ≠ 1 by omega), up2_nea _ _ (show sX σ ≠ 1 by omega)]
        refine av_puti (q := 57) F fL_96 dL_lane_54 rfl rfl (wr_7_4 _) (by first | exact hW.o | exact o1n | exact hW5.o | exact o1 | exact hs27.o | exact hto) ?_
        refine aw_iload_3 (q := 58) F dL_lane_57 rfl ?_
        refine aw_if_ne (q := 61) (t := 67) F dL_lane_58 rfl (by decide) (fun c58 => absurd c58 (by decide)) (fun c58 => ?_)
        refine aw_aload_0 (q := 62) F dL_lane_61 rfl ?_
        refine aw_iconst (q := 63) F dL_lane_62 rfl (by decide) ?_
        refine av_callV1 (q := 66) (ci := 7) F hm mL_refuse_i mL_refuse_n lL_76 dL_lane_63 rfl rfl rfl (by first | exact hW.o | exact o1n | exact hW5.o | exact o1 | exact hs27.o | exact hto) (by decide) (by decide) (by decide) (Nat.le_of_ble_eq_true rfl) (wL_refuse hW5 ?_)
        refine aw_iret F C dL_lane_66 rfl (by decide) (by decide) ?_
        have c6 : CW (up2 (up2 (up2 (up2 v32 1 1 0) 1 3 (v32 (sX σ) 1)) 1 4 (v32 (sX σ) 2)) 1 2 4) sg27 ow y (psB S, 0, 4, (f32 : Int), (p32 : Int), S.2.2.2.2.2) kn := c5.o4 (fun b hb => by rw [up2_nea _ _ hb, up2_nea _ _ hb, up2_nea _ _ hb, up2_nea _ _ hb]) (fun j j1 j2 j3 j4 => by rw [up2_nek _ _ j2, up2_nek _ _ j4, up2_nek _ _ j3, up2_nek _ _ j1]) (by rw [up2_nek _ _ (by decide), up2_nek _ _ (by decide), up2_nek _ _ (by decide), up2_same]; rfl) (up2_same _ _ _ _) (by rw [up2_nek _ _ (by decide), up2_nek _ _ (by decide), up2_same]; exact c32) (fun _ => by rw [up2_nek _ _ (by decide), up2_same]; exact d32) (Nat.zero_le _)
        refine hKf f32 p32 (by omega) a32 _ _ _ _ c6 ⟨eE.1, fun b hb hob => ?_⟩
        have b1 : b ≠ 1 := CL.ne (ow := ow) (by omega)
        have q := eE.2 b hb
        exact ⟨by rw [up2_nea _ _ b1, up2_nea _ _ b1, up2_nea _ _ b1, up2_nea _ _ b1]; exact eV2 b hb, rfl, q.1, q.2.1, fun j => q.2.2 j (by omega)⟩
    · refine aw_aload_0 (q := 13) F dL_lane_12 rfl ?_
      refine aw_iconst (q := 14) F dL_lane_13 rfl (by decide) ?_
      refine av_callV1 (q := 17) (ci := 7) F hm mL_refuse_i mL_refuse_n lL_76 dL_lane_14 rfl rfl rfl (by first | exact hW.o | exact o1n | exact hW5.o | exact o1 | exact hs27.o | exact hto) (by decide) (by decide) (by decide) (Nat.le_of_ble_eq_true rfl) (wL_refuse hW ?_)
      refine aw_iret F C dL_lane_17 rfl (by decide) (by decide) ?_
      exact h.now (by decide) (hK2 (by omega))
end Lane3
