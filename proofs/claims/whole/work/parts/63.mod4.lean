section Mod4
variable {G : GE} {V : Nat → Nat → Int} {σ : Shp} {K : Option AV → Mem → Prop} {l : Nat} {c : Cfg} {n : Nat}
theorem wM_canStep {w : Int} {s : Nat} (hw : w = s) (hs : s < stN c) (hM : moS σ l) (hl : laS σ l) (hC : LC V l c) (hA : AR (V 56) c n) (hc : okC c) (h1 : mayN c n (allP c) s = true → K (some (vI 1)) (V, σ)) (h0 : mayN c n (allP c) s = false → K (some (vI 0)) (V, σ)) : Wp G 2 mM_canStep [vR 53, vI w] (V, σ) 0 0 K := by
  have hd4 : dN c ≤ 4 := hc.1
  have hp2 : pN c ≤ 2 := hc.2.1
  have hst : stN c ≤ 16 := stN_le hc
  have v1 := hC.1
  obtain ⟨hD, hm1, hm2⟩ := divmod_lt (s := s) (D := dN c) (R := 2 + pN c) (by have : stN c = dN c * (2 + pN c) := rfl; omega)
  obtain ⟨q1, q2⟩ := tdm (s := w) (D := dN c) (by omega)
  rw [show w.toNat = s by omega] at q1 q2
  have i0 := inP_lt hc n 0
  have hall : allP c < 4 := by
    have h4 : 2 ^ pN c ≤ 2 ^ 2 := Nat.pow_le_pow_right (by decide) hp2
    unfold allP
    omega
  unfold mayN at h1 h0
  generalize s / dN c = row at *
  generalize s % dN c = dd at *
  refine wp_intro mM_canStep_i.1 [some (vR 53), some (vI w), none, none] rfl rfl (Nat.le_of_ble_eq_true rfl) ?_
  intro X hG F C
  have hm := C.rm
  refine aw_iload_1 (q := 1) F dM_canStep_0 rfl ?_
  refine aw_aload_0 (q := 2) F dM_canStep_1 rfl ?_
  refine av_getaE (q := 5) F fM_281 dM_canStep_2 rfl rfl (by first | exact hM.o | exact hl.o | exact hM.a55 | exact hM.a56) hM.p3 ?_
  refine av_geti (q := 8) F fM_183 dM_canStep_5 rfl rfl (by first | exact hM.o | exact hl.o | exact hM.a55 | exact hM.a56) ?_
  rw [v1]
  refine aw_irem (q := 9) F dM_canStep_8 rfl (by omega) (by omega) ?_
  rw [q2]
  refine aw_istore_2 (q := 10) F dM_canStep_9 rfl trivial ?_
  refine aw_iload_1 (q := 11) F dM_canStep_10 rfl ?_
  refine aw_aload_0 (q := 12) F dM_canStep_11 rfl ?_
  refine av_getaE (q := 15) F fM_281 dM_canStep_12 rfl rfl (by first | exact hM.o | exact hl.o | exact hM.a55 | exact hM.a56) hM.p3 ?_
  refine av_geti (q := 18) F fM_183 dM_canStep_15 rfl rfl (by first | exact hM.o | exact hl.o | exact hM.a55 | exact hM.a56) ?_
  rw [v1]
  refine aw_idiv (q := 19) F dM_canStep_18 rfl (by omega) (by omega) ?_
  rw [q1]
  refine aw_istore_3 (q := 20) F dM_canStep_19 rfl trivial ?_
  refine aw_iload_3 (q := 21) F dM_canStep_20 rfl ?_
  refine aw_if_ne (q := 24) (t := 36) F dM_canStep_21 rfl (by decide) (fun c21 => ?_) (fun c21 => ?_)
  · refine aw_iload_3 (q := 37) F dM_canStep_36 rfl ?_
    refine aw_iconst (q := 38) F dM_canStep_37 rfl (by decide) ?_
    refine aw_icmp_ne (q := 41) (t := 53) F dM_canStep_38 rfl (by decide) (fun c38 => ?_) (fun c38 => ?_)
    · refine aw_aload_0 (q := 54) F dM_canStep_53 rfl ?_
      refine aw_iload_3 (q := 55) F dM_canStep_54 rfl ?_
      refine aw_iconst (q := 56) F dM_canStep_55 rfl (by decide) ?_
      refine aw_isub (q := 57) F dM_canStep_56 rfl (by constructor <;> omega) ?_
      refine aw_iload_2 (q := 58) F dM_canStep_57 rfl ?_
      refine av_callV2 (q := 61) (ci := 9) F hm mM_canGo_i mM_canGo_n lM_314 dM_canStep_58 rfl rfl rfl (by first | exact hM.o | exact hl.o | exact hM.a55 | exact hM.a56) (by decide) (Nat.le_refl _) (Nat.le_refl _) (Nat.le_of_ble_eq_true rfl) (wM_canGo (p := row - 2) (d := dd) (by omega) (by omega) rfl (by omega) hM hA hc (fun c58 => ?_) (fun c58 => ?_))
      · refine aw_zret F C dM_canStep_61 rfl (by decide) (Nat.le_refl _) (Nat.le_refl _) ?_
        refine h1 ?_
        first
        | (rw [if_pos (by omega), inP_all]; exact c30)
        | (rw [if_neg (by omega), if_pos (by omega)]; exact c47)
        | (rw [if_neg (by omega), if_neg (by omega), allP_bit (by omega), c58]; rfl)
      · refine aw_zret F C dM_canStep_61 rfl (by decide) (Nat.le_refl _) (Nat.le_refl _) ?_
        refine h0 ?_
        first
        | (rw [if_pos (by omega), inP_all]; exact c30)
        | (rw [if_neg (by omega), if_pos (by omega)]; exact c47)
        | (rw [if_neg (by omega), if_neg (by omega), c58]; simp)
    · refine aw_aload_0 (q := 42) F dM_canStep_41 rfl ?_
      refine aw_iload_2 (q := 43) F dM_canStep_42 rfl ?_
      refine aw_aload_0 (q := 44) F dM_canStep_43 rfl ?_
      refine av_callV0 (q := 47) (ci := 9) F hm mM_all_i mM_all_n lM_308 dM_canStep_44 rfl rfl rfl (by first | exact hM.o | exact hl.o | exact hM.a55 | exact hM.a56) (by decide) (Nat.le_refl _) (Nat.le_refl _) (Nat.le_of_ble_eq_true rfl) (wM_all hM hl hC hc ?_)
      refine av_callV2 (q := 50) (ci := 9) F hm mM_canShut_i mM_canShut_n lM_311 dM_canStep_47 rfl rfl rfl (by first | exact hM.o | exact hl.o | exact hM.a55 | exact hM.a56) (by decide) (Nat.le_refl _) (Nat.le_refl _) (Nat.le_of_ble_eq_true rfl) (wM_canShut (d := dd) (h := allP c) rfl (by omega) rfl hall hM hl hC hA hc (fun c47 => ?_) (fun c47 => ?_))
      · refine aw_goto (t := 61) F dM_canStep_50 (by decide) ?_
        refine aw_zret F C dM_canStep_61 rfl (by decide) (Nat.le_refl _) (Nat.le_refl _) ?_
        refine h1 ?_
        first
        | (rw [if_pos (by omega), inP_all]; exact c30)
        | (rw [if_neg (by omega), if_pos (by omega)]; exact c47)
        | (rw [if_neg (by omega), if_neg (by omega), allP_bit (by omega), c58]; rfl)
      · refine aw_goto (t := 61) F dM_canStep_50 (by decide) ?_
        refine aw_zret F C dM_canStep_61 rfl (by decide) (Nat.le_refl _) (Nat.le_refl _) ?_
        refine h0 ?_
        first
        | (rw [if_pos (by omega), inP_all]; exact c30)
        | (rw [if_neg (by omega), if_pos (by omega)]; exact c47)
        | (rw [if_neg (by omega), if_neg (by omega), c58]; simp)
  · refine aw_aload_0 (q := 25) F dM_canStep_24 rfl ?_
    refine aw_iload_2 (q := 26) F dM_canStep_25 rfl ?_
    refine aw_aload_0 (q := 27) F dM_canStep_26 rfl ?_
    refine av_callV0 (q := 30) (ci := 9) F hm mM_inLane_i mM_inLane_n lM_299 dM_canStep_27 rfl rfl rfl (by first | exact hM.o | exact hl.o | exact hM.a55 | exact hM.a56) (by decide) (Nat.le_refl _) (Nat.le_refl _) (Nat.le_of_ble_eq_true rfl) (wM_inLane hM hl hC hA hc ?_)
    refine av_callV2 (q := 33) (ci := 9) F hm mM_canOpen_i mM_canOpen_n lM_305 dM_canStep_30 rfl rfl rfl (by first | exact hM.o | exact hl.o | exact hM.a55 | exact hM.a56) (by decide) (Nat.le_refl _) (Nat.le_refl _) (Nat.le_of_ble_eq_true rfl) (wM_canOpen (d := dd) (h := inP c n 0) rfl (by omega) rfl i0 hM hl hC hA hc (fun c30 => ?_) (fun c30 => ?_))
    · refine aw_goto (t := 61) F dM_canStep_33 (by decide) ?_
      refine aw_zret F C dM_canStep_61 rfl (by decide) (Nat.le_refl _) (Nat.le_refl _) ?_
      refine h1 ?_
      first
      | (rw [if_pos (by omega), inP_all]; exact c30)
      | (rw [if_neg (by omega), if_pos (by omega)]; exact c47)
      | (rw [if_neg (by omega), if_neg (by omega), allP_bit (by omega), c58]; rfl)
    · refine aw_goto (t := 61) F dM_canStep_33 (by decide) ?_
      refine aw_zret F C dM_canStep_61 rfl (by decide) (Nat.le_refl _) (Nat.le_refl _) ?_
      refine h0 ?_
      first
      | (rw [if_pos (by omega), inP_all]; exact c30)
      | (rw [if_neg (by omega), if_pos (by omega)]; exact c47)
      | (rw [if_neg (by omega), if_neg (by omega), c58]; simp)
end Mod4
