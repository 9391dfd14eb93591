section Mod3
variable {G : GE} {V : Nat → Nat → Int} {σ : Shp} {K : Option AV → Mem → Prop} {l : Nat} {c : Cfg} {n : Nat}
theorem ar_ld {f : Nat → Int} (hA : AR f c n) {d : Nat} (hd : d < 4) (h : d < dN c) : f (2 + d) = (ld c n d : Int) := by rw [hA.2.1 d hd, if_pos h]
theorem ar_pl {f : Nat → Int} (hA : AR f c n) {p : Nat} (hp : p < 2) (h : p < pN c) : f p = (pl c n p : Int) := by rw [hA.1 p hp, if_pos h]
theorem pc_2 : ∀ h : Nat, h < 4 → (1 ≤ pcN 31 h ↔ h ≠ 0) ∧ (2 ≤ pcN 31 h ↔ h = 3) := by decide +kernel
theorem wM_canOpen {x w : Int} {d h : Nat} (hx : x = d) (hd : d < dN c) (hw : w = h) (hh4 : h < 4) (hM : moS σ l) (hl : laS σ l) (hC : LC V l c) (hA : AR (V 56) c n) (hc : okC c) (h1 : mO c n h d = true → K (some (vI 1)) (V, σ)) (h0 : mO c n h d = false → K (some (vI 0)) (V, σ)) : Wp G 1 mM_canOpen [vR 53, vI x, vI w] (V, σ) 0 0 K := by
  have hd4 : dN c ≤ 4 := hc.1
  have e2 : V 56 (2 + d) = (ld c n d : Int) := ar_ld hA (by omega) hd
  have e7 : V 56 (7 + d) = kdC c d := hA.2.2.2.1 d (by omega)
  have e11 : V 56 11 = nlC c := hA.2.2.2.2
  have hlk := hC.2.2.1
  have hky := hC.2.2.2
  have hl16 : lkC c < 16 := hc.2.2.1
  have hk4 : kyC c < 4 := hc.2.2.2.1
  have hn16 : nlC c < 16 := hc.2.2.2.2.2
  have hkd := hc.2.2.2.2.1 d
  have hpc := pc_2 h hh4
  have hza : zand w (V l 5) = ((h &&& kyC c : Nat) : Int) := by rw [hw, hky]; exact zand_n (Nat.lt_of_le_of_lt Nat.and_le_left (by omega))
  refine wp_intro mM_canOpen_i.1 [some (vR 53), some (vI x), some (vI w)] rfl rfl (Nat.le_of_ble_eq_true rfl) ?_
  intro X hG F C
  have hm := C.rm
  refine aw_aload_0 (q := 1) F dM_canOpen_0 rfl ?_
  refine av_getaE (q := 4) F fM_21 dM_canOpen_1 rfl rfl (by first | exact hM.o | exact hl.o | exact hM.a55 | exact hM.a56) hM.p16 ?_
  refine aw_iconst (q := 5) F dM_canOpen_4 rfl (by decide) ?_
  refine aw_iload_1 (q := 6) F dM_canOpen_5 rfl ?_
  refine aw_iadd (q := 7) F dM_canOpen_6 rfl (by constructor <;> omega) ?_
  refine av_iaload (q := 8) F dM_canOpen_7 rfl (by first | exact hM.o | exact hl.o | exact hM.a55 | exact hM.a56) (by omega) (by omega) ?_
  rw [show (2 + x).toNat = 2 + d by omega, e2]
  refine aw_if_gt (q := 11) (t := 25) F dM_canOpen_8 rfl (by decide) (fun c8 => ?_) (fun c8 => ?_)
  · refine aw_iconst (q := 26) F dM_canOpen_25 rfl (by decide) ?_
    refine aw_zret F C dM_canOpen_26 rfl (by decide) (Nat.le_refl _) (Nat.le_refl _) ?_
    refine h0 ?_
    unfold mO
    first
    | (rw [show (ld c n d == 0) = false from beq_eq_false_iff_ne.mpr (by omega)]; rfl)
    | (rw [c19]; simp)
  · refine aw_aload_0 (q := 12) F dM_canOpen_11 rfl ?_
    refine av_getaE (q := 15) F fM_21 dM_canOpen_12 rfl rfl (by first | exact hM.o | exact hl.o | exact hM.a55 | exact hM.a56) hM.p16 ?_
    refine aw_bipush (q := 17) F dM_canOpen_15 rfl (by decide) ?_
    refine av_iaload (q := 18) F dM_canOpen_17 rfl (by first | exact hM.o | exact hl.o | exact hM.a55 | exact hM.a56) (by omega) (by omega) ?_
    rw [show (11 : Int).toNat = 11 from rfl, e11]
    refine aw_iload_1 (q := 19) F dM_canOpen_18 rfl ?_
    refine av_callS2 (q := 22) F hm mM_bit_i mM_bit_n lM_241 dM_canOpen_19 rfl (by decide) (Nat.le_refl _) (Nat.le_refl _) (Nat.le_of_ble_eq_true rfl) (wM_bit (m := nlC c) (d := d) rfl (by omega) hx (by omega) (fun c19 => ?_) (fun c19 => ?_))
    · refine aw_if_eq (q := 25) (t := 27) F dM_canOpen_22 rfl (by decide) (fun c22 => absurd c22 (by decide)) (fun c22 => ?_)
      refine aw_iconst (q := 26) F dM_canOpen_25 rfl (by decide) ?_
      refine aw_zret F C dM_canOpen_26 rfl (by decide) (Nat.le_refl _) (Nat.le_refl _) ?_
      refine h0 ?_
      unfold mO
      first
      | (rw [show (ld c n d == 0) = false from beq_eq_false_iff_ne.mpr (by omega)]; rfl)
      | (rw [c19]; simp)
    · refine aw_if_eq (q := 25) (t := 27) F dM_canOpen_22 rfl (by decide) (fun c22 => ?_) (fun c22 => absurd c22 (by decide))
      refine aw_aload_0 (q := 28) F dM_canOpen_27 rfl ?_
      refine av_getaE (q := 31) F fM_281 dM_canOpen_28 rfl rfl (by first | exact hM.o | exact hl.o | exact hM.a55 | exact hM.a56) hM.p3 ?_
      refine av_geti (q := 34) F fM_239 dM_canOpen_31 rfl rfl (by first | exact hM.o | exact hl.o | exact hM.a55 | exact hM.a56) ?_
      rw [hlk]
      refine aw_iload_1 (q := 35) F dM_canOpen_34 rfl ?_
      refine av_callS2 (q := 38) F hm mM_bit_i mM_bit_n lM_241 dM_canOpen_35 rfl (by decide) (Nat.le_refl _) (Nat.le_refl _) (Nat.le_of_ble_eq_true rfl) (wM_bit (m := lkC c) (d := d) rfl (by omega) hx (by omega) (fun c35 => ?_) (fun c35 => ?_))
      · refine aw_if_eq (q := 41) (t := 55) F dM_canOpen_38 rfl (by decide) (fun c38 => absurd c38 (by decide)) (fun c38 => ?_)
        refine aw_iload_2 (q := 42) F dM_canOpen_41 rfl ?_
        refine aw_aload_0 (q := 43) F dM_canOpen_42 rfl ?_
        refine av_getaE (q := 46) F fM_281 dM_canOpen_43 rfl rfl (by first | exact hM.o | exact hl.o | exact hM.a55 | exact hM.a56) hM.p3 ?_
        refine av_geti (q := 49) F fM_265 dM_canOpen_46 rfl rfl (by first | exact hM.o | exact hl.o | exact hM.a55 | exact hM.a56) ?_
        refine aw_iand (q := 50) F dM_canOpen_49 rfl ?_
        rw [hza]
        refine aw_if_ne (q := 53) (t := 55) F dM_canOpen_50 rfl (by decide) (fun c50 => ?_) (fun c50 => ?_)
        · refine aw_iload_2 (q := 56) F dM_canOpen_55 rfl ?_
          refine av_callS1 (q := 59) F hm mM_bits_i mM_bits_n lM_296 dM_canOpen_56 rfl (by decide) (Nat.le_refl _) (Nat.le_refl _) (Nat.le_of_ble_eq_true rfl) (wM_bits (m := h) hw (by omega) ?_)
          refine aw_aload_0 (q := 60) F dM_canOpen_59 rfl ?_
          refine av_getaE (q := 63) F fM_21 dM_canOpen_60 rfl rfl (by first | exact hM.o | exact hl.o | exact hM.a55 | exact hM.a56) hM.p16 ?_
          refine aw_bipush (q := 65) F dM_canOpen_63 rfl (by decide) ?_
          refine aw_iload_1 (q := 66) F dM_canOpen_65 rfl ?_
          refine aw_iadd (q := 67) F dM_canOpen_66 rfl (by constructor <;> omega) ?_
          refine av_iaload (q := 68) F dM_canOpen_67 rfl (by first | exact hM.o | exact hl.o | exact hM.a55 | exact hM.a56) (by omega) (by omega) ?_
          rw [show (7 + x).toNat = 7 + d by omega, e7]
          refine aw_iconst (q := 69) F dM_canOpen_68 rfl (by decide) ?_
          refine aw_icmp_ne (q := 72) (t := 76) F dM_canOpen_69 rfl (by decide) (fun c69 => ?_) (fun c69 => ?_)
          · refine aw_iconst (q := 77) F dM_canOpen_76 rfl (by decide) ?_
            refine aw_icmp_lt (q := 80) (t := 84) F dM_canOpen_77 rfl (by decide) (fun c77 => ?_) (fun c77 => ?_)
            · refine aw_iconst (q := 85) F dM_canOpen_84 rfl (by decide) ?_
              refine aw_zret F C dM_canOpen_85 rfl (by decide) (Nat.le_refl _) (Nat.le_refl _) ?_
              refine h0 ?_
              unfold mO
              first
              | (rw [show (h != 0) = false by rw [show h = 0 by omega]; rfl]; simp)
              | (rw [show (kdC c d != 2 || h == 3) = false by rw [show kdC c d = 2 by omega, show (h == 3) = false from beq_eq_false_iff_ne.mpr (by omega)]; rfl]; simp)
            · refine aw_iconst (q := 81) F dM_canOpen_80 rfl (by decide) ?_
              refine aw_goto (t := 85) F dM_canOpen_81 (by decide) ?_
              refine aw_zret F C dM_canOpen_85 rfl (by decide) (Nat.le_refl _) (Nat.le_refl _) ?_
              refine h1 ?_
              have hld : ld c n d = 0 := by omega
              have hpos : h ≠ 0 := by omega
              unfold mO
              rw [hld, c19, show (h != 0) = true from bne_iff_ne.mpr hpos]
              have hA2 : (kdC c d != 2 || h == 3) = true := by
                first
                | (rw [show (kdC c d != 2) = true from bne_iff_ne.mpr (by omega)]; rfl)
                | (rw [show (h == 3) = true from beq_iff_eq.mpr (by omega)]; simp)
              have hB2 : (!(lkC c).testBit d || h &&& kyC c != 0) = true := by
                first
                | (rw [show (h &&& kyC c != 0) = true from bne_iff_ne.mpr (by omega)]; simp)
                | (rw [c35]; rfl)
              rw [hA2, hB2]
              rfl
          · refine aw_iconst (q := 73) F dM_canOpen_72 rfl (by decide) ?_
            refine aw_goto (t := 77) F dM_canOpen_73 (by decide) ?_
            refine aw_icmp_lt (q := 80) (t := 84) F dM_canOpen_77 rfl (by decide) (fun c77 => ?_) (fun c77 => ?_)
            · refine aw_iconst (q := 85) F dM_canOpen_84 rfl (by decide) ?_
              refine aw_zret F C dM_canOpen_85 rfl (by decide) (Nat.le_refl _) (Nat.le_refl _) ?_
              refine h0 ?_
              unfold mO
              first
              | (rw [show (h != 0) = false by rw [show h = 0 by omega]; rfl]; simp)
              | (rw [show (kdC c d != 2 || h == 3) = false by rw [show kdC c d = 2 by omega, show (h == 3) = false from beq_eq_false_iff_ne.mpr (by omega)]; rfl]; simp)
            · refine aw_iconst (q := 81) F dM_canOpen_80 rfl (by decide) ?_
              refine aw_goto (t := 85) F dM_canOpen_81 (by decide) ?_
              refine aw_zret F C dM_canOpen_85 rfl (by decide) (Nat.le_refl _) (Nat.le_refl _) ?_
              refine h1 ?_
              have hld : ld c n d = 0 := by omega
              have hpos : h ≠ 0 := by omega
              unfold mO
              rw [hld, c19, show (h != 0) = true from bne_iff_ne.mpr hpos]
              have hA2 : (kdC c d != 2 || h == 3) = true := by
                first
                | (rw [show (kdC c d != 2) = true from bne_iff_ne.mpr (by omega)]; rfl)
                | (rw [show (h == 3) = true from beq_iff_eq.mpr (by omega)]; simp)
              have hB2 : (!(lkC c).testBit d || h &&& kyC c != 0) = true := by
                first
                | (rw [show (h &&& kyC c != 0) = true from bne_iff_ne.mpr (by omega)]; simp)
                | (rw [c35]; rfl)
              rw [hA2, hB2]
              rfl
        · refine aw_iconst (q := 54) F dM_canOpen_53 rfl (by decide) ?_
          refine aw_zret F C dM_canOpen_54 rfl (by decide) (Nat.le_refl _) (Nat.le_refl _) ?_
          refine h0 ?_
          unfold mO
          rw [c35, show (h &&& kyC c != 0) = false by rw [show h &&& kyC c = 0 by omega]; rfl]
          simp
      · refine aw_if_eq (q := 41) (t := 55) F dM_canOpen_38 rfl (by decide) (fun c38 => ?_) (fun c38 => absurd c38 (by decide))
        refine aw_iload_2 (q := 56) F dM_canOpen_55 rfl ?_
        refine av_callS1 (q := 59) F hm mM_bits_i mM_bits_n lM_296 dM_canOpen_56 rfl (by decide) (Nat.le_refl _) (Nat.le_refl _) (Nat.le_of_ble_eq_true rfl) (wM_bits (m := h) hw (by omega) ?_)
        refine aw_aload_0 (q := 60) F dM_canOpen_59 rfl ?_
        refine av_getaE (q := 63) F fM_21 dM_canOpen_60 rfl rfl (by first | exact hM.o | exact hl.o | exact hM.a55 | exact hM.a56) hM.p16 ?_
        refine aw_bipush (q := 65) F dM_canOpen_63 rfl (by decide) ?_
        refine aw_iload_1 (q := 66) F dM_canOpen_65 rfl ?_
        refine aw_iadd (q := 67) F dM_canOpen_66 rfl (by constructor <;> omega) ?_
        refine av_iaload (q := 68) F dM_canOpen_67 rfl (by first | exact hM.o | exact hl.o | exact hM.a55 | exact hM.a56) (by omega) (by omega) ?_
        rw [show (7 + x).toNat = 7 + d by omega, e7]
        refine aw_iconst (q := 69) F dM_canOpen_68 rfl (by decide) ?_
        refine aw_icmp_ne (q := 72) (t := 76) F dM_canOpen_69 rfl (by decide) (fun c69 => ?_) (fun c69 => ?_)
        · refine aw_iconst (q := 77) F dM_canOpen_76 rfl (by decide) ?_
          refine aw_icmp_lt (q := 80) (t := 84) F dM_canOpen_77 rfl (by decide) (fun c77 => ?_) (fun c77 => ?_)
          · refine aw_iconst (q := 85) F dM_canOpen_84 rfl (by decide) ?_
            refine aw_zret F C dM_canOpen_85 rfl (by decide) (Nat.le_refl _) (Nat.le_refl _) ?_
            refine h0 ?_
            unfold mO
            first
            | (rw [show (h != 0) = false by rw [show h = 0 by omega]; rfl]; simp)
            | (rw [show (kdC c d != 2 || h == 3) = false by rw [show kdC c d = 2 by omega, show (h == 3) = false from beq_eq_false_iff_ne.mpr (by omega)]; rfl]; simp)
          · refine aw_iconst (q := 81) F dM_canOpen_80 rfl (by decide) ?_
            refine aw_goto (t := 85) F dM_canOpen_81 (by decide) ?_
            refine aw_zret F C dM_canOpen_85 rfl (by decide) (Nat.le_refl _) (Nat.le_refl _) ?_
            refine h1 ?_
            have hld : ld c n d = 0 := by omega
            have hpos : h ≠ 0 := by omega
            unfold mO
            rw [hld, c19, show (h != 0) = true from bne_iff_ne.mpr hpos]
            have hA2 : (kdC c d != 2 || h == 3) = true := by
              first
              | (rw [show (kdC c d != 2) = true from bne_iff_ne.mpr (by omega)]; rfl)
              | (rw [show (h == 3) = true from beq_iff_eq.mpr (by omega)]; simp)
            have hB2 : (!(lkC c).testBit d || h &&& kyC c != 0) = true := by
              first
              | (rw [show (h &&& kyC c != 0) = true from bne_iff_ne.mpr (by omega)]; simp)
              | (rw [c35]; rfl)
            rw [hA2, hB2]
            rfl
        · refine aw_iconst (q := 73) F dM_canOpen_72 rfl (by decide) ?_
          refine aw_goto (t := 77) F dM_canOpen_73 (by decide) ?_
          refine aw_icmp_lt (q := 80) (t := 84) F dM_canOpen_77 rfl (by decide) (fun c77 => ?_) (fun c77 => ?_)
          · refine aw_iconst (q := 85) F dM_canOpen_84 rfl (by decide) ?_
            refine aw_zret F C dM_canOpen_85 rfl (by decide) (Nat.le_refl _) (Nat.le_refl _) ?_
            refine h0 ?_
            unfold mO
            first
            | (rw [show (h != 0) = false by rw [show h = 0 by omega]; rfl]; simp)
            | (rw [show (kdC c d != 2 || h == 3) = false by rw [show kdC c d = 2 by omega, show (h == 3) = false from beq_eq_false_iff_ne.mpr (by omega)]; rfl]; simp)
          · refine aw_iconst (q := 81) F dM_canOpen_80 rfl (by decide) ?_
            refine aw_goto (t := 85) F dM_canOpen_81 (by decide) ?_
            refine aw_zret F C dM_canOpen_85 rfl (by decide) (Nat.le_refl _) (Nat.le_refl _) ?_
            refine h1 ?_
            have hld : ld c n d = 0 := by omega
            have hpos : h ≠ 0 := by omega
            unfold mO
            rw [hld, c19, show (h != 0) = true from bne_iff_ne.mpr hpos]
            have hA2 : (kdC c d != 2 || h == 3) = true := by
              first
              | (rw [show (kdC c d != 2) = true from bne_iff_ne.mpr (by omega)]; rfl)
              | (rw [show (h == 3) = true from beq_iff_eq.mpr (by omega)]; simp)
            have hB2 : (!(lkC c).testBit d || h &&& kyC c != 0) = true := by
              first
              | (rw [show (h &&& kyC c != 0) = true from bne_iff_ne.mpr (by omega)]; simp)
              | (rw [c35]; rfl)
            rw [hA2, hB2]
            rfl
theorem wM_canShut {x w : Int} {d h : Nat} (hx : x = d) (hd : d < dN c) (hw : w = h) (hh4 : h < 4) (hM : moS σ l) (hl : laS σ l) (hC : LC V l c) (hA : AR (V 56) c n) (hc : okC c) (h1 : mS c n h d = true → K (some (vI 1)) (V, σ)) (h0 : mS c n h d = false → K (some (vI 0)) (V, σ)) : Wp G 1 mM_canShut [vR 53, vI x, vI w] (V, σ) 0 0 K := by
  have hd4 : dN c ≤ 4 := hc.1
  have e2 : V 56 (2 + d) = (ld c n d : Int) := ar_ld hA (by omega) hd
  have e7 : V 56 (7 + d) = kdC c d := hA.2.2.2.1 d (by omega)
  have i0 := inP_lt hc n 0
  have i1 := inP_lt hc n (ld c n d)
  have hor : inP c n 0 ||| inP c n (ld c n d) < 4 := Nat.or_lt_two_pow (n := 2) i0 i1
  have hcm : h &&& (inP c n 0 ||| inP c n (ld c n d)) = (inP c n 0 ||| inP c n (ld c n d)) &&& h := Nat.and_comm _ _
  refine wp_intro mM_canShut_i.1 [some (vR 53), some (vI x), some (vI w)] rfl rfl (Nat.le_of_ble_eq_true rfl) ?_
  intro X hG F C
  have hm := C.rm
  refine aw_aload_0 (q := 1) F dM_canShut_0 rfl ?_
  refine av_getaE (q := 4) F fM_21 dM_canShut_1 rfl rfl (by first | exact hM.o | exact hl.o | exact hM.a55 | exact hM.a56) hM.p16 ?_
  refine aw_iconst (q := 5) F dM_canShut_4 rfl (by decide) ?_
  refine aw_iload_1 (q := 6) F dM_canShut_5 rfl ?_
  refine aw_iadd (q := 7) F dM_canShut_6 rfl (by constructor <;> omega) ?_
  refine av_iaload (q := 8) F dM_canShut_7 rfl (by first | exact hM.o | exact hl.o | exact hM.a55 | exact hM.a56) (by omega) (by omega) ?_
  rw [show (2 + x).toNat = 2 + d by omega, e2]
  refine aw_if_le (q := 11) (t := 50) F dM_canShut_8 rfl (by decide) (fun c8 => ?_) (fun c8 => ?_)
  · refine aw_iconst (q := 51) F dM_canShut_50 rfl (by decide) ?_
    refine aw_zret F C dM_canShut_51 rfl (by decide) (Nat.le_refl _) (Nat.le_refl _) ?_
    refine h0 ?_
    unfold mS
    first
    | (rw [show ((inP c n 0 ||| inP c n (ld c n d)) &&& h != 0) = false by rw [show (inP c n 0 ||| inP c n (ld c n d)) &&& h = 0 by omega]; rfl]; simp)
    | (rw [show (kdC c d != 3) = false by rw [show kdC c d = 3 by omega]; rfl]; simp)
    | (rw [show (ld c n d != 0) = false by rw [show ld c n d = 0 by omega]; rfl]; rfl)
  · refine aw_aload_0 (q := 12) F dM_canShut_11 rfl ?_
    refine av_getaE (q := 15) F fM_21 dM_canShut_12 rfl rfl (by first | exact hM.o | exact hl.o | exact hM.a55 | exact hM.a56) hM.p16 ?_
    refine aw_bipush (q := 17) F dM_canShut_15 rfl (by decide) ?_
    refine aw_iload_1 (q := 18) F dM_canShut_17 rfl ?_
    refine aw_iadd (q := 19) F dM_canShut_18 rfl (by constructor <;> omega) ?_
    refine av_iaload (q := 20) F dM_canShut_19 rfl (by first | exact hM.o | exact hl.o | exact hM.a55 | exact hM.a56) (by omega) (by omega) ?_
    rw [show (7 + x).toNat = 7 + d by omega, e7]
    refine aw_iconst (q := 21) F dM_canShut_20 rfl (by decide) ?_
    refine aw_icmp_eq (q := 24) (t := 50) F dM_canShut_21 rfl (by decide) (fun c21 => ?_) (fun c21 => ?_)
    · refine aw_iconst (q := 51) F dM_canShut_50 rfl (by decide) ?_
      refine aw_zret F C dM_canShut_51 rfl (by decide) (Nat.le_refl _) (Nat.le_refl _) ?_
      refine h0 ?_
      unfold mS
      first
      | (rw [show ((inP c n 0 ||| inP c n (ld c n d)) &&& h != 0) = false by rw [show (inP c n 0 ||| inP c n (ld c n d)) &&& h = 0 by omega]; rfl]; simp)
      | (rw [show (kdC c d != 3) = false by rw [show kdC c d = 3 by omega]; rfl]; simp)
      | (rw [show (ld c n d != 0) = false by rw [show ld c n d = 0 by omega]; rfl]; rfl)
    · refine aw_iload_2 (q := 25) F dM_canShut_24 rfl ?_
      refine aw_aload_0 (q := 26) F dM_canShut_25 rfl ?_
      refine av_callV0 (q := 29) (ci := 9) F hm mM_inLane_i mM_inLane_n lM_299 dM_canShut_26 rfl rfl rfl (by first | exact hM.o | exact hl.o | exact hM.a55 | exact hM.a56) (by decide) (Nat.le_refl _) (Nat.le_refl _) (Nat.le_of_ble_eq_true rfl) (wM_inLane hM hl hC hA hc ?_)
      refine aw_aload_0 (q := 30) F dM_canShut_29 rfl ?_
      refine aw_aload_0 (q := 31) F dM_canShut_30 rfl ?_
      refine av_getaE (q := 34) F fM_21 dM_canShut_31 rfl rfl (by first | exact hM.o | exact hl.o | exact hM.a55 | exact hM.a56) hM.p16 ?_
      refine aw_iconst (q := 35) F dM_canShut_34 rfl (by decide) ?_
      refine aw_iload_1 (q := 36) F dM_canShut_35 rfl ?_
      refine aw_iadd (q := 37) F dM_canShut_36 rfl (by constructor <;> omega) ?_
      refine av_iaload (q := 38) F dM_canShut_37 rfl (by first | exact hM.o | exact hl.o | exact hM.a55 | exact hM.a56) (by omega) (by omega) ?_
      rw [show (2 + x).toNat = 2 + d by omega, e2]
      refine av_callV1 (q := 41) (ci := 9) F hm mM_inPlace_i mM_inPlace_n lM_302 dM_canShut_38 rfl rfl rfl (by first | exact hM.o | exact hl.o | exact hM.a55 | exact hM.a56) (by decide) (Nat.le_refl _) (Nat.le_refl _) (Nat.le_of_ble_eq_true rfl) (wM_inPlace (r := ld c n d) rfl hM hl hC hA hc ?_)
      refine aw_ior (q := 42) F dM_canShut_41 rfl ?_
      rw [zor_n (by omega), hw]
      refine aw_iand (q := 43) F dM_canShut_42 rfl ?_
      rw [zand_n (Nat.lt_of_le_of_lt Nat.and_le_left (by omega)), hcm]
      refine aw_if_eq (q := 46) (t := 50) F dM_canShut_43 rfl (by decide) (fun c43 => ?_) (fun c43 => ?_)
      · refine aw_iconst (q := 51) F dM_canShut_50 rfl (by decide) ?_
        refine aw_zret F C dM_canShut_51 rfl (by decide) (Nat.le_refl _) (Nat.le_refl _) ?_
        refine h0 ?_
        unfold mS
        first
        | (rw [show ((inP c n 0 ||| inP c n (ld c n d)) &&& h != 0) = false by rw [show (inP c n 0 ||| inP c n (ld c n d)) &&& h = 0 by omega]; rfl]; simp)
        | (rw [show (kdC c d != 3) = false by rw [show kdC c d = 3 by omega]; rfl]; simp)
        | (rw [show (ld c n d != 0) = false by rw [show ld c n d = 0 by omega]; rfl]; rfl)
      · refine aw_iconst (q := 47) F dM_canShut_46 rfl (by decide) ?_
        refine aw_goto (t := 51) F dM_canShut_47 (by decide) ?_
        refine aw_zret F C dM_canShut_51 rfl (by decide) (Nat.le_refl _) (Nat.le_refl _) ?_
        refine h1 ?_
        unfold mS
        rw [show (ld c n d != 0) = true from bne_iff_ne.mpr (by omega), show (kdC c d != 3) = true from bne_iff_ne.mpr (by omega), show ((inP c n 0 ||| inP c n (ld c n d)) &&& h != 0) = true from bne_iff_ne.mpr (by omega)]
        rfl
theorem wM_canGo {w x : Int} {p d : Nat} (hw : w = p) (hp : p < pN c) (hx : x = d) (hd : d < dN c) (hM : moS σ l) (hA : AR (V 56) c n) (hc : okC c) (h1 : mG c n p d = true → K (some (vI 1)) (V, σ)) (h0 : mG c n p d = false → K (some (vI 0)) (V, σ)) : Wp G 0 mM_canGo [vR 53, vI w, vI x] (V, σ) 0 0 K := by
  have hd4 : dN c ≤ 4 := hc.1
  have hp2 : pN c ≤ 2 := hc.2.1
  have e2 : V 56 (2 + d) = (ld c n d : Int) := ar_ld hA (by omega) hd
  have e0 : V 56 p = (pl c n p : Int) := ar_pl hA (by omega) hp
  refine wp_intro mM_canGo_i.1 [some (vR 53), some (vI w), some (vI x)] rfl rfl (Nat.le_of_ble_eq_true rfl) ?_
  intro X hG F C
  have hm := C.rm
  refine aw_aload_0 (q := 1) F dM_canGo_0 rfl ?_
  refine av_getaE (q := 4) F fM_21 dM_canGo_1 rfl rfl (by first | exact hM.o | exact hl.o | exact hM.a55 | exact hM.a56) hM.p16 ?_
  refine aw_iconst (q := 5) F dM_canGo_4 rfl (by decide) ?_
  refine aw_iload_2 (q := 6) F dM_canGo_5 rfl ?_
  refine aw_iadd (q := 7) F dM_canGo_6 rfl (by constructor <;> omega) ?_
  refine av_iaload (q := 8) F dM_canGo_7 rfl (by first | exact hM.o | exact hl.o | exact hM.a55 | exact hM.a56) (by omega) (by omega) ?_
  rw [show (2 + x).toNat = 2 + d by omega, e2]
  refine aw_if_le (q := 11) (t := 41) F dM_canGo_8 rfl (by decide) (fun c8 => ?_) (fun c8 => ?_)
  · refine aw_iconst (q := 42) F dM_canGo_41 rfl (by decide) ?_
    refine aw_zret F C dM_canGo_42 rfl (by decide) (Nat.le_refl _) (Nat.le_refl _) ?_
    refine h0 ?_
    unfold mG
    first
    | (rw [show (ld c n d != 0) = false by rw [show ld c n d = 0 by omega]; rfl]; rfl)
    | (rw [show (pl c n p == 0) = false from beq_eq_false_iff_ne.mpr (by omega), show (pl c n p == ld c n d) = false from beq_eq_false_iff_ne.mpr (by omega)]; simp)
  · refine aw_aload_0 (q := 12) F dM_canGo_11 rfl ?_
    refine av_getaE (q := 15) F fM_21 dM_canGo_12 rfl rfl (by first | exact hM.o | exact hl.o | exact hM.a55 | exact hM.a56) hM.p16 ?_
    refine aw_iload_1 (q := 16) F dM_canGo_15 rfl ?_
    refine av_iaload (q := 17) F dM_canGo_16 rfl (by first | exact hM.o | exact hl.o | exact hM.a55 | exact hM.a56) (by omega) (by omega) ?_
    rw [show w.toNat = p by omega, e0]
    refine aw_if_eq (q := 20) (t := 37) F dM_canGo_17 rfl (by decide) (fun c17 => ?_) (fun c17 => ?_)
    · refine aw_iconst (q := 38) F dM_canGo_37 rfl (by decide) ?_
      refine aw_goto (t := 42) F dM_canGo_38 (by decide) ?_
      refine aw_zret F C dM_canGo_42 rfl (by decide) (Nat.le_refl _) (Nat.le_refl _) ?_
      refine h1 ?_
      unfold mG
      rw [show (ld c n d != 0) = true from bne_iff_ne.mpr (by omega)]
      first
      | (rw [show (pl c n p == 0) = true from beq_iff_eq.mpr (by omega)]; rfl)
      | (rw [show (pl c n p == ld c n d) = true from beq_iff_eq.mpr (by omega)]; simp)
    · refine aw_aload_0 (q := 21) F dM_canGo_20 rfl ?_
      refine av_getaE (q := 24) F fM_21 dM_canGo_21 rfl rfl (by first | exact hM.o | exact hl.o | exact hM.a55 | exact hM.a56) hM.p16 ?_
      refine aw_iload_1 (q := 25) F dM_canGo_24 rfl ?_
      refine av_iaload (q := 26) F dM_canGo_25 rfl (by first | exact hM.o | exact hl.o | exact hM.a55 | exact hM.a56) (by omega) (by omega) ?_
      rw [show w.toNat = p by omega, e0]
      refine aw_aload_0 (q := 27) F dM_canGo_26 rfl ?_
      refine av_getaE (q := 30) F fM_21 dM_canGo_27 rfl rfl (by first | exact hM.o | exact hl.o | exact hM.a55 | exact hM.a56) hM.p16 ?_
      refine aw_iconst (q := 31) F dM_canGo_30 rfl (by decide) ?_
      refine aw_iload_2 (q := 32) F dM_canGo_31 rfl ?_
      refine aw_iadd (q := 33) F dM_canGo_32 rfl (by constructor <;> omega) ?_
      refine av_iaload (q := 34) F dM_canGo_33 rfl (by first | exact hM.o | exact hl.o | exact hM.a55 | exact hM.a56) (by omega) (by omega) ?_
      rw [show (2 + x).toNat = 2 + d by omega, e2]
      refine aw_icmp_ne (q := 37) (t := 41) F dM_canGo_34 rfl (by decide) (fun c34 => ?_) (fun c34 => ?_)
      · refine aw_iconst (q := 42) F dM_canGo_41 rfl (by decide) ?_
        refine aw_zret F C dM_canGo_42 rfl (by decide) (Nat.le_refl _) (Nat.le_refl _) ?_
        refine h0 ?_
        unfold mG
        first
        | (rw [show (ld c n d != 0) = false by rw [show ld c n d = 0 by omega]; rfl]; rfl)
        | (rw [show (pl c n p == 0) = false from beq_eq_false_iff_ne.mpr (by omega), show (pl c n p == ld c n d) = false from beq_eq_false_iff_ne.mpr (by omega)]; simp)
      · refine aw_iconst (q := 38) F dM_canGo_37 rfl (by decide) ?_
        refine aw_goto (t := 42) F dM_canGo_38 (by decide) ?_
        refine aw_zret F C dM_canGo_42 rfl (by decide) (Nat.le_refl _) (Nat.le_refl _) ?_
        refine h1 ?_
        unfold mG
        rw [show (ld c n d != 0) = true from bne_iff_ne.mpr (by omega)]
        first
        | (rw [show (pl c n p == 0) = true from beq_iff_eq.mpr (by omega)]; rfl)
        | (rw [show (pl c n p == ld c n d) = true from beq_iff_eq.mpr (by omega)]; simp)
theorem wM_all (hM : moS σ l) (hl : laS σ l) (hC : LC V l c) (hc : okC c) (hK : K (some (vI (allP c))) (V, σ)) : Wp G 0 mM_all [vR 53] (V, σ) 0 0 K := by
  have h2 := hC.2.1
  have hp2 : pN c ≤ 2 := hc.2.1
  have h4 : 2 ^ pN c ≤ 2 ^ 2 := Nat.pow_le_pow_right (by decide) hp2
  have hpos : 0 < 2 ^ pN c := Nat.pow_pos (by decide)
  refine wp_intro mM_all_i.1 [some (vR 53)] rfl rfl (Nat.le_of_ble_eq_true rfl) ?_
  intro X hG F C
  have hm := C.rm
  refine aw_iconst (q := 1) F dM_all_0 rfl (by decide) ?_
  refine aw_aload_0 (q := 2) F dM_all_1 rfl ?_
  refine av_getaE (q := 5) F fM_281 dM_all_2 rfl rfl (by first | exact hM.o | exact hl.o | exact hM.a55 | exact hM.a56) hM.p3 ?_
  refine av_geti (q := 8) F fM_253 dM_all_5 rfl rfl (by first | exact hM.o | exact hl.o | exact hM.a55 | exact hM.a56) ?_
  rw [h2]
  refine aw_ishl (q := 9) F dM_all_8 rfl ?_
  rw [shl1 (by omega) (by omega), Int.toNat_natCast]
  refine aw_iconst (q := 10) F dM_all_9 rfl (by decide) ?_
  refine aw_isub (q := 11) F dM_all_10 rfl (by constructor <;> omega) ?_
  refine aw_iret F C dM_all_11 rfl (Nat.le_refl _) (Nat.le_refl _) ?_
  refine kI hK ?_; unfold allP; omega
theorem wM_stepsMany (hM : moS σ l) (hl : laS σ l) (hC : LC V l c) (hc : okC c) (hK : K (some (vI (stN c))) (V, σ)) : Wp G 0 mM_stepsMany [vR 53] (V, σ) 0 0 K := by
  have h1 := hC.1
  have h2 := hC.2.1
  have hp2 : pN c ≤ 2 := hc.2.1
  have hd4 : dN c ≤ 4 := hc.1
  have hst : stN c ≤ 16 := stN_le hc
  have e : (2 + V l 2) * V l 1 = (stN c : Nat) := by
    rw [h1, h2]
    unfold stN
    rw [Nat.mul_comm, Int.natCast_mul]
    rfl
  refine wp_intro mM_stepsMany_i.1 [some (vR 53)] rfl rfl (Nat.le_of_ble_eq_true rfl) ?_
  intro X hG F C
  have hm := C.rm
  refine aw_iconst (q := 1) F dM_stepsMany_0 rfl (by decide) ?_
  refine aw_aload_0 (q := 2) F dM_stepsMany_1 rfl ?_
  refine av_getaE (q := 5) F fM_281 dM_stepsMany_2 rfl rfl (by first | exact hM.o | exact hl.o | exact hM.a55 | exact hM.a56) hM.p3 ?_
  refine av_geti (q := 8) F fM_253 dM_stepsMany_5 rfl rfl (by first | exact hM.o | exact hl.o | exact hM.a55 | exact hM.a56) ?_
  refine aw_iadd (q := 9) F dM_stepsMany_8 rfl (by constructor <;> omega) ?_
  refine aw_aload_0 (q := 10) F dM_stepsMany_9 rfl ?_
  refine av_getaE (q := 13) F fM_281 dM_stepsMany_10 rfl rfl (by first | exact hM.o | exact hl.o | exact hM.a55 | exact hM.a56) hM.p3 ?_
  refine av_geti (q := 16) F fM_183 dM_stepsMany_13 rfl rfl (by first | exact hM.o | exact hl.o | exact hM.a55 | exact hM.a56) ?_
  refine aw_imul (q := 17) F dM_stepsMany_16 rfl (by rw [e]; omega) ?_
  refine aw_iret F C dM_stepsMany_17 rfl (Nat.le_refl _) (Nat.le_refl _) ?_
  rw [e]; exact hK
end Mod3
