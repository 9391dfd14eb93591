-- lines, one by one
section Read4
variable {G : GE} {V : Nat → Nat → Int} {σ : Shp} {K : Option AV → Mem → Prop} {e n : Nat} {B : Nat → Int} {t : TK} {r : PR}
theorem wE_readKey (hs : rdS σ e) (hX : TX V e n B) (hT : TKR V e t) (hok : okTk n t) (hR : RER V e r) (ho : okN r) (hK : RdK K V σ e n (pKey B n r t)) : Wp G 7 mE_readKey [vR e] (V, σ) 0 0 K := by
  have hlk : tKy r.1 < 4 := Nat.lt_of_lt_of_le ho.1.2.2.2.2.1 (Nat.pow_le_pow_right (by decide) ho.1.2.2.1 : 2 ^ tPn r.1 ≤ 2 ^ 2)
  refine wp_intro mE_readKey_i.1 [some (vR e), none] rfl rfl (Nat.le_of_ble_eq_true rfl) ?_
  intro X hG F C
  have hm := C.rm
  refine aw_aload_0 (q := 1) F dE_readKey_0 rfl ?_
  refine av_callV0 (q := 4) (ci := 3) F hm mE_advance_i mE_advance_n lE_36 dE_readKey_1 rfl rfl rfl (by first | exact hs.o | exact hs.a2 | exact hs.a8 | exact hs.to | exact hs.t.a1 | exact hs.t.a2 | exact hs.t.a3 | exact ha) (by decide) (Nat.le_refl _) (Nat.le_refl _) (Nat.le_of_ble_eq_true rfl) (wE_advance hs hX (hT.p hok) hok.2.1 (fun v1 f1 k1 => ?_))
  have R1 := hR.tk f1
  have X1 := hX.tk hs f1
  have k1 : TKR v1 e (nxT B n t) := k1
  have ok1 : okTk n (nxT B n t) := lex_ok hok.2.1
  have e3 : v1 (e + 1) 4 = tKy r.1 := R1.1.1.2.2.2.2.1
  refine aw_pop (q := 5) F dE_readKey_4 rfl trivial ?_
  refine aw_aload_0 (q := 6) F dE_readKey_5 rfl ?_
  refine av_callV0 (q := 9) (ci := 3) F hm mE_personHere_i mE_personHere_n lE_136 dE_readKey_6 rfl rfl rfl (by first | exact hs.o | exact hs.a2 | exact hs.a8 | exact hs.to | exact hs.t.a1 | exact hs.t.a2 | exact hs.t.a3 | exact ha) (by decide) (Nat.le_refl _) (Nat.le_refl _) (Nat.le_of_ble_eq_true rfl) (wE_personHere hs k1 ok1 R1 (fun d6 q6 w6 l6 => ?_) (fun q6 => ?_))
  · refine aw_istore_1 (q := 10) F dE_readKey_9 rfl trivial ?_
    refine aw_iload_1 (q := 11) F dE_readKey_10 rfl ?_
    refine aw_iconst (q := 12) F dE_readKey_11 rfl (by decide) ?_
    refine aw_icmp_ne (q := 15) (t := 17) F dE_readKey_12 rfl (by decide) (fun c12 => ?_) (fun c12 => by omega)
    refine aw_aload_0 (q := 18) F dE_readKey_17 rfl ?_
    refine av_getaE (q := 21) F fE_12 dE_readKey_18 rfl rfl (by first | exact hs.o | exact hs.a2 | exact hs.a8 | exact hs.to | exact hs.t.a1 | exact hs.t.a2 | exact hs.t.a3 | exact ha) hs.p0 ?_
    refine av_geti (q := 24) F fE_142 dE_readKey_21 rfl rfl (by first | exact hs.o | exact hs.a2 | exact hs.a8 | exact hs.to | exact hs.t.a1 | exact hs.t.a2 | exact hs.t.a3 | exact ha) ?_
    refine aw_iload_1 (q := 25) F dE_readKey_24 rfl ?_
    refine aw_ishr (q := 26) F dE_readKey_25 rfl ?_
    refine aw_iconst (q := 27) F dE_readKey_26 rfl (by decide) ?_
    refine aw_iand (q := 28) F dE_readKey_27 rfl ?_
    rw [e3, bit_n (by omega) (by omega), bit_tb]
    refine aw_if_eq (q := 31) (t := 37) F dE_readKey_28 rfl (by decide) (fun c28 => ?_) (fun c28 => ?_)
    · refine aw_aload_0 (q := 38) F dE_readKey_37 rfl ?_
      refine av_getaE (q := 41) F fE_12 dE_readKey_38 rfl rfl (by first | exact hs.o | exact hs.a2 | exact hs.a8 | exact hs.to | exact hs.t.a1 | exact hs.t.a2 | exact hs.t.a3 | exact ha) hs.p0 ?_
      refine aw_dup (q := 42) F dE_readKey_41 rfl trivial ?_
      refine av_geti (q := 45) F fE_142 dE_readKey_42 rfl rfl (by first | exact hs.o | exact hs.a2 | exact hs.a8 | exact hs.to | exact hs.t.a1 | exact hs.t.a2 | exact hs.t.a3 | exact ha) ?_
      refine aw_iconst (q := 46) F dE_readKey_45 rfl (by decide) ?_
      refine aw_iload_1 (q := 47) F dE_readKey_46 rfl ?_
      refine aw_ishl (q := 48) F dE_readKey_47 rfl ?_
      rw [e3, shl1 (by omega) (by omega), Int.toNat_natCast]
      refine aw_ior (q := 49) F dE_readKey_48 rfl ?_
      have hor : tKy r.1 ||| 2 ^ d6 < 4 := Nat.or_lt_two_pow (n := 2) hlk (Nat.pow_lt_pow_right (by decide) l6)
      rw [zor_n (by omega)]
      have R2 := R1.t (j := 4) (z := ((tKy r.1 ||| 2 ^ d6 : Nat) : Int)) (b := e + 1) (by omega) (R1.1.ky rfl)
      have k2 := k1.up (b := e + 1) (j := 4) (z := ((tKy r.1 ||| 2 ^ d6 : Nat) : Int)) (Or.inl (by omega))
      have F2 : rdF V (up2 v1 (e + 1) 4 ((tKy r.1 ||| 2 ^ d6 : Nat) : Int)) e := f1.rd.up (by omega) (Or.inl (by omega))
      refine av_puti (q := 52) F fE_142 dE_readKey_49 rfl rfl (wr_6_4 _) (by first | exact hs.o | exact hs.a2 | exact hs.a8 | exact hs.to | exact hs.t.a1 | exact hs.t.a2 | exact hs.t.a3 | exact ha) ?_
      refine aw_aload_0 (q := 53) F dE_readKey_52 rfl ?_
      refine av_callV0 (q := 56) (ci := 3) F hm mE_advance_i mE_advance_n lE_36 dE_readKey_53 rfl rfl rfl (by first | exact hs.o | exact hs.a2 | exact hs.a8 | exact hs.to | exact hs.t.a1 | exact hs.t.a2 | exact hs.t.a3 | exact ha) (by decide) (Nat.le_refl _) (Nat.le_refl _) (Nat.le_of_ble_eq_true rfl) (wE_advance hs (hX.rd hs F2) (k2.p ok1) ok1.2.1 (fun v53 f53 k53 => ?_))
      refine aw_zret F C dE_readKey_56 rfl (by decide) (Nat.le_refl _) (Nat.le_refl _) ?_
      refine hK.1 v53 (uKy r.1 d6, r.2) (nxT B n (nxT B n t)) ?_ (F2.tr f53.rd) (R2.tk f53) k53 (lex_ok ok1.2.1) ?_
      · unfold pKey
        rw [pPe_1 q6 w6]
        by_cases hb : (tKy r.1).testBit d6 = true
        · rw [if_pos hb] at c28; exact absurd c28 (by decide)
        · rw [if_neg hb]
      · rw [f53.2 1 (by decide) (by decide) (by decide) (by decide) (by decide), up2_nea _ _ (by omega), f1.2 1 (by decide) (by decide) (by decide) (by decide) (by decide)]
    · refine aw_aload_0 (q := 32) F dE_readKey_31 rfl ?_
      refine aw_iconst (q := 33) F dE_readKey_32 rfl (by decide) ?_
      refine av_callV1 (q := 36) (ci := 3) F hm mE_fail_i mE_fail_n lE_49 dE_readKey_33 rfl rfl rfl (by first | exact hs.o | exact hs.a2 | exact hs.a8 | exact hs.to | exact hs.t.a1 | exact hs.t.a2 | exact hs.t.a3 | exact ha) (by decide) (Nat.le_refl _) (Nat.le_refl _) (Nat.le_of_ble_eq_true rfl) (wE_fail hs ?_)
      refine aw_zret F C dE_readKey_36 rfl (by omega) (Nat.le_refl _) (Nat.le_refl _) ?_
      refine hK.2 _ 3 _ ?_ (f1.rd.up (by omega) (Or.inr (by decide))) (up2_same _ _ _ _) ((TK1 k1).1)
      unfold pKey
      rw [pPe_1 q6 w6]
      by_cases hb : (tKy r.1).testBit d6 = true
      · rw [if_pos hb]
      · rw [if_neg hb] at c28; exact absurd rfl c28
  · refine aw_istore_1 (q := 10) F dE_readKey_9 rfl trivial ?_
    refine aw_iload_1 (q := 11) F dE_readKey_10 rfl ?_
    refine aw_iconst (q := 12) F dE_readKey_11 rfl (by decide) ?_
    refine aw_icmp_ne (q := 15) (t := 17) F dE_readKey_12 rfl (by decide) (fun c12 => absurd c12 (by decide)) (fun c12 => ?_)
    refine aw_iconst (q := 16) F dE_readKey_15 rfl (by decide) ?_
    refine aw_zret F C dE_readKey_16 rfl (by decide) (Nat.le_refl _) (Nat.le_refl _) ?_
    exact hK.2 _ _ _ (pPe_0 q6) (f1.rd.up (by omega) (Or.inr (by decide))) (up2_same _ _ _ _) ((TK1 k1).1)
theorem wE_readLast (hs : rdS σ e) (hX : TX V e n B) (hT : TKR V e t) (hok : okTk n t) (hR : RER V e r) (ho : okN r) (hK : RdK K V σ e n (pLast B n r t)) : Wp G 7 mE_readLast [vR e] (V, σ) 0 0 K := by
  have e10 := hR.2.2.1
  refine wp_intro mE_readLast_i.1 [some (vR e), none] rfl rfl (Nat.le_of_ble_eq_true rfl) ?_
  intro X hG F C
  have hm := C.rm
  refine aw_aload_0 (q := 1) F dE_readLast_0 rfl ?_
  refine av_geti (q := 4) F fE_127 dE_readLast_1 rfl rfl (by first | exact hs.o | exact hs.a2 | exact hs.a8 | exact hs.to | exact hs.t.a1 | exact hs.t.a2 | exact hs.t.a3 | exact ha) ?_
  refine aw_if_eq (q := 7) (t := 13) F dE_readLast_4 rfl (by decide) (fun c4 => ?_) (fun c4 => ?_)
  · have hq : r.2.2.1 = false := by cases hq : r.2.2.1; rfl; rw [hq] at e10; rw [e10] at c4; exact absurd c4 (by decide)
    refine aw_aload_0 (q := 14) F dE_readLast_13 rfl ?_
    refine av_callV0 (q := 17) (ci := 3) F hm mE_advance_i mE_advance_n lE_36 dE_readLast_14 rfl rfl rfl (by first | exact hs.o | exact hs.a2 | exact hs.a8 | exact hs.to | exact hs.t.a1 | exact hs.t.a2 | exact hs.t.a3 | exact ha) (by decide) (Nat.le_refl _) (Nat.le_refl _) (Nat.le_of_ble_eq_true rfl) (wE_advance hs hX (hT.p hok) hok.2.1 (fun v14 f14 k14 => ?_))
    have R14 := hR.tk f14
    have X14 := hX.tk hs f14
    have k14 : TKR v14 e (nxT B n t) := k14
    have ok14 : okTk n (nxT B n t) := lex_ok hok.2.1
    have e3 := R14.1.2.1
    refine aw_pop (q := 18) F dE_readLast_17 rfl trivial ?_
    refine aw_aload_0 (q := 19) F dE_readLast_18 rfl ?_
    refine av_callV0 (q := 22) (ci := 3) F hm mE_doorHere_i mE_doorHere_n lE_120 dE_readLast_19 rfl rfl rfl (by first | exact hs.o | exact hs.a2 | exact hs.a8 | exact hs.to | exact hs.t.a1 | exact hs.t.a2 | exact hs.t.a3 | exact ha) (by decide) (Nat.le_refl _) (Nat.le_refl _) (Nat.le_of_ble_eq_true rfl) (wE_doorHere hs k14 ok14 R14 (fun d19 q19 w19 => ?_) (fun q19 => ?_))
    · refine aw_istore_1 (q := 23) F dE_readLast_22 rfl trivial ?_
      refine aw_iload_1 (q := 24) F dE_readLast_23 rfl ?_
      refine aw_iconst (q := 25) F dE_readLast_24 rfl (by decide) ?_
      refine aw_icmp_ne (q := 28) (t := 30) F dE_readLast_25 rfl (by decide) (fun c25 => ?_) (fun c25 => by omega)
      refine aw_aload_0 (q := 31) F dE_readLast_30 rfl ?_
      refine av_getaE (q := 34) F fE_12 dE_readLast_31 rfl rfl (by first | exact hs.o | exact hs.a2 | exact hs.a8 | exact hs.to | exact hs.t.a1 | exact hs.t.a2 | exact hs.t.a3 | exact ha) hs.p0 ?_
      refine av_getaE (q := 37) F fE_130 dE_readLast_34 rfl rfl (by first | exact hs.o | exact hs.a2 | exact hs.a8 | exact hs.to | exact hs.t.a1 | exact hs.t.a2 | exact hs.t.a3 | exact ha) hs.t.p7 ?_
      refine aw_iload_1 (q := 38) F dE_readLast_37 rfl ?_
      refine av_iaload (q := 39) F dE_readLast_38 rfl (by first | exact hs.o | exact hs.a2 | exact hs.a8 | exact hs.to | exact hs.t.a1 | exact hs.t.a2 | exact hs.t.a3 | exact ha) (by omega) (by omega) ?_
      rw [Int.toNat_natCast, (e3 d19 (by omega)).2]
      refine aw_if_eq (q := 42) (t := 49) F dE_readLast_39 rfl (by decide) (fun c39 => ?_) (fun c39 => ?_)
      · refine aw_aload_0 (q := 50) F dE_readLast_49 rfl ?_
        refine av_getaE (q := 53) F fE_12 dE_readLast_50 rfl rfl (by first | exact hs.o | exact hs.a2 | exact hs.a8 | exact hs.to | exact hs.t.a1 | exact hs.t.a2 | exact hs.t.a3 | exact ha) hs.p0 ?_
        refine aw_iload_1 (q := 54) F dE_readLast_53 rfl ?_
        have R2 := R14.t (j := 5) (z := (d19 : Int)) (b := e + 1) (by omega) (R14.1.la (d := d19) rfl)
        have k2 := (k14.up (b := e + 1) (j := 5) (z := (d19 : Int)) (Or.inl (by omega))).up (b := e) (j := 10) (z := 1) (Or.inr (by decide))
        have F2 : rdF V (up2 (up2 v14 (e + 1) 5 (d19 : Int)) e 10 1) e := (f14.rd.up (by omega) (Or.inl (by omega))).up (by omega) (Or.inr (by decide))
        have R3 : RER (up2 (up2 v14 (e + 1) 5 (d19 : Int)) e 10 1) e (uLa r.1 d19, r.2.1, true, r.2.2.2) := ⟨R2.1.same (fun i hi => up2_nea _ _ (by omega)), by rw [up2_nek _ _ (by decide)]; exact R2.2.1, up2_same _ _ _ _, by rw [up2_nea _ _ (by omega)]; exact R2.2.2.2⟩
        refine av_puti (q := 57) F fE_133 dE_readLast_54 rfl rfl (wr_6_5 _) (by first | exact hs.o | exact hs.a2 | exact hs.a8 | exact hs.to | exact hs.t.a1 | exact hs.t.a2 | exact hs.t.a3 | exact ha) ?_
        refine aw_aload_0 (q := 58) F dE_readLast_57 rfl ?_
        refine aw_iconst (q := 59) F dE_readLast_58 rfl (by decide) ?_
        refine av_putz (q := 62) F fE_127 dE_readLast_59 rfl rfl (wr_3_10 _) (by first | exact hs.o | exact hs.a2 | exact hs.a8 | exact hs.to | exact hs.t.a1 | exact hs.t.a2 | exact hs.t.a3 | exact ha) (by first | exact Or.inl rfl | exact Or.inr rfl | omega) ?_
        refine aw_aload_0 (q := 63) F dE_readLast_62 rfl ?_
        refine av_callV0 (q := 66) (ci := 3) F hm mE_advance_i mE_advance_n lE_36 dE_readLast_63 rfl rfl rfl (by first | exact hs.o | exact hs.a2 | exact hs.a8 | exact hs.to | exact hs.t.a1 | exact hs.t.a2 | exact hs.t.a3 | exact ha) (by decide) (Nat.le_refl _) (Nat.le_refl _) (Nat.le_of_ble_eq_true rfl) (wE_advance hs (hX.rd hs F2) (k2.p ok14) ok14.2.1 (fun v63 f63 k63 => ?_))
        refine aw_zret F C dE_readLast_66 rfl (by decide) (Nat.le_refl _) (Nat.le_refl _) ?_
        refine hK.1 v63 (uLa r.1 d19, r.2.1, true, r.2.2.2) (nxT B n (nxT B n t)) ?_ (F2.tr f63.rd) (R3.tk f63) k63 (lex_ok ok14.2.1) ?_
        · unfold pLast
          rw [hq, if_neg Bool.false_ne_true, pDr_1 q19 w19]
          exact if_neg (by omega)
        · rw [f63.2 1 (by decide) (by decide) (by decide) (by decide) (by decide), up2_nek _ _ (by decide), up2_nea _ _ (by omega), f14.2 1 (by decide) (by decide) (by decide) (by decide) (by decide)]
      · refine aw_aload_0 (q := 43) F dE_readLast_42 rfl ?_
        refine aw_bipush (q := 45) F dE_readLast_43 rfl (by decide) ?_
        refine av_callV1 (q := 48) (ci := 3) F hm mE_fail_i mE_fail_n lE_49 dE_readLast_45 rfl rfl rfl (by first | exact hs.o | exact hs.a2 | exact hs.a8 | exact hs.to | exact hs.t.a1 | exact hs.t.a2 | exact hs.t.a3 | exact ha) (by decide) (Nat.le_refl _) (Nat.le_refl _) (Nat.le_of_ble_eq_true rfl) (wE_fail hs ?_)
        refine aw_zret F C dE_readLast_48 rfl (by omega) (Nat.le_refl _) (Nat.le_refl _) ?_
        refine hK.2 _ 7 _ ?_ (f14.rd.up (by omega) (Or.inr (by decide))) (up2_same _ _ _ _) ((TK1 k14).1)
        unfold pLast
        rw [hq, if_neg Bool.false_ne_true, pDr_1 q19 w19]
        exact if_pos (by omega)
    · refine aw_istore_1 (q := 23) F dE_readLast_22 rfl trivial ?_
      refine aw_iload_1 (q := 24) F dE_readLast_23 rfl ?_
      refine aw_iconst (q := 25) F dE_readLast_24 rfl (by decide) ?_
      refine aw_icmp_ne (q := 28) (t := 30) F dE_readLast_25 rfl (by decide) (fun c25 => absurd c25 (by decide)) (fun c25 => ?_)
      refine aw_iconst (q := 29) F dE_readLast_28 rfl (by decide) ?_
      refine aw_zret F C dE_readLast_29 rfl (by decide) (Nat.le_refl _) (Nat.le_refl _) ?_
      refine hK.2 _ _ _ ?_ (f14.rd.up (by omega) (Or.inr (by decide))) (up2_same _ _ _ _) ((TK1 k14).1)
      unfold pLast
      rw [hq, if_neg Bool.false_ne_true]
      exact pDr_0 q19
  · refine aw_aload_0 (q := 8) F dE_readLast_7 rfl ?_
    refine aw_iconst (q := 9) F dE_readLast_8 rfl (by decide) ?_
    refine av_callV1 (q := 12) (ci := 3) F hm mE_fail_i mE_fail_n lE_49 dE_readLast_9 rfl rfl rfl (by first | exact hs.o | exact hs.a2 | exact hs.a8 | exact hs.to | exact hs.t.a1 | exact hs.t.a2 | exact hs.t.a3 | exact ha) (by decide) (Nat.le_refl _) (Nat.le_refl _) (Nat.le_of_ble_eq_true rfl) (wE_fail hs ?_)
    refine aw_zret F C dE_readLast_12 rfl (by omega) (Nat.le_refl _) (Nat.le_refl _) ?_
    refine hK.2 _ 3 _ ?_ ((rdF.rf V e).up (by omega) (Or.inr (by decide))) (up2_same _ _ _ _) ((TK1 hT).1)
    unfold pLast
    cases hq : r.2.2.1
    · rw [hq] at e10; rw [e10] at c4; exact absurd rfl c4
    · rfl
theorem wE_readInside (hs : rdS σ e) (hX : TX V e n B) (hT : TKR V e t) (hok : okTk n t) (hR : RER V e r) (ho : okN r) (hK : RdK K V σ e n (pInside B n r t)) : Wp G 7 mE_readInside [vR e] (V, σ) 0 0 K := by
  refine wp_intro mE_readInside_i.1 [some (vR e), none, none] rfl rfl (Nat.le_of_ble_eq_true rfl) ?_
  intro X hG F C
  have hm := C.rm
  refine aw_aload_0 (q := 1) F dE_readInside_0 rfl ?_
  refine av_callV0 (q := 4) (ci := 3) F hm mE_advance_i mE_advance_n lE_36 dE_readInside_1 rfl rfl rfl (by first | exact hs.o | exact hs.a2 | exact hs.a8 | exact hs.to | exact hs.t.a1 | exact hs.t.a2 | exact hs.t.a3 | exact ha) (by decide) (Nat.le_refl _) (Nat.le_refl _) (Nat.le_of_ble_eq_true rfl) (wE_advance hs hX (hT.p hok) hok.2.1 (fun v1 f1 k1 => ?_))
  have R1 := hR.tk f1
  have X1 := hX.tk hs f1
  have k1 : TKR v1 e (nxT B n t) := k1
  have ok1 : okTk n (nxT B n t) := lex_ok hok.2.1
  have e3 := R1.1.2.2
  refine aw_pop (q := 5) F dE_readInside_4 rfl trivial ?_
  refine aw_aload_0 (q := 6) F dE_readInside_5 rfl ?_
  refine av_callV0 (q := 9) (ci := 3) F hm mE_personHere_i mE_personHere_n lE_136 dE_readInside_6 rfl rfl rfl (by first | exact hs.o | exact hs.a2 | exact hs.a8 | exact hs.to | exact hs.t.a1 | exact hs.t.a2 | exact hs.t.a3 | exact ha) (by decide) (Nat.le_refl _) (Nat.le_refl _) (Nat.le_of_ble_eq_true rfl) (wE_personHere hs k1 ok1 R1 (fun d6 q6 w6 l6 => ?_) (fun q6 => ?_))
  · refine aw_istore_1 (q := 10) F dE_readInside_9 rfl trivial ?_
    refine aw_iload_1 (q := 11) F dE_readInside_10 rfl ?_
    refine aw_iconst (q := 12) F dE_readInside_11 rfl (by decide) ?_
    refine aw_icmp_ne (q := 15) (t := 17) F dE_readInside_12 rfl (by decide) (fun c12 => ?_) (fun c12 => by omega)
    refine aw_aload_0 (q := 18) F dE_readInside_17 rfl ?_
    refine av_getaE (q := 21) F fE_12 dE_readInside_18 rfl rfl (by first | exact hs.o | exact hs.a2 | exact hs.a8 | exact hs.to | exact hs.t.a1 | exact hs.t.a2 | exact hs.t.a3 | exact ha) hs.p0 ?_
    refine av_getaE (q := 24) F fE_139 dE_readInside_21 rfl rfl (by first | exact hs.o | exact hs.a2 | exact hs.a8 | exact hs.to | exact hs.t.a1 | exact hs.t.a2 | exact hs.t.a3 | exact ha) hs.t.p8 ?_
    refine aw_iload_1 (q := 25) F dE_readInside_24 rfl ?_
    refine av_iaload (q := 26) F dE_readInside_25 rfl (by first | exact hs.o | exact hs.a2 | exact hs.a8 | exact hs.to | exact hs.t.a1 | exact hs.t.a2 | exact hs.t.a3 | exact ha) (by omega) (by omega) ?_
    rw [Int.toNat_natCast, (e3 d6 (by omega)).1]
    refine aw_if_eq (q := 29) (t := 35) F dE_readInside_26 rfl (by decide) (fun c26 => ?_) (fun c26 => ?_)
    · refine aw_aload_0 (q := 36) F dE_readInside_35 rfl ?_
      refine av_callV0 (q := 39) (ci := 3) F hm mE_advance_i mE_advance_n lE_36 dE_readInside_36 rfl rfl rfl (by first | exact hs.o | exact hs.a2 | exact hs.a8 | exact hs.to | exact hs.t.a1 | exact hs.t.a2 | exact hs.t.a3 | exact ha) (by decide) (Nat.le_refl _) (Nat.le_refl _) (Nat.le_of_ble_eq_true rfl) (wE_advance hs X1 (k1.p ok1) ok1.2.1 (fun v36 f36 k36 => ?_))
      have R36 := R1.tk f36
      have X36 := X1.tk hs f36
      have k36 : TKR v36 e (nxT B n (nxT B n t)) := k36
      have ok36 : okTk n (nxT B n (nxT B n t)) := lex_ok ok1.2.1
      refine aw_pop (q := 40) F dE_readInside_39 rfl trivial ?_
      refine aw_aload_0 (q := 41) F dE_readInside_40 rfl ?_
      refine av_callV0 (q := 44) (ci := 3) F hm mE_doorHere_i mE_doorHere_n lE_120 dE_readInside_41 rfl rfl rfl (by first | exact hs.o | exact hs.a2 | exact hs.a8 | exact hs.to | exact hs.t.a1 | exact hs.t.a2 | exact hs.t.a3 | exact ha) (by decide) (Nat.le_refl _) (Nat.le_refl _) (Nat.le_of_ble_eq_true rfl) (wE_doorHere hs k36 ok36 R36 (fun d41 q41 w41 => ?_) (fun q41 => ?_))
      · refine aw_istore_2 (q := 45) F dE_readInside_44 rfl trivial ?_
        refine aw_iload_2 (q := 46) F dE_readInside_45 rfl ?_
        refine aw_iconst (q := 47) F dE_readInside_46 rfl (by decide) ?_
        refine aw_icmp_ne (q := 50) (t := 52) F dE_readInside_47 rfl (by decide) (fun c47 => ?_) (fun c47 => by omega)
        refine aw_aload_0 (q := 53) F dE_readInside_52 rfl ?_
        refine av_getaE (q := 56) F fE_12 dE_readInside_53 rfl rfl (by first | exact hs.o | exact hs.a2 | exact hs.a8 | exact hs.to | exact hs.t.a1 | exact hs.t.a2 | exact hs.t.a3 | exact ha) hs.p0 ?_
        refine av_getaE (q := 59) F fE_139 dE_readInside_56 rfl rfl (by first | exact hs.o | exact hs.a2 | exact hs.a8 | exact hs.to | exact hs.t.a1 | exact hs.t.a2 | exact hs.t.a3 | exact ha) hs.t.p8 ?_
        refine aw_iload_1 (q := 60) F dE_readInside_59 rfl ?_
        refine aw_iload_2 (q := 61) F dE_readInside_60 rfl ?_
        refine aw_iconst (q := 62) F dE_readInside_61 rfl (by decide) ?_
        refine aw_iadd (q := 63) F dE_readInside_62 rfl (by constructor <;> omega) ?_
        rw [show (((d41 : Nat) : Int) + 1) = ((d41 + 1 : Nat) : Int) by omega]
        have R2 := R36.t (j := d6) (z := ((d41 + 1 : Nat) : Int)) (b := e + 1 + 3) (by omega) (R36.1.att rfl)
        have k2 := k36.up (b := e + 1 + 3) (j := d6) (z := ((d41 + 1 : Nat) : Int)) (Or.inl (by omega))
        have F2 : rdF V (up2 v36 (e + 1 + 3) d6 ((d41 + 1 : Nat) : Int)) e := (f1.rd.tr f36.rd).up (by omega) (Or.inl (by omega))
        refine av_iastore (q := 64) F dE_readInside_63 rfl (by first | exact hs.o | exact hs.a2 | exact hs.a8 | exact hs.to | exact hs.t.a1 | exact hs.t.a2 | exact hs.t.a3 | exact ha) (by omega) (by omega) ?_
        rw [Int.toNat_natCast]
        refine aw_aload_0 (q := 65) F dE_readInside_64 rfl ?_
        refine av_callV0 (q := 68) (ci := 3) F hm mE_advance_i mE_advance_n lE_36 dE_readInside_65 rfl rfl rfl (by first | exact hs.o | exact hs.a2 | exact hs.a8 | exact hs.to | exact hs.t.a1 | exact hs.t.a2 | exact hs.t.a3 | exact ha) (by decide) (Nat.le_refl _) (Nat.le_refl _) (Nat.le_of_ble_eq_true rfl) (wE_advance hs (hX.rd hs F2) (k2.p ok36) ok36.2.1 (fun v65 f65 k65 => ?_))
        refine aw_zret F C dE_readInside_68 rfl (by decide) (Nat.le_refl _) (Nat.le_refl _) ?_
        refine hK.1 v65 (uAt r.1 d6 (d41 + 1), r.2) (nxT B n (nxT B n (nxT B n t))) ?_ (F2.tr f65.rd) (R2.tk f65) k65 (lex_ok ok36.2.1) ?_
        · unfold pInside
          rw [pPe_1 q6 w6, if_neg (by omega), pDr_1 q41 w41]
        · rw [f65.2 1 (by decide) (by decide) (by decide) (by decide) (by decide), up2_nea _ _ (by omega), f36.2 1 (by decide) (by decide) (by decide) (by decide) (by decide), f1.2 1 (by decide) (by decide) (by decide) (by decide) (by decide)]
      · refine aw_istore_2 (q := 45) F dE_readInside_44 rfl trivial ?_
        refine aw_iload_2 (q := 46) F dE_readInside_45 rfl ?_
        refine aw_iconst (q := 47) F dE_readInside_46 rfl (by decide) ?_
        refine aw_icmp_ne (q := 50) (t := 52) F dE_readInside_47 rfl (by decide) (fun c47 => absurd c47 (by decide)) (fun c47 => ?_)
        refine aw_iconst (q := 51) F dE_readInside_50 rfl (by decide) ?_
        refine aw_zret F C dE_readInside_51 rfl (by decide) (Nat.le_refl _) (Nat.le_refl _) ?_
        refine hK.2 _ _ _ ?_ ((f1.rd.tr f36.rd).up (by omega) (Or.inr (by decide))) (up2_same _ _ _ _) ((TK1 k36).1)
        unfold pInside
        rw [pPe_1 q6 w6, if_neg (by omega)]
        exact pDr_0 q41
    · refine aw_aload_0 (q := 30) F dE_readInside_29 rfl ?_
      refine aw_iconst (q := 31) F dE_readInside_30 rfl (by decide) ?_
      refine av_callV1 (q := 34) (ci := 3) F hm mE_fail_i mE_fail_n lE_49 dE_readInside_31 rfl rfl rfl (by first | exact hs.o | exact hs.a2 | exact hs.a8 | exact hs.to | exact hs.t.a1 | exact hs.t.a2 | exact hs.t.a3 | exact ha) (by decide) (Nat.le_refl _) (Nat.le_refl _) (Nat.le_of_ble_eq_true rfl) (wE_fail hs ?_)
      refine aw_zret F C dE_readInside_34 rfl (by omega) (Nat.le_refl _) (Nat.le_refl _) ?_
      refine hK.2 _ 3 _ ?_ (f1.rd.up (by omega) (Or.inr (by decide))) (up2_same _ _ _ _) ((TK1 k1).1)
      unfold pInside
      rw [pPe_1 q6 w6]
      exact if_pos (by omega)
  · refine aw_istore_1 (q := 10) F dE_readInside_9 rfl trivial ?_
    refine aw_iload_1 (q := 11) F dE_readInside_10 rfl ?_
    refine aw_iconst (q := 12) F dE_readInside_11 rfl (by decide) ?_
    refine aw_icmp_ne (q := 15) (t := 17) F dE_readInside_12 rfl (by decide) (fun c12 => absurd c12 (by decide)) (fun c12 => ?_)
    refine aw_iconst (q := 16) F dE_readInside_15 rfl (by decide) ?_
    refine aw_zret F C dE_readInside_16 rfl (by decide) (Nat.le_refl _) (Nat.le_refl _) ?_
    exact hK.2 _ _ _ (pPe_0 q6) (f1.rd.up (by omega) (Or.inr (by decide))) (up2_same _ _ _ _) ((TK1 k1).1)
theorem wE_readAjar (hs : rdS σ e) (hX : TX V e n B) (hT : TKR V e t) (hok : okTk n t) (hR : RER V e r) (ho : okN r) (hK : RdK K V σ e n (pAjar B n r t)) : Wp G 7 mE_readAjar [vR e] (V, σ) 0 0 K := by
  have e10 := hR.2.2.1
  refine wp_intro mE_readAjar_i.1 [some (vR e), none, none] rfl rfl (Nat.le_of_ble_eq_true rfl) ?_
  intro X hG F C
  have hm := C.rm
  refine aw_aload_0 (q := 1) F dE_readAjar_0 rfl ?_
  refine av_callV0 (q := 4) (ci := 3) F hm mE_advance_i mE_advance_n lE_36 dE_readAjar_1 rfl rfl rfl (by first | exact hs.o | exact hs.a2 | exact hs.a8 | exact hs.to | exact hs.t.a1 | exact hs.t.a2 | exact hs.t.a3 | exact ha) (by decide) (Nat.le_refl _) (Nat.le_refl _) (Nat.le_of_ble_eq_true rfl) (wE_advance hs hX (hT.p hok) hok.2.1 (fun v1 f1 k1 => ?_))
  have R1 := hR.tk f1
  have X1 := hX.tk hs f1
  have k1 : TKR v1 e (nxT B n t) := k1
  have ok1 : okTk n (nxT B n t) := lex_ok hok.2.1
  have e3 := R1.1.2.1
  have e5 : v1 (e + 1) 5 = tLa r.1 := R1.1.1.2.2.2.2.2
  have e10 : v1 e 10 = bz r.2.2.1 := R1.2.2.1
  refine aw_pop (q := 5) F dE_readAjar_4 rfl trivial ?_
  refine aw_aload_0 (q := 6) F dE_readAjar_5 rfl ?_
  refine av_callV0 (q := 9) (ci := 3) F hm mE_doorHere_i mE_doorHere_n lE_120 dE_readAjar_6 rfl rfl rfl (by first | exact hs.o | exact hs.a2 | exact hs.a8 | exact hs.to | exact hs.t.a1 | exact hs.t.a2 | exact hs.t.a3 | exact ha) (by decide) (Nat.le_refl _) (Nat.le_refl _) (Nat.le_of_ble_eq_true rfl) (wE_doorHere hs k1 ok1 R1 (fun d6 q6 w6 => ?_) (fun q6 => ?_))
  · refine aw_istore_1 (q := 10) F dE_readAjar_9 rfl trivial ?_
    refine aw_iload_1 (q := 11) F dE_readAjar_10 rfl ?_
    refine aw_iconst (q := 12) F dE_readAjar_11 rfl (by decide) ?_
    refine aw_icmp_ne (q := 15) (t := 17) F dE_readAjar_12 rfl (by decide) (fun c12 => ?_) (fun c12 => by omega)
    refine aw_aload_0 (q := 18) F dE_readAjar_17 rfl ?_
    refine av_getaE (q := 21) F fE_12 dE_readAjar_18 rfl rfl (by first | exact hs.o | exact hs.a2 | exact hs.a8 | exact hs.to | exact hs.t.a1 | exact hs.t.a2 | exact hs.t.a3 | exact ha) hs.p0 ?_
    refine av_getaE (q := 24) F fE_130 dE_readAjar_21 rfl rfl (by first | exact hs.o | exact hs.a2 | exact hs.a8 | exact hs.to | exact hs.t.a1 | exact hs.t.a2 | exact hs.t.a3 | exact ha) hs.t.p7 ?_
    refine aw_iload_1 (q := 25) F dE_readAjar_24 rfl ?_
    refine av_iaload (q := 26) F dE_readAjar_25 rfl (by first | exact hs.o | exact hs.a2 | exact hs.a8 | exact hs.to | exact hs.t.a1 | exact hs.t.a2 | exact hs.t.a3 | exact ha) (by omega) (by omega) ?_
    rw [Int.toNat_natCast, (e3 d6 (by omega)).2]
    refine aw_if_eq (q := 29) (t := 35) F dE_readAjar_26 rfl (by decide) (fun c26 => ?_) (fun c26 => ?_)
    · refine aw_aload_0 (q := 36) F dE_readAjar_35 rfl ?_
      refine av_geti (q := 39) F fE_127 dE_readAjar_36 rfl rfl (by first | exact hs.o | exact hs.a2 | exact hs.a8 | exact hs.to | exact hs.t.a1 | exact hs.t.a2 | exact hs.t.a3 | exact ha) ?_
      refine aw_if_eq (q := 42) (t := 60) F dE_readAjar_39 rfl (by decide) (fun c39 => ?_) (fun c39 => ?_)
      · refine aw_aload_0 (q := 61) F dE_readAjar_60 rfl ?_
        refine av_callV0 (q := 64) (ci := 3) F hm mE_advance_i mE_advance_n lE_36 dE_readAjar_61 rfl rfl rfl (by first | exact hs.o | exact hs.a2 | exact hs.a8 | exact hs.to | exact hs.t.a1 | exact hs.t.a2 | exact hs.t.a3 | exact ha) (by decide) (Nat.le_refl _) (Nat.le_refl _) (Nat.le_of_ble_eq_true rfl) (wE_advance hs X1 (k1.p ok1) ok1.2.1 (fun v61 f61 k61 => ?_))
        have R61 := R1.tk f61
        have X61 := X1.tk hs f61
        have k61 : TKR v61 e (nxT B n (nxT B n t)) := k61
        have ok61 : okTk n (nxT B n (nxT B n t)) := lex_ok ok1.2.1
        have hno : ¬ (r.2.2.1 = true ∧ tLa r.1 = d6) := fun q => by first | (rw [q.1] at e10; rw [e10] at c39; exact absurd c39 (by decide)) | omega
        refine aw_pop (q := 65) F dE_readAjar_64 rfl trivial ?_
        refine aw_aload_0 (q := 66) F dE_readAjar_65 rfl ?_
        refine av_callV0 (q := 69) (ci := 3) F hm mE_doorHere_i mE_doorHere_n lE_120 dE_readAjar_66 rfl rfl rfl (by first | exact hs.o | exact hs.a2 | exact hs.a8 | exact hs.to | exact hs.t.a1 | exact hs.t.a2 | exact hs.t.a3 | exact ha) (by decide) (Nat.le_refl _) (Nat.le_refl _) (Nat.le_of_ble_eq_true rfl) (wE_doorHere hs k61 ok61 R61 (fun d66 q66 w66 => ?_) (fun q66 => ?_))
        · refine aw_istore_2 (q := 70) F dE_readAjar_69 rfl trivial ?_
          refine aw_iload_2 (q := 71) F dE_readAjar_70 rfl ?_
          refine aw_iconst (q := 72) F dE_readAjar_71 rfl (by decide) ?_
          refine aw_icmp_ne (q := 75) (t := 77) F dE_readAjar_72 rfl (by decide) (fun c72 => ?_) (fun c72 => by omega)
          refine aw_aload_0 (q := 78) F dE_readAjar_77 rfl ?_
          refine av_getaE (q := 81) F fE_12 dE_readAjar_78 rfl rfl (by first | exact hs.o | exact hs.a2 | exact hs.a8 | exact hs.to | exact hs.t.a1 | exact hs.t.a2 | exact hs.t.a3 | exact ha) hs.p0 ?_
          refine av_getaE (q := 84) F fE_130 dE_readAjar_81 rfl rfl (by first | exact hs.o | exact hs.a2 | exact hs.a8 | exact hs.to | exact hs.t.a1 | exact hs.t.a2 | exact hs.t.a3 | exact ha) hs.t.p7 ?_
          refine aw_iload_1 (q := 85) F dE_readAjar_84 rfl ?_
          refine aw_iload_2 (q := 86) F dE_readAjar_85 rfl ?_
          refine aw_iconst (q := 87) F dE_readAjar_86 rfl (by decide) ?_
          refine aw_iadd (q := 88) F dE_readAjar_87 rfl (by constructor <;> omega) ?_
          rw [show (((d66 : Nat) : Int) + 1) = ((d66 + 1 : Nat) : Int) by omega]
          have R2 := R61.t (j := d6) (z := ((d66 + 1 : Nat) : Int)) (b := e + 1 + 2) (by omega) (R61.1.ld rfl)
          have k2 := k61.up (b := e + 1 + 2) (j := d6) (z := ((d66 + 1 : Nat) : Int)) (Or.inl (by omega))
          have F2 : rdF V (up2 v61 (e + 1 + 2) d6 ((d66 + 1 : Nat) : Int)) e := (f1.rd.tr f61.rd).up (by omega) (Or.inl (by omega))
          refine av_iastore (q := 89) F dE_readAjar_88 rfl (by first | exact hs.o | exact hs.a2 | exact hs.a8 | exact hs.to | exact hs.t.a1 | exact hs.t.a2 | exact hs.t.a3 | exact ha) (by omega) (by omega) ?_
          rw [Int.toNat_natCast]
          refine aw_aload_0 (q := 90) F dE_readAjar_89 rfl ?_
          refine av_callV0 (q := 93) (ci := 3) F hm mE_advance_i mE_advance_n lE_36 dE_readAjar_90 rfl rfl rfl (by first | exact hs.o | exact hs.a2 | exact hs.a8 | exact hs.to | exact hs.t.a1 | exact hs.t.a2 | exact hs.t.a3 | exact ha) (by decide) (Nat.le_refl _) (Nat.le_refl _) (Nat.le_of_ble_eq_true rfl) (wE_advance hs (hX.rd hs F2) (k2.p ok61) ok61.2.1 (fun v90 f90 k90 => ?_))
          refine aw_zret F C dE_readAjar_93 rfl (by decide) (Nat.le_refl _) (Nat.le_refl _) ?_
          refine hK.1 v90 (uLd r.1 d6 (d66 + 1), r.2) (nxT B n (nxT B n (nxT B n t))) ?_ (F2.tr f90.rd) (R2.tk f90) k90 (lex_ok ok61.2.1) ?_
          · unfold pAjar
            rw [pDr_1 q6 w6, if_neg (by omega), if_neg hno, pDr_1 q66 w66]
          · rw [f90.2 1 (by decide) (by decide) (by decide) (by decide) (by decide), up2_nea _ _ (by omega), f61.2 1 (by decide) (by decide) (by decide) (by decide) (by decide), f1.2 1 (by decide) (by decide) (by decide) (by decide) (by decide)]
        · refine aw_istore_2 (q := 70) F dE_readAjar_69 rfl trivial ?_
          refine aw_iload_2 (q := 71) F dE_readAjar_70 rfl ?_
          refine aw_iconst (q := 72) F dE_readAjar_71 rfl (by decide) ?_
          refine aw_icmp_ne (q := 75) (t := 77) F dE_readAjar_72 rfl (by decide) (fun c72 => absurd c72 (by decide)) (fun c72 => ?_)
          refine aw_iconst (q := 76) F dE_readAjar_75 rfl (by decide) ?_
          refine aw_zret F C dE_readAjar_76 rfl (by decide) (Nat.le_refl _) (Nat.le_refl _) ?_
          refine hK.2 _ _ _ ?_ ((f1.rd.tr f61.rd).up (by omega) (Or.inr (by decide))) (up2_same _ _ _ _) ((TK1 k61).1)
          unfold pAjar
          rw [pDr_1 q6 w6, if_neg (by omega), if_neg hno]
          exact pDr_0 q66
      · refine aw_aload_0 (q := 43) F dE_readAjar_42 rfl ?_
        refine av_getaE (q := 46) F fE_12 dE_readAjar_43 rfl rfl (by first | exact hs.o | exact hs.a2 | exact hs.a8 | exact hs.to | exact hs.t.a1 | exact hs.t.a2 | exact hs.t.a3 | exact ha) hs.p0 ?_
        refine av_geti (q := 49) F fE_133 dE_readAjar_46 rfl rfl (by first | exact hs.o | exact hs.a2 | exact hs.a8 | exact hs.to | exact hs.t.a1 | exact hs.t.a2 | exact hs.t.a3 | exact ha) ?_
        refine aw_iload_1 (q := 50) F dE_readAjar_49 rfl ?_
        refine aw_icmp_ne (q := 53) (t := 60) F dE_readAjar_50 rfl (by decide) (fun c50 => ?_) (fun c50 => ?_)
        · refine aw_aload_0 (q := 61) F dE_readAjar_60 rfl ?_
          refine av_callV0 (q := 64) (ci := 3) F hm mE_advance_i mE_advance_n lE_36 dE_readAjar_61 rfl rfl rfl (by first | exact hs.o | exact hs.a2 | exact hs.a8 | exact hs.to | exact hs.t.a1 | exact hs.t.a2 | exact hs.t.a3 | exact ha) (by decide) (Nat.le_refl _) (Nat.le_refl _) (Nat.le_of_ble_eq_true rfl) (wE_advance hs X1 (k1.p ok1) ok1.2.1 (fun v61 f61 k61 => ?_))
          have R61 := R1.tk f61
          have X61 := X1.tk hs f61
          have k61 : TKR v61 e (nxT B n (nxT B n t)) := k61
          have ok61 : okTk n (nxT B n (nxT B n t)) := lex_ok ok1.2.1
          have hno : ¬ (r.2.2.1 = true ∧ tLa r.1 = d6) := fun q => by first | (rw [q.1] at e10; rw [e10] at c39; exact absurd c39 (by decide)) | omega
          refine aw_pop (q := 65) F dE_readAjar_64 rfl trivial ?_
          refine aw_aload_0 (q := 66) F dE_readAjar_65 rfl ?_
          refine av_callV0 (q := 69) (ci := 3) F hm mE_doorHere_i mE_doorHere_n lE_120 dE_readAjar_66 rfl rfl rfl (by first | exact hs.o | exact hs.a2 | exact hs.a8 | exact hs.to | exact hs.t.a1 | exact hs.t.a2 | exact hs.t.a3 | exact ha) (by decide) (Nat.le_refl _) (Nat.le_refl _) (Nat.le_of_ble_eq_true rfl) (wE_doorHere hs k61 ok61 R61 (fun d66 q66 w66 => ?_) (fun q66 => ?_))
          · refine aw_istore_2 (q := 70) F dE_readAjar_69 rfl trivial ?_
            refine aw_iload_2 (q := 71) F dE_readAjar_70 rfl ?_
            refine aw_iconst (q := 72) F dE_readAjar_71 rfl (by decide) ?_
            refine aw_icmp_ne (q := 75) (t := 77) F dE_readAjar_72 rfl (by decide) (fun c72 => ?_) (fun c72 => by omega)
            refine aw_aload_0 (q := 78) F dE_readAjar_77 rfl ?_
            refine av_getaE (q := 81) F fE_12 dE_readAjar_78 rfl rfl (by first | exact hs.o | exact hs.a2 | exact hs.a8 | exact hs.to | exact hs.t.a1 | exact hs.t.a2 | exact hs.t.a3 | exact ha) hs.p0 ?_
            refine av_getaE (q := 84) F fE_130 dE_readAjar_81 rfl rfl (by first | exact hs.o | exact hs.a2 | exact hs.a8 | exact hs.to | exact hs.t.a1 | exact hs.t.a2 | exact hs.t.a3 | exact ha) hs.t.p7 ?_
            refine aw_iload_1 (q := 85) F dE_readAjar_84 rfl ?_
            refine aw_iload_2 (q := 86) F dE_readAjar_85 rfl ?_
            refine aw_iconst (q := 87) F dE_readAjar_86 rfl (by decide) ?_
            refine aw_iadd (q := 88) F dE_readAjar_87 rfl (by constructor <;> omega) ?_
            rw [show (((d66 : Nat) : Int) + 1) = ((d66 + 1 : Nat) : Int) by omega]
            have R2 := R61.t (j := d6) (z := ((d66 + 1 : Nat) : Int)) (b := e + 1 + 2) (by omega) (R61.1.ld rfl)
            have k2 := k61.up (b := e + 1 + 2) (j := d6) (z := ((d66 + 1 : Nat) : Int)) (Or.inl (by omega))
            have F2 : rdF V (up2 v61 (e + 1 + 2) d6 ((d66 + 1 : Nat) : Int)) e := (f1.rd.tr f61.rd).up (by omega) (Or.inl (by omega))
            refine av_iastore (q := 89) F dE_readAjar_88 rfl (by first | exact hs.o | exact hs.a2 | exact hs.a8 | exact hs.to | exact hs.t.a1 | exact hs.t.a2 | exact hs.t.a3 | exact ha) (by omega) (by omega) ?_
            rw [Int.toNat_natCast]
            refine aw_aload_0 (q := 90) F dE_readAjar_89 rfl ?_
            refine av_callV0 (q := 93) (ci := 3) F hm mE_advance_i mE_advance_n lE_36 dE_readAjar_90 rfl rfl rfl (by first | exact hs.o | exact hs.a2 | exact hs.a8 | exact hs.to | exact hs.t.a1 | exact hs.t.a2 | exact hs.t.a3 | exact ha) (by decide) (Nat.le_refl _) (Nat.le_refl _) (Nat.le_of_ble_eq_true rfl) (wE_advance hs (hX.rd hs F2) (k2.p ok61) ok61.2.1 (fun v90 f90 k90 => ?_))
            refine aw_zret F C dE_readAjar_93 rfl (by decide) (Nat.le_refl _) (Nat.le_refl _) ?_
            refine hK.1 v90 (uLd r.1 d6 (d66 + 1), r.2) (nxT B n (nxT B n (nxT B n t))) ?_ (F2.tr f90.rd) (R2.tk f90) k90 (lex_ok ok61.2.1) ?_
            · unfold pAjar
              rw [pDr_1 q6 w6, if_neg (by omega), if_neg hno, pDr_1 q66 w66]
            · rw [f90.2 1 (by decide) (by decide) (by decide) (by decide) (by decide), up2_nea _ _ (by omega), f61.2 1 (by decide) (by decide) (by decide) (by decide) (by decide), f1.2 1 (by decide) (by decide) (by decide) (by decide) (by decide)]
          · refine aw_istore_2 (q := 70) F dE_readAjar_69 rfl trivial ?_
            refine aw_iload_2 (q := 71) F dE_readAjar_70 rfl ?_
            refine aw_iconst (q := 72) F dE_readAjar_71 rfl (by decide) ?_
            refine aw_icmp_ne (q := 75) (t := 77) F dE_readAjar_72 rfl (by decide) (fun c72 => absurd c72 (by decide)) (fun c72 => ?_)
            refine aw_iconst (q := 76) F dE_readAjar_75 rfl (by decide) ?_
            refine aw_zret F C dE_readAjar_76 rfl (by decide) (Nat.le_refl _) (Nat.le_refl _) ?_
            refine hK.2 _ _ _ ?_ ((f1.rd.tr f61.rd).up (by omega) (Or.inr (by decide))) (up2_same _ _ _ _) ((TK1 k61).1)
            unfold pAjar
            rw [pDr_1 q6 w6, if_neg (by omega), if_neg hno]
            exact pDr_0 q66
        · refine aw_aload_0 (q := 54) F dE_readAjar_53 rfl ?_
          refine aw_bipush (q := 56) F dE_readAjar_54 rfl (by decide) ?_
          refine av_callV1 (q := 59) (ci := 3) F hm mE_fail_i mE_fail_n lE_49 dE_readAjar_56 rfl rfl rfl (by first | exact hs.o | exact hs.a2 | exact hs.a8 | exact hs.to | exact hs.t.a1 | exact hs.t.a2 | exact hs.t.a3 | exact ha) (by decide) (Nat.le_refl _) (Nat.le_refl _) (Nat.le_of_ble_eq_true rfl) (wE_fail hs ?_)
          refine aw_zret F C dE_readAjar_59 rfl (by omega) (Nat.le_refl _) (Nat.le_refl _) ?_
          refine hK.2 _ 7 _ ?_ (f1.rd.up (by omega) (Or.inr (by decide))) (up2_same _ _ _ _) ((TK1 k1).1)
          unfold pAjar
          rw [pDr_1 q6 w6, if_neg (by omega)]
          refine if_pos ⟨?_, by omega⟩
          cases hq : r.2.2.1
          · rw [hq] at e10; rw [e10] at c39; exact absurd rfl c39
          · rfl
    · refine aw_aload_0 (q := 30) F dE_readAjar_29 rfl ?_
      refine aw_iconst (q := 31) F dE_readAjar_30 rfl (by decide) ?_
      refine av_callV1 (q := 34) (ci := 3) F hm mE_fail_i mE_fail_n lE_49 dE_readAjar_31 rfl rfl rfl (by first | exact hs.o | exact hs.a2 | exact hs.a8 | exact hs.to | exact hs.t.a1 | exact hs.t.a2 | exact hs.t.a3 | exact ha) (by decide) (Nat.le_refl _) (Nat.le_refl _) (Nat.le_of_ble_eq_true rfl) (wE_fail hs ?_)
      refine aw_zret F C dE_readAjar_34 rfl (by omega) (Nat.le_refl _) (Nat.le_refl _) ?_
      refine hK.2 _ 3 _ ?_ (f1.rd.up (by omega) (Or.inr (by decide))) (up2_same _ _ _ _) ((TK1 k1).1)
      unfold pAjar
      rw [pDr_1 q6 w6]
      exact if_pos (by omega)
  · refine aw_istore_1 (q := 10) F dE_readAjar_9 rfl trivial ?_
    refine aw_iload_1 (q := 11) F dE_readAjar_10 rfl ?_
    refine aw_iconst (q := 12) F dE_readAjar_11 rfl (by decide) ?_
    refine aw_icmp_ne (q := 15) (t := 17) F dE_readAjar_12 rfl (by decide) (fun c12 => absurd c12 (by decide)) (fun c12 => ?_)
    refine aw_iconst (q := 16) F dE_readAjar_15 rfl (by decide) ?_
    refine aw_zret F C dE_readAjar_16 rfl (by decide) (Nat.le_refl _) (Nat.le_refl _) ?_
    exact hK.2 _ _ _ (pDr_0 q6) (f1.rd.up (by omega) (Or.inr (by decide))) (up2_same _ _ _ _) ((TK1 k1).1)
end Read4
