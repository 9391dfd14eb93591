theorem wnF_bd (j w : Nat) : ∀ (f i : Nat), wnF j w f i = -1 ∨ (0 ≤ wnF j w f i ∧ wnF j w f i ≤ ((i + f) / 8 : Nat) ∧ 8 * wnF j w f i + 7 < (i + f : Nat))
  | 0, i => Or.inl rfl
  | f + 1, i => by
    show (if i % 8 = 7 ∧ spC j i = w then ((i / 8 : Nat) : Int) else wnF j w f (i + 1)) = -1 ∨ _
    by_cases h : i % 8 = 7 ∧ spC j i = w
    · right
      have e : wnF j w (f + 1) i = ((i / 8 : Nat) : Int) := by
        show (if i % 8 = 7 ∧ spC j i = w then ((i / 8 : Nat) : Int) else wnF j w f (i + 1)) = _
        rw [if_pos h]
      rw [e]
      omega
    · have e : wnF j w (f + 1) i = wnF j w f (i + 1) := by
        show (if i % 8 = 7 ∧ spC j i = w then ((i / 8 : Nat) : Int) else wnF j w f (i + 1)) = _
        rw [if_neg h]
      rw [if_neg h, e]
      have := wnF_bd j w f (i + 1)
      rw [show i + 1 + f = i + (f + 1) by omega] at this
      exact this
theorem wn2_bd (t : TK) : -1 ≤ wnI 2 t ∧ wnI 2 t < 4 := by
  unfold wnI
  split
  · have := wnF_bd 2 t.2.2.2 (kLen.getD 2 0) 0
    have e : kLen.getD 2 0 = 32 := rfl
    rw [e] at this ⊢
    omega
  · omega
section Read5
variable {G : GE} {V : Nat → Nat → Int} {σ : Shp} {K : Option AV → Mem → Prop} {e n : Nat} {B : Nat → Int} {t : TK} {r : PR}
theorem TV.plS {V : Nat → Nat → Int} {t s p : Nat} {T : TL} (h : TV V t T) (hs : s < 3) (hp : p < 2) : V (t + 4 + s) p = plS s T p := by
  have c := h.2.2 p hp
  match s, hs with
  | 0, _ => exact c.2.1
  | 1, _ => exact c.2.2.1
  | 2, _ => exact c.2.2.2
theorem wE_readPlace {s : Nat} {ol : Int} (hs3 : s < 3) (hol : ol = if s = 0 then 0 else 1) (hs : rdS σ e) (hX : TX V e n B) (hT : TKR V e t) (hok : okTk n t) (hR : RER V e r) (ho : okN r) (hK : RdK K V σ e n (pPlace B n r t s)) : Wp G 7 mE_readPlace [vR e, vR (e + 1 + 4 + s), vI ol] (V, σ) 0 0 K := by
  have ha : sA σ (e + 1 + 4 + s) 11 2 := by
    match s, hs3 with
    | 0, _ => exact hs.t.a4
    | 1, _ => exact hs.t.a5
    | 2, _ => exact hs.t.a6
  have hol0 : ol = 0 ↔ s = 0 := by rw [hol]; split <;> omega
  refine wp_intro mE_readPlace_i.1 [some (vR e), some (vR (e + 1 + 4 + s)), some (vI ol), none, none] rfl rfl (Nat.le_of_ble_eq_true rfl) ?_
  intro X hG F C
  have hm := C.rm
  refine aw_aload_0 (q := 1) F dE_readPlace_0 rfl ?_
  refine av_callV0 (q := 4) (ci := 3) F hm mE_advance_i mE_advance_n lE_36 dE_readPlace_1 rfl rfl rfl (by first | exact hs.o | exact hs.a2 | exact hs.a8 | exact hs.to | exact hs.t.a1 | exact hs.t.a2 | exact hs.t.a3 | exact ha) (by decide) (Nat.le_refl _) (Nat.le_refl _) (Nat.le_of_ble_eq_true rfl) (wE_advance hs hX (hT.p hok) hok.2.1 (fun v1 f1 k1 => ?_))
  have R1 := hR.tk f1
  have X1 := hX.tk hs f1
  have k1 : TKR v1 e (nxT B n t) := k1
  have ok1 : okTk n (nxT B n t) := lex_ok hok.2.1
  refine aw_pop (q := 5) F dE_readPlace_4 rfl trivial ?_
  refine aw_aload_0 (q := 6) F dE_readPlace_5 rfl ?_
  refine av_callV0 (q := 9) (ci := 3) F hm mE_personHere_i mE_personHere_n lE_136 dE_readPlace_6 rfl rfl rfl (by first | exact hs.o | exact hs.a2 | exact hs.a8 | exact hs.to | exact hs.t.a1 | exact hs.t.a2 | exact hs.t.a3 | exact ha) (by decide) (Nat.le_refl _) (Nat.le_refl _) (Nat.le_of_ble_eq_true rfl) (wE_personHere hs k1 ok1 R1 (fun d6 q6 w6 l6 => ?_) (fun q6 => ?_))
  · refine aw_istore_3 (q := 10) F dE_readPlace_9 rfl trivial ?_
    refine aw_iload_3 (q := 11) F dE_readPlace_10 rfl ?_
    refine aw_iconst (q := 12) F dE_readPlace_11 rfl (by decide) ?_
    refine aw_icmp_eq (q := 15) (t := 21) F dE_readPlace_12 rfl (by decide) (fun c12 => by omega) (fun c12 => ?_)
    refine aw_iload_3 (q := 16) F dE_readPlace_15 rfl ?_
    refine aw_aload_1 (q := 17) F dE_readPlace_16 rfl ?_
    refine av_alen (q := 18) F dE_readPlace_17 rfl (by first | exact hs.o | exact hs.a2 | exact hs.a8 | exact hs.to | exact hs.t.a1 | exact hs.t.a2 | exact hs.t.a3 | exact ha) (by decide) (by omega) ?_
    refine aw_icmp_lt (q := 21) (t := 23) F dE_readPlace_18 rfl (by decide) (fun c18 => ?_) (fun c18 => by omega)
    refine aw_aload_1 (q := 24) F dE_readPlace_23 rfl ?_
    refine aw_iload_3 (q := 25) F dE_readPlace_24 rfl ?_
    refine av_iaload (q := 26) F dE_readPlace_25 rfl (by first | exact hs.o | exact hs.a2 | exact hs.a8 | exact hs.to | exact hs.t.a1 | exact hs.t.a2 | exact hs.t.a3 | exact ha) (by omega) (by omega) ?_
    rw [Int.toNat_natCast, R1.1.plS hs3 l6]
    refine aw_bipush (q := 28) F dE_readPlace_26 rfl (by decide) ?_
    refine aw_icmp_eq (q := 31) (t := 37) F dE_readPlace_28 rfl (by decide) (fun c28 => ?_) (fun c28 => ?_)
    · refine aw_aload_0 (q := 38) F dE_readPlace_37 rfl ?_
      refine av_callV0 (q := 41) (ci := 3) F hm mE_advance_i mE_advance_n lE_36 dE_readPlace_38 rfl rfl rfl (by first | exact hs.o | exact hs.a2 | exact hs.a8 | exact hs.to | exact hs.t.a1 | exact hs.t.a2 | exact hs.t.a3 | exact ha) (by decide) (Nat.le_refl _) (Nat.le_refl _) (Nat.le_of_ble_eq_true rfl) (wE_advance hs X1 (k1.p ok1) ok1.2.1 (fun v38 f38 k38 => ?_))
      have R38 := R1.tk f38
      have X38 := X1.tk hs f38
      have k38 : TKR v38 e (nxT B n (nxT B n t)) := k38
      have ok38 : okTk n (nxT B n (nxT B n t)) := lex_ok ok1.2.1
      refine aw_pop (q := 42) F dE_readPlace_41 rfl trivial ?_
      refine aw_iload_2 (q := 43) F dE_readPlace_42 rfl ?_
      refine aw_if_eq (q := 46) (t := 64) F dE_readPlace_43 rfl (by decide) (fun c43 => ?_) (fun c43 => ?_)
      · have hno : ¬ (s ≠ 0 ∧ wnI 0 (nxT B n (nxT B n t)) = 0) := fun q => by first | exact q.1 (hol0.mp c43) | exact c52 q.2
        refine aw_aload_0 (q := 65) F dE_readPlace_64 rfl ?_
        refine av_callV0 (q := 68) (ci := 3) F hm mE_doorHere_i mE_doorHere_n lE_120 dE_readPlace_65 rfl rfl rfl (by first | exact hs.o | exact hs.a2 | exact hs.a8 | exact hs.to | exact hs.t.a1 | exact hs.t.a2 | exact hs.t.a3 | exact ha) (by decide) (Nat.le_refl _) (Nat.le_refl _) (Nat.le_of_ble_eq_true rfl) (wE_doorHere hs k38 ok38 R38 (fun d65 q65 w65 => ?_) (fun q65 => ?_))
        · refine aw_istore_4 (q := 70) F dE_readPlace_68 rfl trivial ?_
          refine aw_iload_4 (q := 72) F dE_readPlace_70 rfl ?_
          refine aw_iconst (q := 73) F dE_readPlace_72 rfl (by decide) ?_
          refine aw_icmp_ne (q := 76) (t := 78) F dE_readPlace_73 rfl (by decide) (fun c73 => ?_) (fun c73 => by omega)
          refine aw_aload_1 (q := 79) F dE_readPlace_78 rfl ?_
          refine aw_iload_3 (q := 80) F dE_readPlace_79 rfl ?_
          refine aw_iload_4 (q := 82) F dE_readPlace_80 rfl ?_
          refine aw_iconst (q := 83) F dE_readPlace_82 rfl (by decide) ?_
          refine aw_iadd (q := 84) F dE_readPlace_83 rfl (by constructor <;> omega) ?_
          rw [show (((d65 : Nat) : Int) + 1) = ((d65 + 1 : Nat) : Int) by omega]
          have R2 := R38.t (j := d6) (z := ((d65 + 1 : Nat) : Int)) (b := e + 1 + 4 + s) (by omega) (R38.1.pl hs3)
          have k2 := k38.up (b := e + 1 + 4 + s) (j := d6) (z := ((d65 + 1 : Nat) : Int)) (Or.inl (by omega))
          have F2 : rdF V (up2 v38 (e + 1 + 4 + s) d6 ((d65 + 1 : Nat) : Int)) e := (f1.rd.tr f38.rd).up (by omega) (Or.inl (by omega))
          refine av_iastore (q := 85) F dE_readPlace_84 rfl (by first | exact hs.o | exact hs.a2 | exact hs.a8 | exact hs.to | exact hs.t.a1 | exact hs.t.a2 | exact hs.t.a3 | exact ha) (by omega) (by omega) ?_
          rw [Int.toNat_natCast]
          refine aw_aload_0 (q := 86) F dE_readPlace_85 rfl ?_
          refine av_callV0 (q := 89) (ci := 3) F hm mE_advance_i mE_advance_n lE_36 dE_readPlace_86 rfl rfl rfl (by first | exact hs.o | exact hs.a2 | exact hs.a8 | exact hs.to | exact hs.t.a1 | exact hs.t.a2 | exact hs.t.a3 | exact ha) (by decide) (Nat.le_refl _) (Nat.le_refl _) (Nat.le_of_ble_eq_true rfl) (wE_advance hs (hX.rd hs F2) (k2.p ok38) ok38.2.1 (fun v86 f86 k86 => ?_))
          refine aw_zret F C dE_readPlace_89 rfl (by decide) (Nat.le_refl _) (Nat.le_refl _) ?_
          refine hK.1 v86 (uPl s r.1 d6 (d65 + 1 : Nat), r.2) (nxT B n (nxT B n (nxT B n t))) ?_ (F2.tr f86.rd) (R2.tk f86) k86 (lex_ok ok38.2.1) ?_
          · unfold pPlace
            rw [pPe_1 q6 w6, if_neg (fun q => q c28), if_neg hno, pDr_1 q65 w65]
          · rw [f86.2 1 (by decide) (by decide) (by decide) (by decide) (by decide), up2_nea _ _ (by omega), f38.2 1 (by decide) (by decide) (by decide) (by decide) (by decide), f1.2 1 (by decide) (by decide) (by decide) (by decide) (by decide)]
        · refine aw_istore_4 (q := 70) F dE_readPlace_68 rfl trivial ?_
          refine aw_iload_4 (q := 72) F dE_readPlace_70 rfl ?_
          refine aw_iconst (q := 73) F dE_readPlace_72 rfl (by decide) ?_
          refine aw_icmp_ne (q := 76) (t := 78) F dE_readPlace_73 rfl (by decide) (fun c73 => absurd c73 (by decide)) (fun c73 => ?_)
          refine aw_iconst (q := 77) F dE_readPlace_76 rfl (by decide) ?_
          refine aw_zret F C dE_readPlace_77 rfl (by decide) (Nat.le_refl _) (Nat.le_refl _) ?_
          refine hK.2 _ _ _ ?_ ((f1.rd.tr f38.rd).up (by omega) (Or.inr (by decide))) (up2_same _ _ _ _) ((TK1 k38).1)
          unfold pPlace
          rw [pPe_1 q6 w6, if_neg (fun q => q c28), if_neg hno]
          exact pDr_0 q65
      · refine aw_aload_0 (q := 47) F dE_readPlace_46 rfl ?_
        refine aw_ldcS (q := 49) (j := 0) F dE_readPlace_47 rfl (by decide) rfl rfl ?_
        refine av_callV1 (q := 52) (ci := 3) F hm mE_wordNumber_i mE_wordNumber_n lE_55 dE_readPlace_49 rfl rfl rfl (by first | exact hs.o | exact hs.a2 | exact hs.a8 | exact hs.to | exact hs.t.a1 | exact hs.t.a2 | exact hs.t.a3 | exact ha) (by decide) (Nat.le_refl _) (Nat.le_refl _) (Nat.le_of_ble_eq_true rfl) (wE_wordNumber (j := 0) (by omega) hs k38 ok38 ?_)
        refine aw_if_ne (q := 55) (t := 64) F dE_readPlace_52 rfl (by decide) (fun c52 => ?_) (fun c52 => ?_)
        · have hno : ¬ (s ≠ 0 ∧ wnI 0 (nxT B n (nxT B n t)) = 0) := fun q => by first | exact q.1 (hol0.mp c43) | exact c52 q.2
          refine aw_aload_0 (q := 65) F dE_readPlace_64 rfl ?_
          refine av_callV0 (q := 68) (ci := 3) F hm mE_doorHere_i mE_doorHere_n lE_120 dE_readPlace_65 rfl rfl rfl (by first | exact hs.o | exact hs.a2 | exact hs.a8 | exact hs.to | exact hs.t.a1 | exact hs.t.a2 | exact hs.t.a3 | exact ha) (by decide) (Nat.le_refl _) (Nat.le_refl _) (Nat.le_of_ble_eq_true rfl) (wE_doorHere hs k38 ok38 R38 (fun d65 q65 w65 => ?_) (fun q65 => ?_))
          · refine aw_istore_4 (q := 70) F dE_readPlace_68 rfl trivial ?_
            refine aw_iload_4 (q := 72) F dE_readPlace_70 rfl ?_
            refine aw_iconst (q := 73) F dE_readPlace_72 rfl (by decide) ?_
            refine aw_icmp_ne (q := 76) (t := 78) F dE_readPlace_73 rfl (by decide) (fun c73 => ?_) (fun c73 => by omega)
            refine aw_aload_1 (q := 79) F dE_readPlace_78 rfl ?_
            refine aw_iload_3 (q := 80) F dE_readPlace_79 rfl ?_
            refine aw_iload_4 (q := 82) F dE_readPlace_80 rfl ?_
            refine aw_iconst (q := 83) F dE_readPlace_82 rfl (by decide) ?_
            refine aw_iadd (q := 84) F dE_readPlace_83 rfl (by constructor <;> omega) ?_
            rw [show (((d65 : Nat) : Int) + 1) = ((d65 + 1 : Nat) : Int) by omega]
            have R2 := R38.t (j := d6) (z := ((d65 + 1 : Nat) : Int)) (b := e + 1 + 4 + s) (by omega) (R38.1.pl hs3)
            have k2 := k38.up (b := e + 1 + 4 + s) (j := d6) (z := ((d65 + 1 : Nat) : Int)) (Or.inl (by omega))
            have F2 : rdF V (up2 v38 (e + 1 + 4 + s) d6 ((d65 + 1 : Nat) : Int)) e := (f1.rd.tr f38.rd).up (by omega) (Or.inl (by omega))
            refine av_iastore (q := 85) F dE_readPlace_84 rfl (by first | exact hs.o | exact hs.a2 | exact hs.a8 | exact hs.to | exact hs.t.a1 | exact hs.t.a2 | exact hs.t.a3 | exact ha) (by omega) (by omega) ?_
            rw [Int.toNat_natCast]
            refine aw_aload_0 (q := 86) F dE_readPlace_85 rfl ?_
            refine av_callV0 (q := 89) (ci := 3) F hm mE_advance_i mE_advance_n lE_36 dE_readPlace_86 rfl rfl rfl (by first | exact hs.o | exact hs.a2 | exact hs.a8 | exact hs.to | exact hs.t.a1 | exact hs.t.a2 | exact hs.t.a3 | exact ha) (by decide) (Nat.le_refl _) (Nat.le_refl _) (Nat.le_of_ble_eq_true rfl) (wE_advance hs (hX.rd hs F2) (k2.p ok38) ok38.2.1 (fun v86 f86 k86 => ?_))
            refine aw_zret F C dE_readPlace_89 rfl (by decide) (Nat.le_refl _) (Nat.le_refl _) ?_
            refine hK.1 v86 (uPl s r.1 d6 (d65 + 1 : Nat), r.2) (nxT B n (nxT B n (nxT B n t))) ?_ (F2.tr f86.rd) (R2.tk f86) k86 (lex_ok ok38.2.1) ?_
            · unfold pPlace
              rw [pPe_1 q6 w6, if_neg (fun q => q c28), if_neg hno, pDr_1 q65 w65]
            · rw [f86.2 1 (by decide) (by decide) (by decide) (by decide) (by decide), up2_nea _ _ (by omega), f38.2 1 (by decide) (by decide) (by decide) (by decide) (by decide), f1.2 1 (by decide) (by decide) (by decide) (by decide) (by decide)]
          · refine aw_istore_4 (q := 70) F dE_readPlace_68 rfl trivial ?_
            refine aw_iload_4 (q := 72) F dE_readPlace_70 rfl ?_
            refine aw_iconst (q := 73) F dE_readPlace_72 rfl (by decide) ?_
            refine aw_icmp_ne (q := 76) (t := 78) F dE_readPlace_73 rfl (by decide) (fun c73 => absurd c73 (by decide)) (fun c73 => ?_)
            refine aw_iconst (q := 77) F dE_readPlace_76 rfl (by decide) ?_
            refine aw_zret F C dE_readPlace_77 rfl (by decide) (Nat.le_refl _) (Nat.le_refl _) ?_
            refine hK.2 _ _ _ ?_ ((f1.rd.tr f38.rd).up (by omega) (Or.inr (by decide))) (up2_same _ _ _ _) ((TK1 k38).1)
            unfold pPlace
            rw [pPe_1 q6 w6, if_neg (fun q => q c28), if_neg hno]
            exact pDr_0 q65
        · refine aw_aload_1 (q := 56) F dE_readPlace_55 rfl ?_
          refine aw_iload_3 (q := 57) F dE_readPlace_56 rfl ?_
          refine aw_iconst (q := 58) F dE_readPlace_57 rfl (by decide) ?_
          have R2 := R38.t (j := d6) (z := 0) (b := e + 1 + 4 + s) (by omega) (R38.1.pl hs3)
          have k2 := k38.up (b := e + 1 + 4 + s) (j := d6) (z := 0) (Or.inl (by omega))
          have F2 : rdF V (up2 v38 (e + 1 + 4 + s) d6 0) e := (f1.rd.tr f38.rd).up (by omega) (Or.inl (by omega))
          refine av_iastore (q := 59) F dE_readPlace_58 rfl (by first | exact hs.o | exact hs.a2 | exact hs.a8 | exact hs.to | exact hs.t.a1 | exact hs.t.a2 | exact hs.t.a3 | exact ha) (by omega) (by omega) ?_
          rw [Int.toNat_natCast]
          refine aw_aload_0 (q := 60) F dE_readPlace_59 rfl ?_
          refine av_callV0 (q := 63) (ci := 3) F hm mE_advance_i mE_advance_n lE_36 dE_readPlace_60 rfl rfl rfl (by first | exact hs.o | exact hs.a2 | exact hs.a8 | exact hs.to | exact hs.t.a1 | exact hs.t.a2 | exact hs.t.a3 | exact ha) (by decide) (Nat.le_refl _) (Nat.le_refl _) (Nat.le_of_ble_eq_true rfl) (wE_advance hs (hX.rd hs F2) (k2.p ok38) ok38.2.1 (fun v60 f60 k60 => ?_))
          refine aw_zret F C dE_readPlace_63 rfl (by decide) (Nat.le_refl _) (Nat.le_refl _) ?_
          refine hK.1 v60 (uPl s r.1 d6 0, r.2) (nxT B n (nxT B n (nxT B n t))) ?_ (F2.tr f60.rd) (R2.tk f60) k60 (lex_ok ok38.2.1) ?_
          · unfold pPlace
            rw [pPe_1 q6 w6, if_neg (fun q => q c28), if_pos ⟨fun q => c43 (hol0.mpr q), c52⟩]
          · rw [f60.2 1 (by decide) (by decide) (by decide) (by decide) (by decide), up2_nea _ _ (by omega), f38.2 1 (by decide) (by decide) (by decide) (by decide) (by decide), f1.2 1 (by decide) (by decide) (by decide) (by decide) (by decide)]
    · refine aw_aload_0 (q := 32) F dE_readPlace_31 rfl ?_
      refine aw_iconst (q := 33) F dE_readPlace_32 rfl (by decide) ?_
      refine av_callV1 (q := 36) (ci := 3) F hm mE_fail_i mE_fail_n lE_49 dE_readPlace_33 rfl rfl rfl (by first | exact hs.o | exact hs.a2 | exact hs.a8 | exact hs.to | exact hs.t.a1 | exact hs.t.a2 | exact hs.t.a3 | exact ha) (by decide) (Nat.le_refl _) (Nat.le_refl _) (Nat.le_of_ble_eq_true rfl) (wE_fail hs ?_)
      refine aw_zret F C dE_readPlace_36 rfl (by omega) (Nat.le_refl _) (Nat.le_refl _) ?_
      refine hK.2 _ 3 _ ?_ (f1.rd.up (by omega) (Or.inr (by decide))) (up2_same _ _ _ _) ((TK1 k1).1)
      unfold pPlace
      rw [pPe_1 q6 w6]
      exact if_pos c28
  · refine aw_istore_3 (q := 10) F dE_readPlace_9 rfl trivial ?_
    refine aw_iload_3 (q := 11) F dE_readPlace_10 rfl ?_
    refine aw_iconst (q := 12) F dE_readPlace_11 rfl (by decide) ?_
    refine aw_icmp_eq (q := 15) (t := 21) F dE_readPlace_12 rfl (by decide) (fun c12 => ?_) (fun c12 => absurd c12 (by decide))
    refine aw_iconst (q := 22) F dE_readPlace_21 rfl (by decide) ?_
    refine aw_zret F C dE_readPlace_22 rfl (by decide) (Nat.le_refl _) (Nat.le_refl _) ?_
    exact hK.2 _ _ _ (pPe_0 q6) (f1.rd.up (by omega) (Or.inr (by decide))) (up2_same _ _ _ _) ((TK1 k1).1)
theorem wE_readNewName {x : Int} {i : Nat} (hx : x = i) (hi : i < 6) (hs : rdS σ e) (hT : TKR V e t) (hok : okTk n t) (hR : RER V e r) (h1 : isNm t = true → nmI r t = -1 → K (some (vI 1)) (up2 V (e + 8) i t.2.2.2, σ)) (h2 : isNm t = true → ¬ nmI r t = -1 → K (some (vI 0)) (up2 V e 1 3, σ)) (h3 : isNm t = false → K (some (vI 0)) (up2 V e 1 1, σ)) : Wp G 6 mE_readNewName [vR e, vI x] (V, σ) 0 0 K := by
  refine wp_intro mE_readNewName_i.1 [some (vR e), some (vI x)] rfl rfl (Nat.le_of_ble_eq_true rfl) ?_
  intro X hG F C
  have hm := C.rm
  refine aw_aload_0 (q := 1) F dE_readNewName_0 rfl ?_
  refine av_callV0 (q := 4) (ci := 3) F hm mE_isName_i mE_isName_n lE_145 dE_readNewName_1 rfl rfl rfl (by first | exact hs.o | exact hs.a2 | exact hs.a8 | exact hs.to | exact hs.t.a1 | exact hs.t.a2 | exact hs.t.a3 | exact ha) (by decide) (Nat.le_refl _) (Nat.le_refl _) (Nat.le_of_ble_eq_true rfl) (wE_isName hs hT hok (fun c1 => ?_) (fun c1 => ?_))
  · refine aw_if_ne (q := 7) (t := 13) F dE_readNewName_4 rfl (by decide) (fun c4 => ?_) (fun c4 => absurd c4 (by decide))
    refine aw_aload_0 (q := 14) F dE_readNewName_13 rfl ?_
    refine av_callV0 (q := 17) (ci := 3) F hm mE_nameHere_i mE_nameHere_n lE_148 dE_readNewName_14 rfl rfl rfl (by first | exact hs.o | exact hs.a2 | exact hs.a8 | exact hs.to | exact hs.t.a1 | exact hs.t.a2 | exact hs.t.a3 | exact ha) (by decide) (Nat.le_refl _) (Nat.le_refl _) (Nat.le_of_ble_eq_true rfl) (wE_nameHere hs hT (isNm_1 c1) hR ?_)
    refine aw_iconst (q := 18) F dE_readNewName_17 rfl (by decide) ?_
    refine aw_icmp_eq (q := 21) (t := 27) F dE_readNewName_18 rfl (by decide) (fun c18 => ?_) (fun c18 => ?_)
    · refine aw_iload_1 (q := 28) F dE_readNewName_27 rfl ?_
      refine aw_if_lt (q := 31) (t := 40) F dE_readNewName_28 rfl (by decide) (fun c28 => by omega) (fun c28 => ?_)
      refine aw_iload_1 (q := 32) F dE_readNewName_31 rfl ?_
      refine aw_aload_0 (q := 33) F dE_readNewName_32 rfl ?_
      refine av_getaE (q := 36) F fE_18 dE_readNewName_33 rfl rfl (by first | exact hs.o | exact hs.a2 | exact hs.a8 | exact hs.to | exact hs.t.a1 | exact hs.t.a2 | exact hs.t.a3 | exact ha) hs.p11 ?_
      refine av_alen (q := 37) F dE_readNewName_36 rfl (by first | exact hs.o | exact hs.a2 | exact hs.a8 | exact hs.to | exact hs.t.a1 | exact hs.t.a2 | exact hs.t.a3 | exact ha) (by decide) (by omega) ?_
      refine aw_icmp_lt (q := 40) (t := 46) F dE_readNewName_37 rfl (by decide) (fun c37 => ?_) (fun c37 => by omega)
      refine aw_aload_0 (q := 47) F dE_readNewName_46 rfl ?_
      refine av_getaE (q := 50) F fE_18 dE_readNewName_47 rfl rfl (by first | exact hs.o | exact hs.a2 | exact hs.a8 | exact hs.to | exact hs.t.a1 | exact hs.t.a2 | exact hs.t.a3 | exact ha) hs.p11 ?_
      refine aw_iload_1 (q := 51) F dE_readNewName_50 rfl ?_
      refine aw_aload_0 (q := 52) F dE_readNewName_51 rfl ?_
      refine av_getl (q := 55) F fE_151 dE_readNewName_52 rfl rfl (by first | exact hs.o | exact hs.a2 | exact hs.a8 | exact hs.to | exact hs.t.a1 | exact hs.t.a2 | exact hs.t.a3 | exact ha) ?_
      rw [hT.2.2.2.1 (isNm_1 c1)]
      refine av_lastore (q := 56) F dE_readNewName_55 rfl (by first | exact hs.o | exact hs.a2 | exact hs.a8 | exact hs.to | exact hs.t.a1 | exact hs.t.a2 | exact hs.t.a3 | exact ha) (by omega) (by omega) ?_
      refine aw_iconst (q := 57) F dE_readNewName_56 rfl (by decide) ?_
      refine aw_zret F C dE_readNewName_57 rfl (by decide) (Nat.le_refl _) (Nat.le_refl _) ?_
      rw [show x.toNat = i by omega]; exact h1 c1 c18
    · refine aw_aload_0 (q := 22) F dE_readNewName_21 rfl ?_
      refine aw_iconst (q := 23) F dE_readNewName_22 rfl (by decide) ?_
      refine av_callV1 (q := 26) (ci := 3) F hm mE_fail_i mE_fail_n lE_49 dE_readNewName_23 rfl rfl rfl (by first | exact hs.o | exact hs.a2 | exact hs.a8 | exact hs.to | exact hs.t.a1 | exact hs.t.a2 | exact hs.t.a3 | exact ha) (by decide) (Nat.le_refl _) (Nat.le_refl _) (Nat.le_of_ble_eq_true rfl) (wE_fail hs ?_)
      refine aw_zret F C dE_readNewName_26 rfl (by omega) (Nat.le_refl _) (Nat.le_refl _) ?_
      exact h2 c1 c18
  · refine aw_if_ne (q := 7) (t := 13) F dE_readNewName_4 rfl (by decide) (fun c4 => absurd c4 (by decide)) (fun c4 => ?_)
    refine aw_aload_0 (q := 8) F dE_readNewName_7 rfl ?_
    refine aw_iconst (q := 9) F dE_readNewName_8 rfl (by decide) ?_
    refine av_callV1 (q := 12) (ci := 3) F hm mE_fail_i mE_fail_n lE_49 dE_readNewName_9 rfl rfl rfl (by first | exact hs.o | exact hs.a2 | exact hs.a8 | exact hs.to | exact hs.t.a1 | exact hs.t.a2 | exact hs.t.a3 | exact ha) (by decide) (Nat.le_refl _) (Nat.le_refl _) (Nat.le_of_ble_eq_true rfl) (wE_fail hs ?_)
    refine aw_zret F C dE_readNewName_12 rfl (by omega) (Nat.le_refl _) (Nat.le_refl _) ?_
    exact h3 c1
theorem wE_readPerson (hs : rdS σ e) (hX : TX V e n B) (hT : TKR V e t) (hok : okTk n t) (hR : RER V e r) (ho : okN r) (hK : RdK K V σ e n (pPerson B n r t)) : Wp G 7 mE_readPerson [vR e] (V, σ) 0 0 K := by
  have e2 : V (e + 1) 2 = tPn r.1 := hR.1.1.2.2.1
  have hp2 : tPn r.1 ≤ 2 := ho.1.2.2.1
  refine wp_intro mE_readPerson_i.1 [some (vR e)] rfl rfl (Nat.le_of_ble_eq_true rfl) ?_
  intro X hG F C
  have hm := C.rm
  refine aw_aload_0 (q := 1) F dE_readPerson_0 rfl ?_
  refine av_getaE (q := 4) F fE_12 dE_readPerson_1 rfl rfl (by first | exact hs.o | exact hs.a2 | exact hs.a8 | exact hs.to | exact hs.t.a1 | exact hs.t.a2 | exact hs.t.a3 | exact ha) hs.p0 ?_
  refine av_geti (q := 7) F fE_117 dE_readPerson_4 rfl rfl (by first | exact hs.o | exact hs.a2 | exact hs.a8 | exact hs.to | exact hs.t.a1 | exact hs.t.a2 | exact hs.t.a3 | exact ha) ?_
  refine aw_iconst (q := 8) F dE_readPerson_7 rfl (by decide) ?_
  refine aw_icmp_lt (q := 11) (t := 17) F dE_readPerson_8 rfl (by decide) (fun c8 => ?_) (fun c8 => ?_)
  · refine aw_aload_0 (q := 18) F dE_readPerson_17 rfl ?_
    refine av_callV0 (q := 21) (ci := 3) F hm mE_advance_i mE_advance_n lE_36 dE_readPerson_18 rfl rfl rfl (by first | exact hs.o | exact hs.a2 | exact hs.a8 | exact hs.to | exact hs.t.a1 | exact hs.t.a2 | exact hs.t.a3 | exact ha) (by decide) (Nat.le_refl _) (Nat.le_refl _) (Nat.le_of_ble_eq_true rfl) (wE_advance hs hX (hT.p hok) hok.2.1 (fun v18 f18 k18 => ?_))
    have R1 := hR.tk f18
    have k1 : TKR v18 e (nxT B n t) := k18
    have ok1 : okTk n (nxT B n t) := lex_ok hok.2.1
    have e21 : v18 (e + 1) 2 = tPn r.1 := R1.1.1.2.2.1
    have hlt : ¬ 2 ≤ tPn r.1 := by omega
    refine aw_pop (q := 22) F dE_readPerson_21 rfl trivial ?_
    refine aw_aload_0 (q := 23) F dE_readPerson_22 rfl ?_
    refine aw_iconst (q := 24) F dE_readPerson_23 rfl (by decide) ?_
    refine aw_aload_0 (q := 25) F dE_readPerson_24 rfl ?_
    refine av_getaE (q := 28) F fE_12 dE_readPerson_25 rfl rfl (by first | exact hs.o | exact hs.a2 | exact hs.a8 | exact hs.to | exact hs.t.a1 | exact hs.t.a2 | exact hs.t.a3 | exact ha) hs.p0 ?_
    refine av_geti (q := 31) F fE_117 dE_readPerson_28 rfl rfl (by first | exact hs.o | exact hs.a2 | exact hs.a8 | exact hs.to | exact hs.t.a1 | exact hs.t.a2 | exact hs.t.a3 | exact ha) ?_
    rw [e21]
    refine aw_iadd (q := 32) F dE_readPerson_31 rfl (by constructor <;> omega) ?_
    refine av_callV1 (q := 35) (ci := 3) F hm mE_readNewName_i mE_readNewName_n lE_109 dE_readPerson_32 rfl rfl rfl (by first | exact hs.o | exact hs.a2 | exact hs.a8 | exact hs.to | exact hs.t.a1 | exact hs.t.a2 | exact hs.t.a3 | exact ha) (by decide) (Nat.le_refl _) (Nat.le_refl _) (Nat.le_of_ble_eq_true rfl) (wE_readNewName (i := 4 + tPn r.1) (by omega) (by omega) hs k1 ok1 R1 (fun a32 b32 => ?_) (fun a32 b32 => ?_) (fun a32 => ?_))
    · refine aw_if_ne (q := 38) (t := 40) F dE_readPerson_35 rfl (by decide) (fun c35 => ?_) (fun c35 => absurd c35 (by decide))
      have Rn : RER (up2 v18 (e + 8) (4 + tPn r.1) ((nxT B n t).2.2.2 : Int)) e (r.1, r.2.1, r.2.2.1, uNm r.2.2.2 (4 + tPn r.1) (nxT B n t).2.2.2) := ⟨R1.1.same (fun i hi => up2_nea _ _ (by omega)), by rw [up2_nea _ _ (by omega)]; exact R1.2.1, by rw [up2_nea _ _ (by omega)]; exact R1.2.2.1, fun k hk => by
        show up2 v18 (e + 8) (4 + tPn r.1) ((nxT B n t).2.2.2 : Int) (e + 8) k = ((uNm r.2.2.2 (4 + tPn r.1) (nxT B n t).2.2.2 k : Nat) : Int)
        unfold uNm
        by_cases q : k = 4 + tPn r.1
        · rw [q, up2_same, if_pos rfl]
        · rw [up2_nek _ _ q, if_neg q]; exact R1.2.2.2 k hk⟩
      refine aw_aload_0 (q := 41) F dE_readPerson_40 rfl ?_
      refine av_getaE (q := 44) F fE_12 dE_readPerson_41 rfl rfl (by first | exact hs.o | exact hs.a2 | exact hs.a8 | exact hs.to | exact hs.t.a1 | exact hs.t.a2 | exact hs.t.a3 | exact ha) hs.p0 ?_
      refine aw_dup (q := 45) F dE_readPerson_44 rfl trivial ?_
      refine av_geti (q := 48) F fE_117 dE_readPerson_45 rfl rfl (by first | exact hs.o | exact hs.a2 | exact hs.a8 | exact hs.to | exact hs.t.a1 | exact hs.t.a2 | exact hs.t.a3 | exact ha) ?_
      rw [up2_nea _ _ (by omega), e21]
      refine aw_iconst (q := 49) F dE_readPerson_48 rfl (by decide) ?_
      refine aw_iadd (q := 50) F dE_readPerson_49 rfl (by constructor <;> omega) ?_
      rw [show ((tPn r.1 : Nat) : Int) + 1 = ((tPn r.1 + 1 : Nat) : Int) by omega]
      have R2 := Rn.t (j := 2) (z := ((tPn r.1 + 1 : Nat) : Int)) (b := e + 1) (by omega) (Rn.1.pn rfl)
      have k2 := (k1.up (b := e + 8) (j := 4 + tPn r.1) (z := ((nxT B n t).2.2.2 : Int)) (Or.inl (by omega))).up (b := e + 1) (j := 2) (z := ((tPn r.1 + 1 : Nat) : Int)) (Or.inl (by omega))
      have F2 : rdF V (up2 (up2 v18 (e + 8) (4 + tPn r.1) ((nxT B n t).2.2.2 : Int)) (e + 1) 2 ((tPn r.1 + 1 : Nat) : Int)) e := (f18.rd.up (by omega) (Or.inl (by omega))).up (by omega) (Or.inl (by omega))
      refine av_puti (q := 53) F fE_117 dE_readPerson_50 rfl rfl (wr_6_2 _) (by first | exact hs.o | exact hs.a2 | exact hs.a8 | exact hs.to | exact hs.t.a1 | exact hs.t.a2 | exact hs.t.a3 | exact ha) ?_
      refine aw_aload_0 (q := 54) F dE_readPerson_53 rfl ?_
      refine av_callV0 (q := 57) (ci := 3) F hm mE_advance_i mE_advance_n lE_36 dE_readPerson_54 rfl rfl rfl (by first | exact hs.o | exact hs.a2 | exact hs.a8 | exact hs.to | exact hs.t.a1 | exact hs.t.a2 | exact hs.t.a3 | exact ha) (by decide) (Nat.le_refl _) (Nat.le_refl _) (Nat.le_of_ble_eq_true rfl) (wE_advance hs (hX.rd hs F2) (k2.p ok1) ok1.2.1 (fun v54 f54 k54 => ?_))
      refine aw_zret F C dE_readPerson_57 rfl (by decide) (Nat.le_refl _) (Nat.le_refl _) ?_
      refine hK.1 v54 (uPn r.1, r.2.1, r.2.2.1, uNm r.2.2.2 (4 + tPn r.1) (nxT B n t).2.2.2) (nxT B n (nxT B n t)) ?_ (F2.tr f54.rd) (R2.tk f54) k54 (lex_ok ok1.2.1) ?_
      · unfold pPerson pNw
        rw [if_neg hlt, if_pos a32, if_pos b32]
      · rw [f54.2 1 (by decide) (by decide) (by decide) (by decide) (by decide), up2_nea _ _ (by omega), up2_nea _ _ (by omega), f18.2 1 (by decide) (by decide) (by decide) (by decide) (by decide)]
    · refine aw_if_ne (q := 38) (t := 40) F dE_readPerson_35 rfl (by decide) (fun c35 => absurd c35 (by decide)) (fun c35 => ?_)
      refine aw_iconst (q := 39) F dE_readPerson_38 rfl (by decide) ?_
      refine aw_zret F C dE_readPerson_39 rfl (by decide) (Nat.le_refl _) (Nat.le_refl _) ?_
      first
      | (refine hK.2 _ 3 _ ?_ (f18.rd.up (by omega) (Or.inr (by decide))) (up2_same _ _ _ _) ((TK1 k1).1)
         unfold pPerson pNw
         rw [if_neg hlt, if_pos a32, if_neg b32])
      | (refine hK.2 _ 1 _ ?_ (f18.rd.up (by omega) (Or.inr (by decide))) (up2_same _ _ _ _) ((TK1 k1).1)
         unfold pPerson pNw
         rw [if_neg hlt, if_neg (by rw [a32]; decide)])
    · refine aw_if_ne (q := 38) (t := 40) F dE_readPerson_35 rfl (by decide) (fun c35 => absurd c35 (by decide)) (fun c35 => ?_)
      refine aw_iconst (q := 39) F dE_readPerson_38 rfl (by decide) ?_
      refine aw_zret F C dE_readPerson_39 rfl (by decide) (Nat.le_refl _) (Nat.le_refl _) ?_
      first
      | (refine hK.2 _ 3 _ ?_ (f18.rd.up (by omega) (Or.inr (by decide))) (up2_same _ _ _ _) ((TK1 k1).1)
         unfold pPerson pNw
         rw [if_neg hlt, if_pos a32, if_neg b32])
      | (refine hK.2 _ 1 _ ?_ (f18.rd.up (by omega) (Or.inr (by decide))) (up2_same _ _ _ _) ((TK1 k1).1)
         unfold pPerson pNw
         rw [if_neg hlt, if_neg (by rw [a32]; decide)])
  · refine aw_aload_0 (q := 12) F dE_readPerson_11 rfl ?_
    refine aw_iconst (q := 13) F dE_readPerson_12 rfl (by decide) ?_
    refine av_callV1 (q := 16) (ci := 3) F hm mE_fail_i mE_fail_n lE_49 dE_readPerson_13 rfl rfl rfl (by first | exact hs.o | exact hs.a2 | exact hs.a8 | exact hs.to | exact hs.t.a1 | exact hs.t.a2 | exact hs.t.a3 | exact ha) (by decide) (Nat.le_refl _) (Nat.le_refl _) (Nat.le_of_ble_eq_true rfl) (wE_fail hs ?_)
    refine aw_zret F C dE_readPerson_16 rfl (by omega) (Nat.le_refl _) (Nat.le_refl _) ?_
    refine hK.2 _ 5 _ ?_ ((rdF.rf V e).up (by omega) (Or.inr (by decide))) (up2_same _ _ _ _) ((TK1 hT).1)
    unfold pPerson
    exact if_pos (by omega)
theorem wE_readDoor (hs : rdS σ e) (hX : TX V e n B) (hT : TKR V e t) (hok : okTk n t) (hR : RER V e r) (ho : okN r) (hK : RdK K V σ e n (pDoor B n r t)) : Wp G 7 mE_readDoor [vR e] (V, σ) 0 0 K := by
  have e2 : V (e + 1) 1 = tDn r.1 := hR.1.1.2.1
  have hp2 : tDn r.1 ≤ 4 := ho.1.2.1
  refine wp_intro mE_readDoor_i.1 [some (vR e), none] rfl rfl (Nat.le_of_ble_eq_true rfl) ?_
  intro X hG F C
  have hm := C.rm
  refine aw_aload_0 (q := 1) F dE_readDoor_0 rfl ?_
  refine av_getaE (q := 4) F fE_12 dE_readDoor_1 rfl rfl (by first | exact hs.o | exact hs.a2 | exact hs.a8 | exact hs.to | exact hs.t.a1 | exact hs.t.a2 | exact hs.t.a3 | exact ha) hs.p0 ?_
  refine av_geti (q := 7) F fE_46 dE_readDoor_4 rfl rfl (by first | exact hs.o | exact hs.a2 | exact hs.a8 | exact hs.to | exact hs.t.a1 | exact hs.t.a2 | exact hs.t.a3 | exact ha) ?_
  refine aw_iconst (q := 8) F dE_readDoor_7 rfl (by decide) ?_
  refine aw_icmp_lt (q := 11) (t := 17) F dE_readDoor_8 rfl (by decide) (fun c8 => ?_) (fun c8 => ?_)
  · refine aw_aload_0 (q := 18) F dE_readDoor_17 rfl ?_
    refine av_callV0 (q := 21) (ci := 3) F hm mE_advance_i mE_advance_n lE_36 dE_readDoor_18 rfl rfl rfl (by first | exact hs.o | exact hs.a2 | exact hs.a8 | exact hs.to | exact hs.t.a1 | exact hs.t.a2 | exact hs.t.a3 | exact ha) (by decide) (Nat.le_refl _) (Nat.le_refl _) (Nat.le_of_ble_eq_true rfl) (wE_advance hs hX (hT.p hok) hok.2.1 (fun v18 f18 k18 => ?_))
    have R1 := hR.tk f18
    have k1 : TKR v18 e (nxT B n t) := k18
    have ok1 : okTk n (nxT B n t) := lex_ok hok.2.1
    have e21 : v18 (e + 1) 1 = tDn r.1 := R1.1.1.2.1
    have hlt : ¬ 4 ≤ tDn r.1 := by omega
    refine aw_pop (q := 22) F dE_readDoor_21 rfl trivial ?_
    refine aw_aload_0 (q := 23) F dE_readDoor_22 rfl ?_
    refine aw_aload_0 (q := 24) F dE_readDoor_23 rfl ?_
    refine av_getaE (q := 27) F fE_12 dE_readDoor_24 rfl rfl (by first | exact hs.o | exact hs.a2 | exact hs.a8 | exact hs.to | exact hs.t.a1 | exact hs.t.a2 | exact hs.t.a3 | exact ha) hs.p0 ?_
    refine av_geti (q := 30) F fE_46 dE_readDoor_27 rfl rfl (by first | exact hs.o | exact hs.a2 | exact hs.a8 | exact hs.to | exact hs.t.a1 | exact hs.t.a2 | exact hs.t.a3 | exact ha) ?_
    rw [e21]
    refine av_callV1 (q := 33) (ci := 3) F hm mE_readNewName_i mE_readNewName_n lE_109 dE_readDoor_30 rfl rfl rfl (by first | exact hs.o | exact hs.a2 | exact hs.a8 | exact hs.to | exact hs.t.a1 | exact hs.t.a2 | exact hs.t.a3 | exact ha) (by decide) (Nat.le_refl _) (Nat.le_refl _) (Nat.le_of_ble_eq_true rfl) (wE_readNewName (i := tDn r.1) rfl (by omega) hs k1 ok1 R1 (fun a30 b30 => ?_) (fun a30 b30 => ?_) (fun a30 => ?_))
    · refine aw_if_ne (q := 36) (t := 38) F dE_readDoor_33 rfl (by decide) (fun c33 => ?_) (fun c33 => absurd c33 (by decide))
      have Rn : RER (up2 v18 (e + 8) (tDn r.1) ((nxT B n t).2.2.2 : Int)) e (r.1, r.2.1, r.2.2.1, uNm r.2.2.2 (tDn r.1) (nxT B n t).2.2.2) := ⟨R1.1.same (fun i hi => up2_nea _ _ (by omega)), by rw [up2_nea _ _ (by omega)]; exact R1.2.1, by rw [up2_nea _ _ (by omega)]; exact R1.2.2.1, fun k hk => by
        show up2 v18 (e + 8) (tDn r.1) ((nxT B n t).2.2.2 : Int) (e + 8) k = ((uNm r.2.2.2 (tDn r.1) (nxT B n t).2.2.2 k : Nat) : Int)
        unfold uNm
        by_cases q : k = tDn r.1
        · rw [q, up2_same, if_pos rfl]
        · rw [up2_nek _ _ q, if_neg q]; exact R1.2.2.2 k hk⟩
      have kn := k1.up (b := e + 8) (j := tDn r.1) (z := ((nxT B n t).2.2.2 : Int)) (Or.inl (by omega))
      have Fn : rdF V (up2 v18 (e + 8) (tDn r.1) ((nxT B n t).2.2.2 : Int)) e := f18.rd.up (by omega) (Or.inl (by omega))
      refine aw_aload_0 (q := 39) F dE_readDoor_38 rfl ?_
      refine av_callV0 (q := 42) (ci := 3) F hm mE_advance_i mE_advance_n lE_36 dE_readDoor_39 rfl rfl rfl (by first | exact hs.o | exact hs.a2 | exact hs.a8 | exact hs.to | exact hs.t.a1 | exact hs.t.a2 | exact hs.t.a3 | exact ha) (by decide) (Nat.le_refl _) (Nat.le_refl _) (Nat.le_of_ble_eq_true rfl) (wE_advance hs (hX.rd hs Fn) (kn.p ok1) ok1.2.1 (fun v39 f39 k39 => ?_))
      have R39 := Rn.tk f39
      have k39 : TKR v39 e (nxT B n (nxT B n t)) := k39
      have ok39 : okTk n (nxT B n (nxT B n t)) := lex_ok ok1.2.1
      have e39 : v39 (e + 1) 1 = tDn r.1 := R39.1.1.2.1
      refine aw_pop (q := 43) F dE_readDoor_42 rfl trivial ?_
      refine aw_aload_0 (q := 44) F dE_readDoor_43 rfl ?_
      refine aw_ldcS (q := 46) (j := 2) F dE_readDoor_44 rfl (by decide) rfl rfl ?_
      refine av_callV1 (q := 49) (ci := 3) F hm mE_wordNumber_i mE_wordNumber_n lE_55 dE_readDoor_46 rfl rfl rfl (by first | exact hs.o | exact hs.a2 | exact hs.a8 | exact hs.to | exact hs.t.a1 | exact hs.t.a2 | exact hs.t.a3 | exact ha) (by decide) (Nat.le_refl _) (Nat.le_refl _) (Nat.le_of_ble_eq_true rfl) (wE_wordNumber (j := 2) (by omega) hs k39 ok39 ?_)
      refine aw_istore_1 (q := 50) F dE_readDoor_49 rfl trivial ?_
      refine aw_iload_1 (q := 51) F dE_readDoor_50 rfl ?_
      refine aw_iconst (q := 52) F dE_readDoor_51 rfl (by decide) ?_
      refine aw_icmp_ne (q := 55) (t := 61) F dE_readDoor_52 rfl (by decide) (fun c52 => ?_) (fun c52 => ?_)
      · have hw4 := wn2_bd (nxT B n (nxT B n t))
        refine aw_aload_0 (q := 62) F dE_readDoor_61 rfl ?_
        refine av_getaE (q := 65) F fE_12 dE_readDoor_62 rfl rfl (by first | exact hs.o | exact hs.a2 | exact hs.a8 | exact hs.to | exact hs.t.a1 | exact hs.t.a2 | exact hs.t.a3 | exact ha) hs.p0 ?_
        refine av_getaE (q := 68) F fE_114 dE_readDoor_65 rfl rfl (by first | exact hs.o | exact hs.a2 | exact hs.a8 | exact hs.to | exact hs.t.a1 | exact hs.t.a2 | exact hs.t.a3 | exact ha) hs.t.p6 ?_
        refine aw_aload_0 (q := 69) F dE_readDoor_68 rfl ?_
        refine av_getaE (q := 72) F fE_12 dE_readDoor_69 rfl rfl (by first | exact hs.o | exact hs.a2 | exact hs.a8 | exact hs.to | exact hs.t.a1 | exact hs.t.a2 | exact hs.t.a3 | exact ha) hs.p0 ?_
        refine av_geti (q := 75) F fE_46 dE_readDoor_72 rfl rfl (by first | exact hs.o | exact hs.a2 | exact hs.a8 | exact hs.to | exact hs.t.a1 | exact hs.t.a2 | exact hs.t.a3 | exact ha) ?_
        rw [e39]
        refine aw_iload_1 (q := 76) F dE_readDoor_75 rfl ?_
        refine av_iastore (q := 77) F dE_readDoor_76 rfl (by first | exact hs.o | exact hs.a2 | exact hs.a8 | exact hs.to | exact hs.t.a1 | exact hs.t.a2 | exact hs.t.a3 | exact ha) (by omega) (by omega) ?_
        rw [Int.toNat_natCast]
        refine aw_aload_0 (q := 78) F dE_readDoor_77 rfl ?_
        refine av_getaE (q := 81) F fE_12 dE_readDoor_78 rfl rfl (by first | exact hs.o | exact hs.a2 | exact hs.a8 | exact hs.to | exact hs.t.a1 | exact hs.t.a2 | exact hs.t.a3 | exact ha) hs.p0 ?_
        refine aw_dup (q := 82) F dE_readDoor_81 rfl trivial ?_
        refine av_geti (q := 85) F fE_46 dE_readDoor_82 rfl rfl (by first | exact hs.o | exact hs.a2 | exact hs.a8 | exact hs.to | exact hs.t.a1 | exact hs.t.a2 | exact hs.t.a3 | exact ha) ?_
        rw [up2_nea _ _ (by omega), e39]
        refine aw_iconst (q := 86) F dE_readDoor_85 rfl (by decide) ?_
        refine aw_iadd (q := 87) F dE_readDoor_86 rfl (by constructor <;> omega) ?_
        have T2 := R39.1.dn (k := (wnI 2 (nxT B n (nxT B n t))).toNat) (z := wnI 2 (nxT B n (nxT B n t))) (w := ((tDn r.1 : Nat) : Int) + 1) (by omega) (by show _ = ((tDn r.1 + 1 : Nat) : Int); omega)
        have k2 := (k39.up (b := e + 1 + 1) (j := tDn r.1) (z := wnI 2 (nxT B n (nxT B n t))) (Or.inl (by omega))).up (b := e + 1) (j := 1) (z := ((tDn r.1 : Nat) : Int) + 1) (Or.inl (by omega))
        have F2 : rdF V (up2 (up2 v39 (e + 1 + 1) (tDn r.1) (wnI 2 (nxT B n (nxT B n t)))) (e + 1) 1 (((tDn r.1 : Nat) : Int) + 1)) e := ((Fn.tr f39.rd).up (by omega) (Or.inl (by omega))).up (by omega) (Or.inl (by omega))
        have R2 : RER (up2 (up2 v39 (e + 1 + 1) (tDn r.1) (wnI 2 (nxT B n (nxT B n t)))) (e + 1) 1 (((tDn r.1 : Nat) : Int) + 1)) e (uDo r.1 (wnI 2 (nxT B n (nxT B n t))).toNat, r.2.1, r.2.2.1, uNm r.2.2.2 (tDn r.1) (nxT B n t).2.2.2) := ⟨T2, by rw [up2_nea _ _ (by omega), up2_nea _ _ (by omega)]; exact R39.2.1, by rw [up2_nea _ _ (by omega), up2_nea _ _ (by omega)]; exact R39.2.2.1, by rw [up2_nea _ _ (by omega), up2_nea _ _ (by omega)]; exact R39.2.2.2⟩
        refine av_puti (q := 90) F fE_46 dE_readDoor_87 rfl rfl (wr_6_1 _) (by first | exact hs.o | exact hs.a2 | exact hs.a8 | exact hs.to | exact hs.t.a1 | exact hs.t.a2 | exact hs.t.a3 | exact ha) ?_
        refine aw_aload_0 (q := 91) F dE_readDoor_90 rfl ?_
        refine av_callV0 (q := 94) (ci := 3) F hm mE_advance_i mE_advance_n lE_36 dE_readDoor_91 rfl rfl rfl (by first | exact hs.o | exact hs.a2 | exact hs.a8 | exact hs.to | exact hs.t.a1 | exact hs.t.a2 | exact hs.t.a3 | exact ha) (by decide) (Nat.le_refl _) (Nat.le_refl _) (Nat.le_of_ble_eq_true rfl) (wE_advance hs (hX.rd hs F2) (k2.p ok39) ok39.2.1 (fun v91 f91 k91 => ?_))
        refine aw_zret F C dE_readDoor_94 rfl (by decide) (Nat.le_refl _) (Nat.le_refl _) ?_
        refine hK.1 v91 (uDo r.1 (wnI 2 (nxT B n (nxT B n t))).toNat, r.2.1, r.2.2.1, uNm r.2.2.2 (tDn r.1) (nxT B n t).2.2.2) (nxT B n (nxT B n (nxT B n t))) ?_ (F2.tr f91.rd) (R2.tk f91) k91 (lex_ok ok39.2.1) ?_
        · unfold pDoor pNw
          rw [if_neg hlt, if_pos a30, if_pos b30, if_neg c52]
        · rw [f91.2 1 (by decide) (by decide) (by decide) (by decide) (by decide), up2_nea _ _ (by omega), up2_nea _ _ (by omega), f39.2 1 (by decide) (by decide) (by decide) (by decide) (by decide), up2_nea _ _ (by omega), f18.2 1 (by decide) (by decide) (by decide) (by decide) (by decide)]
      · refine aw_aload_0 (q := 56) F dE_readDoor_55 rfl ?_
        refine aw_iconst (q := 57) F dE_readDoor_56 rfl (by decide) ?_
        refine av_callV1 (q := 60) (ci := 3) F hm mE_fail_i mE_fail_n lE_49 dE_readDoor_57 rfl rfl rfl (by first | exact hs.o | exact hs.a2 | exact hs.a8 | exact hs.to | exact hs.t.a1 | exact hs.t.a2 | exact hs.t.a3 | exact ha) (by decide) (Nat.le_refl _) (Nat.le_refl _) (Nat.le_of_ble_eq_true rfl) (wE_fail hs ?_)
        refine aw_zret F C dE_readDoor_60 rfl (by omega) (Nat.le_refl _) (Nat.le_refl _) ?_
        refine hK.2 _ 1 _ ?_ ((Fn.tr f39.rd).up (by omega) (Or.inr (by decide))) (up2_same _ _ _ _) ((TK1 k39).1)
        unfold pDoor pNw
        rw [if_neg hlt, if_pos a30, if_pos b30, if_pos c52]
    · refine aw_if_ne (q := 36) (t := 38) F dE_readDoor_33 rfl (by decide) (fun c33 => absurd c33 (by decide)) (fun c33 => ?_)
      refine aw_iconst (q := 37) F dE_readDoor_36 rfl (by decide) ?_
      refine aw_zret F C dE_readDoor_37 rfl (by decide) (Nat.le_refl _) (Nat.le_refl _) ?_
      first
      | (refine hK.2 _ 3 _ ?_ (f18.rd.up (by omega) (Or.inr (by decide))) (up2_same _ _ _ _) ((TK1 k1).1)
         unfold pDoor pNw
         rw [if_neg hlt, if_pos a30, if_neg b30])
      | (refine hK.2 _ 1 _ ?_ (f18.rd.up (by omega) (Or.inr (by decide))) (up2_same _ _ _ _) ((TK1 k1).1)
         unfold pDoor pNw
         rw [if_neg hlt, if_neg (by rw [a30]; decide)])
    · refine aw_if_ne (q := 36) (t := 38) F dE_readDoor_33 rfl (by decide) (fun c33 => absurd c33 (by decide)) (fun c33 => ?_)
      refine aw_iconst (q := 37) F dE_readDoor_36 rfl (by decide) ?_
      refine aw_zret F C dE_readDoor_37 rfl (by decide) (Nat.le_refl _) (Nat.le_refl _) ?_
      first
      | (refine hK.2 _ 3 _ ?_ (f18.rd.up (by omega) (Or.inr (by decide))) (up2_same _ _ _ _) ((TK1 k1).1)
         unfold pDoor pNw
         rw [if_neg hlt, if_pos a30, if_neg b30])
      | (refine hK.2 _ 1 _ ?_ (f18.rd.up (by omega) (Or.inr (by decide))) (up2_same _ _ _ _) ((TK1 k1).1)
         unfold pDoor pNw
         rw [if_neg hlt, if_neg (by rw [a30]; decide)])
  · refine aw_aload_0 (q := 12) F dE_readDoor_11 rfl ?_
    refine aw_iconst (q := 13) F dE_readDoor_12 rfl (by decide) ?_
    refine av_callV1 (q := 16) (ci := 3) F hm mE_fail_i mE_fail_n lE_49 dE_readDoor_13 rfl rfl rfl (by first | exact hs.o | exact hs.a2 | exact hs.a8 | exact hs.to | exact hs.t.a1 | exact hs.t.a2 | exact hs.t.a3 | exact ha) (by decide) (Nat.le_refl _) (Nat.le_refl _) (Nat.le_of_ble_eq_true rfl) (wE_fail hs ?_)
    refine aw_zret F C dE_readDoor_16 rfl (by omega) (Nat.le_refl _) (Nat.le_refl _) ?_
    refine hK.2 _ 5 _ ?_ ((rdF.rf V e).up (by omega) (Or.inr (by decide))) (up2_same _ _ _ _) ((TK1 hT).1)
    unfold pDoor
    exact if_pos (by omega)
theorem wE_readLane (hs : rdS σ e) (hX : TX V e n B) (hT : TKR V e t) (hok : okTk n t) (hR : RER V e r) (hK : RdK K V σ e n (pLane B n r t)) : Wp G 7 mE_readLane [vR e] (V, σ) 0 0 K := by
  have e9 := hR.2.1
  refine wp_intro mE_readLane_i.1 [some (vR e)] rfl rfl (Nat.le_of_ble_eq_true rfl) ?_
  intro X hG F C
  have hm := C.rm
  refine aw_aload_0 (q := 1) F dE_readLane_0 rfl ?_
  refine av_geti (q := 4) F fE_59 dE_readLane_1 rfl rfl (by first | exact hs.o | exact hs.a2 | exact hs.a8 | exact hs.to | exact hs.t.a1 | exact hs.t.a2 | exact hs.t.a3 | exact ha) ?_
  refine aw_if_eq (q := 7) (t := 13) F dE_readLane_4 rfl (by decide) (fun c4 => ?_) (fun c4 => ?_)
  · have hq : r.2.1 = false := by cases hq : r.2.1; rfl; rw [hq] at e9; rw [e9] at c4; exact absurd c4 (by decide)
    refine aw_aload_0 (q := 14) F dE_readLane_13 rfl ?_
    refine av_callV0 (q := 17) (ci := 3) F hm mE_advance_i mE_advance_n lE_36 dE_readLane_14 rfl rfl rfl (by first | exact hs.o | exact hs.a2 | exact hs.a8 | exact hs.to | exact hs.t.a1 | exact hs.t.a2 | exact hs.t.a3 | exact ha) (by decide) (Nat.le_refl _) (Nat.le_refl _) (Nat.le_of_ble_eq_true rfl) (wE_advance hs hX (hT.p hok) hok.2.1 (fun v14 f14 k14 => ?_))
    have R14 := hR.tk f14
    have X14 := hX.tk hs f14
    have k14 : TKR v14 e (nxT B n t) := k14
    have ok14 : okTk n (nxT B n t) := lex_ok hok.2.1
    refine aw_pop (q := 18) F dE_readLane_17 rfl trivial ?_
    refine aw_aload_0 (q := 19) F dE_readLane_18 rfl ?_
    refine aw_ldcS (q := 21) (j := 1) F dE_readLane_19 rfl (by decide) rfl rfl ?_
    refine av_callV1 (q := 24) (ci := 3) F hm mE_wordNumber_i mE_wordNumber_n lE_55 dE_readLane_21 rfl rfl rfl (by first | exact hs.o | exact hs.a2 | exact hs.a8 | exact hs.to | exact hs.t.a1 | exact hs.t.a2 | exact hs.t.a3 | exact ha) (by decide) (Nat.le_refl _) (Nat.le_refl _) (Nat.le_of_ble_eq_true rfl) (wE_wordNumber (j := 1) (by omega) hs k14 ok14 ?_)
    refine aw_iconst (q := 25) F dE_readLane_24 rfl (by decide) ?_
    refine aw_icmp_ne (q := 28) (t := 34) F dE_readLane_25 rfl (by decide) (fun c25 => ?_) (fun c25 => ?_)
    · refine aw_aload_0 (q := 35) F dE_readLane_34 rfl ?_
      refine av_callV0 (q := 38) (ci := 3) F hm mE_advance_i mE_advance_n lE_36 dE_readLane_35 rfl rfl rfl (by first | exact hs.o | exact hs.a2 | exact hs.a8 | exact hs.to | exact hs.t.a1 | exact hs.t.a2 | exact hs.t.a3 | exact ha) (by decide) (Nat.le_refl _) (Nat.le_refl _) (Nat.le_of_ble_eq_true rfl) (wE_advance hs X14 (k14.p ok14) ok14.2.1 (fun v35 f35 k35 => ?_))
      have R35 := R14.tk f35
      have X35 := X14.tk hs f35
      have k35 : TKR v35 e (nxT B n (nxT B n t)) := k35
      have ok35 : okTk n (nxT B n (nxT B n t)) := lex_ok ok14.2.1
      have e6 := k35.2.2.1
      refine aw_pop (q := 39) F dE_readLane_38 rfl trivial ?_
      refine aw_aload_0 (q := 40) F dE_readLane_39 rfl ?_
      refine av_geti (q := 43) F fE_43 dE_readLane_40 rfl rfl (by first | exact hs.o | exact hs.a2 | exact hs.a8 | exact hs.to | exact hs.t.a1 | exact hs.t.a2 | exact hs.t.a3 | exact ha) ?_
      refine aw_iconst (q := 44) F dE_readLane_43 rfl (by decide) ?_
      refine aw_icmp_eq (q := 47) (t := 53) F dE_readLane_44 rfl (by decide) (fun c44 => ?_) (fun c44 => ?_)
      · have h2 : (nxT B n (nxT B n t)).1 = 2 := by omega
        have e7 := k35.2.2.2.2 h2
        refine aw_aload_0 (q := 54) F dE_readLane_53 rfl ?_
        refine av_geti (q := 57) F fE_103 dE_readLane_54 rfl rfl (by first | exact hs.o | exact hs.a2 | exact hs.a8 | exact hs.to | exact hs.t.a1 | exact hs.t.a2 | exact hs.t.a3 | exact ha) ?_
        refine aw_bipush (q := 59) F dE_readLane_57 rfl (by decide) ?_
        refine aw_icmp_le (q := 62) (t := 68) F dE_readLane_59 rfl (by decide) (fun c59 => ?_) (fun c59 => ?_)
        · refine aw_aload_0 (q := 69) F dE_readLane_68 rfl ?_
          refine av_getaE (q := 72) F fE_12 dE_readLane_69 rfl rfl (by first | exact hs.o | exact hs.a2 | exact hs.a8 | exact hs.to | exact hs.t.a1 | exact hs.t.a2 | exact hs.t.a3 | exact ha) hs.p0 ?_
          refine aw_aload_0 (q := 73) F dE_readLane_72 rfl ?_
          refine av_geti (q := 76) F fE_103 dE_readLane_73 rfl rfl (by first | exact hs.o | exact hs.a2 | exact hs.a8 | exact hs.to | exact hs.t.a1 | exact hs.t.a2 | exact hs.t.a3 | exact ha) ?_
          rw [e7]
          have R2 := R35.t (j := 0) (z := ((nxT B n (nxT B n t)).2.2.2 : Int)) (b := e + 1) (by omega) (R35.1.dr rfl)
          have k2 := (k35.up (b := e + 1) (j := 0) (z := ((nxT B n (nxT B n t)).2.2.2 : Int)) (Or.inl (by omega))).up (b := e) (j := 9) (z := 1) (Or.inr (by decide))
          have F2 : rdF V (up2 (up2 v35 (e + 1) 0 ((nxT B n (nxT B n t)).2.2.2 : Int)) e 9 1) e := ((f14.rd.tr f35.rd).up (by omega) (Or.inl (by omega))).up (by omega) (Or.inr (by decide))
          have R3 : RER (up2 (up2 v35 (e + 1) 0 ((nxT B n (nxT B n t)).2.2.2 : Int)) e 9 1) e (uDr r.1 (nxT B n (nxT B n t)).2.2.2, true, r.2.2) := ⟨R2.1.same (fun i hi => up2_nea _ _ (by omega)), up2_same _ _ _ _, by rw [up2_nek _ _ (by decide)]; exact R2.2.2.1, by rw [up2_nea _ _ (by omega)]; exact R2.2.2.2⟩
          refine av_puti (q := 79) F fE_106 dE_readLane_76 rfl rfl (wr_6_0 _) (by first | exact hs.o | exact hs.a2 | exact hs.a8 | exact hs.to | exact hs.t.a1 | exact hs.t.a2 | exact hs.t.a3 | exact ha) ?_
          refine aw_aload_0 (q := 80) F dE_readLane_79 rfl ?_
          refine aw_iconst (q := 81) F dE_readLane_80 rfl (by decide) ?_
          refine av_putz (q := 84) F fE_59 dE_readLane_81 rfl rfl (wr_3_9 _) (by first | exact hs.o | exact hs.a2 | exact hs.a8 | exact hs.to | exact hs.t.a1 | exact hs.t.a2 | exact hs.t.a3 | exact ha) (by first | exact Or.inl rfl | exact Or.inr rfl | omega) ?_
          refine aw_aload_0 (q := 85) F dE_readLane_84 rfl ?_
          refine av_callV0 (q := 88) (ci := 3) F hm mE_advance_i mE_advance_n lE_36 dE_readLane_85 rfl rfl rfl (by first | exact hs.o | exact hs.a2 | exact hs.a8 | exact hs.to | exact hs.t.a1 | exact hs.t.a2 | exact hs.t.a3 | exact ha) (by decide) (Nat.le_refl _) (Nat.le_refl _) (Nat.le_of_ble_eq_true rfl) (wE_advance hs (hX.rd hs F2) (k2.p ok35) ok35.2.1 (fun v85 f85 k85 => ?_))
          refine aw_zret F C dE_readLane_88 rfl (by decide) (Nat.le_refl _) (Nat.le_refl _) ?_
          refine hK.1 v85 (uDr r.1 (nxT B n (nxT B n t)).2.2.2, true, r.2.2) (nxT B n (nxT B n (nxT B n t))) ?_ (F2.tr f85.rd) (R3.tk f85) k85 (lex_ok ok35.2.1) ?_
          · unfold pLane
            rw [hq, if_neg Bool.false_ne_true, if_neg c25, if_pos h2, if_pos (by omega)]
          · rw [f85.2 1 (by decide) (by decide) (by decide) (by decide) (by decide), up2_nek _ _ (by decide), up2_nea _ _ (by omega), f35.2 1 (by decide) (by decide) (by decide) (by decide) (by decide), f14.2 1 (by decide) (by decide) (by decide) (by decide) (by decide)]
        · refine aw_aload_0 (q := 63) F dE_readLane_62 rfl ?_
          refine aw_iconst (q := 64) F dE_readLane_63 rfl (by decide) ?_
          refine av_callV1 (q := 67) (ci := 3) F hm mE_fail_i mE_fail_n lE_49 dE_readLane_64 rfl rfl rfl (by first | exact hs.o | exact hs.a2 | exact hs.a8 | exact hs.to | exact hs.t.a1 | exact hs.t.a2 | exact hs.t.a3 | exact ha) (by decide) (Nat.le_refl _) (Nat.le_refl _) (Nat.le_of_ble_eq_true rfl) (wE_fail hs ?_)
          refine aw_zret F C dE_readLane_67 rfl (by omega) (Nat.le_refl _) (Nat.le_refl _) ?_
          refine hK.2 _ 4 _ ?_ ((f14.rd.tr f35.rd).up (by omega) (Or.inr (by decide))) (up2_same _ _ _ _) ((TK1 k35).1)
          unfold pLane
          rw [hq, if_neg Bool.false_ne_true, if_neg c25, if_pos h2, if_neg (by omega)]
      · refine aw_aload_0 (q := 48) F dE_readLane_47 rfl ?_
        refine aw_iconst (q := 49) F dE_readLane_48 rfl (by decide) ?_
        refine av_callV1 (q := 52) (ci := 3) F hm mE_fail_i mE_fail_n lE_49 dE_readLane_49 rfl rfl rfl (by first | exact hs.o | exact hs.a2 | exact hs.a8 | exact hs.to | exact hs.t.a1 | exact hs.t.a2 | exact hs.t.a3 | exact ha) (by decide) (Nat.le_refl _) (Nat.le_refl _) (Nat.le_of_ble_eq_true rfl) (wE_fail hs ?_)
        refine aw_zret F C dE_readLane_52 rfl (by omega) (Nat.le_refl _) (Nat.le_refl _) ?_
        refine hK.2 _ 1 _ ?_ ((f14.rd.tr f35.rd).up (by omega) (Or.inr (by decide))) (up2_same _ _ _ _) ((TK1 k35).1)
        unfold pLane
        rw [hq, if_neg Bool.false_ne_true, if_neg c25, if_neg (by omega)]
    · refine aw_aload_0 (q := 29) F dE_readLane_28 rfl ?_
      refine aw_iconst (q := 30) F dE_readLane_29 rfl (by decide) ?_
      refine av_callV1 (q := 33) (ci := 3) F hm mE_fail_i mE_fail_n lE_49 dE_readLane_30 rfl rfl rfl (by first | exact hs.o | exact hs.a2 | exact hs.a8 | exact hs.to | exact hs.t.a1 | exact hs.t.a2 | exact hs.t.a3 | exact ha) (by decide) (Nat.le_refl _) (Nat.le_refl _) (Nat.le_of_ble_eq_true rfl) (wE_fail hs ?_)
      refine aw_zret F C dE_readLane_33 rfl (by omega) (Nat.le_refl _) (Nat.le_refl _) ?_
      refine hK.2 _ 1 _ ?_ (f14.rd.up (by omega) (Or.inr (by decide))) (up2_same _ _ _ _) ((TK1 k14).1)
      unfold pLane
      rw [hq, if_neg Bool.false_ne_true, if_pos c25]
  · refine aw_aload_0 (q := 8) F dE_readLane_7 rfl ?_
    refine aw_iconst (q := 9) F dE_readLane_8 rfl (by decide) ?_
    refine av_callV1 (q := 12) (ci := 3) F hm mE_fail_i mE_fail_n lE_49 dE_readLane_9 rfl rfl rfl (by first | exact hs.o | exact hs.a2 | exact hs.a8 | exact hs.to | exact hs.t.a1 | exact hs.t.a2 | exact hs.t.a3 | exact ha) (by decide) (Nat.le_refl _) (Nat.le_refl _) (Nat.le_of_ble_eq_true rfl) (wE_fail hs ?_)
    refine aw_zret F C dE_readLane_12 rfl (by omega) (Nat.le_refl _) (Nat.le_refl _) ?_
    refine hK.2 _ 3 _ ?_ ((rdF.rf V e).up (by omega) (Or.inr (by decide))) (up2_same _ _ _ _) ((TK1 hT).1)
    unfold pLane
    cases hq : r.2.1
    · rw [hq] at e9; rw [e9] at c4; exact absurd rfl c4
    · rfl
end Read5
