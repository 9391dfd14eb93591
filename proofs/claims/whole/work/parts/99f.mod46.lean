section Mod46
variable {G : GE} {V V' V1 V2 : Nat → Nat → Int} {σ : Shp} {K : Option AV → Mem → Prop} {l n e : Nat} {B : Nat → Int} {r : PR} {t : TK}
theorem plS_u (T : TL) {s s' p p' : Nat} {v : Int} (hs : s < 3) (hs' : s' < 3) : plS s' (uPl s T p v) p' = if s' = s ∧ p' = p then v else plS s' T p' := by
  rcases (show s = 0 ∨ s = 1 ∨ s = 2 by omega) with e | e | e <;> rcases (show s' = 0 ∨ s' = 1 ∨ s' = 2 by omega) with e' | e' | e' <;> subst e <;> subst e' <;> simp [plS, uPl, uF] <;> rfl
theorem wM_readPlace {x : Int} {s : Nat} (hx : x = s) (hs3 : s < 3) (hM : moS σ l) (hl : laS σ e) (h4p : sP σ 53 4 = e) (he : 64 ≤ e) (h : GS V e n B r t) (h4 : t.1 ≠ 4) (hK : MrK K V σ e n B (if r.2.1 = false then .inr (6, t.2.1) else pPlace B n r t s)) : Wp G 8 mM_readPlace [vR 53, vI x] (V, σ) 0 0 K := by
  refine wp_intro mM_readPlace_i.1 [some (vR 53), some (vI x), none, none] rfl rfl (Nat.le_of_ble_eq_true rfl) ?_
  intro X hG F C
  have hm := C.rm
  -- what is written
  have fin : ∀ (p : Nat) (v : Int) (V4 : Nat → Nat → Int), p < 2 → v ≠ -2 → plS s r.1 p = -2 → QF V V4 → GS V4 e n B r (nxT B n (nxT B n (nxT B n t))) → K none (up2 (up2 V4 (e + 4) (2 * s + p) v) (e + 5) s ((cntB (fun p => plS s r.1 p != -2) 2 + 1 : Nat) : Int), σ) ∨ True → (∀ V', PF V V' e → (MT V' (nxT B n (nxT B n (nxT B n t))) ∧ LR V' e (uPl s r.1 p v, r.2) ∧ MTX V' n B ∧ okTk n (nxT B n (nxT B n (nxT B n t))) ∧ V' 53 12 = 0) → K none (V', σ)) → K none (up2 (up2 V4 (e + 4) (2 * s + p) v) (e + 5) s ((cntB (fun p => plS s r.1 p != -2) 2 + 1 : Nat) : Int), σ) := by
    intro p v V4 hp hv hold hQ hG _ hk
    obtain ⟨⟨x0, x1, x2, x3, x4, x5, x6, x7, x8, x14⟩, ⟨y1, y2, y3, y4⟩, hnm⟩ := hG.2.1
    have hcu : cntB (fun q => plS s (uPl s r.1 p v) q != -2) 2 = cntB (fun p => plS s r.1 p != -2) 2 + 1 := cntB_up hp (fun j hj => by rw [plS_u r.1 hs3 hs3, if_neg (fun z => hj z.2)]) (by rw [hold]; rfl) (by rw [plS_u r.1 hs3 hs3, if_pos ⟨rfl, rfl⟩]; exact bne_iff_ne.mpr hv)
    generalize hz : ((cntB (fun p => plS s r.1 p != -2) 2 + 1 : Nat) : Int) = z
    have ec : ∀ b, b ≠ e + 4 → b ≠ e + 5 → up2 (up2 V4 (e + 4) (2 * s + p) v) (e + 5) s z b = V4 b := fun b h1 h2 => by rw [up2_nea _ _ h2, up2_nea _ _ h1]
    refine hk _ ((hQ.pf.la (by omega) ⟨by omega, by omega⟩).la (by omega) ⟨by omega, by omega⟩) (hG.w (ec _ (by omega) (by omega)) (ec _ (by omega) (by omega)) ⟨?_, ?_, ?_⟩)
    · unfold LRf; rw [ec _ (by omega) (by omega)]; exact ⟨x0, x1, x2, x3, x4, x5, x6, x7, x8, x14⟩
    · refine ⟨fun d hd => ⟨?_, ?_⟩, by rw [ec _ (by omega) (by omega)]; exact y2, fun s' p' h1 h2 => ?_, fun s' h1 => ?_⟩
      · rw [ec _ (by omega) (by omega)]; exact (y1 d hd).1
      · rw [ec _ (by omega) (by omega)]; exact (y1 d hd).2
      · rw [up2_nea _ _ (by omega)]
        show _ = plS s' (uPl s r.1 p v) p'
        rw [plS_u r.1 hs3 h1]
        by_cases q : s' = s ∧ p' = p
        · rw [if_pos q, q.1, q.2, up2_same]
        · rw [if_neg q, up2_nek _ _ (by omega)]; exact y3 s' p' h1 h2
      · show _ = ((cntB (fun q => plS s' (uPl s r.1 p v) q != -2) 2 : Nat) : Int)
        by_cases q : s' = s
        · rw [q, up2_same, hcu, hz]
        · rw [up2_nek _ _ q, up2_nea _ _ (by omega), y4 s' h1]
          congr 1
          exact cntB_cg _ (fun j _ => by rw [plS_u r.1 hs3 h1, if_neg (fun z => q z.1)])
    · unfold NMr; rw [ec _ (by omega) (by omega), ec _ (by omega) (by omega), ec _ (by omega) (by omega)]; exact hnm
  refine aw_aload_0 (q := 1) F dM_readPlace_0 rfl ?_
  refine aw_iconst (q := 2) F dM_readPlace_1 rfl (by decide) ?_
  refine aw_iconst (q := 3) F dM_readPlace_2 rfl (by decide) ?_
  refine av_callV2 (q := 6) (ci := 9) F hm mM_lineBegins_i mM_lineBegins_n lM_214 dM_readPlace_3 rfl rfl rfl (by first | exact hM.o | exact hl.o | exact hl.a6 | exact hl.a7 | exact hl.a8 | exact hl.a2 | exact hl.a3 | exact hl.a4 | exact hl.a5) (by decide) (Nat.le_refl _) (Nat.le_refl _) (Nat.le_of_ble_eq_true rfl) (wM_lineBegins hM hl h4p he h h4 (fun a3 b3 V1 f3 g3 => ?_) (fun q => absurd q (by decide)) (fun a3 b3 VO HO HQ => ?_))
  · rw [if_neg (by rw [b3]; decide)] at hK
    unfold pPlace at hK
    refine aw_aload_0 (q := 7) F dM_readPlace_6 rfl ?_
    refine aw_iconst (q := 8) F dM_readPlace_7 rfl (by decide) ?_
    refine av_callV1 (q := 11) (ci := 9) F hm mM_knownOne_i mM_knownOne_n lM_236 dM_readPlace_8 rfl rfl rfl (by first | exact hM.o | exact hl.o | exact hl.a6 | exact hl.a7 | exact hl.a8 | exact hl.a2 | exact hl.a3 | exact hl.a4 | exact hl.a5) (by decide) (Nat.le_refl _) (Nat.le_refl _) (Nat.le_of_ble_eq_true rfl) (wM_knownOne hM hl h4p he g3 (fun i8 a8 b8 d8 u8 => ?_) (fun a8 VO HO HQ => ?_))
    · obtain ⟨hi4, hpo⟩ := kP a8 b8 d8 u8 (fun p => if plS s r.1 p ≠ -2 then .inr (3, (nxT B n t).2.1) else if s ≠ 0 ∧ wnI 0 (nxT B n (nxT B n t)) = 0 then .inl ((uPl s r.1 p 0, r.2), nxT B n (nxT B n (nxT B n t))) else pDr r (nxT B n (nxT B n t)) (fun m => .inl ((uPl s r.1 p (m + 1 : Nat), r.2), nxT B n (nxT B n (nxT B n t)))))
      rw [hpo] at hK
      rw [if_neg hi4]
      have hp2 : i8 - 4 < 2 := by omega
      have ei : (2 * x + ((i8 - 4 : Nat) : Int)).toNat = 2 * s + (i8 - 4) := by omega
      have epl : V1 (e + 4) (2 * s + (i8 - 4)) = plS s r.1 (i8 - 4) := g3.2.1.2.1.2.2.1 s (i8 - 4) hs3 hp2
      refine aw_istore_2 (q := 12) F dM_readPlace_11 rfl trivial ?_
      refine aw_aload_0 (q := 13) F dM_readPlace_12 rfl ?_
      refine av_geti (q := 16) F fM_78 dM_readPlace_13 rfl rfl (by first | exact hM.o | exact hl.o | exact hl.a6 | exact hl.a7 | exact hl.a8 | exact hl.a2 | exact hl.a3 | exact hl.a4 | exact hl.a5) ?_
      refine aw_iconst (q := 17) F dM_readPlace_16 rfl (by decide) ?_
      refine aw_icmp_eq (q := 20) (t := 43) F dM_readPlace_17 rfl (by decide) (fun c17 => by exact absurd c17 g3.1.1.2) (fun c17 => ?_)
      refine aw_aload_0 (q := 21) F dM_readPlace_20 rfl ?_
      refine av_getaE (q := 24) F fM_147 dM_readPlace_21 rfl rfl (by first | exact hM.o | exact hl.o | exact hl.a6 | exact hl.a7 | exact hl.a8 | exact hl.a2 | exact hl.a3 | exact hl.a4 | exact hl.a5) h4p ?_
      refine av_getaE (q := 27) F fM_268 dM_readPlace_24 rfl rfl (by first | exact hM.o | exact hl.o | exact hl.a6 | exact hl.a7 | exact hl.a8 | exact hl.a2 | exact hl.a3 | exact hl.a4 | exact hl.a5) hl.p12 ?_
      refine aw_iconst (q := 28) F dM_readPlace_27 rfl (by decide) ?_
      refine aw_iload_1 (q := 29) F dM_readPlace_28 rfl ?_
      refine aw_imul (q := 30) F dM_readPlace_29 rfl (by constructor <;> omega) ?_
      refine aw_iload_2 (q := 31) F dM_readPlace_30 rfl ?_
      refine aw_iadd (q := 32) F dM_readPlace_31 rfl (by constructor <;> omega) ?_
      refine av_iaload (q := 33) F dM_readPlace_32 rfl (by first | exact hM.o | exact hl.o | exact hl.a6 | exact hl.a7 | exact hl.a8 | exact hl.a2 | exact hl.a3 | exact hl.a4 | exact hl.a5) (by omega) (by omega) ?_
      rw [ei, epl]
      refine aw_bipush (q := 35) F dM_readPlace_33 rfl (by decide) ?_
      refine aw_icmp_eq (q := 38) (t := 43) F dM_readPlace_35 rfl (by decide) (fun c35 => ?_) (fun c35 => ?_)
      · rw [if_neg (fun z => z c35)] at hK
        refine aw_aload_0 (q := 44) F dM_readPlace_43 rfl ?_
        refine av_callV0 (q := 47) (ci := 9) F hm mM_goesOn_i mM_goesOn_n lM_114 dM_readPlace_44 rfl rfl rfl (by first | exact hM.o | exact hl.o | exact hl.a6 | exact hl.a7 | exact hl.a8 | exact hl.a2 | exact hl.a3 | exact hl.a4 | exact hl.a5) (by decide) (Nat.le_refl _) (Nat.le_refl _) (Nat.le_of_ble_eq_true rfl) (g3.go hM he (nm_ne4 b8) (fun V3 f44 g44 => ?_))
        refine aw_iconst (q := 48) F dM_readPlace_47 rfl (by decide) ?_
        refine aw_istore_3 (q := 49) F dM_readPlace_48 rfl trivial ?_
        refine aw_iload_1 (q := 50) F dM_readPlace_49 rfl ?_
        refine aw_if_eq (q := 53) (t := 62) F dM_readPlace_50 rfl (by decide) (fun c50 => ?_) (fun c50 => ?_)
        · first | rw [if_neg (show ¬ (s ≠ 0 ∧ wnI 0 (nxT B n (nxT B n t)) = 0) from fun z => w56 ((g44.1.w0 (k := 0) (by decide)).mpr z.2))] at hK | rw [if_neg (show ¬ (s ≠ 0 ∧ wnI 0 (nxT B n (nxT B n t)) = 0) from fun z => z.1 (by omega))] at hK
          refine aw_aload_0 (q := 63) F dM_readPlace_62 rfl ?_
          refine aw_iconst (q := 64) F dM_readPlace_63 rfl (by decide) ?_
          refine av_callV1 (q := 67) (ci := 9) F hm mM_knownOne_i mM_knownOne_n lM_236 dM_readPlace_64 rfl rfl rfl (by first | exact hM.o | exact hl.o | exact hl.a6 | exact hl.a7 | exact hl.a8 | exact hl.a2 | exact hl.a3 | exact hl.a4 | exact hl.a5) (by decide) (Nat.le_refl _) (Nat.le_refl _) (Nat.le_of_ble_eq_true rfl) (wM_knownOne hM hl h4p he g44 (fun i64 a64 b64 d64 u64 => ?_) (fun a64 VO HO HQ => ?_))
          · obtain ⟨hj4, hpo2⟩ := kD a64 b64 d64 u64 (fun m => .inl ((uPl s r.1 (i8 - 4) (m + 1 : Nat), r.2), nxT B n (nxT B n (nxT B n t))))
            rw [hpo2] at hK
            rw [if_pos hj4]
            refine aw_iconst (q := 68) F dM_readPlace_67 rfl (by decide) ?_
            refine aw_iadd (q := 69) F dM_readPlace_68 rfl (by constructor <;> omega) ?_
            refine aw_istore_3 (q := 70) F dM_readPlace_69 rfl trivial ?_
            refine aw_aload_0 (q := 71) F dM_readPlace_70 rfl ?_
            refine av_callV0 (q := 74) (ci := 9) F hm mM_goesOn_i mM_goesOn_n lM_114 dM_readPlace_71 rfl rfl rfl (by first | exact hM.o | exact hl.o | exact hl.a6 | exact hl.a7 | exact hl.a8 | exact hl.a2 | exact hl.a3 | exact hl.a4 | exact hl.a5) (by decide) (Nat.le_refl _) (Nat.le_refl _) (Nat.le_of_ble_eq_true rfl) (g44.go hM he (by first | exact nm_ne4 b64 | (rw [((g44.1.wv 3).mp w56).1]; decide)) (fun V4 f71 g71 => ?_))
            refine aw_aload_0 (q := 75) F dM_readPlace_74 rfl ?_
            refine av_geti (q := 78) F fM_78 dM_readPlace_75 rfl rfl (by first | exact hM.o | exact hl.o | exact hl.a6 | exact hl.a7 | exact hl.a8 | exact hl.a2 | exact hl.a3 | exact hl.a4 | exact hl.a5) ?_
            refine aw_iconst (q := 79) F dM_readPlace_78 rfl (by decide) ?_
            refine aw_icmp_ne (q := 82) (t := 83) F dM_readPlace_79 rfl (by decide) (fun c79 => ?_) (fun c79 => by exact absurd c79 g71.1.1.2)
            refine aw_aload_0 (q := 84) F dM_readPlace_83 rfl ?_
            refine av_getaE (q := 87) F fM_147 dM_readPlace_84 rfl rfl (by first | exact hM.o | exact hl.o | exact hl.a6 | exact hl.a7 | exact hl.a8 | exact hl.a2 | exact hl.a3 | exact hl.a4 | exact hl.a5) h4p ?_
            refine av_getaE (q := 90) F fM_268 dM_readPlace_87 rfl rfl (by first | exact hM.o | exact hl.o | exact hl.a6 | exact hl.a7 | exact hl.a8 | exact hl.a2 | exact hl.a3 | exact hl.a4 | exact hl.a5) hl.p12 ?_
            refine aw_iconst (q := 91) F dM_readPlace_90 rfl (by decide) ?_
            refine aw_iload_1 (q := 92) F dM_readPlace_91 rfl ?_
            refine aw_imul (q := 93) F dM_readPlace_92 rfl (by constructor <;> omega) ?_
            refine aw_iload_2 (q := 94) F dM_readPlace_93 rfl ?_
            refine aw_iadd (q := 95) F dM_readPlace_94 rfl (by constructor <;> omega) ?_
            refine aw_iload_3 (q := 96) F dM_readPlace_95 rfl ?_
            refine av_iastore (q := 97) F dM_readPlace_96 rfl (by first | exact hM.o | exact hl.o | exact hl.a6 | exact hl.a7 | exact hl.a8 | exact hl.a2 | exact hl.a3 | exact hl.a4 | exact hl.a5) (by omega) (by omega) ?_
            rw [ei]
            refine aw_aload_0 (q := 98) F dM_readPlace_97 rfl ?_
            refine av_getaE (q := 101) F fM_147 dM_readPlace_98 rfl rfl (by first | exact hM.o | exact hl.o | exact hl.a6 | exact hl.a7 | exact hl.a8 | exact hl.a2 | exact hl.a3 | exact hl.a4 | exact hl.a5) h4p ?_
            refine av_getaE (q := 104) F fM_271 dM_readPlace_101 rfl rfl (by first | exact hM.o | exact hl.o | exact hl.a6 | exact hl.a7 | exact hl.a8 | exact hl.a2 | exact hl.a3 | exact hl.a4 | exact hl.a5) hl.p13 ?_
            refine aw_iload_1 (q := 105) F dM_readPlace_104 rfl ?_
            refine aw_dup2 (q := 106) F dM_readPlace_105 rfl trivial trivial ?_
            refine av_iaload (q := 107) F dM_readPlace_106 rfl (by first | exact hM.o | exact hl.o | exact hl.a6 | exact hl.a7 | exact hl.a8 | exact hl.a2 | exact hl.a3 | exact hl.a4 | exact hl.a5) (by omega) (by omega) ?_
            rw [show x.toNat = s by omega, up2_nea _ _ (by omega), show V4 (e + 5) s = (cntB (fun p => plS s r.1 p != -2) 2 : Nat) from g71.2.1.2.1.2.2.2 s hs3]
            refine aw_iconst (q := 108) F dM_readPlace_107 rfl (by decide) ?_
            refine aw_iadd (q := 109) F dM_readPlace_108 rfl (by have := cntB_le (fun p => plS s r.1 p != -2) 2; constructor <;> omega) ?_
            refine av_iastore (q := 110) F dM_readPlace_109 rfl (by first | exact hM.o | exact hl.o | exact hl.a6 | exact hl.a7 | exact hl.a8 | exact hl.a2 | exact hl.a3 | exact hl.a4 | exact hl.a5) (by omega) (by omega) ?_
            refine aw_vret F C dM_readPlace_110 rfl (Nat.le_refl _) (Nat.le_refl _) ?_
            rw [show x.toNat = s by omega, show ((cntB (fun p => plS s r.1 p != -2) 2 : Nat) : Int) + 1 = ((cntB (fun p => plS s r.1 p != -2) 2 + 1 : Nat) : Int) from rfl]
            first
            | (rw [if_pos (show s ≠ 0 ∧ wnI 0 (nxT B n (nxT B n t)) = 0 from ⟨by omega, (g44.1.w0 (k := 0) (by decide)).mp w56⟩)] at hK
               exact fin (i8 - 4) 0 V4 hp2 (by decide) c35 ((f3.qf.tr f44).tr f71) g71 (Or.inr trivial) (fun V' p1 p2 => hK.1 V' _ _ rfl p1 p2))
            | (rw [show ((i64 : Nat) : Int) + 1 = ((i64 + 1 : Nat) : Int) from rfl]
               exact fin (i8 - 4) _ V4 hp2 (by omega) c35 ((f3.qf.tr f44).tr f71) g71 (Or.inr trivial) (fun V' p1 p2 => hK.1 V' _ _ rfl p1 p2))
          · first | (have HK : K none (VO, σ) := hK.2 VO _ _ (kD0 a64 _) ((f3.qf.tr f44).tr HQ).pf HO) | skip
            refine aw_iconst (q := 68) F dM_readPlace_67 rfl (by decide) ?_
            refine aw_iadd (q := 69) F dM_readPlace_68 rfl (by constructor <;> omega) ?_
            refine aw_istore_3 (q := 70) F dM_readPlace_69 rfl trivial ?_
            refine aw_aload_0 (q := 71) F dM_readPlace_70 rfl ?_
            refine av_callV0 (q := 74) (ci := 9) F hm mM_goesOn_i mM_goesOn_n lM_114 dM_readPlace_71 rfl rfl rfl (by first | exact hM.o | exact hl.o | exact hl.a6 | exact hl.a7 | exact hl.a8 | exact hl.a2 | exact hl.a3 | exact hl.a4 | exact hl.a5) (by decide) (Nat.le_refl _) (Nat.le_refl _) (Nat.le_of_ble_eq_true rfl) (wM_goesOnO hM HO.1 ?_)
            refine aw_aload_0 (q := 75) F dM_readPlace_74 rfl ?_
            refine av_geti (q := 78) F fM_78 dM_readPlace_75 rfl rfl (by first | exact hM.o | exact hl.o | exact hl.a6 | exact hl.a7 | exact hl.a8 | exact hl.a2 | exact hl.a3 | exact hl.a4 | exact hl.a5) ?_
            refine aw_iconst (q := 79) F dM_readPlace_78 rfl (by decide) ?_
            refine aw_icmp_ne (q := 82) (t := 83) F dM_readPlace_79 rfl (by decide) (fun c79 => by exact absurd HO.1 c79) (fun c79 => ?_)
            refine aw_vret F C dM_readPlace_82 rfl (Nat.le_refl _) (Nat.le_refl _) ?_
            exact HK
        · refine aw_aload_0 (q := 54) F dM_readPlace_53 rfl ?_
          refine aw_ldcS (q := 56) (j := 3) F dM_readPlace_54 rfl (by decide) rfl rfl ?_
          refine av_callV1 (q := 59) (ci := 9) F hm mM_isWord_i mM_isWord_n lM_119 dM_readPlace_56 rfl rfl rfl (by first | exact hM.o | exact hl.o | exact hl.a6 | exact hl.a7 | exact hl.a8 | exact hl.a2 | exact hl.a3 | exact hl.a4 | exact hl.a5) (by decide) (Nat.le_refl _) (Nat.le_refl _) (Nat.le_of_ble_eq_true rfl) (wM_isWord (j := 3) (by decide) (by decide) hM (fun w56 => ?_) (fun w56 => ?_))
          · refine aw_if_ne (q := 62) (t := 70) F dM_readPlace_59 rfl (by decide) (fun c59 => ?_) (fun c59 => absurd c59 (by decide))
            refine aw_aload_0 (q := 71) F dM_readPlace_70 rfl ?_
            refine av_callV0 (q := 74) (ci := 9) F hm mM_goesOn_i mM_goesOn_n lM_114 dM_readPlace_71 rfl rfl rfl (by first | exact hM.o | exact hl.o | exact hl.a6 | exact hl.a7 | exact hl.a8 | exact hl.a2 | exact hl.a3 | exact hl.a4 | exact hl.a5) (by decide) (Nat.le_refl _) (Nat.le_refl _) (Nat.le_of_ble_eq_true rfl) (g44.go hM he (by first | exact nm_ne4 b64 | (rw [((g44.1.wv 3).mp w56).1]; decide)) (fun V4 f71 g71 => ?_))
            refine aw_aload_0 (q := 75) F dM_readPlace_74 rfl ?_
            refine av_geti (q := 78) F fM_78 dM_readPlace_75 rfl rfl (by first | exact hM.o | exact hl.o | exact hl.a6 | exact hl.a7 | exact hl.a8 | exact hl.a2 | exact hl.a3 | exact hl.a4 | exact hl.a5) ?_
            refine aw_iconst (q := 79) F dM_readPlace_78 rfl (by decide) ?_
            refine aw_icmp_ne (q := 82) (t := 83) F dM_readPlace_79 rfl (by decide) (fun c79 => ?_) (fun c79 => by exact absurd c79 g71.1.1.2)
            refine aw_aload_0 (q := 84) F dM_readPlace_83 rfl ?_
            refine av_getaE (q := 87) F fM_147 dM_readPlace_84 rfl rfl (by first | exact hM.o | exact hl.o | exact hl.a6 | exact hl.a7 | exact hl.a8 | exact hl.a2 | exact hl.a3 | exact hl.a4 | exact hl.a5) h4p ?_
            refine av_getaE (q := 90) F fM_268 dM_readPlace_87 rfl rfl (by first | exact hM.o | exact hl.o | exact hl.a6 | exact hl.a7 | exact hl.a8 | exact hl.a2 | exact hl.a3 | exact hl.a4 | exact hl.a5) hl.p12 ?_
            refine aw_iconst (q := 91) F dM_readPlace_90 rfl (by decide) ?_
            refine aw_iload_1 (q := 92) F dM_readPlace_91 rfl ?_
            refine aw_imul (q := 93) F dM_readPlace_92 rfl (by constructor <;> omega) ?_
            refine aw_iload_2 (q := 94) F dM_readPlace_93 rfl ?_
            refine aw_iadd (q := 95) F dM_readPlace_94 rfl (by constructor <;> omega) ?_
            refine aw_iload_3 (q := 96) F dM_readPlace_95 rfl ?_
            refine av_iastore (q := 97) F dM_readPlace_96 rfl (by first | exact hM.o | exact hl.o | exact hl.a6 | exact hl.a7 | exact hl.a8 | exact hl.a2 | exact hl.a3 | exact hl.a4 | exact hl.a5) (by omega) (by omega) ?_
            rw [ei]
            refine aw_aload_0 (q := 98) F dM_readPlace_97 rfl ?_
            refine av_getaE (q := 101) F fM_147 dM_readPlace_98 rfl rfl (by first | exact hM.o | exact hl.o | exact hl.a6 | exact hl.a7 | exact hl.a8 | exact hl.a2 | exact hl.a3 | exact hl.a4 | exact hl.a5) h4p ?_
            refine av_getaE (q := 104) F fM_271 dM_readPlace_101 rfl rfl (by first | exact hM.o | exact hl.o | exact hl.a6 | exact hl.a7 | exact hl.a8 | exact hl.a2 | exact hl.a3 | exact hl.a4 | exact hl.a5) hl.p13 ?_
            refine aw_iload_1 (q := 105) F dM_readPlace_104 rfl ?_
            refine aw_dup2 (q := 106) F dM_readPlace_105 rfl trivial trivial ?_
            refine av_iaload (q := 107) F dM_readPlace_106 rfl (by first | exact hM.o | exact hl.o | exact hl.a6 | exact hl.a7 | exact hl.a8 | exact hl.a2 | exact hl.a3 | exact hl.a4 | exact hl.a5) (by omega) (by omega) ?_
            rw [show x.toNat = s by omega, up2_nea _ _ (by omega), show V4 (e + 5) s = (cntB (fun p => plS s r.1 p != -2) 2 : Nat) from g71.2.1.2.1.2.2.2 s hs3]
            refine aw_iconst (q := 108) F dM_readPlace_107 rfl (by decide) ?_
            refine aw_iadd (q := 109) F dM_readPlace_108 rfl (by have := cntB_le (fun p => plS s r.1 p != -2) 2; constructor <;> omega) ?_
            refine av_iastore (q := 110) F dM_readPlace_109 rfl (by first | exact hM.o | exact hl.o | exact hl.a6 | exact hl.a7 | exact hl.a8 | exact hl.a2 | exact hl.a3 | exact hl.a4 | exact hl.a5) (by omega) (by omega) ?_
            refine aw_vret F C dM_readPlace_110 rfl (Nat.le_refl _) (Nat.le_refl _) ?_
            rw [show x.toNat = s by omega, show ((cntB (fun p => plS s r.1 p != -2) 2 : Nat) : Int) + 1 = ((cntB (fun p => plS s r.1 p != -2) 2 + 1 : Nat) : Int) from rfl]
            first
            | (rw [if_pos (show s ≠ 0 ∧ wnI 0 (nxT B n (nxT B n t)) = 0 from ⟨by omega, (g44.1.w0 (k := 0) (by decide)).mp w56⟩)] at hK
               exact fin (i8 - 4) 0 V4 hp2 (by decide) c35 ((f3.qf.tr f44).tr f71) g71 (Or.inr trivial) (fun V' p1 p2 => hK.1 V' _ _ rfl p1 p2))
            | (rw [show ((i64 : Nat) : Int) + 1 = ((i64 + 1 : Nat) : Int) from rfl]
               exact fin (i8 - 4) _ V4 hp2 (by omega) c35 ((f3.qf.tr f44).tr f71) g71 (Or.inr trivial) (fun V' p1 p2 => hK.1 V' _ _ rfl p1 p2))
          · refine aw_if_ne (q := 62) (t := 70) F dM_readPlace_59 rfl (by decide) (fun c59 => absurd c59 (by decide)) (fun c59 => ?_)
            first | rw [if_neg (show ¬ (s ≠ 0 ∧ wnI 0 (nxT B n (nxT B n t)) = 0) from fun z => w56 ((g44.1.w0 (k := 0) (by decide)).mpr z.2))] at hK | rw [if_neg (show ¬ (s ≠ 0 ∧ wnI 0 (nxT B n (nxT B n t)) = 0) from fun z => z.1 (by omega))] at hK
            refine aw_aload_0 (q := 63) F dM_readPlace_62 rfl ?_
            refine aw_iconst (q := 64) F dM_readPlace_63 rfl (by decide) ?_
            refine av_callV1 (q := 67) (ci := 9) F hm mM_knownOne_i mM_knownOne_n lM_236 dM_readPlace_64 rfl rfl rfl (by first | exact hM.o | exact hl.o | exact hl.a6 | exact hl.a7 | exact hl.a8 | exact hl.a2 | exact hl.a3 | exact hl.a4 | exact hl.a5) (by decide) (Nat.le_refl _) (Nat.le_refl _) (Nat.le_of_ble_eq_true rfl) (wM_knownOne hM hl h4p he g44 (fun i64 a64 b64 d64 u64 => ?_) (fun a64 VO HO HQ => ?_))
            · obtain ⟨hj4, hpo2⟩ := kD a64 b64 d64 u64 (fun m => .inl ((uPl s r.1 (i8 - 4) (m + 1 : Nat), r.2), nxT B n (nxT B n (nxT B n t))))
              rw [hpo2] at hK
              rw [if_pos hj4]
              refine aw_iconst (q := 68) F dM_readPlace_67 rfl (by decide) ?_
              refine aw_iadd (q := 69) F dM_readPlace_68 rfl (by constructor <;> omega) ?_
              refine aw_istore_3 (q := 70) F dM_readPlace_69 rfl trivial ?_
              refine aw_aload_0 (q := 71) F dM_readPlace_70 rfl ?_
              refine av_callV0 (q := 74) (ci := 9) F hm mM_goesOn_i mM_goesOn_n lM_114 dM_readPlace_71 rfl rfl rfl (by first | exact hM.o | exact hl.o | exact hl.a6 | exact hl.a7 | exact hl.a8 | exact hl.a2 | exact hl.a3 | exact hl.a4 | exact hl.a5) (by decide) (Nat.le_refl _) (Nat.le_refl _) (Nat.le_of_ble_eq_true rfl) (g44.go hM he (by first | exact nm_ne4 b64 | (rw [((g44.1.wv 3).mp w56).1]; decide)) (fun V4 f71 g71 => ?_))
              refine aw_aload_0 (q := 75) F dM_readPlace_74 rfl ?_
              refine av_geti (q := 78) F fM_78 dM_readPlace_75 rfl rfl (by first | exact hM.o | exact hl.o | exact hl.a6 | exact hl.a7 | exact hl.a8 | exact hl.a2 | exact hl.a3 | exact hl.a4 | exact hl.a5) ?_
              refine aw_iconst (q := 79) F dM_readPlace_78 rfl (by decide) ?_
              refine aw_icmp_ne (q := 82) (t := 83) F dM_readPlace_79 rfl (by decide) (fun c79 => ?_) (fun c79 => by exact absurd c79 g71.1.1.2)
              refine aw_aload_0 (q := 84) F dM_readPlace_83 rfl ?_
              refine av_getaE (q := 87) F fM_147 dM_readPlace_84 rfl rfl (by first | exact hM.o | exact hl.o | exact hl.a6 | exact hl.a7 | exact hl.a8 | exact hl.a2 | exact hl.a3 | exact hl.a4 | exact hl.a5) h4p ?_
              refine av_getaE (q := 90) F fM_268 dM_readPlace_87 rfl rfl (by first | exact hM.o | exact hl.o | exact hl.a6 | exact hl.a7 | exact hl.a8 | exact hl.a2 | exact hl.a3 | exact hl.a4 | exact hl.a5) hl.p12 ?_
              refine aw_iconst (q := 91) F dM_readPlace_90 rfl (by decide) ?_
              refine aw_iload_1 (q := 92) F dM_readPlace_91 rfl ?_
              refine aw_imul (q := 93) F dM_readPlace_92 rfl (by constructor <;> omega) ?_
              refine aw_iload_2 (q := 94) F dM_readPlace_93 rfl ?_
              refine aw_iadd (q := 95) F dM_readPlace_94 rfl (by constructor <;> omega) ?_
              refine aw_iload_3 (q := 96) F dM_readPlace_95 rfl ?_
              refine av_iastore (q := 97) F dM_readPlace_96 rfl (by first | exact hM.o | exact hl.o | exact hl.a6 | exact hl.a7 | exact hl.a8 | exact hl.a2 | exact hl.a3 | exact hl.a4 | exact hl.a5) (by omega) (by omega) ?_
              rw [ei]
              refine aw_aload_0 (q := 98) F dM_readPlace_97 rfl ?_
              refine av_getaE (q := 101) F fM_147 dM_readPlace_98 rfl rfl (by first | exact hM.o | exact hl.o | exact hl.a6 | exact hl.a7 | exact hl.a8 | exact hl.a2 | exact hl.a3 | exact hl.a4 | exact hl.a5) h4p ?_
              refine av_getaE (q := 104) F fM_271 dM_readPlace_101 rfl rfl (by first | exact hM.o | exact hl.o | exact hl.a6 | exact hl.a7 | exact hl.a8 | exact hl.a2 | exact hl.a3 | exact hl.a4 | exact hl.a5) hl.p13 ?_
              refine aw_iload_1 (q := 105) F dM_readPlace_104 rfl ?_
              refine aw_dup2 (q := 106) F dM_readPlace_105 rfl trivial trivial ?_
              refine av_iaload (q := 107) F dM_readPlace_106 rfl (by first | exact hM.o | exact hl.o | exact hl.a6 | exact hl.a7 | exact hl.a8 | exact hl.a2 | exact hl.a3 | exact hl.a4 | exact hl.a5) (by omega) (by omega) ?_
              rw [show x.toNat = s by omega, up2_nea _ _ (by omega), show V4 (e + 5) s = (cntB (fun p => plS s r.1 p != -2) 2 : Nat) from g71.2.1.2.1.2.2.2 s hs3]
              refine aw_iconst (q := 108) F dM_readPlace_107 rfl (by decide) ?_
              refine aw_iadd (q := 109) F dM_readPlace_108 rfl (by have := cntB_le (fun p => plS s r.1 p != -2) 2; constructor <;> omega) ?_
              refine av_iastore (q := 110) F dM_readPlace_109 rfl (by first | exact hM.o | exact hl.o | exact hl.a6 | exact hl.a7 | exact hl.a8 | exact hl.a2 | exact hl.a3 | exact hl.a4 | exact hl.a5) (by omega) (by omega) ?_
              refine aw_vret F C dM_readPlace_110 rfl (Nat.le_refl _) (Nat.le_refl _) ?_
              rw [show x.toNat = s by omega, show ((cntB (fun p => plS s r.1 p != -2) 2 : Nat) : Int) + 1 = ((cntB (fun p => plS s r.1 p != -2) 2 + 1 : Nat) : Int) from rfl]
              first
              | (rw [if_pos (show s ≠ 0 ∧ wnI 0 (nxT B n (nxT B n t)) = 0 from ⟨by omega, (g44.1.w0 (k := 0) (by decide)).mp w56⟩)] at hK
                 exact fin (i8 - 4) 0 V4 hp2 (by decide) c35 ((f3.qf.tr f44).tr f71) g71 (Or.inr trivial) (fun V' p1 p2 => hK.1 V' _ _ rfl p1 p2))
              | (rw [show ((i64 : Nat) : Int) + 1 = ((i64 + 1 : Nat) : Int) from rfl]
                 exact fin (i8 - 4) _ V4 hp2 (by omega) c35 ((f3.qf.tr f44).tr f71) g71 (Or.inr trivial) (fun V' p1 p2 => hK.1 V' _ _ rfl p1 p2))
            · first | (have HK : K none (VO, σ) := hK.2 VO _ _ (kD0 a64 _) ((f3.qf.tr f44).tr HQ).pf HO) | skip
              refine aw_iconst (q := 68) F dM_readPlace_67 rfl (by decide) ?_
              refine aw_iadd (q := 69) F dM_readPlace_68 rfl (by constructor <;> omega) ?_
              refine aw_istore_3 (q := 70) F dM_readPlace_69 rfl trivial ?_
              refine aw_aload_0 (q := 71) F dM_readPlace_70 rfl ?_
              refine av_callV0 (q := 74) (ci := 9) F hm mM_goesOn_i mM_goesOn_n lM_114 dM_readPlace_71 rfl rfl rfl (by first | exact hM.o | exact hl.o | exact hl.a6 | exact hl.a7 | exact hl.a8 | exact hl.a2 | exact hl.a3 | exact hl.a4 | exact hl.a5) (by decide) (Nat.le_refl _) (Nat.le_refl _) (Nat.le_of_ble_eq_true rfl) (wM_goesOnO hM HO.1 ?_)
              refine aw_aload_0 (q := 75) F dM_readPlace_74 rfl ?_
              refine av_geti (q := 78) F fM_78 dM_readPlace_75 rfl rfl (by first | exact hM.o | exact hl.o | exact hl.a6 | exact hl.a7 | exact hl.a8 | exact hl.a2 | exact hl.a3 | exact hl.a4 | exact hl.a5) ?_
              refine aw_iconst (q := 79) F dM_readPlace_78 rfl (by decide) ?_
              refine aw_icmp_ne (q := 82) (t := 83) F dM_readPlace_79 rfl (by decide) (fun c79 => by exact absurd HO.1 c79) (fun c79 => ?_)
              refine aw_vret F C dM_readPlace_82 rfl (Nat.le_refl _) (Nat.le_refl _) ?_
              exact HK
      · refine aw_aload_0 (q := 39) F dM_readPlace_38 rfl ?_
        refine aw_iconst (q := 40) F dM_readPlace_39 rfl (by decide) ?_
        refine av_callV1 (q := 43) (ci := 9) F hm mM_flaw_i mM_flaw_n lM_143 dM_readPlace_40 rfl rfl rfl (by first | exact hM.o | exact hl.o | exact hl.a6 | exact hl.a7 | exact hl.a8 | exact hl.a2 | exact hl.a3 | exact hl.a4 | exact hl.a5) (by decide) (Nat.le_refl _) (Nat.le_refl _) (Nat.le_of_ble_eq_true rfl) (g3.ov hM (k := 3) rfl (by decide) (fun VO HO HQ => ?_))
        first | (have HK : K none (VO, σ) := hK.2 VO _ _ (if_pos c35) (f3.qf.tr HQ).pf HO; have H8 := g3.n8 HQ he) | skip
        skip
        refine aw_aload_0 (q := 44) F dM_readPlace_43 rfl ?_
        refine av_callV0 (q := 47) (ci := 9) F hm mM_goesOn_i mM_goesOn_n lM_114 dM_readPlace_44 rfl rfl rfl (by first | exact hM.o | exact hl.o | exact hl.a6 | exact hl.a7 | exact hl.a8 | exact hl.a2 | exact hl.a3 | exact hl.a4 | exact hl.a5) (by decide) (Nat.le_refl _) (Nat.le_refl _) (Nat.le_of_ble_eq_true rfl) (wM_goesOnO hM HO.1 ?_)
        refine aw_iconst (q := 48) F dM_readPlace_47 rfl (by decide) ?_
        refine aw_istore_3 (q := 49) F dM_readPlace_48 rfl trivial ?_
        refine aw_iload_1 (q := 50) F dM_readPlace_49 rfl ?_
        refine aw_if_eq (q := 53) (t := 62) F dM_readPlace_50 rfl (by decide) (fun c50 => ?_) (fun c50 => ?_)
        · skip
          refine aw_aload_0 (q := 63) F dM_readPlace_62 rfl ?_
          refine aw_iconst (q := 64) F dM_readPlace_63 rfl (by decide) ?_
          refine av_callV1 (q := 67) (ci := 9) F hm mM_knownOne_i mM_knownOne_n lM_236 dM_readPlace_64 rfl rfl rfl (by first | exact hM.o | exact hl.o | exact hl.a6 | exact hl.a7 | exact hl.a8 | exact hl.a2 | exact hl.a3 | exact hl.a4 | exact hl.a5) (by decide) (Nat.le_refl _) (Nat.le_refl _) (Nat.le_of_ble_eq_true rfl) (wM_knownOneO hM hl h4p H8 HO.1 ?_)
          first | (have HK : K none (VO, σ) := hK.2 VO _ _ (kD0 a64 _) ((f3.qf.tr f44).tr HQ).pf HO) | skip
          refine aw_iconst (q := 68) F dM_readPlace_67 rfl (by decide) ?_
          refine aw_iadd (q := 69) F dM_readPlace_68 rfl (by constructor <;> omega) ?_
          refine aw_istore_3 (q := 70) F dM_readPlace_69 rfl trivial ?_
          refine aw_aload_0 (q := 71) F dM_readPlace_70 rfl ?_
          refine av_callV0 (q := 74) (ci := 9) F hm mM_goesOn_i mM_goesOn_n lM_114 dM_readPlace_71 rfl rfl rfl (by first | exact hM.o | exact hl.o | exact hl.a6 | exact hl.a7 | exact hl.a8 | exact hl.a2 | exact hl.a3 | exact hl.a4 | exact hl.a5) (by decide) (Nat.le_refl _) (Nat.le_refl _) (Nat.le_of_ble_eq_true rfl) (wM_goesOnO hM HO.1 ?_)
          refine aw_aload_0 (q := 75) F dM_readPlace_74 rfl ?_
          refine av_geti (q := 78) F fM_78 dM_readPlace_75 rfl rfl (by first | exact hM.o | exact hl.o | exact hl.a6 | exact hl.a7 | exact hl.a8 | exact hl.a2 | exact hl.a3 | exact hl.a4 | exact hl.a5) ?_
          refine aw_iconst (q := 79) F dM_readPlace_78 rfl (by decide) ?_
          refine aw_icmp_ne (q := 82) (t := 83) F dM_readPlace_79 rfl (by decide) (fun c79 => by exact absurd HO.1 c79) (fun c79 => ?_)
          refine aw_vret F C dM_readPlace_82 rfl (Nat.le_refl _) (Nat.le_refl _) ?_
          exact HK
        · refine aw_aload_0 (q := 54) F dM_readPlace_53 rfl ?_
          refine aw_ldcS (q := 56) (j := 3) F dM_readPlace_54 rfl (by decide) rfl rfl ?_
          refine av_callV1 (q := 59) (ci := 9) F hm mM_isWord_i mM_isWord_n lM_119 dM_readPlace_56 rfl rfl rfl (by first | exact hM.o | exact hl.o | exact hl.a6 | exact hl.a7 | exact hl.a8 | exact hl.a2 | exact hl.a3 | exact hl.a4 | exact hl.a5) (by decide) (Nat.le_refl _) (Nat.le_refl _) (Nat.le_of_ble_eq_true rfl) (wM_isWordO (j := 3) (by decide) (by decide) hM HO.1 ?_)
          refine aw_if_ne (q := 62) (t := 70) F dM_readPlace_59 rfl (by decide) (fun c59 => absurd c59 (by decide)) (fun c59 => ?_)
          skip
          refine aw_aload_0 (q := 63) F dM_readPlace_62 rfl ?_
          refine aw_iconst (q := 64) F dM_readPlace_63 rfl (by decide) ?_
          refine av_callV1 (q := 67) (ci := 9) F hm mM_knownOne_i mM_knownOne_n lM_236 dM_readPlace_64 rfl rfl rfl (by first | exact hM.o | exact hl.o | exact hl.a6 | exact hl.a7 | exact hl.a8 | exact hl.a2 | exact hl.a3 | exact hl.a4 | exact hl.a5) (by decide) (Nat.le_refl _) (Nat.le_refl _) (Nat.le_of_ble_eq_true rfl) (wM_knownOneO hM hl h4p H8 HO.1 ?_)
          first | (have HK : K none (VO, σ) := hK.2 VO _ _ (kD0 a64 _) ((f3.qf.tr f44).tr HQ).pf HO) | skip
          refine aw_iconst (q := 68) F dM_readPlace_67 rfl (by decide) ?_
          refine aw_iadd (q := 69) F dM_readPlace_68 rfl (by constructor <;> omega) ?_
          refine aw_istore_3 (q := 70) F dM_readPlace_69 rfl trivial ?_
          refine aw_aload_0 (q := 71) F dM_readPlace_70 rfl ?_
          refine av_callV0 (q := 74) (ci := 9) F hm mM_goesOn_i mM_goesOn_n lM_114 dM_readPlace_71 rfl rfl rfl (by first | exact hM.o | exact hl.o | exact hl.a6 | exact hl.a7 | exact hl.a8 | exact hl.a2 | exact hl.a3 | exact hl.a4 | exact hl.a5) (by decide) (Nat.le_refl _) (Nat.le_refl _) (Nat.le_of_ble_eq_true rfl) (wM_goesOnO hM HO.1 ?_)
          refine aw_aload_0 (q := 75) F dM_readPlace_74 rfl ?_
          refine av_geti (q := 78) F fM_78 dM_readPlace_75 rfl rfl (by first | exact hM.o | exact hl.o | exact hl.a6 | exact hl.a7 | exact hl.a8 | exact hl.a2 | exact hl.a3 | exact hl.a4 | exact hl.a5) ?_
          refine aw_iconst (q := 79) F dM_readPlace_78 rfl (by decide) ?_
          refine aw_icmp_ne (q := 82) (t := 83) F dM_readPlace_79 rfl (by decide) (fun c79 => by exact absurd HO.1 c79) (fun c79 => ?_)
          refine aw_vret F C dM_readPlace_82 rfl (Nat.le_refl _) (Nat.le_refl _) ?_
          exact HK
    · first | (have HK : K none (VO, σ) := hK.2 VO _ _ (kP0 a8 _) (f3.qf.tr HQ).pf HO; have H8 := g3.n8 HQ he) | skip
      refine aw_istore_2 (q := 12) F dM_readPlace_11 rfl trivial ?_
      refine aw_aload_0 (q := 13) F dM_readPlace_12 rfl ?_
      refine av_geti (q := 16) F fM_78 dM_readPlace_13 rfl rfl (by first | exact hM.o | exact hl.o | exact hl.a6 | exact hl.a7 | exact hl.a8 | exact hl.a2 | exact hl.a3 | exact hl.a4 | exact hl.a5) ?_
      refine aw_iconst (q := 17) F dM_readPlace_16 rfl (by decide) ?_
      refine aw_icmp_eq (q := 20) (t := 43) F dM_readPlace_17 rfl (by decide) (fun c17 => ?_) (fun c17 => by exact absurd HO.1 c17)
      skip
      refine aw_aload_0 (q := 44) F dM_readPlace_43 rfl ?_
      refine av_callV0 (q := 47) (ci := 9) F hm mM_goesOn_i mM_goesOn_n lM_114 dM_readPlace_44 rfl rfl rfl (by first | exact hM.o | exact hl.o | exact hl.a6 | exact hl.a7 | exact hl.a8 | exact hl.a2 | exact hl.a3 | exact hl.a4 | exact hl.a5) (by decide) (Nat.le_refl _) (Nat.le_refl _) (Nat.le_of_ble_eq_true rfl) (wM_goesOnO hM HO.1 ?_)
      refine aw_iconst (q := 48) F dM_readPlace_47 rfl (by decide) ?_
      refine aw_istore_3 (q := 49) F dM_readPlace_48 rfl trivial ?_
      refine aw_iload_1 (q := 50) F dM_readPlace_49 rfl ?_
      refine aw_if_eq (q := 53) (t := 62) F dM_readPlace_50 rfl (by decide) (fun c50 => ?_) (fun c50 => ?_)
      · skip
        refine aw_aload_0 (q := 63) F dM_readPlace_62 rfl ?_
        refine aw_iconst (q := 64) F dM_readPlace_63 rfl (by decide) ?_
        refine av_callV1 (q := 67) (ci := 9) F hm mM_knownOne_i mM_knownOne_n lM_236 dM_readPlace_64 rfl rfl rfl (by first | exact hM.o | exact hl.o | exact hl.a6 | exact hl.a7 | exact hl.a8 | exact hl.a2 | exact hl.a3 | exact hl.a4 | exact hl.a5) (by decide) (Nat.le_refl _) (Nat.le_refl _) (Nat.le_of_ble_eq_true rfl) (wM_knownOneO hM hl h4p H8 HO.1 ?_)
        first | (have HK : K none (VO, σ) := hK.2 VO _ _ (kD0 a64 _) ((f3.qf.tr f44).tr HQ).pf HO) | skip
        refine aw_iconst (q := 68) F dM_readPlace_67 rfl (by decide) ?_
        refine aw_iadd (q := 69) F dM_readPlace_68 rfl (by constructor <;> omega) ?_
        refine aw_istore_3 (q := 70) F dM_readPlace_69 rfl trivial ?_
        refine aw_aload_0 (q := 71) F dM_readPlace_70 rfl ?_
        refine av_callV0 (q := 74) (ci := 9) F hm mM_goesOn_i mM_goesOn_n lM_114 dM_readPlace_71 rfl rfl rfl (by first | exact hM.o | exact hl.o | exact hl.a6 | exact hl.a7 | exact hl.a8 | exact hl.a2 | exact hl.a3 | exact hl.a4 | exact hl.a5) (by decide) (Nat.le_refl _) (Nat.le_refl _) (Nat.le_of_ble_eq_true rfl) (wM_goesOnO hM HO.1 ?_)
        refine aw_aload_0 (q := 75) F dM_readPlace_74 rfl ?_
        refine av_geti (q := 78) F fM_78 dM_readPlace_75 rfl rfl (by first | exact hM.o | exact hl.o | exact hl.a6 | exact hl.a7 | exact hl.a8 | exact hl.a2 | exact hl.a3 | exact hl.a4 | exact hl.a5) ?_
        refine aw_iconst (q := 79) F dM_readPlace_78 rfl (by decide) ?_
        refine aw_icmp_ne (q := 82) (t := 83) F dM_readPlace_79 rfl (by decide) (fun c79 => by exact absurd HO.1 c79) (fun c79 => ?_)
        refine aw_vret F C dM_readPlace_82 rfl (Nat.le_refl _) (Nat.le_refl _) ?_
        exact HK
      · refine aw_aload_0 (q := 54) F dM_readPlace_53 rfl ?_
        refine aw_ldcS (q := 56) (j := 3) F dM_readPlace_54 rfl (by decide) rfl rfl ?_
        refine av_callV1 (q := 59) (ci := 9) F hm mM_isWord_i mM_isWord_n lM_119 dM_readPlace_56 rfl rfl rfl (by first | exact hM.o | exact hl.o | exact hl.a6 | exact hl.a7 | exact hl.a8 | exact hl.a2 | exact hl.a3 | exact hl.a4 | exact hl.a5) (by decide) (Nat.le_refl _) (Nat.le_refl _) (Nat.le_of_ble_eq_true rfl) (wM_isWordO (j := 3) (by decide) (by decide) hM HO.1 ?_)
        refine aw_if_ne (q := 62) (t := 70) F dM_readPlace_59 rfl (by decide) (fun c59 => absurd c59 (by decide)) (fun c59 => ?_)
        skip
        refine aw_aload_0 (q := 63) F dM_readPlace_62 rfl ?_
        refine aw_iconst (q := 64) F dM_readPlace_63 rfl (by decide) ?_
        refine av_callV1 (q := 67) (ci := 9) F hm mM_knownOne_i mM_knownOne_n lM_236 dM_readPlace_64 rfl rfl rfl (by first | exact hM.o | exact hl.o | exact hl.a6 | exact hl.a7 | exact hl.a8 | exact hl.a2 | exact hl.a3 | exact hl.a4 | exact hl.a5) (by decide) (Nat.le_refl _) (Nat.le_refl _) (Nat.le_of_ble_eq_true rfl) (wM_knownOneO hM hl h4p H8 HO.1 ?_)
        first | (have HK : K none (VO, σ) := hK.2 VO _ _ (kD0 a64 _) ((f3.qf.tr f44).tr HQ).pf HO) | skip
        refine aw_iconst (q := 68) F dM_readPlace_67 rfl (by decide) ?_
        refine aw_iadd (q := 69) F dM_readPlace_68 rfl (by constructor <;> omega) ?_
        refine aw_istore_3 (q := 70) F dM_readPlace_69 rfl trivial ?_
        refine aw_aload_0 (q := 71) F dM_readPlace_70 rfl ?_
        refine av_callV0 (q := 74) (ci := 9) F hm mM_goesOn_i mM_goesOn_n lM_114 dM_readPlace_71 rfl rfl rfl (by first | exact hM.o | exact hl.o | exact hl.a6 | exact hl.a7 | exact hl.a8 | exact hl.a2 | exact hl.a3 | exact hl.a4 | exact hl.a5) (by decide) (Nat.le_refl _) (Nat.le_refl _) (Nat.le_of_ble_eq_true rfl) (wM_goesOnO hM HO.1 ?_)
        refine aw_aload_0 (q := 75) F dM_readPlace_74 rfl ?_
        refine av_geti (q := 78) F fM_78 dM_readPlace_75 rfl rfl (by first | exact hM.o | exact hl.o | exact hl.a6 | exact hl.a7 | exact hl.a8 | exact hl.a2 | exact hl.a3 | exact hl.a4 | exact hl.a5) ?_
        refine aw_iconst (q := 79) F dM_readPlace_78 rfl (by decide) ?_
        refine aw_icmp_ne (q := 82) (t := 83) F dM_readPlace_79 rfl (by decide) (fun c79 => by exact absurd HO.1 c79) (fun c79 => ?_)
        refine aw_vret F C dM_readPlace_82 rfl (Nat.le_refl _) (Nat.le_refl _) ?_
        exact HK
  · have HK : K none (VO, σ) := hK.2 VO _ _ (if_pos b3) HQ.pf HO
    have H8 := h.n8 HQ he
    refine aw_aload_0 (q := 7) F dM_readPlace_6 rfl ?_
    refine aw_iconst (q := 8) F dM_readPlace_7 rfl (by decide) ?_
    refine av_callV1 (q := 11) (ci := 9) F hm mM_knownOne_i mM_knownOne_n lM_236 dM_readPlace_8 rfl rfl rfl (by first | exact hM.o | exact hl.o | exact hl.a6 | exact hl.a7 | exact hl.a8 | exact hl.a2 | exact hl.a3 | exact hl.a4 | exact hl.a5) (by decide) (Nat.le_refl _) (Nat.le_refl _) (Nat.le_of_ble_eq_true rfl) (wM_knownOneO hM hl h4p H8 HO.1 ?_)
    first | (have HK : K none (VO, σ) := hK.2 VO _ _ (kP0 a8 _) (f3.qf.tr HQ).pf HO; have H8 := g3.n8 HQ he) | skip
    refine aw_istore_2 (q := 12) F dM_readPlace_11 rfl trivial ?_
    refine aw_aload_0 (q := 13) F dM_readPlace_12 rfl ?_
    refine av_geti (q := 16) F fM_78 dM_readPlace_13 rfl rfl (by first | exact hM.o | exact hl.o | exact hl.a6 | exact hl.a7 | exact hl.a8 | exact hl.a2 | exact hl.a3 | exact hl.a4 | exact hl.a5) ?_
    refine aw_iconst (q := 17) F dM_readPlace_16 rfl (by decide) ?_
    refine aw_icmp_eq (q := 20) (t := 43) F dM_readPlace_17 rfl (by decide) (fun c17 => ?_) (fun c17 => by exact absurd HO.1 c17)
    skip
    refine aw_aload_0 (q := 44) F dM_readPlace_43 rfl ?_
    refine av_callV0 (q := 47) (ci := 9) F hm mM_goesOn_i mM_goesOn_n lM_114 dM_readPlace_44 rfl rfl rfl (by first | exact hM.o | exact hl.o | exact hl.a6 | exact hl.a7 | exact hl.a8 | exact hl.a2 | exact hl.a3 | exact hl.a4 | exact hl.a5) (by decide) (Nat.le_refl _) (Nat.le_refl _) (Nat.le_of_ble_eq_true rfl) (wM_goesOnO hM HO.1 ?_)
    refine aw_iconst (q := 48) F dM_readPlace_47 rfl (by decide) ?_
    refine aw_istore_3 (q := 49) F dM_readPlace_48 rfl trivial ?_
    refine aw_iload_1 (q := 50) F dM_readPlace_49 rfl ?_
    refine aw_if_eq (q := 53) (t := 62) F dM_readPlace_50 rfl (by decide) (fun c50 => ?_) (fun c50 => ?_)
    · skip
      refine aw_aload_0 (q := 63) F dM_readPlace_62 rfl ?_
      refine aw_iconst (q := 64) F dM_readPlace_63 rfl (by decide) ?_
      refine av_callV1 (q := 67) (ci := 9) F hm mM_knownOne_i mM_knownOne_n lM_236 dM_readPlace_64 rfl rfl rfl (by first | exact hM.o | exact hl.o | exact hl.a6 | exact hl.a7 | exact hl.a8 | exact hl.a2 | exact hl.a3 | exact hl.a4 | exact hl.a5) (by decide) (Nat.le_refl _) (Nat.le_refl _) (Nat.le_of_ble_eq_true rfl) (wM_knownOneO hM hl h4p H8 HO.1 ?_)
      first | (have HK : K none (VO, σ) := hK.2 VO _ _ (kD0 a64 _) ((f3.qf.tr f44).tr HQ).pf HO) | skip
      refine aw_iconst (q := 68) F dM_readPlace_67 rfl (by decide) ?_
      refine aw_iadd (q := 69) F dM_readPlace_68 rfl (by constructor <;> omega) ?_
      refine aw_istore_3 (q := 70) F dM_readPlace_69 rfl trivial ?_
      refine aw_aload_0 (q := 71) F dM_readPlace_70 rfl ?_
      refine av_callV0 (q := 74) (ci := 9) F hm mM_goesOn_i mM_goesOn_n lM_114 dM_readPlace_71 rfl rfl rfl (by first | exact hM.o | exact hl.o | exact hl.a6 | exact hl.a7 | exact hl.a8 | exact hl.a2 | exact hl.a3 | exact hl.a4 | exact hl.a5) (by decide) (Nat.le_refl _) (Nat.le_refl _) (Nat.le_of_ble_eq_true rfl) (wM_goesOnO hM HO.1 ?_)
      refine aw_aload_0 (q := 75) F dM_readPlace_74 rfl ?_
      refine av_geti (q := 78) F fM_78 dM_readPlace_75 rfl rfl (by first | exact hM.o | exact hl.o | exact hl.a6 | exact hl.a7 | exact hl.a8 | exact hl.a2 | exact hl.a3 | exact hl.a4 | exact hl.a5) ?_
      refine aw_iconst (q := 79) F dM_readPlace_78 rfl (by decide) ?_
      refine aw_icmp_ne (q := 82) (t := 83) F dM_readPlace_79 rfl (by decide) (fun c79 => by exact absurd HO.1 c79) (fun c79 => ?_)
      refine aw_vret F C dM_readPlace_82 rfl (Nat.le_refl _) (Nat.le_refl _) ?_
      exact HK
    · refine aw_aload_0 (q := 54) F dM_readPlace_53 rfl ?_
      refine aw_ldcS (q := 56) (j := 3) F dM_readPlace_54 rfl (by decide) rfl rfl ?_
      refine av_callV1 (q := 59) (ci := 9) F hm mM_isWord_i mM_isWord_n lM_119 dM_readPlace_56 rfl rfl rfl (by first | exact hM.o | exact hl.o | exact hl.a6 | exact hl.a7 | exact hl.a8 | exact hl.a2 | exact hl.a3 | exact hl.a4 | exact hl.a5) (by decide) (Nat.le_refl _) (Nat.le_refl _) (Nat.le_of_ble_eq_true rfl) (wM_isWordO (j := 3) (by decide) (by decide) hM HO.1 ?_)
      refine aw_if_ne (q := 62) (t := 70) F dM_readPlace_59 rfl (by decide) (fun c59 => absurd c59 (by decide)) (fun c59 => ?_)
      skip
      refine aw_aload_0 (q := 63) F dM_readPlace_62 rfl ?_
      refine aw_iconst (q := 64) F dM_readPlace_63 rfl (by decide) ?_
      refine av_callV1 (q := 67) (ci := 9) F hm mM_knownOne_i mM_knownOne_n lM_236 dM_readPlace_64 rfl rfl rfl (by first | exact hM.o | exact hl.o | exact hl.a6 | exact hl.a7 | exact hl.a8 | exact hl.a2 | exact hl.a3 | exact hl.a4 | exact hl.a5) (by decide) (Nat.le_refl _) (Nat.le_refl _) (Nat.le_of_ble_eq_true rfl) (wM_knownOneO hM hl h4p H8 HO.1 ?_)
      first | (have HK : K none (VO, σ) := hK.2 VO _ _ (kD0 a64 _) ((f3.qf.tr f44).tr HQ).pf HO) | skip
      refine aw_iconst (q := 68) F dM_readPlace_67 rfl (by decide) ?_
      refine aw_iadd (q := 69) F dM_readPlace_68 rfl (by constructor <;> omega) ?_
      refine aw_istore_3 (q := 70) F dM_readPlace_69 rfl trivial ?_
      refine aw_aload_0 (q := 71) F dM_readPlace_70 rfl ?_
      refine av_callV0 (q := 74) (ci := 9) F hm mM_goesOn_i mM_goesOn_n lM_114 dM_readPlace_71 rfl rfl rfl (by first | exact hM.o | exact hl.o | exact hl.a6 | exact hl.a7 | exact hl.a8 | exact hl.a2 | exact hl.a3 | exact hl.a4 | exact hl.a5) (by decide) (Nat.le_refl _) (Nat.le_refl _) (Nat.le_of_ble_eq_true rfl) (wM_goesOnO hM HO.1 ?_)
      refine aw_aload_0 (q := 75) F dM_readPlace_74 rfl ?_
      refine av_geti (q := 78) F fM_78 dM_readPlace_75 rfl rfl (by first | exact hM.o | exact hl.o | exact hl.a6 | exact hl.a7 | exact hl.a8 | exact hl.a2 | exact hl.a3 | exact hl.a4 | exact hl.a5) ?_
      refine aw_iconst (q := 79) F dM_readPlace_78 rfl (by decide) ?_
      refine aw_icmp_ne (q := 82) (t := 83) F dM_readPlace_79 rfl (by decide) (fun c79 => by exact absurd HO.1 c79) (fun c79 => ?_)
      refine aw_vret F C dM_readPlace_82 rfl (Nat.le_refl _) (Nat.le_refl _) ?_
      exact HK
end Mod46
