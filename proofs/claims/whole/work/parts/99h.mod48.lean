section Mod48
variable {G : GE} {V V' V1 V2 : Nat → Nat → Int} {σ : Shp} {K : Option AV → Mem → Prop} {l n e N : Nat} {B : Nat → Int} {r r' : PR} {t : TK}
theorem wM_readDoor (hM : moS σ l) (hl : laS σ e) (h4p : sP σ 53 4 = e) (he : 64 ≤ e) (h : GS V e n B r t) (h4 : t.1 ≠ 4) (hK : MrK K V σ e n B (if r.2.1 = false then .inr (6, t.2.1) else pDoor B n r t)) : Wp G 8 mM_readDoor [vR 53] (V, σ) 0 0 K := by
  have e1 : V e 1 = tDn r.1 := h.2.1.1.2.1
  have hp2 : tPn r.1 ≤ 2 := h.2.2.2.1.1.2.2.1
  have hd4 : tDn r.1 ≤ 4 := h.2.2.2.1.1.2.1
  have hz4 : tDn r.1 < 4 → r.2.2.2 (tDn r.1) = 0 := fun q => by
    have := h.2.2.2.1.2.2.1 (tDn r.1) q
    omega
  refine wp_intro mM_readDoor_i.1 [some (vR 53), none, none, none] rfl rfl (Nat.le_of_ble_eq_true rfl) ?_
  intro X hG F C
  have hm := C.rm
  have fin : ∀ (kk : Nat) (V2 : Nat → Nat → Int), kk < 4 → tDn r.1 < 4 → 0 < (nxT B n t).2.2.2 → QF V V2 → GS V2 e n B r (nxT B n (nxT B n (nxT B n t))) → (∀ V', PF V V' e → (MT V' (nxT B n (nxT B n (nxT B n t))) ∧ LR V' e (uDo r.1 kk, r.2.1, r.2.2.1, uNm r.2.2.2 (tDn r.1) (nxT B n t).2.2.2) ∧ MTX V' n B ∧ okTk n (nxT B n (nxT B n (nxT B n t))) ∧ V' 53 12 = 0) → K none (V', σ)) → AW X 94 [some (vR 53), some (vL ((nxT B n t).2.2.2 : Nat)), none, some (vI kk)] [] (V2, σ) 0 0 := by
    intro kk V2 hkk htd hwp hQ hG hk
    have f1 : V2 e 1 = tDn r.1 := hG.2.1.1.2.1
    have fN : V2 e 8 = (tDn r.1 + tPn r.1 : Nat) := hG.2.1.1.2.2.2.2.2.2.2.2.1
    refine aw_aload_0 (q := 95) F dM_readDoor_94 rfl ?_
    refine aw_lload_1 (q := 96) F dM_readDoor_95 rfl ?_
    refine aw_iconst (q := 97) F dM_readDoor_96 rfl (by decide) ?_
    refine aw_aload_0 (q := 98) F dM_readDoor_97 rfl ?_
    refine av_getaE (q := 101) F fM_147 dM_readDoor_98 rfl rfl (by first | exact hM.o | exact hl.o | exact hl.a6 | exact hl.a7 | exact hl.a8 | exact hl.a1) h4p ?_
    refine av_geti (q := 104) F fM_183 dM_readDoor_101 rfl rfl (by first | exact hM.o | exact hl.o | exact hl.a6 | exact hl.a7 | exact hl.a8 | exact hl.a1) ?_
    rw [f1]
    refine av_callV3 (q := 107) (ci := 9) F hm mM_names_i mM_names_n lM_230 dM_readDoor_104 rfl rfl rfl (by first | exact hM.o | exact hl.o | exact hl.a6 | exact hl.a7 | exact hl.a8 | exact hl.a1) (by decide) (Nat.le_refl _) (Nat.le_refl _) (Nat.le_of_ble_eq_true rfl) (wM_names (N := tDn r.1 + tPn r.1) hM hl h4p fN (by omega) ?_)
    refine aw_aload_0 (q := 108) F dM_readDoor_107 rfl ?_
    refine av_getaE (q := 111) F fM_147 dM_readDoor_108 rfl rfl (by first | exact hM.o | exact hl.o | exact hl.a6 | exact hl.a7 | exact hl.a8 | exact hl.a1) h4p ?_
    refine av_getaE (q := 114) F fM_233 dM_readDoor_111 rfl rfl (by first | exact hM.o | exact hl.o | exact hl.a6 | exact hl.a7 | exact hl.a8 | exact hl.a1) hl.p9 ?_
    refine aw_aload_0 (q := 115) F dM_readDoor_114 rfl ?_
    refine av_getaE (q := 118) F fM_147 dM_readDoor_115 rfl rfl (by first | exact hM.o | exact hl.o | exact hl.a6 | exact hl.a7 | exact hl.a8 | exact hl.a1) h4p ?_
    refine av_geti (q := 121) F fM_183 dM_readDoor_118 rfl rfl (by first | exact hM.o | exact hl.o | exact hl.a6 | exact hl.a7 | exact hl.a8 | exact hl.a1) ?_
    rw [up2_nek _ _ (by decide), up2_nea _ _ (by omega), up2_nea _ _ (by omega), up2_nea _ _ (by omega), f1]
    refine aw_iload_3 (q := 122) F dM_readDoor_121 rfl ?_
    refine av_iastore (q := 123) F dM_readDoor_122 rfl (by first | exact hM.o | exact hl.o | exact hl.a6 | exact hl.a7 | exact hl.a8 | exact hl.a1) (by omega) (by omega) ?_
    refine aw_aload_0 (q := 124) F dM_readDoor_123 rfl ?_
    refine av_getaE (q := 127) F fM_147 dM_readDoor_124 rfl rfl (by first | exact hM.o | exact hl.o | exact hl.a6 | exact hl.a7 | exact hl.a8 | exact hl.a1) h4p ?_
    refine aw_dup (q := 128) F dM_readDoor_127 rfl trivial ?_
    refine av_geti (q := 131) F fM_183 dM_readDoor_128 rfl rfl (by first | exact hM.o | exact hl.o | exact hl.a6 | exact hl.a7 | exact hl.a8 | exact hl.a1) ?_
    rw [up2_nea _ _ (by omega), up2_nek _ _ (by decide), up2_nea _ _ (by omega), up2_nea _ _ (by omega), up2_nea _ _ (by omega), f1]
    refine aw_iconst (q := 132) F dM_readDoor_131 rfl (by decide) ?_
    refine aw_iadd (q := 133) F dM_readDoor_132 rfl (by constructor <;> omega) ?_
    refine av_puti (q := 136) F fM_183 dM_readDoor_133 rfl rfl (wr_8_1 _) (by first | exact hM.o | exact hl.o | exact hl.a6 | exact hl.a7 | exact hl.a8 | exact hl.a1) ?_
    refine aw_vret F C dM_readDoor_136 rfl (Nat.le_refl _) (Nat.le_refl _) ?_
    obtain ⟨⟨x0, x1, x2, x3, x4, x5, x6, x7, x8, x14⟩, ⟨y1, y2, y3, y4⟩, hnm⟩ := hG.2.1
    rw [Int.toNat_natCast]
    generalize hN : tDn r.1 + tPn r.1 = N
    generalize hV : up2 (up2 (up2 (up2 V2 (e + 6) N ((nxT B n t).2.2.2 : Int)) (e + 7) N 0) (e + 8) N (tDn r.1 : Int)) e 8 ((N : Int) + 1) = V5
    have ek : ∀ j, j ≠ 8 → V5 e j = V2 e j := fun j hj => by rw [← hV, up2_nek _ _ hj, up2_nea _ _ (by omega), up2_nea _ _ (by omega), up2_nea _ _ (by omega)]
    have ec : ∀ b, b ≠ e → b ≠ e + 1 → b ≠ e + 6 → b ≠ e + 7 → b ≠ e + 8 → up2 (up2 V5 (e + 1) (tDn r.1) (kk : Int)) e 1 ((tDn r.1 : Int) + 1) b = V2 b := fun b h1 h5 h2 h3 h4 => by rw [up2_nea _ _ h1, up2_nea _ _ h5, ← hV, up2_nea _ _ h1, up2_nea _ _ h4, up2_nea _ _ h3, up2_nea _ _ h2]
    refine hk _ ?_ (hG.w (ec _ (by omega) (by omega) (by omega) (by omega) (by omega)) (ec _ (by omega) (by omega) (by omega) (by omega) (by omega)) ⟨?_, ?_, ?_⟩)
    · rw [← hV]; exact ((((((hQ.pf.la (by omega) ⟨by omega, by omega⟩).la (by omega) ⟨by omega, by omega⟩).la (by omega) ⟨by omega, by omega⟩).la (by omega) ⟨by omega, by omega⟩).la (by omega) ⟨by omega, by omega⟩).la (by omega) ⟨by omega, by omega⟩)
    · have ek2 : ∀ j, j ≠ 1 → j ≠ 8 → up2 (up2 V5 (e + 1) (tDn r.1) (kk : Int)) e 1 ((tDn r.1 : Int) + 1) e j = V2 e j := fun j h1 h2 => by rw [up2_nek _ _ h1, up2_nea _ _ (by omega)]; exact ek j h2
      exact ⟨(ek2 0 (by decide) (by decide)).trans x0, up2_same _ _ _ _, (ek2 2 (by decide) (by decide)).trans x2, (ek2 3 (by decide) (by decide)).trans x3, (ek2 4 (by decide) (by decide)).trans x4, (ek2 5 (by decide) (by decide)).trans x5, (ek2 6 (by decide) (by decide)).trans x6, (ek2 7 (by decide) (by decide)).trans x7, by rw [up2_nek _ _ (by decide), up2_nea _ _ (by omega), ← hV, up2_same]; show (N : Int) + 1 = ((tDn r.1 + 1 + tPn r.1 : Nat) : Int); omega, (ek2 14 (by decide) (by decide)).trans x14⟩
    · refine ⟨fun d hd => ⟨?_, ?_⟩, ?_, ?_, ?_⟩
      · rw [up2_nea _ _ (by omega)]
        show _ = ((uF (tKd r.1) (tDn r.1) kk d : Nat) : Int)
        by_cases q : d = tDn r.1
        · rw [q, up2_same, uF_at]
        · rw [up2_nek _ _ q, uF_ne q, ← hV, up2_nea _ _ (by omega), up2_nea _ _ (by omega), up2_nea _ _ (by omega), up2_nea _ _ (by omega)]; exact (y1 d hd).1
      · rw [ec _ (by omega) (by omega) (by omega) (by omega) (by omega)]; exact (y1 d hd).2
      · rw [ec _ (by omega) (by omega) (by omega) (by omega) (by omega)]; exact y2
      · rw [ec _ (by omega) (by omega) (by omega) (by omega) (by omega)]; exact y3
      · rw [ec _ (by omega) (by omega) (by omega) (by omega) (by omega)]; exact y4
    · refine hnm.add (N := N) (i := tDn r.1) (w := (nxT B n t).2.2.2) hN.symm (by omega) (hz4 htd) hwp rfl (show tDn r.1 + 1 + tPn r.1 = N + 1 by omega) (fun k => ?_) (fun k => ?_) (fun k => ?_)
      · rw [up2_nea _ _ (by omega), up2_nea _ _ (by omega), ← hV, up2_nea _ _ (by omega), up2_nea _ _ (by omega), up2_nea _ _ (by omega), up2_at]
      · rw [up2_nea _ _ (by omega), up2_nea _ _ (by omega), ← hV, up2_nea _ _ (by omega), up2_nea _ _ (by omega), up2_at, up2_nea _ _ (by omega), if_pos htd]
      · rw [up2_nea _ _ (by omega), up2_nea _ _ (by omega), ← hV, up2_nea _ _ (by omega), up2_at, up2_nea _ _ (by omega), up2_nea _ _ (by omega), if_pos htd]
  refine aw_aload_0 (q := 1) F dM_readDoor_0 rfl ?_
  refine aw_aload_0 (q := 2) F dM_readDoor_1 rfl ?_
  refine av_getaE (q := 5) F fM_147 dM_readDoor_2 rfl rfl (by first | exact hM.o | exact hl.o | exact hl.a6 | exact hl.a7 | exact hl.a8 | exact hl.a1) h4p ?_
  refine av_geti (q := 8) F fM_183 dM_readDoor_5 rfl rfl (by first | exact hM.o | exact hl.o | exact hl.a6 | exact hl.a7 | exact hl.a8 | exact hl.a1) ?_
  rw [e1]
  refine aw_iconst (q := 9) F dM_readDoor_8 rfl (by decide) ?_
  refine av_callV2 (q := 12) (ci := 9) F hm mM_lineBegins_i mM_lineBegins_n lM_214 dM_readDoor_9 rfl rfl rfl (by first | exact hM.o | exact hl.o | exact hl.a6 | exact hl.a7 | exact hl.a8 | exact hl.a1) (by decide) (Nat.le_refl _) (Nat.le_refl _) (Nat.le_of_ble_eq_true rfl) (wM_lineBegins hM hl h4p he h h4 (fun a9 b9 V1 f9 g9 => ?_) (fun a9 VO HO HQ => ?_) (fun a9 b9 VO HO HQ => ?_))
  · rw [if_neg (by rw [b9]; decide)] at hK
    unfold pDoor at hK
    rw [if_neg (by omega)] at hK
    refine aw_aload_0 (q := 13) F dM_readDoor_12 rfl ?_
    refine av_callV0 (q := 16) (ci := 9) F hm mM_readFresh_i mM_readFresh_n lM_218 dM_readDoor_13 rfl rfl rfl (by first | exact hM.o | exact hl.o | exact hl.a6 | exact hl.a7 | exact hl.a8 | exact hl.a1) (by decide) (Nat.le_refl _) (Nat.le_refl _) (Nat.le_of_ble_eq_true rfl) (wM_readFresh hM hl h4p he g9 (fun a13 b13 V2 f13 g13 => ?_) (fun c13 a13 b13 VO z13 HO HQ => ?_))
    · rw [pNw_1 a13 b13] at hK
      have hwp := (g9.2.2.2.2.2.1.2.2 (isNm_1 a13)).1
      refine aw_lstore_1 (q := 17) F dM_readDoor_16 rfl trivial ?_
      refine aw_aload_0 (q := 18) F dM_readDoor_17 rfl ?_
      refine aw_ldcS (q := 20) (j := 15) F dM_readDoor_18 rfl (by decide) rfl rfl ?_
      refine av_callV1 (q := 23) (ci := 9) F hm mM_isWord_i mM_isWord_n lM_119 dM_readDoor_20 rfl rfl rfl (by first | exact hM.o | exact hl.o | exact hl.a6 | exact hl.a7 | exact hl.a8 | exact hl.a1) (by decide) (Nat.le_refl _) (Nat.le_refl _) (Nat.le_of_ble_eq_true rfl) (wM_isWord (j := 15) (by decide) (by decide) hM (fun w20 => ?_) (fun w20 => ?_))
      · refine aw_if_eq (q := 26) (t := 30) F dM_readDoor_23 rfl (by decide) (fun c23 => absurd c23 (by decide)) (fun c23 => ?_)
        refine aw_iconst (q := 27) F dM_readDoor_26 rfl (by decide) ?_
        refine aw_goto (t := 70) F dM_readDoor_27 (by decide) ?_
        refine aw_istore_3 (q := 71) F dM_readDoor_70 rfl trivial ?_
        refine aw_iload_3 (q := 72) F dM_readDoor_71 rfl ?_
        refine aw_iconst (q := 73) F dM_readDoor_72 rfl (by decide) ?_
        refine aw_icmp_ne (q := 76) (t := 81) F dM_readDoor_73 rfl (by decide) (fun c73 => ?_) (fun c73 => absurd c73 (by decide))
        refine aw_aload_0 (q := 82) F dM_readDoor_81 rfl ?_
        refine av_callV0 (q := 85) (ci := 9) F hm mM_goesOn_i mM_goesOn_n lM_114 dM_readDoor_82 rfl rfl rfl (by first | exact hM.o | exact hl.o | exact hl.a6 | exact hl.a7 | exact hl.a8 | exact hl.a1) (by decide) (Nat.le_refl _) (Nat.le_refl _) (Nat.le_of_ble_eq_true rfl) (g13.go hM he (by first | (rw [((g13.1.wv 15).mp w20).1]; decide) | (rw [((g13.1.wv 16).mp w33).1]; decide) | (rw [((g13.1.wv 17).mp w46).1]; decide) | (rw [((g13.1.wv 18).mp w59).1]; decide)) (fun V4 f82 g82 => ?_))
        refine aw_aload_0 (q := 86) F dM_readDoor_85 rfl ?_
        refine av_geti (q := 89) F fM_78 dM_readDoor_86 rfl rfl (by first | exact hM.o | exact hl.o | exact hl.a6 | exact hl.a7 | exact hl.a8 | exact hl.a1) ?_
        refine aw_iconst (q := 90) F dM_readDoor_89 rfl (by decide) ?_
        refine aw_icmp_ne (q := 93) (t := 94) F dM_readDoor_90 rfl (by decide) (fun c90 => ?_) (fun c90 => by exact absurd c90 g82.1.1.2)
        first
        | (have hk2 := (g13.1.w2 (k := 0) (by decide)).mp w20
           rw [hk2, if_neg (by decide)] at hK
           exact fin 0 V4 (by decide) (by omega) hwp ((f9.qf.tr f13.qf).tr f82) g82 (fun V' p1 p2 => hK.1 V' _ _ rfl p1 p2))
        | (have hk2 := (g13.1.w2 (k := 1) (by decide)).mp w33
           rw [hk2, if_neg (by decide)] at hK
           exact fin 1 V4 (by decide) (by omega) hwp ((f9.qf.tr f13.qf).tr f82) g82 (fun V' p1 p2 => hK.1 V' _ _ rfl p1 p2))
        | (have hk2 := (g13.1.w2 (k := 2) (by decide)).mp w46
           rw [hk2, if_neg (by decide)] at hK
           exact fin 2 V4 (by decide) (by omega) hwp ((f9.qf.tr f13.qf).tr f82) g82 (fun V' p1 p2 => hK.1 V' _ _ rfl p1 p2))
        | (have hk2 := (g13.1.w2 (k := 3) (by decide)).mp w59
           rw [hk2, if_neg (by decide)] at hK
           exact fin 3 V4 (by decide) (by omega) hwp ((f9.qf.tr f13.qf).tr f82) g82 (fun V' p1 p2 => hK.1 V' _ _ rfl p1 p2))
      · refine aw_if_eq (q := 26) (t := 30) F dM_readDoor_23 rfl (by decide) (fun c23 => ?_) (fun c23 => absurd c23 (by decide))
        refine aw_aload_0 (q := 31) F dM_readDoor_30 rfl ?_
        refine aw_ldcS (q := 33) (j := 16) F dM_readDoor_31 rfl (by decide) rfl rfl ?_
        refine av_callV1 (q := 36) (ci := 9) F hm mM_isWord_i mM_isWord_n lM_119 dM_readDoor_33 rfl rfl rfl (by first | exact hM.o | exact hl.o | exact hl.a6 | exact hl.a7 | exact hl.a8 | exact hl.a1) (by decide) (Nat.le_refl _) (Nat.le_refl _) (Nat.le_of_ble_eq_true rfl) (wM_isWord (j := 16) (by decide) (by decide) hM (fun w33 => ?_) (fun w33 => ?_))
        · refine aw_if_eq (q := 39) (t := 43) F dM_readDoor_36 rfl (by decide) (fun c36 => absurd c36 (by decide)) (fun c36 => ?_)
          refine aw_iconst (q := 40) F dM_readDoor_39 rfl (by decide) ?_
          refine aw_goto (t := 70) F dM_readDoor_40 (by decide) ?_
          refine aw_istore_3 (q := 71) F dM_readDoor_70 rfl trivial ?_
          refine aw_iload_3 (q := 72) F dM_readDoor_71 rfl ?_
          refine aw_iconst (q := 73) F dM_readDoor_72 rfl (by decide) ?_
          refine aw_icmp_ne (q := 76) (t := 81) F dM_readDoor_73 rfl (by decide) (fun c73 => ?_) (fun c73 => absurd c73 (by decide))
          refine aw_aload_0 (q := 82) F dM_readDoor_81 rfl ?_
          refine av_callV0 (q := 85) (ci := 9) F hm mM_goesOn_i mM_goesOn_n lM_114 dM_readDoor_82 rfl rfl rfl (by first | exact hM.o | exact hl.o | exact hl.a6 | exact hl.a7 | exact hl.a8 | exact hl.a1) (by decide) (Nat.le_refl _) (Nat.le_refl _) (Nat.le_of_ble_eq_true rfl) (g13.go hM he (by first | (rw [((g13.1.wv 15).mp w20).1]; decide) | (rw [((g13.1.wv 16).mp w33).1]; decide) | (rw [((g13.1.wv 17).mp w46).1]; decide) | (rw [((g13.1.wv 18).mp w59).1]; decide)) (fun V4 f82 g82 => ?_))
          refine aw_aload_0 (q := 86) F dM_readDoor_85 rfl ?_
          refine av_geti (q := 89) F fM_78 dM_readDoor_86 rfl rfl (by first | exact hM.o | exact hl.o | exact hl.a6 | exact hl.a7 | exact hl.a8 | exact hl.a1) ?_
          refine aw_iconst (q := 90) F dM_readDoor_89 rfl (by decide) ?_
          refine aw_icmp_ne (q := 93) (t := 94) F dM_readDoor_90 rfl (by decide) (fun c90 => ?_) (fun c90 => by exact absurd c90 g82.1.1.2)
          first
          | (have hk2 := (g13.1.w2 (k := 0) (by decide)).mp w20
             rw [hk2, if_neg (by decide)] at hK
             exact fin 0 V4 (by decide) (by omega) hwp ((f9.qf.tr f13.qf).tr f82) g82 (fun V' p1 p2 => hK.1 V' _ _ rfl p1 p2))
          | (have hk2 := (g13.1.w2 (k := 1) (by decide)).mp w33
             rw [hk2, if_neg (by decide)] at hK
             exact fin 1 V4 (by decide) (by omega) hwp ((f9.qf.tr f13.qf).tr f82) g82 (fun V' p1 p2 => hK.1 V' _ _ rfl p1 p2))
          | (have hk2 := (g13.1.w2 (k := 2) (by decide)).mp w46
             rw [hk2, if_neg (by decide)] at hK
             exact fin 2 V4 (by decide) (by omega) hwp ((f9.qf.tr f13.qf).tr f82) g82 (fun V' p1 p2 => hK.1 V' _ _ rfl p1 p2))
          | (have hk2 := (g13.1.w2 (k := 3) (by decide)).mp w59
             rw [hk2, if_neg (by decide)] at hK
             exact fin 3 V4 (by decide) (by omega) hwp ((f9.qf.tr f13.qf).tr f82) g82 (fun V' p1 p2 => hK.1 V' _ _ rfl p1 p2))
        · refine aw_if_eq (q := 39) (t := 43) F dM_readDoor_36 rfl (by decide) (fun c36 => ?_) (fun c36 => absurd c36 (by decide))
          refine aw_aload_0 (q := 44) F dM_readDoor_43 rfl ?_
          refine aw_ldcS (q := 46) (j := 17) F dM_readDoor_44 rfl (by decide) rfl rfl ?_
          refine av_callV1 (q := 49) (ci := 9) F hm mM_isWord_i mM_isWord_n lM_119 dM_readDoor_46 rfl rfl rfl (by first | exact hM.o | exact hl.o | exact hl.a6 | exact hl.a7 | exact hl.a8 | exact hl.a1) (by decide) (Nat.le_refl _) (Nat.le_refl _) (Nat.le_of_ble_eq_true rfl) (wM_isWord (j := 17) (by decide) (by decide) hM (fun w46 => ?_) (fun w46 => ?_))
          · refine aw_if_eq (q := 52) (t := 56) F dM_readDoor_49 rfl (by decide) (fun c49 => absurd c49 (by decide)) (fun c49 => ?_)
            refine aw_iconst (q := 53) F dM_readDoor_52 rfl (by decide) ?_
            refine aw_goto (t := 70) F dM_readDoor_53 (by decide) ?_
            refine aw_istore_3 (q := 71) F dM_readDoor_70 rfl trivial ?_
            refine aw_iload_3 (q := 72) F dM_readDoor_71 rfl ?_
            refine aw_iconst (q := 73) F dM_readDoor_72 rfl (by decide) ?_
            refine aw_icmp_ne (q := 76) (t := 81) F dM_readDoor_73 rfl (by decide) (fun c73 => ?_) (fun c73 => absurd c73 (by decide))
            refine aw_aload_0 (q := 82) F dM_readDoor_81 rfl ?_
            refine av_callV0 (q := 85) (ci := 9) F hm mM_goesOn_i mM_goesOn_n lM_114 dM_readDoor_82 rfl rfl rfl (by first | exact hM.o | exact hl.o | exact hl.a6 | exact hl.a7 | exact hl.a8 | exact hl.a1) (by decide) (Nat.le_refl _) (Nat.le_refl _) (Nat.le_of_ble_eq_true rfl) (g13.go hM he (by first | (rw [((g13.1.wv 15).mp w20).1]; decide) | (rw [((g13.1.wv 16).mp w33).1]; decide) | (rw [((g13.1.wv 17).mp w46).1]; decide) | (rw [((g13.1.wv 18).mp w59).1]; decide)) (fun V4 f82 g82 => ?_))
            refine aw_aload_0 (q := 86) F dM_readDoor_85 rfl ?_
            refine av_geti (q := 89) F fM_78 dM_readDoor_86 rfl rfl (by first | exact hM.o | exact hl.o | exact hl.a6 | exact hl.a7 | exact hl.a8 | exact hl.a1) ?_
            refine aw_iconst (q := 90) F dM_readDoor_89 rfl (by decide) ?_
            refine aw_icmp_ne (q := 93) (t := 94) F dM_readDoor_90 rfl (by decide) (fun c90 => ?_) (fun c90 => by exact absurd c90 g82.1.1.2)
            first
            | (have hk2 := (g13.1.w2 (k := 0) (by decide)).mp w20
               rw [hk2, if_neg (by decide)] at hK
               exact fin 0 V4 (by decide) (by omega) hwp ((f9.qf.tr f13.qf).tr f82) g82 (fun V' p1 p2 => hK.1 V' _ _ rfl p1 p2))
            | (have hk2 := (g13.1.w2 (k := 1) (by decide)).mp w33
               rw [hk2, if_neg (by decide)] at hK
               exact fin 1 V4 (by decide) (by omega) hwp ((f9.qf.tr f13.qf).tr f82) g82 (fun V' p1 p2 => hK.1 V' _ _ rfl p1 p2))
            | (have hk2 := (g13.1.w2 (k := 2) (by decide)).mp w46
               rw [hk2, if_neg (by decide)] at hK
               exact fin 2 V4 (by decide) (by omega) hwp ((f9.qf.tr f13.qf).tr f82) g82 (fun V' p1 p2 => hK.1 V' _ _ rfl p1 p2))
            | (have hk2 := (g13.1.w2 (k := 3) (by decide)).mp w59
               rw [hk2, if_neg (by decide)] at hK
               exact fin 3 V4 (by decide) (by omega) hwp ((f9.qf.tr f13.qf).tr f82) g82 (fun V' p1 p2 => hK.1 V' _ _ rfl p1 p2))
          · refine aw_if_eq (q := 52) (t := 56) F dM_readDoor_49 rfl (by decide) (fun c49 => ?_) (fun c49 => absurd c49 (by decide))
            refine aw_aload_0 (q := 57) F dM_readDoor_56 rfl ?_
            refine aw_ldcS (q := 59) (j := 18) F dM_readDoor_57 rfl (by decide) rfl rfl ?_
            refine av_callV1 (q := 62) (ci := 9) F hm mM_isWord_i mM_isWord_n lM_119 dM_readDoor_59 rfl rfl rfl (by first | exact hM.o | exact hl.o | exact hl.a6 | exact hl.a7 | exact hl.a8 | exact hl.a1) (by decide) (Nat.le_refl _) (Nat.le_refl _) (Nat.le_of_ble_eq_true rfl) (wM_isWord (j := 18) (by decide) (by decide) hM (fun w59 => ?_) (fun w59 => ?_))
            · refine aw_if_eq (q := 65) (t := 69) F dM_readDoor_62 rfl (by decide) (fun c62 => absurd c62 (by decide)) (fun c62 => ?_)
              refine aw_iconst (q := 66) F dM_readDoor_65 rfl (by decide) ?_
              refine aw_goto (t := 70) F dM_readDoor_66 (by decide) ?_
              refine aw_istore_3 (q := 71) F dM_readDoor_70 rfl trivial ?_
              refine aw_iload_3 (q := 72) F dM_readDoor_71 rfl ?_
              refine aw_iconst (q := 73) F dM_readDoor_72 rfl (by decide) ?_
              refine aw_icmp_ne (q := 76) (t := 81) F dM_readDoor_73 rfl (by decide) (fun c73 => ?_) (fun c73 => absurd c73 (by decide))
              refine aw_aload_0 (q := 82) F dM_readDoor_81 rfl ?_
              refine av_callV0 (q := 85) (ci := 9) F hm mM_goesOn_i mM_goesOn_n lM_114 dM_readDoor_82 rfl rfl rfl (by first | exact hM.o | exact hl.o | exact hl.a6 | exact hl.a7 | exact hl.a8 | exact hl.a1) (by decide) (Nat.le_refl _) (Nat.le_refl _) (Nat.le_of_ble_eq_true rfl) (g13.go hM he (by first | (rw [((g13.1.wv 15).mp w20).1]; decide) | (rw [((g13.1.wv 16).mp w33).1]; decide) | (rw [((g13.1.wv 17).mp w46).1]; decide) | (rw [((g13.1.wv 18).mp w59).1]; decide)) (fun V4 f82 g82 => ?_))
              refine aw_aload_0 (q := 86) F dM_readDoor_85 rfl ?_
              refine av_geti (q := 89) F fM_78 dM_readDoor_86 rfl rfl (by first | exact hM.o | exact hl.o | exact hl.a6 | exact hl.a7 | exact hl.a8 | exact hl.a1) ?_
              refine aw_iconst (q := 90) F dM_readDoor_89 rfl (by decide) ?_
              refine aw_icmp_ne (q := 93) (t := 94) F dM_readDoor_90 rfl (by decide) (fun c90 => ?_) (fun c90 => by exact absurd c90 g82.1.1.2)
              first
              | (have hk2 := (g13.1.w2 (k := 0) (by decide)).mp w20
                 rw [hk2, if_neg (by decide)] at hK
                 exact fin 0 V4 (by decide) (by omega) hwp ((f9.qf.tr f13.qf).tr f82) g82 (fun V' p1 p2 => hK.1 V' _ _ rfl p1 p2))
              | (have hk2 := (g13.1.w2 (k := 1) (by decide)).mp w33
                 rw [hk2, if_neg (by decide)] at hK
                 exact fin 1 V4 (by decide) (by omega) hwp ((f9.qf.tr f13.qf).tr f82) g82 (fun V' p1 p2 => hK.1 V' _ _ rfl p1 p2))
              | (have hk2 := (g13.1.w2 (k := 2) (by decide)).mp w46
                 rw [hk2, if_neg (by decide)] at hK
                 exact fin 2 V4 (by decide) (by omega) hwp ((f9.qf.tr f13.qf).tr f82) g82 (fun V' p1 p2 => hK.1 V' _ _ rfl p1 p2))
              | (have hk2 := (g13.1.w2 (k := 3) (by decide)).mp w59
                 rw [hk2, if_neg (by decide)] at hK
                 exact fin 3 V4 (by decide) (by omega) hwp ((f9.qf.tr f13.qf).tr f82) g82 (fun V' p1 p2 => hK.1 V' _ _ rfl p1 p2))
            · refine aw_if_eq (q := 65) (t := 69) F dM_readDoor_62 rfl (by decide) (fun c62 => ?_) (fun c62 => absurd c62 (by decide))
              refine aw_iconst (q := 70) F dM_readDoor_69 rfl (by decide) ?_
              refine aw_istore_3 (q := 71) F dM_readDoor_70 rfl trivial ?_
              refine aw_iload_3 (q := 72) F dM_readDoor_71 rfl ?_
              refine aw_iconst (q := 73) F dM_readDoor_72 rfl (by decide) ?_
              refine aw_icmp_ne (q := 76) (t := 81) F dM_readDoor_73 rfl (by decide) (fun c73 => absurd c73 (by decide)) (fun c73 => ?_)
              refine aw_aload_0 (q := 77) F dM_readDoor_76 rfl ?_
              refine aw_iconst (q := 78) F dM_readDoor_77 rfl (by decide) ?_
              refine av_callV1 (q := 81) (ci := 9) F hm mM_flaw_i mM_flaw_n lM_143 dM_readDoor_78 rfl rfl rfl (by first | exact hM.o | exact hl.o | exact hl.a6 | exact hl.a7 | exact hl.a8 | exact hl.a1) (by decide) (Nat.le_refl _) (Nat.le_refl _) (Nat.le_of_ble_eq_true rfl) (g13.ov hM (k := 1) rfl (by decide) (fun VO HO HQ => ?_))
              first | (have HK : K none (VO, σ) := by
                            refine hK.2 VO _ _ (if_pos ?_) ((f9.qf.tr f13.qf).tr HQ).pf HO
                            rcases wnI2_cs (nxT B n (nxT B n t)) with q | ⟨k, q1, q2⟩
                            · exact q
                            · exfalso
                              have hw := (g13.1.w2 q1).mpr q2
                              match k, q1, hw with
                              | 0, _, hw => exact w20 hw
                              | 1, _, hw => exact w33 hw
                              | 2, _, hw => exact w46 hw
                              | 3, _, hw => exact w59 hw) | skip
              refine aw_aload_0 (q := 82) F dM_readDoor_81 rfl ?_
              refine av_callV0 (q := 85) (ci := 9) F hm mM_goesOn_i mM_goesOn_n lM_114 dM_readDoor_82 rfl rfl rfl (by first | exact hM.o | exact hl.o | exact hl.a6 | exact hl.a7 | exact hl.a8 | exact hl.a1) (by decide) (Nat.le_refl _) (Nat.le_refl _) (Nat.le_of_ble_eq_true rfl) (wM_goesOnO hM HO.1 ?_)
              refine aw_aload_0 (q := 86) F dM_readDoor_85 rfl ?_
              refine av_geti (q := 89) F fM_78 dM_readDoor_86 rfl rfl (by first | exact hM.o | exact hl.o | exact hl.a6 | exact hl.a7 | exact hl.a8 | exact hl.a1) ?_
              refine aw_iconst (q := 90) F dM_readDoor_89 rfl (by decide) ?_
              refine aw_icmp_ne (q := 93) (t := 94) F dM_readDoor_90 rfl (by decide) (fun c90 => by exact absurd HO.1 c90) (fun c90 => ?_)
              refine aw_vret F C dM_readDoor_93 rfl (Nat.le_refl _) (Nat.le_refl _) ?_
              exact HK
    · first | (have HK : K none (VO, σ) := hK.2 VO _ _ (pNw_0 a13 b13) (f9.qf.tr HQ).pf HO) | skip
      refine aw_lstore_1 (q := 17) F dM_readDoor_16 rfl trivial ?_
      refine aw_aload_0 (q := 18) F dM_readDoor_17 rfl ?_
      refine aw_ldcS (q := 20) (j := 15) F dM_readDoor_18 rfl (by decide) rfl rfl ?_
      refine av_callV1 (q := 23) (ci := 9) F hm mM_isWord_i mM_isWord_n lM_119 dM_readDoor_20 rfl rfl rfl (by first | exact hM.o | exact hl.o | exact hl.a6 | exact hl.a7 | exact hl.a8 | exact hl.a1) (by decide) (Nat.le_refl _) (Nat.le_refl _) (Nat.le_of_ble_eq_true rfl) (wM_isWordO (j := 15) (by decide) (by decide) hM HO.1 ?_)
      refine aw_if_eq (q := 26) (t := 30) F dM_readDoor_23 rfl (by decide) (fun c23 => ?_) (fun c23 => absurd c23 (by decide))
      refine aw_aload_0 (q := 31) F dM_readDoor_30 rfl ?_
      refine aw_ldcS (q := 33) (j := 16) F dM_readDoor_31 rfl (by decide) rfl rfl ?_
      refine av_callV1 (q := 36) (ci := 9) F hm mM_isWord_i mM_isWord_n lM_119 dM_readDoor_33 rfl rfl rfl (by first | exact hM.o | exact hl.o | exact hl.a6 | exact hl.a7 | exact hl.a8 | exact hl.a1) (by decide) (Nat.le_refl _) (Nat.le_refl _) (Nat.le_of_ble_eq_true rfl) (wM_isWordO (j := 16) (by decide) (by decide) hM HO.1 ?_)
      refine aw_if_eq (q := 39) (t := 43) F dM_readDoor_36 rfl (by decide) (fun c36 => ?_) (fun c36 => absurd c36 (by decide))
      refine aw_aload_0 (q := 44) F dM_readDoor_43 rfl ?_
      refine aw_ldcS (q := 46) (j := 17) F dM_readDoor_44 rfl (by decide) rfl rfl ?_
      refine av_callV1 (q := 49) (ci := 9) F hm mM_isWord_i mM_isWord_n lM_119 dM_readDoor_46 rfl rfl rfl (by first | exact hM.o | exact hl.o | exact hl.a6 | exact hl.a7 | exact hl.a8 | exact hl.a1) (by decide) (Nat.le_refl _) (Nat.le_refl _) (Nat.le_of_ble_eq_true rfl) (wM_isWordO (j := 17) (by decide) (by decide) hM HO.1 ?_)
      refine aw_if_eq (q := 52) (t := 56) F dM_readDoor_49 rfl (by decide) (fun c49 => ?_) (fun c49 => absurd c49 (by decide))
      refine aw_aload_0 (q := 57) F dM_readDoor_56 rfl ?_
      refine aw_ldcS (q := 59) (j := 18) F dM_readDoor_57 rfl (by decide) rfl rfl ?_
      refine av_callV1 (q := 62) (ci := 9) F hm mM_isWord_i mM_isWord_n lM_119 dM_readDoor_59 rfl rfl rfl (by first | exact hM.o | exact hl.o | exact hl.a6 | exact hl.a7 | exact hl.a8 | exact hl.a1) (by decide) (Nat.le_refl _) (Nat.le_refl _) (Nat.le_of_ble_eq_true rfl) (wM_isWordO (j := 18) (by decide) (by decide) hM HO.1 ?_)
      refine aw_if_eq (q := 65) (t := 69) F dM_readDoor_62 rfl (by decide) (fun c62 => ?_) (fun c62 => absurd c62 (by decide))
      refine aw_iconst (q := 70) F dM_readDoor_69 rfl (by decide) ?_
      refine aw_istore_3 (q := 71) F dM_readDoor_70 rfl trivial ?_
      refine aw_iload_3 (q := 72) F dM_readDoor_71 rfl ?_
      refine aw_iconst (q := 73) F dM_readDoor_72 rfl (by decide) ?_
      refine aw_icmp_ne (q := 76) (t := 81) F dM_readDoor_73 rfl (by decide) (fun c73 => absurd c73 (by decide)) (fun c73 => ?_)
      refine aw_aload_0 (q := 77) F dM_readDoor_76 rfl ?_
      refine aw_iconst (q := 78) F dM_readDoor_77 rfl (by decide) ?_
      refine av_callV1 (q := 81) (ci := 9) F hm mM_flaw_i mM_flaw_n lM_143 dM_readDoor_78 rfl rfl rfl (by first | exact hM.o | exact hl.o | exact hl.a6 | exact hl.a7 | exact hl.a8 | exact hl.a1) (by decide) (Nat.le_refl _) (Nat.le_refl _) (Nat.le_of_ble_eq_true rfl) (wM_flawO hM HO.1 ?_)
      first | (have HK : K none (VO, σ) := by
                    refine hK.2 VO _ _ (if_pos ?_) ((f9.qf.tr f13.qf).tr HQ).pf HO
                    rcases wnI2_cs (nxT B n (nxT B n t)) with q | ⟨k, q1, q2⟩
                    · exact q
                    · exfalso
                      have hw := (g13.1.w2 q1).mpr q2
                      match k, q1, hw with
                      | 0, _, hw => exact w20 hw
                      | 1, _, hw => exact w33 hw
                      | 2, _, hw => exact w46 hw
                      | 3, _, hw => exact w59 hw) | skip
      refine aw_aload_0 (q := 82) F dM_readDoor_81 rfl ?_
      refine av_callV0 (q := 85) (ci := 9) F hm mM_goesOn_i mM_goesOn_n lM_114 dM_readDoor_82 rfl rfl rfl (by first | exact hM.o | exact hl.o | exact hl.a6 | exact hl.a7 | exact hl.a8 | exact hl.a1) (by decide) (Nat.le_refl _) (Nat.le_refl _) (Nat.le_of_ble_eq_true rfl) (wM_goesOnO hM HO.1 ?_)
      refine aw_aload_0 (q := 86) F dM_readDoor_85 rfl ?_
      refine av_geti (q := 89) F fM_78 dM_readDoor_86 rfl rfl (by first | exact hM.o | exact hl.o | exact hl.a6 | exact hl.a7 | exact hl.a8 | exact hl.a1) ?_
      refine aw_iconst (q := 90) F dM_readDoor_89 rfl (by decide) ?_
      refine aw_icmp_ne (q := 93) (t := 94) F dM_readDoor_90 rfl (by decide) (fun c90 => by exact absurd HO.1 c90) (fun c90 => ?_)
      refine aw_vret F C dM_readDoor_93 rfl (Nat.le_refl _) (Nat.le_refl _) ?_
      exact HK
  · have H8 := h.n8 HQ he
    first
    | (have HK : K none (VO, σ) := hK.2 VO _ _ (if_pos b9) HQ.pf HO)
    | (have hb1 : r.2.1 = true := by
         cases hq : r.2.1
         · have := (h.2.2.2.2.1.1 hq).1; omega
         · rfl
       have HK : K none (VO, σ) := hK.2 VO _ _ ((if_neg (by rw [hb1]; decide)).trans (by unfold pDoor; rw [if_pos (by omega)])) HQ.pf HO)
    refine aw_aload_0 (q := 13) F dM_readDoor_12 rfl ?_
    refine av_callV0 (q := 16) (ci := 9) F hm mM_readFresh_i mM_readFresh_n lM_218 dM_readDoor_13 rfl rfl rfl (by first | exact hM.o | exact hl.o | exact hl.a6 | exact hl.a7 | exact hl.a8 | exact hl.a1) (by decide) (Nat.le_refl _) (Nat.le_refl _) (Nat.le_of_ble_eq_true rfl) (wM_readFreshO hM hl h4p H8 HO.1 (fun z13 => ?_))
    first | (have HK : K none (VO, σ) := hK.2 VO _ _ (pNw_0 a13 b13) (f9.qf.tr HQ).pf HO) | skip
    refine aw_lstore_1 (q := 17) F dM_readDoor_16 rfl trivial ?_
    refine aw_aload_0 (q := 18) F dM_readDoor_17 rfl ?_
    refine aw_ldcS (q := 20) (j := 15) F dM_readDoor_18 rfl (by decide) rfl rfl ?_
    refine av_callV1 (q := 23) (ci := 9) F hm mM_isWord_i mM_isWord_n lM_119 dM_readDoor_20 rfl rfl rfl (by first | exact hM.o | exact hl.o | exact hl.a6 | exact hl.a7 | exact hl.a8 | exact hl.a1) (by decide) (Nat.le_refl _) (Nat.le_refl _) (Nat.le_of_ble_eq_true rfl) (wM_isWordO (j := 15) (by decide) (by decide) hM HO.1 ?_)
    refine aw_if_eq (q := 26) (t := 30) F dM_readDoor_23 rfl (by decide) (fun c23 => ?_) (fun c23 => absurd c23 (by decide))
    refine aw_aload_0 (q := 31) F dM_readDoor_30 rfl ?_
    refine aw_ldcS (q := 33) (j := 16) F dM_readDoor_31 rfl (by decide) rfl rfl ?_
    refine av_callV1 (q := 36) (ci := 9) F hm mM_isWord_i mM_isWord_n lM_119 dM_readDoor_33 rfl rfl rfl (by first | exact hM.o | exact hl.o | exact hl.a6 | exact hl.a7 | exact hl.a8 | exact hl.a1) (by decide) (Nat.le_refl _) (Nat.le_refl _) (Nat.le_of_ble_eq_true rfl) (wM_isWordO (j := 16) (by decide) (by decide) hM HO.1 ?_)
    refine aw_if_eq (q := 39) (t := 43) F dM_readDoor_36 rfl (by decide) (fun c36 => ?_) (fun c36 => absurd c36 (by decide))
    refine aw_aload_0 (q := 44) F dM_readDoor_43 rfl ?_
    refine aw_ldcS (q := 46) (j := 17) F dM_readDoor_44 rfl (by decide) rfl rfl ?_
    refine av_callV1 (q := 49) (ci := 9) F hm mM_isWord_i mM_isWord_n lM_119 dM_readDoor_46 rfl rfl rfl (by first | exact hM.o | exact hl.o | exact hl.a6 | exact hl.a7 | exact hl.a8 | exact hl.a1) (by decide) (Nat.le_refl _) (Nat.le_refl _) (Nat.le_of_ble_eq_true rfl) (wM_isWordO (j := 17) (by decide) (by decide) hM HO.1 ?_)
    refine aw_if_eq (q := 52) (t := 56) F dM_readDoor_49 rfl (by decide) (fun c49 => ?_) (fun c49 => absurd c49 (by decide))
    refine aw_aload_0 (q := 57) F dM_readDoor_56 rfl ?_
    refine aw_ldcS (q := 59) (j := 18) F dM_readDoor_57 rfl (by decide) rfl rfl ?_
    refine av_callV1 (q := 62) (ci := 9) F hm mM_isWord_i mM_isWord_n lM_119 dM_readDoor_59 rfl rfl rfl (by first | exact hM.o | exact hl.o | exact hl.a6 | exact hl.a7 | exact hl.a8 | exact hl.a1) (by decide) (Nat.le_refl _) (Nat.le_refl _) (Nat.le_of_ble_eq_true rfl) (wM_isWordO (j := 18) (by decide) (by decide) hM HO.1 ?_)
    refine aw_if_eq (q := 65) (t := 69) F dM_readDoor_62 rfl (by decide) (fun c62 => ?_) (fun c62 => absurd c62 (by decide))
    refine aw_iconst (q := 70) F dM_readDoor_69 rfl (by decide) ?_
    refine aw_istore_3 (q := 71) F dM_readDoor_70 rfl trivial ?_
    refine aw_iload_3 (q := 72) F dM_readDoor_71 rfl ?_
    refine aw_iconst (q := 73) F dM_readDoor_72 rfl (by decide) ?_
    refine aw_icmp_ne (q := 76) (t := 81) F dM_readDoor_73 rfl (by decide) (fun c73 => absurd c73 (by decide)) (fun c73 => ?_)
    refine aw_aload_0 (q := 77) F dM_readDoor_76 rfl ?_
    refine aw_iconst (q := 78) F dM_readDoor_77 rfl (by decide) ?_
    refine av_callV1 (q := 81) (ci := 9) F hm mM_flaw_i mM_flaw_n lM_143 dM_readDoor_78 rfl rfl rfl (by first | exact hM.o | exact hl.o | exact hl.a6 | exact hl.a7 | exact hl.a8 | exact hl.a1) (by decide) (Nat.le_refl _) (Nat.le_refl _) (Nat.le_of_ble_eq_true rfl) (wM_flawO hM HO.1 ?_)
    first | (have HK : K none (VO, σ) := by
                  refine hK.2 VO _ _ (if_pos ?_) ((f9.qf.tr f13.qf).tr HQ).pf HO
                  rcases wnI2_cs (nxT B n (nxT B n t)) with q | ⟨k, q1, q2⟩
                  · exact q
                  · exfalso
                    have hw := (g13.1.w2 q1).mpr q2
                    match k, q1, hw with
                    | 0, _, hw => exact w20 hw
                    | 1, _, hw => exact w33 hw
                    | 2, _, hw => exact w46 hw
                    | 3, _, hw => exact w59 hw) | skip
    refine aw_aload_0 (q := 82) F dM_readDoor_81 rfl ?_
    refine av_callV0 (q := 85) (ci := 9) F hm mM_goesOn_i mM_goesOn_n lM_114 dM_readDoor_82 rfl rfl rfl (by first | exact hM.o | exact hl.o | exact hl.a6 | exact hl.a7 | exact hl.a8 | exact hl.a1) (by decide) (Nat.le_refl _) (Nat.le_refl _) (Nat.le_of_ble_eq_true rfl) (wM_goesOnO hM HO.1 ?_)
    refine aw_aload_0 (q := 86) F dM_readDoor_85 rfl ?_
    refine av_geti (q := 89) F fM_78 dM_readDoor_86 rfl rfl (by first | exact hM.o | exact hl.o | exact hl.a6 | exact hl.a7 | exact hl.a8 | exact hl.a1) ?_
    refine aw_iconst (q := 90) F dM_readDoor_89 rfl (by decide) ?_
    refine aw_icmp_ne (q := 93) (t := 94) F dM_readDoor_90 rfl (by decide) (fun c90 => by exact absurd HO.1 c90) (fun c90 => ?_)
    refine aw_vret F C dM_readDoor_93 rfl (Nat.le_refl _) (Nat.le_refl _) ?_
    exact HK
  · have H8 := h.n8 HQ he
    first
    | (have HK : K none (VO, σ) := hK.2 VO _ _ (if_pos b9) HQ.pf HO)
    | (have hb1 : r.2.1 = true := by
         cases hq : r.2.1
         · have := (h.2.2.2.2.1.1 hq).1; omega
         · rfl
       have HK : K none (VO, σ) := hK.2 VO _ _ ((if_neg (by rw [hb1]; decide)).trans (by unfold pDoor; rw [if_pos (by omega)])) HQ.pf HO)
    refine aw_aload_0 (q := 13) F dM_readDoor_12 rfl ?_
    refine av_callV0 (q := 16) (ci := 9) F hm mM_readFresh_i mM_readFresh_n lM_218 dM_readDoor_13 rfl rfl rfl (by first | exact hM.o | exact hl.o | exact hl.a6 | exact hl.a7 | exact hl.a8 | exact hl.a1) (by decide) (Nat.le_refl _) (Nat.le_refl _) (Nat.le_of_ble_eq_true rfl) (wM_readFreshO hM hl h4p H8 HO.1 (fun z13 => ?_))
    first | (have HK : K none (VO, σ) := hK.2 VO _ _ (pNw_0 a13 b13) (f9.qf.tr HQ).pf HO) | skip
    refine aw_lstore_1 (q := 17) F dM_readDoor_16 rfl trivial ?_
    refine aw_aload_0 (q := 18) F dM_readDoor_17 rfl ?_
    refine aw_ldcS (q := 20) (j := 15) F dM_readDoor_18 rfl (by decide) rfl rfl ?_
    refine av_callV1 (q := 23) (ci := 9) F hm mM_isWord_i mM_isWord_n lM_119 dM_readDoor_20 rfl rfl rfl (by first | exact hM.o | exact hl.o | exact hl.a6 | exact hl.a7 | exact hl.a8 | exact hl.a1) (by decide) (Nat.le_refl _) (Nat.le_refl _) (Nat.le_of_ble_eq_true rfl) (wM_isWordO (j := 15) (by decide) (by decide) hM HO.1 ?_)
    refine aw_if_eq (q := 26) (t := 30) F dM_readDoor_23 rfl (by decide) (fun c23 => ?_) (fun c23 => absurd c23 (by decide))
    refine aw_aload_0 (q := 31) F dM_readDoor_30 rfl ?_
    refine aw_ldcS (q := 33) (j := 16) F dM_readDoor_31 rfl (by decide) rfl rfl ?_
    refine av_callV1 (q := 36) (ci := 9) F hm mM_isWord_i mM_isWord_n lM_119 dM_readDoor_33 rfl rfl rfl (by first | exact hM.o | exact hl.o | exact hl.a6 | exact hl.a7 | exact hl.a8 | exact hl.a1) (by decide) (Nat.le_refl _) (Nat.le_refl _) (Nat.le_of_ble_eq_true rfl) (wM_isWordO (j := 16) (by decide) (by decide) hM HO.1 ?_)
    refine aw_if_eq (q := 39) (t := 43) F dM_readDoor_36 rfl (by decide) (fun c36 => ?_) (fun c36 => absurd c36 (by decide))
    refine aw_aload_0 (q := 44) F dM_readDoor_43 rfl ?_
    refine aw_ldcS (q := 46) (j := 17) F dM_readDoor_44 rfl (by decide) rfl rfl ?_
    refine av_callV1 (q := 49) (ci := 9) F hm mM_isWord_i mM_isWord_n lM_119 dM_readDoor_46 rfl rfl rfl (by first | exact hM.o | exact hl.o | exact hl.a6 | exact hl.a7 | exact hl.a8 | exact hl.a1) (by decide) (Nat.le_refl _) (Nat.le_refl _) (Nat.le_of_ble_eq_true rfl) (wM_isWordO (j := 17) (by decide) (by decide) hM HO.1 ?_)
    refine aw_if_eq (q := 52) (t := 56) F dM_readDoor_49 rfl (by decide) (fun c49 => ?_) (fun c49 => absurd c49 (by decide))
    refine aw_aload_0 (q := 57) F dM_readDoor_56 rfl ?_
    refine aw_ldcS (q := 59) (j := 18) F dM_readDoor_57 rfl (by decide) rfl rfl ?_
    refine av_callV1 (q := 62) (ci := 9) F hm mM_isWord_i mM_isWord_n lM_119 dM_readDoor_59 rfl rfl rfl (by first | exact hM.o | exact hl.o | exact hl.a6 | exact hl.a7 | exact hl.a8 | exact hl.a1) (by decide) (Nat.le_refl _) (Nat.le_refl _) (Nat.le_of_ble_eq_true rfl) (wM_isWordO (j := 18) (by decide) (by decide) hM HO.1 ?_)
    refine aw_if_eq (q := 65) (t := 69) F dM_readDoor_62 rfl (by decide) (fun c62 => ?_) (fun c62 => absurd c62 (by decide))
    refine aw_iconst (q := 70) F dM_readDoor_69 rfl (by decide) ?_
    refine aw_istore_3 (q := 71) F dM_readDoor_70 rfl trivial ?_
    refine aw_iload_3 (q := 72) F dM_readDoor_71 rfl ?_
    refine aw_iconst (q := 73) F dM_readDoor_72 rfl (by decide) ?_
    refine aw_icmp_ne (q := 76) (t := 81) F dM_readDoor_73 rfl (by decide) (fun c73 => absurd c73 (by decide)) (fun c73 => ?_)
    refine aw_aload_0 (q := 77) F dM_readDoor_76 rfl ?_
    refine aw_iconst (q := 78) F dM_readDoor_77 rfl (by decide) ?_
    refine av_callV1 (q := 81) (ci := 9) F hm mM_flaw_i mM_flaw_n lM_143 dM_readDoor_78 rfl rfl rfl (by first | exact hM.o | exact hl.o | exact hl.a6 | exact hl.a7 | exact hl.a8 | exact hl.a1) (by decide) (Nat.le_refl _) (Nat.le_refl _) (Nat.le_of_ble_eq_true rfl) (wM_flawO hM HO.1 ?_)
    first | (have HK : K none (VO, σ) := by
                  refine hK.2 VO _ _ (if_pos ?_) ((f9.qf.tr f13.qf).tr HQ).pf HO
                  rcases wnI2_cs (nxT B n (nxT B n t)) with q | ⟨k, q1, q2⟩
                  · exact q
                  · exfalso
                    have hw := (g13.1.w2 q1).mpr q2
                    match k, q1, hw with
                    | 0, _, hw => exact w20 hw
                    | 1, _, hw => exact w33 hw
                    | 2, _, hw => exact w46 hw
                    | 3, _, hw => exact w59 hw) | skip
    refine aw_aload_0 (q := 82) F dM_readDoor_81 rfl ?_
    refine av_callV0 (q := 85) (ci := 9) F hm mM_goesOn_i mM_goesOn_n lM_114 dM_readDoor_82 rfl rfl rfl (by first | exact hM.o | exact hl.o | exact hl.a6 | exact hl.a7 | exact hl.a8 | exact hl.a1) (by decide) (Nat.le_refl _) (Nat.le_refl _) (Nat.le_of_ble_eq_true rfl) (wM_goesOnO hM HO.1 ?_)
    refine aw_aload_0 (q := 86) F dM_readDoor_85 rfl ?_
    refine av_geti (q := 89) F fM_78 dM_readDoor_86 rfl rfl (by first | exact hM.o | exact hl.o | exact hl.a6 | exact hl.a7 | exact hl.a8 | exact hl.a1) ?_
    refine aw_iconst (q := 90) F dM_readDoor_89 rfl (by decide) ?_
    refine aw_icmp_ne (q := 93) (t := 94) F dM_readDoor_90 rfl (by decide) (fun c90 => by exact absurd HO.1 c90) (fun c90 => ?_)
    refine aw_vret F C dM_readDoor_93 rfl (Nat.le_refl _) (Nat.le_refl _) ?_
    exact HK
end Mod48
