def owT (ow : Nat → Nat) (t : Nat) : Nat → Nat := fun z => if t ≤ z ∧ z ≤ t + 6 then 20 + (z - t) else ow z
def nwS (S : PS) (T : TL) : PS := (psB S, psN S, psR S, psF S, psL S, T, sc0 T, [], [])
section Begin
variable {G : GE} {V V' : Nat → Nat → Int} {σ σ' : Shp} {K : Option AV → Mem → Prop} {ow : Nat → Nat} {y : Dy} {S : PS} {kn : Bool} {t : Nat} {T : TL}
theorem okU.okT (h : okU T) (hd : 0 < tDn T) : okT T := by
  obtain ⟨a1, a2, a3, a4, a5, a6, a7, a8⟩ := h
  exact ⟨a1, a2, a3, a4, a5, a6, fun q => by omega, a8⟩
/-- only new cells have come -/
theorem CW.gr {Z : Nat → Nat → Prop} (h : CW V σ ow y S kn) (he : eS σ σ' Z) (hZ : ∀ b j, b < sX σ → ¬ Z b j) (hv : ∀ b, b < sX σ → V' b = V b) : CW V' σ' ow y S kn := by
  have hX := h.cs.x53
  obtain ⟨⟨n1, n2, n3, n4⟩, ⟨n5, n6, n7⟩, n8⟩ := h.cs.nm
  refine ⟨CS.mk' (y := y) (y' := y) he h.cs (fun j => hZ _ _ (by omega)) (fun j => hZ _ _ (by omega)) (fun j => hZ _ _ (by omega)) (fun j => hZ _ _ (by omega)) (fun j => hZ _ _ (by omega)) rfl (h.cs.s1.eS' he (fun j => hZ _ _ (by omega)) (fun j => hZ _ _ (by omega))) (h.cs.s2.eS' he (fun j => hZ _ _ (by omega)) (fun j => hZ _ _ (by omega))) (h.cs.r.eS0 he (fun j => hZ _ _ (by omega))) (h.cs.g.eS' he (hZ _ _ (by omega)) (hZ _ _ (by omega))), h.cl, h.cb, h.2.2.2.same (fun b hb => hv b (by omega)) (fun i hi => hv _ (by omega)) (hv _ n1) (hv _ n2)⟩
/-- the object's own numbers have changed -/
theorem CW.o4 {n : Nat} {R F L : Int} (h : CW V σ ow y S kn) (hv : ∀ b, b ≠ 1 → V' b = V b) (hf : ∀ j, j ≠ 1 → j ≠ 2 → j ≠ 3 → j ≠ 4 → V' 1 j = V 1 j) (h1 : V' 1 1 = n) (h2 : V' 1 2 = R) (h3 : V' 1 3 = F) (h4 : R = 4 → V' 1 4 = L) (hn : n ≤ psN S) : CW V' σ ow y (psB S, n, R, F, L, S.2.2.2.2.2) kn := by
  have hL := h.cl
  have hv2 : ∀ {b : Nat}, ow b < 100 → V' b = V b := fun {b} hb => hv b (hL.nf (by unfold fx; omega) hb)
  refine ⟨h.cs, hL, h.cb, ?_, ?_, ?_, ?_⟩
  · obtain ⟨o1, o2, o3⟩ := h.ok
    exact ⟨Nat.le_trans hn o1, o2, o3⟩
  · have := h.cf
    exact ⟨h1, h2, h3, h4, (hf 8 (by decide) (by decide) (by decide) (by decide)).trans this.2.2.2.2.1, (hf 10 (by decide) (by decide) (by decide) (by decide)).trans this.2.2.2.2.2⟩
  · obtain ⟨r1, r2, r3, r4, r5, r6, r7⟩ := h.cr
    exact ⟨fun i hi => by rw [hv 2 (by omega)]; exact r1 i (Nat.lt_of_lt_of_le hi hn), r2.same (fun i hi => hv2 (by rw [hL.t hi]; omega)), r3.same (fun b q1 q2 => hv b (by omega)), by rw [hv 16 (by omega)]; exact r4, by rw [hv 17 (by omega)]; exact r5, by rw [hv 36 (by omega)]; exact r6, fun q => ⟨(r7 q).1, by unfold KR; rw [hv 37 (by omega), hv 38 (by omega)]; exact (r7 q).2⟩⟩
  · have hw := h.wk
    unfold WK at hw ⊢
    rw [hf 12 (by decide) (by decide) (by decide) (by decide)]
    rcases hw with hw | ⟨s', k, m, q1, q2, q3, q4⟩
    · exact Or.inl hw
    · refine Or.inr ⟨s', k, m, q1, q2, q3, q4.same (fun b hb => ?_)⟩
      rcases hb with hb | hb | hb
      · exact hv b (by omega)
      · rw [hb]; exact hv2 (by rw [hL.2.1.1]; omega)
      · rw [hb]; exact hv2 (by rw [hL.2.1.2.1]; omega)
/-- another lane is told -/
theorem CW.bg (h : CW V σ ow y S kn) (ht : tS σ t) (hT : TV V' t T) (hU : okU T) (hd : 0 < tDn T) (h53 : 53 ≤ t) (hnm : (dQ1 y < t ∧ dK1 y < t ∧ dQ2 y < t ∧ dK2 y < t) ∧ dRn y < t ∧ dVn y < t ∧ dLn y < t) (hv : ∀ b, b ≠ 1 → b < 10 ∨ 15 < b → b ≠ 36 → V' b = V b) (hf : ∀ j, j ≠ 8 → j ≠ 10 → j ≠ 12 → V' 1 j = V 1 j) (h8 : V' 1 8 = 0) (h10 : V' 1 10 = 0) (h12 : V' 1 12 = -1) (h36 : V' 36 0 = 0) (hH : HH V' 10 (c0T T) (sc0 T).2.2) : CW V' (pS σ 1 5 t) (owT ow t) (t, y.2) (nwS S T) false := by
  have hL := h.cl
  obtain ⟨⟨n1, n2, n3, n4⟩, n5, n6, n7⟩ := hnm
  have he : eS σ (pS σ 1 5 t) (fun b j => b = 1 ∧ j = 5) := eS_put σ 1 5 t ⟨rfl, rfl⟩
  have hc := h.cs
  have ol : ∀ {b : Nat}, b < t → owT ow t b = ow b := fun {b} hb => if_neg (by omega)
  have hp : ∀ j, j ≠ 5 → sP (pS σ 1 5 t) 1 j = sP σ 1 j := fun j hj => up2_nek _ _ hj
  have hT' := hU.okT hd
  have e5 : sP (pS σ 1 5 t) 1 5 = t := by show up2 (sP σ) 1 5 t 1 5 = t; exact up2_same _ _ _ _
  have hCS : CS (pS σ 1 5 t) (t, y.2) := ⟨he.o hc.o, ⟨(hp 0 (by decide)).trans hc.p0, e5, (hp 6 (by decide)).trans hc.p6, (hp 7 (by decide)).trans hc.p7, (hp 9 (by decide)).trans hc.p9, (hp 11 (by decide)).trans hc.p11, (hp 13 (by decide)).trans hc.p13, (hp 14 (by decide)).trans hc.p14, (hp 15 (by decide)).trans hc.p15, (hp 16 (by decide)).trans hc.p16⟩, he.a hc.a2, hc.h.eS he (fun j q => by omega), he.a hc.a16, he.a hc.a17, (show tS (pS σ 1 5 t) t from ht.eS' he (fun j q => by have q1 : t = 1 := q.1; omega)), hc.s1.eS' he (fun j q => by omega) (fun j q => by omega), hc.s2.eS' he (fun j q => by omega) (fun j q => by omega), hc.r.eS0 he (fun j q => by omega), ⟨he.o hc.c.1, (he.p hc.c.1 (fun q => by omega)).trans hc.c.2.1, hc.c.2.2.eS he (fun j q => by omega)⟩, hc.g.eS' he (fun q => by omega) (fun q => by omega)⟩
  have hnil : ∀ s : Sc, s ∈ ([] : List Sc) → okS T s := fun s hs => absurd hs List.not_mem_nil
  have hl0 : ∀ (c i : Nat) (s : Sc), ([] : List Sc)[i]? = some s → V' c i = snS T s := fun c i s hi => by simp at hi
  have hOK : okP (nwS S T) := ⟨h.ok.1, h.ok.2.1, hT', sc0_ok hT' hd, Nat.zero_le _, hnil, Nat.zero_le _, hnil, fun _ => ⟨rfl, rfl⟩⟩
  refine ⟨hCS, ⟨fun b hb => ?_, ⟨(ol n1).trans hL.2.1.1, (ol n2).trans hL.2.1.2.1, (ol n3).trans hL.2.1.2.2.1, (ol n4).trans hL.2.1.2.2.2.1, (ol n5).trans hL.2.1.2.2.2.2.1, (ol n6).trans hL.2.1.2.2.2.2.2.1, (ol n7).trans hL.2.1.2.2.2.2.2.2⟩, fun i hi => ?_⟩, h.cb, hOK, ?_, ?_, Or.inl h12⟩
  · rw [ol (by have := fx_lt hb; omega)]; exact hL.f hb
  · show owT ow t (t + i) = 20 + i
    unfold owT
    rw [if_pos ⟨by omega, by omega⟩]
    omega
  · obtain ⟨f1, f2, f3, f4, -, -⟩ := h.cf
    exact ⟨(hf 1 (by decide) (by decide) (by decide)).trans f1, (hf 2 (by decide) (by decide) (by decide)).trans f2, (hf 3 (by decide) (by decide) (by decide)).trans f3, fun q => (hf 4 (by decide) (by decide) (by decide)).trans (f4 q), h8, h10⟩
  · exact ⟨fun i hi => by rw [hv 2 (by omega) (by omega) (by omega)]; exact h.cr.1 i hi, hT, hH, hl0 16, hl0 17, h36, fun q => by cases q⟩
theorem wL_begin (h : CW V σ ow y S kn) (ht : tS σ t) (hT : TV V t T) (hU : okU T) (hd : 0 < tDn T) (h53 : 53 ≤ t) (hnm : (dQ1 y < t ∧ dK1 y < t ∧ dQ2 y < t ∧ dK2 y < t) ∧ dRn y < t ∧ dVn y < t ∧ dLn y < t) (hK : ∀ V' : Nat → Nat → Int, CW V' (pS σ 1 5 t) (owT ow t) (t, y.2) (nwS S T) false → (∀ b, b ≠ 1 → b < 10 ∨ 15 < b → b ≠ 36 → V' b = V b) → K none (V', pS σ 1 5 t)) : Wp G 2 mL_begin [vR 1, vR t] (V, σ) 0 0 K := by
  have hW := h.cs
  have he : eS σ (pS σ 1 5 t) (fun b j => b = 1 ∧ j = 5) := eS_put σ 1 5 t ⟨rfl, rfl⟩
  have ho1 : sO (up2 (sP σ) 1 5 t, σ.2) 1 7 := he.o hW.o
  have hh1 : hS (up2 (sP σ) 1 5 t, σ.2) 10 := hW.h.eS he (fun j q => by omega)
  have ht1 : tS (up2 (sP σ) 1 5 t, σ.2) t := ht.eS' he (fun j q => by have q1 : t = 1 := q.1; omega)
  have hr1 : sO (up2 (sP σ) 1 5 t, σ.2) 36 4 := he.o hW.r.o
  have hp6 : sP (up2 (sP σ) 1 5 t, σ.2) 1 6 = 10 := by show up2 (sP σ) 1 5 t 1 6 = 10; rw [up2_nek _ _ (by decide)]; exact hW.p6
  have hp14 : sP (up2 (sP σ) 1 5 t, σ.2) 1 14 = 36 := by show up2 (sP σ) 1 5 t 1 14 = 36; rw [up2_nek _ _ (by decide)]; exact hW.p14
  have hT' := hU.okT hd
  have hs0 := sc0_ok hT' hd
  have hc : okC (c0T T) := hT'.okC hs0
  have hsl : spc (c0T T) ≤ 62500 := spc_le hc
  have hsp : (sc0 T).2.2 < spc (c0T T) := hs0.2.2.2.1 hd
  refine wp_intro mL_begin_i.1 [some (vR 1), some (vR t)] rfl rfl (Nat.le_of_ble_eq_true rfl) ?_
  intro X hG F C
  have hm := C.rm
  refine aw_aload_0 (q := 1) F dL_begin_0 rfl ?_
  refine aw_aload_1 (q := 2) F dL_begin_1 rfl ?_
  refine av_puta (q := 5) F fL_16 dL_begin_2 rfl rfl (wr_7_5 _) (by first | exact hW.o | exact hW.ho | exact hW1.o | exact hW1.ho | exact ho1 | exact hh1.o | exact hr1) ?_
  refine aw_aload_0 (q := 6) F dL_begin_5 rfl ?_
  refine av_getaE (q := 9) F fL_23 dL_begin_6 rfl rfl (by first | exact hW.o | exact hW.ho | exact hW1.o | exact hW1.ho | exact ho1 | exact hh1.o | exact hr1) hp6 ?_
  refine aw_aload_1 (q := 10) F dL_begin_9 rfl ?_
  refine av_callV1 (q := 13) (ci := 2) F hm mH_fit_i mH_fit_n lL_383 dL_begin_10 rfl rfl rfl (by first | exact hW.o | exact hW.ho | exact hW1.o | exact hW1.ho | exact ho1 | exact hh1.o | exact hr1) (by decide) (Nat.le_refl _) (Nat.le_refl _) (Nat.le_of_ble_eq_true rfl) (wH_fit (c := c0T T) hh1 ht1 ⟨by omega, by omega, by omega⟩ hc hT.1.2.1 hT.1.2.2.1 hT.1.2.2.2.1 hT.1.2.2.2.2.1 (fun v10 f10 w10 => ?_))
  have hT1 : TV v10 t T := hT.same (fun i hi => f10.1 _ (by omega) (by omega) (by omega))
  refine aw_aload_0 (q := 14) F dL_begin_13 rfl ?_
  refine av_getaE (q := 17) F fL_23 dL_begin_14 rfl rfl (by first | exact hW.o | exact hW.ho | exact hW1.o | exact hW1.ho | exact ho1 | exact hh1.o | exact hr1) hp6 ?_
  refine aw_aload_0 (q := 18) F dL_begin_17 rfl ?_
  refine av_getaE (q := 21) F fL_23 dL_begin_18 rfl rfl (by first | exact hW.o | exact hW.ho | exact hW1.o | exact hW1.ho | exact ho1 | exact hh1.o | exact hr1) hp6 ?_
  refine aw_aload_1 (q := 22) F dL_begin_21 rfl ?_
  refine av_callV1 (q := 25) (ci := 2) F hm mH_firstScene_i mH_firstScene_n lL_386 dL_begin_22 rfl rfl rfl (by first | exact hW.o | exact hW.ho | exact hW1.o | exact hW1.ho | exact ho1 | exact hh1.o | exact hr1) (by decide) (Nat.le_refl _) (Nat.le_refl _) (Nat.le_of_ble_eq_true rfl) (wH_firstScene (c := c0T T) (f := tAt T) (g := tLd T) (la := tLa T) hh1 ht1 hc rfl w10 hT1.1.2.2.2.2.2 (hT'.2.2.2.2.2.1 hd) (fun d q => (hT1.2.1 d (Nat.lt_of_lt_of_le q hT'.2.1)).1) (fun d q => ⟨(hT1.2.1 d (Nat.lt_of_lt_of_le q hT'.2.1)).2, Nat.lt_succ_of_le (hT'.2.2.2.2.2.2.2.1 d).2⟩) (fun p q => ⟨(hT1.2.2 p (Nat.lt_of_lt_of_le q hT'.2.2.1)).1, Nat.lt_succ_of_le (hT'.2.2.2.2.2.2.2.2.2.1 p)⟩) ?_)
  refine av_callV1 (q := 28) (ci := 2) F hm mH_load_i mH_load_n lL_357 dL_begin_25 rfl rfl rfl (by first | exact hW.o | exact hW.ho | exact hW1.o | exact hW1.ho | exact ho1 | exact hh1.o | exact hr1) (by decide) (Nat.le_refl _) (Nat.le_refl _) (Nat.le_of_ble_eq_true rfl) (wH_load (c := c0T T) (n := (sc0 T).2.2) rfl (by omega) hh1 hc w10 (fun v25 l25 a25 => ?_))
  refine aw_aload_0 (q := 29) F dL_begin_28 rfl ?_
  refine aw_iconst (q := 30) F dL_begin_29 rfl (by decide) ?_
  refine av_puti (q := 33) F fL_354 dL_begin_30 rfl rfl (wr_7_8 _) (by first | exact hW.o | exact hW.ho | exact hW1.o | exact hW1.ho | exact ho1 | exact hh1.o | exact hr1) ?_
  refine aw_aload_0 (q := 34) F dL_begin_33 rfl ?_
  refine aw_iconst (q := 35) F dL_begin_34 rfl (by decide) ?_
  refine av_puti (q := 38) F fL_360 dL_begin_35 rfl rfl (wr_7_10 _) (by first | exact hW.o | exact hW.ho | exact hW1.o | exact hW1.ho | exact ho1 | exact hh1.o | exact hr1) ?_
  refine aw_aload_0 (q := 39) F dL_begin_38 rfl ?_
  refine aw_iconst (q := 40) F dL_begin_39 rfl (by decide) ?_
  refine av_puti (q := 43) F fL_41 dL_begin_40 rfl rfl (wr_7_12 _) (by first | exact hW.o | exact hW.ho | exact hW1.o | exact hW1.ho | exact ho1 | exact hh1.o | exact hr1) ?_
  refine aw_aload_0 (q := 44) F dL_begin_43 rfl ?_
  refine av_getaE (q := 47) F fL_51 dL_begin_44 rfl rfl (by first | exact hW.o | exact hW.ho | exact hW1.o | exact hW1.ho | exact ho1 | exact hh1.o | exact hr1) hp14 ?_
  refine aw_iconst (q := 48) F dL_begin_47 rfl (by decide) ?_
  refine av_putz (q := 51) F fL_390 dL_begin_48 rfl rfl (wr_4_0 _) (by first | exact hW.o | exact hW.ho | exact hW1.o | exact hW1.ho | exact ho1 | exact hh1.o | exact hr1) (by first | exact Or.inl rfl | exact Or.inr rfl | omega) ?_
  refine aw_vret F C dL_begin_51 rfl (Nat.le_refl _) (Nat.le_refl _) ?_
  have e25 : ∀ b, b < 10 ∨ 15 < b → v25 b = V b := fun b hb => (l25.1 b (by omega) (by omega) (by omega) (by omega)).trans (f10.1 b (by omega) (by omega) (by omega))
  have eF : ∀ b, b ≠ 1 → b ≠ 36 → up2 (up2 (up2 (up2 v25 1 8 0) 1 10 0) 1 12 (-1)) 36 0 0 b = v25 b := fun b b1 b2 => by rw [up2_nea _ _ b2, up2_nea _ _ b1, up2_nea _ _ b1, up2_nea _ _ b1]
  have eV : ∀ b, b ≠ 1 → b < 10 ∨ 15 < b → b ≠ 36 → up2 (up2 (up2 (up2 v25 1 8 0) 1 10 0) 1 12 (-1)) 36 0 0 b = V b := fun b b1 b2 b3 => (eF b b1 b3).trans (e25 b b2)
  refine hK _ (h.bg ht (hT.same (fun i hi => eV _ (by omega) (by omega) (by omega))) hU hd h53 hnm eV (fun j j1 j2 j3 => ?_) ?_ ?_ ?_ (up2_same _ _ _ _) (a25.same (fun b b1 b2 => eF b (by omega) (by omega)))) eV
  · rw [up2_nea _ _ (by decide), up2_nek _ _ j3, up2_nek _ _ j2, up2_nek _ _ j1, e25 1 (by omega)]
  · rw [up2_nea _ _ (by decide), up2_nek _ _ (by decide), up2_nek _ _ (by decide), up2_same]
  · rw [up2_nea _ _ (by decide), up2_nek _ _ (by decide), up2_same]
  · rw [up2_nea _ _ (by decide), up2_same]
end Begin
