theorem cpl_t : ∀ o : Nat, o < 16 → ∀ m : Nat, m < 16 → (Int32.ofInt ((Int32.ofInt (o : Int) ^^^ Int32.ofInt (-1)).toInt) &&& Int32.ofInt (m : Int)).toInt = ((m - (m &&& o) : Nat) : Int) := by decide +kernel
theorem cpl_z {o m : Nat} (ho : o < 16) (hm : m < 16) : zand (zxor o (-1)) m = (m - (m &&& o) : Nat) := by
  rw [zand_eq, zxor_eq]
  exact cpl_t o ho m hm
theorem cpr_t : ∀ o : Nat, o < 16 → ∀ m : Nat, m < 16 → (Int32.ofInt (m : Int) &&& Int32.ofInt ((Int32.ofInt (o : Int) ^^^ Int32.ofInt (-1)).toInt)).toInt = ((m - (m &&& o) : Nat) : Int) := by decide +kernel
theorem cpr_z {o m : Nat} (ho : o < 16) (hm : m < 16) : zand m (zxor o (-1)) = (m - (m &&& o) : Nat) := by
  rw [zand_eq, zxor_eq]
  exact cpr_t o ho m hm
theorem HH.nl {V : Nat → Nat → Int} {a dn pn lk ky nl n x : Nat} {kd : Nat → Nat} (h : HH V a (dn, pn, lk, ky, kd, nl) n) (hx : x < 16) : HH (up2 V a 6 x) a (dn, pn, lk, ky, kd, x) n := by
  obtain ⟨hc3, ⟨w0, w1, w2, w3, w4, w5, w6, w9, w10, w11, w12, w13⟩, a1, a2, a3, a4, a5⟩ := h
  have ek : ∀ j, j ≠ 6 → up2 V a 6 (x : Int) a j = V a j := fun j hj => up2_nek _ _ hj
  have eb : ∀ b, b ≠ a → up2 V a 6 (x : Int) b = V b := fun b hb => up2_nea _ _ hb
  refine ⟨⟨hc3.1, hc3.2.1, hc3.2.2.1, hc3.2.2.2.1, hc3.2.2.2.2.1, hx⟩, ⟨(ek 0 (by decide)).trans w0, (ek 1 (by decide)).trans w1, (ek 2 (by decide)).trans w2, (ek 3 (by decide)).trans w3, (ek 4 (by decide)).trans w4, (ek 5 (by decide)).trans w5, up2_same _ _ _ _, (ek 9 (by decide)).trans w9, (ek 10 (by decide)).trans w10, fun q => (ek 11 (by decide)).trans (w11 q), ?_, ?_⟩, (ek 13 (by decide)).trans a1, (ek 12 (by decide)).trans a2, (ek 7 (by decide)).trans a3, ?_, ?_⟩
  · rw [eb (a + 1) (by omega), eb (a + 4) (by omega)]; exact w12
  · rw [eb (a + 5) (by omega)]; exact w13
  · rw [eb (a + 2) (by omega)]; exact a4
  · rw [eb (a + 3) (by omega)]; exact a5
/-- with doors nailed besides, nothing that fits is come to -/
def kpB (S : PS) (P d : Nat) : Bool := (ffO (cfS (psT S) ((psS S).1, (psS S).2.1 ||| d, psA S)) P (fuS (cfS (psT S) ((psS S).1, (psS S).2.1 ||| d, psA S)) (psA S)).1).isNone
def shN (S : PS) : Nat := (2 ^ tDn (psT S) - 1) - ((2 ^ tDn (psT S) - 1) &&& opN S)
def nlT (S : PS) (P k d : Nat) : Bool := d - (d &&& shN S) == 0 && pc4 d == k && kpB S P d
def nlH (S : PS) (P : Nat) : Nat → Nat → Int
  | 0, _ => -2
  | f + 1, k => if fbF (nlT S P k) (2 ^ tDn (psT S)) = -1 then nlH S P f (k + 1) else fbF (nlT S P k) (2 ^ tDn (psT S))
theorem nlH_r (S : PS) (z : Int) (P : Nat) : ∀ f k, nlH (setR S z) P f k = nlH S P f k
  | 0, _ => rfl
  | f + 1, k => by
    show (if fbF (nlT S P k) (2 ^ tDn (psT S)) = -1 then nlH (setR S z) P f (k + 1) else fbF (nlT S P k) (2 ^ tDn (psT S))) = _
    rw [nlH_r S z P f (k + 1)]
    rfl
section Nails
variable {G : GE} {V : Nat → Nat → Int} {σ : Shp} {K : Option AV → Mem → Prop} {ow : Nat → Nat} {y : Dy} {S : PS} {kn : Bool}
theorem wL_keepsFrom {x z : Int} {P d : Nat} (hx : x = P) (hP : P < 33554432) (hz : z = d) (hd16 : d < 2 ^ tDn (psT S)) (hd : 0 < tDn (psT S)) (hB : sX σ + 10 < BG) (h : CW V σ ow y S kn) (hK : ∀ (V' : Nat → Nat → Int) (σ' : Shp) (ow' : Nat → Nat) (y' : Dy), CW V' σ' ow' y' S kn → FR V V' σ σ' ow ow' → dL2 y' = mxQ (dL2 y) (spc (psC S)) → sX σ' = sX σ + nC (dL2 y) (spc (psC S)) → K (some (vI (bz (kpB S P d)))) (V', σ')) : Wp G 5 mL_keepsFrom [vR 1, vI x, vI z] (V, σ) (nC (dL2 y) (spc (psC S))) (nSl (dL2 y) (spc (psC S))) K := by
  have hW := h.cs
  have hc := h.oT.okC h.oS
  have hsl : spc (psC S) ≤ 62500 := spc_le hc
  have hsp : psA S < spc (psC S) := h.oS.2.2.2.1 hd
  have hT := h.tv.1
  have hor : (psS S).2.1 ||| d < 2 ^ tDn (psT S) := Nat.or_lt_two_pow h.oS.2.2.1 hd16
  have ho16 : (psS S).2.1 ||| d < 16 := Nat.lt_of_lt_of_le hor (two_le h.oT.2.1)
  have hcc : okC (cfS (psT S) ((psS S).1, (psS S).2.1 ||| d, psA S)) := ⟨hc.1, hc.2.1, hc.2.2.1, hc.2.2.2.1, hc.2.2.2.2.1, ho16⟩
  refine wp_intro mL_keepsFrom_i.1 [some (vR 1), some (vI x), some (vI z)] rfl rfl (Nat.le_of_ble_eq_true rfl) ?_
  intro X hG F C
  have hm := C.rm
  refine aw_aload_0 (q := 1) F dL_keepsFrom_0 rfl ?_
  refine av_getaE (q := 4) F fL_45 dL_keepsFrom_1 rfl rfl (by first | exact hW.o | exact hW.ho | exact hW.to | exact hW.s2.o | exact hW.s2.ho | exact hW5.o | exact hW5.ho | exact hW5.s2.o | exact hW5.s2.ho) (by first | exact hW.p13 | exact hW5.p13) ?_
  refine aw_aload_0 (q := 5) F dL_keepsFrom_4 rfl ?_
  refine av_getaE (q := 8) F fL_16 dL_keepsFrom_5 rfl rfl (by first | exact hW.o | exact hW.ho | exact hW.to | exact hW.s2.o | exact hW.s2.ho | exact hW5.o | exact hW5.ho | exact hW5.s2.o | exact hW5.s2.ho) (by first | exact hW.p5 | exact hW5.p5) ?_
  refine aw_aload_0 (q := 9) F dL_keepsFrom_8 rfl ?_
  refine av_getaE (q := 12) F fL_23 dL_keepsFrom_9 rfl rfl (by first | exact hW.o | exact hW.ho | exact hW.to | exact hW.s2.o | exact hW.s2.ho | exact hW5.o | exact hW5.ho | exact hW5.s2.o | exact hW5.s2.ho) (by first | exact hW.p6 | exact hW5.p6) ?_
  refine av_callV0 (q := 15) (ci := 2) F hm mH_scene_i mH_scene_n lL_197 dL_keepsFrom_12 rfl rfl rfl (by first | exact hW.o | exact hW.ho | exact hW.to | exact hW.s2.o | exact hW.s2.ho | exact hW5.o | exact hW5.ho | exact hW5.s2.o | exact hW5.s2.ho) (by decide) (Nat.zero_le _) (Nat.zero_le _) (Nat.le_of_ble_eq_true rfl) (wH_scene (c := psC S) (n := psA S) (by omega) hW.h h.hh ?_)
  refine av_callV2 (q := 18) (ci := 5) F hm mS_begin_i mS_begin_n lL_200 dL_keepsFrom_15 rfl rfl rfl (by first | exact hW.o | exact hW.ho | exact hW.to | exact hW.s2.o | exact hW.s2.ho | exact hW5.o | exact hW5.ho | exact hW5.s2.o | exact hW5.s2.ho) (by decide) (by omega) (by omega) (Nat.le_of_ble_eq_true rfl) (wS_begin (c := psC S) (n := psA S) rfl hsp hc hd (by omega) h.cb.2.1 hW.s2 hW.t (h.ta fx27) hT.2.1 hT.2.2.1 hT.2.2.2.1 hT.2.2.2.2.1 (fun v15 sg15 q15 k15 hs15 e15 f15 sq15 n15 x15 => ?_))
  obtain ⟨c5, f5⟩ := h.s2 hs15 e15 f15 n15.1 n15.2
  have hW5 := c5.cs
  have hqs := hs15.qs
  have hks := hs15.ks
  have hh5 : HH v15 28 (psC S) (psA S) := sq15.1.2.1
  have e6 : v15 28 6 = (psS S).2.1 := hh5.2.1.2.2.2.2.2.2.1
  refine aw_aload_0 (q := 19) F dL_keepsFrom_18 rfl ?_
  refine av_getaE (q := 22) F fL_45 dL_keepsFrom_19 rfl rfl (by first | exact hW.o | exact hW.ho | exact hW.to | exact hW.s2.o | exact hW.s2.ho | exact hW5.o | exact hW5.ho | exact hW5.s2.o | exact hW5.s2.ho) (by first | exact hW.p13 | exact hW5.p13) ?_
  refine av_getaE (q := 25) F fL_407 dL_keepsFrom_22 rfl rfl (by first | exact hW.o | exact hW.ho | exact hW.to | exact hW.s2.o | exact hW.s2.ho | exact hW5.o | exact hW5.ho | exact hW5.s2.o | exact hW5.s2.ho) (by first | exact hW.s2.p0 | exact hW5.s2.p0) ?_
  refine aw_dup (q := 26) F dL_keepsFrom_25 rfl trivial ?_
  refine av_geti (q := 29) F fL_127 dL_keepsFrom_26 rfl rfl (by first | exact hW.o | exact hW.ho | exact hW.to | exact hW.s2.o | exact hW.s2.ho | exact hW5.o | exact hW5.ho | exact hW5.s2.o | exact hW5.s2.ho) ?_
  rw [e6]
  refine aw_iload_2 (q := 30) F dL_keepsFrom_29 rfl ?_
  refine aw_ior (q := 31) F dL_keepsFrom_30 rfl ?_
  rw [hz, zor_n (by omega)]
  refine av_puti (q := 34) F fL_127 dL_keepsFrom_31 rfl rfl (wr_2_6 _) (by first | exact hW.o | exact hW.ho | exact hW.to | exact hW.s2.o | exact hW.s2.ho | exact hW5.o | exact hW5.ho | exact hW5.s2.o | exact hW5.s2.ho) ?_
  have sq6 : SQ (up2 v15 28 6 (((psS S).2.1 ||| d : Nat) : Int)) 27 q15 k15 (mxQ (dL2 y) (spc (psC S))) (cfS (psT S) ((psS S).1, (psS S).2.1 ||| d, psA S)) ([(psA S, 0)], 0, 0) (psA S) := by
    obtain ⟨⟨s1, s2, s3⟩, s4, s5⟩ := sq15
    have e27 : up2 v15 28 6 (((psS S).2.1 ||| d : Nat) : Int) 27 = v15 27 := up2_nea _ _ (by decide)
    refine ⟨⟨SV.same (V := v15) s1 (by rw [e27]) (by rw [e27]) (up2_nea _ _ (by omega)) (up2_nea _ _ (by omega)), hh5.nl ho16, by rw [e27]; exact s3⟩, by rw [e27]; exact s4, s5⟩
  refine aw_aload_0 (q := 35) F dL_keepsFrom_34 rfl ?_
  refine av_getaE (q := 38) F fL_45 dL_keepsFrom_35 rfl rfl (by first | exact hW.o | exact hW.ho | exact hW.to | exact hW.s2.o | exact hW.s2.ho | exact hW5.o | exact hW5.ho | exact hW5.s2.o | exact hW5.s2.ho) (by first | exact hW.p13 | exact hW5.p13) ?_
  refine aw_iload_1 (q := 39) F dL_keepsFrom_38 rfl ?_
  refine av_callV1 (q := 42) (ci := 5) F hm mS_firstFit_i mS_firstFit_n lL_187 dL_keepsFrom_39 rfl rfl rfl (by first | exact hW.o | exact hW.ho | exact hW.to | exact hW.s2.o | exact hW.s2.ho | exact hW5.o | exact hW5.ho | exact hW5.s2.o | exact hW5.s2.ho) (by decide) (by omega) (by omega) (Nat.le_of_ble_eq_true rfl) (wS_firstFit (c := cfS (psT S) ((psS S).1, (psS S).2.1 ||| d, psA S)) (P := P) hx hP hs15 sq6 (fun v39 k39 m39 r39 f39 s39 e39 => ?_))
  refine aw_iconst (q := 43) F dL_keepsFrom_42 rfl (by decide) ?_
  refine aw_icmp_ne (q := 46) (t := 50) F dL_keepsFrom_43 rfl (by decide) (fun c43 => ?_) (fun c43 => ?_)
  · refine aw_iconst (q := 51) F dL_keepsFrom_50 rfl (by decide) ?_
    refine aw_zret F C dL_keepsFrom_51 rfl (by decide) (by omega) (by omega) ?_
    obtain ⟨c6, f6⟩ := c5.s2b (V' := v39) (fun b b1 b2 b3 => (f39 b b1 b2 b3).trans (up2_nea _ _ (by omega)))
    refine kI (hK _ _ _ _ c6 (f5.tr f6) rfl x15) ?_
    have hff := ff_fu (c := cfS (psT S) ((psS S).1, (psS S).2.1 ||| d, psA S)) hsp e39
    unfold kpB
    rcases hff with ⟨e1, e2⟩ | ⟨i', e1, e2, e3⟩
    · rw [e2]; first | rfl | (exfalso; omega)
    · rw [e2]; first | rfl | (exfalso; omega)
  · refine aw_iconst (q := 47) F dL_keepsFrom_46 rfl (by decide) ?_
    refine aw_goto (t := 51) F dL_keepsFrom_47 (by decide) ?_
    refine aw_zret F C dL_keepsFrom_51 rfl (by decide) (by omega) (by omega) ?_
    obtain ⟨c6, f6⟩ := c5.s2b (V' := v39) (fun b b1 b2 b3 => (f39 b b1 b2 b3).trans (up2_nea _ _ (by omega)))
    refine kI (hK _ _ _ _ c6 (f5.tr f6) rfl x15) ?_
    have hff := ff_fu (c := cfS (psT S) ((psS S).1, (psS S).2.1 ||| d, psA S)) hsp e39
    unfold kpB
    rcases hff with ⟨e1, e2⟩ | ⟨i', e1, e2, e3⟩
    · rw [e2]; first | rfl | (exfalso; omega)
    · rw [e2]; first | rfl | (exfalso; omega)
theorem wL_fewestNails {x : Int} {P : Nat} (hx : x = P) (hP : P < 33554432) (hd : 0 < tDn (psT S)) (hB : sX σ + 20 < BG) (h : CW V σ ow y S kn) (hK : ∀ (V' : Nat → Nat → Int) (σ' : Shp) (ow' : Nat → Nat) (y' : Dy), CW V' σ' ow' y' S kn → FR V V' σ σ' ow ow' → K (some (vI (nlH S P (tDn (psT S) + 1) 0))) (V', σ')) : Wp G 6 mL_fewestNails [vR 1, vI x] (V, σ) 2 63500 K := by
  have hW := h.cs
  have hc := h.oT.okC h.oS
  have hsl : spc (psC S) ≤ 62500 := spc_le hc
  have hd4 : tDn (psT S) ≤ 4 := h.oT.2.1
  have h16 : 2 ^ tDn (psT S) ≤ 16 := two_le hd4
  have hpos : 0 < 2 ^ tDn (psT S) := Nat.pow_pos (by decide)
  have ho16 : opN S < 16 := Nat.lt_of_lt_of_le (bsum_lt _ _) h16
  have hs16 : shN S < 16 := by unfold shN; omega
  have e2 : zshl 1 (tDn (psT S)) = (2 ^ tDn (psT S) : Nat) := by rw [shl1 (by omega) (by omega), Int.toNat_natCast]
  have hcost : ∀ Q : Nat, nC Q (spc (psC S)) ≤ 2 ∧ nSl Q (spc (psC S)) ≤ 63500 := fun Q => by unfold nC nSl; split <;> omega
  have hc0 : ∀ Q : Nat, nC (mxQ Q (spc (psC S))) (spc (psC S)) = 0 ∧ nSl (mxQ Q (spc (psC S))) (spc (psC S)) = 0 := fun Q => by
    have : ¬ mxQ Q (spc (psC S)) < spc (psC S) := by unfold mxQ; split <;> omega
    unfold nC nSl
    rw [if_neg this, if_neg this]
    exact ⟨rfl, rfl⟩
  refine wp_intro mL_fewestNails_i.1 [some (vR 1), some (vI x), none, none, none, none] rfl rfl (Nat.le_of_ble_eq_true rfl) ?_
  intro X hG F C
  have hm := C.rm
  have inner : ∀ (k : Nat), k ≤ tDn (psT S) → (∀ (V2 : Nat → Nat → Int) (σ2 : Shp) (ow2 : Nat → Nat) (y2 : Dy) (k2 n2 : Nat) (w z : Int) (u : Option AV), CW V2 σ2 ow2 y2 S kn → FR V V2 σ σ2 ow ow2 → k2 + nC (dL2 y2) (spc (psC S)) ≤ 2 → n2 + nSl (dL2 y2) (spc (psC S)) ≤ 63500 → sX σ2 ≤ sX σ + k2 → fbF (nlT S P k) (2 ^ tDn (psT S)) = -1 → w = k → AW X 101 [some (vR 1), some (vI x), some (vI (shN S)), some (vI w), some (vI z), u] [] (V2, σ2) k2 n2) → nlH S P (tDn (psT S) + 1 - k) k = nlH S P (tDn (psT S) + 1) 0 → ∀ (j d : Nat), 2 ^ tDn (psT S) - d = j → d ≤ 2 ^ tDn (psT S) → ∀ (V1 : Nat → Nat → Int) (σ1 : Shp) (ow1 : Nat → Nat) (y1 : Dy) (k1 n1 : Nat) (w z : Int) (u : Option AV), CW V1 σ1 ow1 y1 S kn → FR V V1 σ σ1 ow ow1 → k1 + nC (dL2 y1) (spc (psC S)) ≤ 2 → n1 + nSl (dL2 y1) (spc (psC S)) ≤ 63500 → sX σ1 ≤ sX σ + k1 → (∀ d', d' < d → nlT S P k d' = false) → w = k → z = d → AW X 38 [some (vR 1), some (vI x), some (vI (shN S)), some (vI w), some (vI z), u] [] (V1, σ1) k1 n1 := by
    intro k hk hout hH j
    induction j using Nat.strongRecOn with
    | ind j ih =>
      intro d hj hdl V1 σ1 ow1 y1 k1 n1 w z u c1 f1 hk1 hn1 hX1 hb hw hz
      have hW := c1.cs
      have hv0 : V1 10 0 = tDn (psT S) := c1.v0
      have hnx : nlT S P k d = false → ∀ d', d' < d + 1 → nlT S P k d' = false := fun q d' hd' => by
        by_cases e : d' = d
        · rw [e]; exact q
        · exact hb d' (by omega)
      have hf1 : nlH S P (tDn (psT S) + 1 - k) k = if fbF (nlT S P k) (2 ^ tDn (psT S)) = -1 then nlH S P (tDn (psT S) - k) (k + 1) else fbF (nlT S P k) (2 ^ tDn (psT S)) := by rw [show tDn (psT S) + 1 - k = (tDn (psT S) - k) + 1 by omega]; rfl
      have eand : d < 16 → zand z (zxor (shN S) (-1)) = (d - (d &&& shN S) : Nat) := fun q => by rw [hz]; exact cpr_z hs16 q
      refine aw_iload_4 (q := 40) F dL_fewestNails_38 rfl ?_
      refine aw_iconst (q := 41) F dL_fewestNails_40 rfl (by decide) ?_
      refine aw_aload_0 (q := 42) F dL_fewestNails_41 rfl ?_
      refine av_getaE (q := 45) F fL_23 dL_fewestNails_42 rfl rfl (by first | exact hW.o | exact hW.ho | exact hW.to | exact hW.s2.o | exact hW.s2.ho | exact hW5.o | exact hW5.ho | exact hW5.s2.o | exact hW5.s2.ho) (by first | exact hW.p6 | exact hW5.p6) ?_
      refine av_geti (q := 48) F fL_218 dL_fewestNails_45 rfl rfl (by first | exact hW.o | exact hW.ho | exact hW.to | exact hW.s2.o | exact hW.s2.ho | exact hW5.o | exact hW5.ho | exact hW5.s2.o | exact hW5.s2.ho) ?_
      rw [hv0]
      refine aw_ishl (q := 49) F dL_fewestNails_48 rfl ?_
      rw [e2]
      refine aw_icmp_ge (q := 52) (t := 101) F dL_fewestNails_49 rfl (by decide) (fun c49 => ?_) (fun c49 => ?_)
      · exact hout V1 σ1 ow1 y1 k1 n1 w z _ c1 f1 hk1 hn1 hX1 (fbF_none (fun d' hd' => hb d' (by omega))) hw
      · refine aw_iload_4 (q := 54) F dL_fewestNails_52 rfl ?_
        refine aw_iload_2 (q := 55) F dL_fewestNails_54 rfl ?_
        refine aw_iconst (q := 56) F dL_fewestNails_55 rfl (by decide) ?_
        refine aw_ixor (q := 57) F dL_fewestNails_56 rfl ?_
        refine aw_iand (q := 58) F dL_fewestNails_57 rfl ?_
        rw [eand (by omega)]
        refine aw_if_ne (q := 61) (t := 74) F dL_fewestNails_58 rfl (by decide) (fun c58 => ?_) (fun c58 => ?_)
        · refine aw_iconst (q := 75) F dL_fewestNails_74 rfl (by decide) ?_
          refine aw_istore_5 (q := 77) F dL_fewestNails_75 rfl trivial ?_
          refine aw_iload_5 (q := 79) F dL_fewestNails_77 rfl ?_
          refine aw_if_eq (q := 82) (t := 95) F dL_fewestNails_79 rfl (by decide) (fun c79 => ?_) (fun c79 => absurd c79 (by decide))
          refine aw_iinc_4 (q := 98) F dL_fewestNails_95 rfl trivial (by constructor <;> omega) ?_
          refine aw_goto (t := 38) F dL_fewestNails_98 (by decide) ?_
          first
          | (refine ih _ (by omega) (d + 1) rfl (by omega) v86 sg86 ow86 y86 _ _ _ _ _ c86 (f1.tr f86) (by rw [l86, (hc0 _).1]; omega) (by rw [l86, (hc0 _).2]; omega) (by rw [x86]; omega) (hnx ?_) hw (by omega)
             unfold nlT
             cases hkb : kpB S P d
             · simp
             · rw [hkb] at c89; exact absurd c89 (by decide))
          | (refine ih _ (by omega) (d + 1) rfl (by omega) V1 σ1 ow1 y1 _ _ _ _ _ c1 f1 hk1 hn1 hX1 (hnx ?_) hw (by omega)
             unfold nlT
             first
             | (rw [show (d - (d &&& shN S) == 0) = false from beq_eq_false_iff_ne.mpr (by omega)]; rfl)
             | (rw [show (pc4 d == k) = false from beq_eq_false_iff_ne.mpr (by omega)]; simp))
        · refine aw_iload_4 (q := 63) F dL_fewestNails_61 rfl ?_
          refine av_callS1 (q := 66) F hm mJI_bitCount_i mJI_bitCount_n lL_222 dL_fewestNails_63 rfl (by decide) (by omega) (by omega) (Nat.le_of_ble_eq_true rfl) (wJI_bitCount (by omega) (by omega) ?_)
          rw [hz, zbc_p (by omega)]
          refine aw_iload_3 (q := 67) F dL_fewestNails_66 rfl ?_
          refine aw_icmp_ne (q := 70) (t := 74) F dL_fewestNails_67 rfl (by decide) (fun c67 => ?_) (fun c67 => ?_)
          · refine aw_iconst (q := 75) F dL_fewestNails_74 rfl (by decide) ?_
            refine aw_istore_5 (q := 77) F dL_fewestNails_75 rfl trivial ?_
            refine aw_iload_5 (q := 79) F dL_fewestNails_77 rfl ?_
            refine aw_if_eq (q := 82) (t := 95) F dL_fewestNails_79 rfl (by decide) (fun c79 => ?_) (fun c79 => absurd c79 (by decide))
            refine aw_iinc_4 (q := 98) F dL_fewestNails_95 rfl trivial (by constructor <;> omega) ?_
            refine aw_goto (t := 38) F dL_fewestNails_98 (by decide) ?_
            first
            | (refine ih _ (by omega) (d + 1) rfl (by omega) v86 sg86 ow86 y86 _ _ _ _ _ c86 (f1.tr f86) (by rw [l86, (hc0 _).1]; omega) (by rw [l86, (hc0 _).2]; omega) (by rw [x86]; omega) (hnx ?_) hw (by omega)
               unfold nlT
               cases hkb : kpB S P d
               · simp
               · rw [hkb] at c89; exact absurd c89 (by decide))
            | (refine ih _ (by omega) (d + 1) rfl (by omega) V1 σ1 ow1 y1 _ _ _ _ _ c1 f1 hk1 hn1 hX1 (hnx ?_) hw (by omega)
               unfold nlT
               first
               | (rw [show (d - (d &&& shN S) == 0) = false from beq_eq_false_iff_ne.mpr (by omega)]; rfl)
               | (rw [show (pc4 d == k) = false from beq_eq_false_iff_ne.mpr (by omega)]; simp))
          · refine aw_iconst (q := 71) F dL_fewestNails_70 rfl (by decide) ?_
            refine aw_goto (t := 75) F dL_fewestNails_71 (by decide) ?_
            refine aw_istore_5 (q := 77) F dL_fewestNails_75 rfl trivial ?_
            refine aw_iload_5 (q := 79) F dL_fewestNails_77 rfl ?_
            refine aw_if_eq (q := 82) (t := 95) F dL_fewestNails_79 rfl (by decide) (fun c79 => absurd c79 (by decide)) (fun c79 => ?_)
            refine aw_aload_0 (q := 83) F dL_fewestNails_82 rfl ?_
            refine aw_iload_1 (q := 84) F dL_fewestNails_83 rfl ?_
            refine aw_iload_4 (q := 86) F dL_fewestNails_84 rfl ?_
            refine av_callV2 (q := 89) (ci := 7) F hm mL_keepsFrom_i mL_keepsFrom_n lL_404 dL_fewestNails_86 rfl rfl rfl (by first | exact hW.o | exact hW.ho | exact hW.to | exact hW.s2.o | exact hW.s2.ho | exact hW5.o | exact hW5.ho | exact hW5.s2.o | exact hW5.s2.ho) (by decide) (by omega) (by omega) (Nat.le_of_ble_eq_true rfl) (wL_keepsFrom (P := P) (d := d) hx hP rfl (by omega) hd (by omega) c1 (fun v86 sg86 ow86 y86 c86 f86 l86 x86 => ?_))
            refine aw_if_eq (q := 92) (t := 95) F dL_fewestNails_89 rfl (by decide) (fun c89 => ?_) (fun c89 => ?_)
            · refine aw_iinc_4 (q := 98) F dL_fewestNails_95 rfl trivial (by constructor <;> omega) ?_
              refine aw_goto (t := 38) F dL_fewestNails_98 (by decide) ?_
              first
              | (refine ih _ (by omega) (d + 1) rfl (by omega) v86 sg86 ow86 y86 _ _ _ _ _ c86 (f1.tr f86) (by rw [l86, (hc0 _).1]; omega) (by rw [l86, (hc0 _).2]; omega) (by rw [x86]; omega) (hnx ?_) hw (by omega)
                 unfold nlT
                 cases hkb : kpB S P d
                 · simp
                 · rw [hkb] at c89; exact absurd c89 (by decide))
              | (refine ih _ (by omega) (d + 1) rfl (by omega) V1 σ1 ow1 y1 _ _ _ _ _ c1 f1 hk1 hn1 hX1 (hnx ?_) hw (by omega)
                 unfold nlT
                 first
                 | (rw [show (d - (d &&& shN S) == 0) = false from beq_eq_false_iff_ne.mpr (by omega)]; rfl)
                 | (rw [show (pc4 d == k) = false from beq_eq_false_iff_ne.mpr (by omega)]; simp))
            · refine aw_iload_4 (q := 94) F dL_fewestNails_92 rfl ?_
              refine aw_iret F C dL_fewestNails_94 rfl (by omega) (by omega) ?_
              refine kI (hK _ _ _ _ c86 (f1.tr f86)) ?_
              have hkb : kpB S P d = true := by cases hq : kpB S P d; rw [hq] at c89; exact absurd rfl c89; rfl
              have ht : nlT S P k d = true := by unfold nlT; rw [hkb, show (d - (d &&& shN S) == 0) = true from beq_iff_eq.mpr (by omega), show (pc4 d == k) = true from beq_iff_eq.mpr (by omega)]; rfl
              have hfb := fbF_some ht hb (n := 2 ^ tDn (psT S)) (by omega)
              rw [← hH, hf1, hfb, if_neg (by omega)]
  have outer : ∀ (j k : Nat), tDn (psT S) + 1 - k = j → k ≤ tDn (psT S) + 1 → ∀ (V1 : Nat → Nat → Int) (σ1 : Shp) (ow1 : Nat → Nat) (y1 : Dy) (k1 n1 : Nat) (w : Int) (u u2 : Option AV), CW V1 σ1 ow1 y1 S kn → FR V V1 σ σ1 ow ow1 → k1 + nC (dL2 y1) (spc (psC S)) ≤ 2 → n1 + nSl (dL2 y1) (spc (psC S)) ≤ 63500 → sX σ1 ≤ sX σ + k1 → nlH S P (tDn (psT S) + 1 - k) k = nlH S P (tDn (psT S) + 1) 0 → w = k → AW X 24 [some (vR 1), some (vI x), some (vI (shN S)), some (vI w), u, u2] [] (V1, σ1) k1 n1 := by
    intro j
    induction j using Nat.strongRecOn with
    | ind j ih =>
      intro k hj hk V1 σ1 ow1 y1 k1 n1 w u u2 c1 f1 hk1 hn1 hX1 hH hw
      have hW := c1.cs
      have hv0 : V1 10 0 = tDn (psT S) := c1.v0
      have hout : k ≤ tDn (psT S) → ∀ (V2 : Nat → Nat → Int) (σ2 : Shp) (ow2 : Nat → Nat) (y2 : Dy) (k2 n2 : Nat) (w z : Int) (u : Option AV), CW V2 σ2 ow2 y2 S kn → FR V V2 σ σ2 ow ow2 → k2 + nC (dL2 y2) (spc (psC S)) ≤ 2 → n2 + nSl (dL2 y2) (spc (psC S)) ≤ 63500 → sX σ2 ≤ sX σ + k2 → fbF (nlT S P k) (2 ^ tDn (psT S)) = -1 → w = k → AW X 101 [some (vR 1), some (vI x), some (vI (shN S)), some (vI w), some (vI z), u] [] (V2, σ2) k2 n2 := by
        intro hkl V2 σ2 ow2 y2 k2 n2 w z u c2 f2 hk2 hn2 hX2 hfb hw
        have hf1 : nlH S P (tDn (psT S) + 1 - k) k = if fbF (nlT S P k) (2 ^ tDn (psT S)) = -1 then nlH S P (tDn (psT S) - k) (k + 1) else fbF (nlT S P k) (2 ^ tDn (psT S)) := by rw [show tDn (psT S) + 1 - k = (tDn (psT S) - k) + 1 by omega]; rfl
        rw [if_pos hfb] at hf1
        refine aw_iinc_3 (q := 104) F dL_fewestNails_101 rfl trivial (by constructor <;> omega) ?_
        refine aw_goto (t := 24) F dL_fewestNails_104 (by decide) ?_
        refine ih _ (by omega) (k + 1) rfl (by omega) V2 σ2 ow2 y2 k2 n2 _ _ _ c2 f2 hk2 hn2 hX2 ?_ (by omega)
        rw [show tDn (psT S) + 1 - (k + 1) = tDn (psT S) - k by omega, ← hf1]; exact hH
      refine aw_iload_3 (q := 25) F dL_fewestNails_24 rfl ?_
      refine aw_aload_0 (q := 26) F dL_fewestNails_25 rfl ?_
      refine av_getaE (q := 29) F fL_23 dL_fewestNails_26 rfl rfl (by first | exact hW.o | exact hW.ho | exact hW.to | exact hW.s2.o | exact hW.s2.ho | exact hW5.o | exact hW5.ho | exact hW5.s2.o | exact hW5.s2.ho) (by first | exact hW.p6 | exact hW5.p6) ?_
      refine av_geti (q := 32) F fL_218 dL_fewestNails_29 rfl rfl (by first | exact hW.o | exact hW.ho | exact hW.to | exact hW.s2.o | exact hW.s2.ho | exact hW5.o | exact hW5.ho | exact hW5.s2.o | exact hW5.s2.ho) ?_
      refine aw_icmp_gt (q := 35) (t := 107) F dL_fewestNails_32 rfl (by decide) (fun c32 => ?_) (fun c32 => ?_)
      · refine aw_bipush (q := 109) F dL_fewestNails_107 rfl (by decide) ?_
        refine aw_iret F C dL_fewestNails_109 rfl (by omega) (by omega) ?_
        refine kI (hK _ _ _ _ c1 f1) ?_
        rw [← hH, show tDn (psT S) + 1 - k = 0 by omega]; rfl
      · refine aw_iconst (q := 36) F dL_fewestNails_35 rfl (by decide) ?_
        refine aw_istore_4 (q := 38) F dL_fewestNails_36 rfl trivial ?_
        exact inner k (by omega) (hout (by omega)) hH _ 0 rfl (by omega) V1 σ1 ow1 y1 k1 n1 w 0 _ c1 f1 hk1 hn1 hX1 (fun d' hd' => absurd hd' (by omega)) hw rfl
  have hv0 : V 10 0 = tDn (psT S) := h.v0
  have hcs := hcost (dL2 y)
  have esh : zand (zxor (opN S) (-1)) ((2 ^ tDn (psT S) : Nat) - 1) = (shN S : Nat) := by
    rw [show ((2 ^ tDn (psT S) : Nat) : Int) - 1 = ((2 ^ tDn (psT S) - 1 : Nat) : Int) by omega]
    exact cpl_z ho16 (by omega)
  refine aw_aload_0 (q := 1) F dL_fewestNails_0 rfl ?_
  refine av_getaE (q := 4) F fL_23 dL_fewestNails_1 rfl rfl (by first | exact hW.o | exact hW.ho | exact hW.to | exact hW.s2.o | exact hW.s2.ho | exact hW5.o | exact hW5.ho | exact hW5.s2.o | exact hW5.s2.ho) (by first | exact hW.p6 | exact hW5.p6) ?_
  refine av_callV0 (q := 7) (ci := 2) F hm mH_openDoors_i mH_openDoors_n lL_279 dL_fewestNails_4 rfl rfl rfl (by first | exact hW.o | exact hW.ho | exact hW.to | exact hW.s2.o | exact hW.s2.ho | exact hW5.o | exact hW5.ho | exact hW5.s2.o | exact hW5.s2.ho) (by decide) (by decide) (by decide) (Nat.le_of_ble_eq_true rfl) (wH_openDoors hW.h h.hh ?_)
  refine aw_iconst (q := 8) F dL_fewestNails_7 rfl (by decide) ?_
  refine aw_ixor (q := 9) F dL_fewestNails_8 rfl ?_
  refine aw_iconst (q := 10) F dL_fewestNails_9 rfl (by decide) ?_
  refine aw_aload_0 (q := 11) F dL_fewestNails_10 rfl ?_
  refine av_getaE (q := 14) F fL_23 dL_fewestNails_11 rfl rfl (by first | exact hW.o | exact hW.ho | exact hW.to | exact hW.s2.o | exact hW.s2.ho | exact hW5.o | exact hW5.ho | exact hW5.s2.o | exact hW5.s2.ho) (by first | exact hW.p6 | exact hW5.p6) ?_
  refine av_geti (q := 17) F fL_218 dL_fewestNails_14 rfl rfl (by first | exact hW.o | exact hW.ho | exact hW.to | exact hW.s2.o | exact hW.s2.ho | exact hW5.o | exact hW5.ho | exact hW5.s2.o | exact hW5.s2.ho) ?_
  rw [hv0]
  refine aw_ishl (q := 18) F dL_fewestNails_17 rfl ?_
  rw [e2]
  refine aw_iconst (q := 19) F dL_fewestNails_18 rfl (by decide) ?_
  refine aw_isub (q := 20) F dL_fewestNails_19 rfl (by constructor <;> omega) ?_
  refine aw_iand (q := 21) F dL_fewestNails_20 rfl ?_
  rw [show zand (zxor (bsum (fun d => ld (psC S) (psA S) d != 0) (dN (psC S)) : Nat) (-1)) ((2 ^ tDn (psT S) : Nat) - 1) = (shN S : Nat) from esh]
  refine aw_istore_2 (q := 22) F dL_fewestNails_21 rfl trivial ?_
  refine aw_iconst (q := 23) F dL_fewestNails_22 rfl (by decide) ?_
  refine aw_istore_3 (q := 24) F dL_fewestNails_23 rfl trivial ?_
  exact outer _ 0 rfl (by omega) V σ ow y 0 0 _ _ _ h (FR.rf _ _ _) (by omega) (by omega) (by omega) rfl rfl
theorem wL_nails {p l : Int} (hB : sX σ + 20 < BG) (h : CW V σ ow y S kn) (hK : CK K V σ ow (setR S (wy ((0 ≤ p ∧ p < tPn (psT S)) ∧ 0 ≤ l ∧ l < tDn (psT S)) True)) kn (some (vI (rfD (wy ((0 ≤ p ∧ p < tPn (psT S)) ∧ 0 ≤ l ∧ l < tDn (psT S)) True) (nlH S (plW S p (l + 1)) (tDn (psT S) + 1) 0) (-1))))) : Wp G 7 mL_nails [vR 1, vI p, vI l] (V, σ) 2 63500 K := by
  have hW := h.cs
  have hv := h.v0
  have hv1 := h.v1
  have h2 := h.tr (z := 0) (by decide)
  obtain ⟨g, r1, -⟩ := g3 hK
  have hc := h.oT.okC h.oS
  have hd4 : tDn (psT S) ≤ 4 := h.oT.2.1
  refine wp_intro mL_nails_i.1 [some (vR 1), some (vI p), some (vI l)] rfl rfl (Nat.le_of_ble_eq_true rfl) ?_
  intro X hG F C
  have hm := C.rm
  have go : (0 ≤ p ∧ p < tPn (psT S)) ∧ 0 ≤ l ∧ l < tDn (psT S) → AW X 37 [some (vR 1), some (vI p), some (vI l)] [] (up2 V 1 2 0, σ) 0 0 := by
    intro hw
    refine aw_aload_0 (q := 38) F dL_nails_37 rfl ?_
    refine aw_aload_0 (q := 39) F dL_nails_38 rfl ?_
    refine av_getaE (q := 42) F fL_23 dL_nails_39 rfl rfl (by first | exact hW.o | exact hW.ho | exact hW.to | exact hW.s2.o | exact hW.s2.ho | exact hW5.o | exact hW5.ho | exact hW5.s2.o | exact hW5.s2.ho) (by first | exact hW.p6 | exact hW5.p6) ?_
    refine aw_iload_1 (q := 43) F dL_nails_42 rfl ?_
    refine aw_iload_2 (q := 44) F dL_nails_43 rfl ?_
    refine aw_iconst (q := 45) F dL_nails_44 rfl (by decide) ?_
    refine aw_iadd (q := 46) F dL_nails_45 rfl (by constructor <;> omega) ?_
    refine av_callV2 (q := 49) (ci := 2) F hm mH_placingsWith_i mH_placingsWith_n lL_209 dL_nails_46 rfl rfl rfl (by first | exact hW.o | exact hW.ho | exact hW.to | exact hW.s2.o | exact hW.s2.ho | exact hW5.o | exact hW5.ho | exact hW5.s2.o | exact hW5.s2.ho) (by decide) (by decide) (by decide) (Nat.le_of_ble_eq_true rfl) (wH_placingsWith hW.h (show HH (up2 V 1 2 0) 10 (psC S) (psA S) from h2.hh) ?_)
    refine av_callV1 (q := 52) (ci := 7) F hm mL_fewestNails_i mL_fewestNails_n lL_246 dL_nails_49 rfl rfl rfl (by first | exact hW.o | exact hW.ho | exact hW.to | exact hW.s2.o | exact hW.s2.ho | exact hW5.o | exact hW5.ho | exact hW5.s2.o | exact hW5.s2.ho) (by decide) (Nat.le_refl _) (Nat.le_refl _) (Nat.le_of_ble_eq_true rfl) (wL_fewestNails (S := setR S 0) (P := plW S p (l + 1)) rfl (bs25 hc _) (show 0 < tDn (psT S) by omega) hB h2 (fun v49 sg49 ow49 y49 c49 f49 => ?_))
    refine aw_iret F C dL_nails_52 rfl (by decide) (by decide) ?_
    rw [nlH_r]; exact g hw trivial _ _ _ _ c49 (h.fr.tr f49)
  refine aw_aload_0 (q := 1) F dL_nails_0 rfl ?_
  refine aw_aload_0 (q := 2) F dL_nails_1 rfl ?_
  refine av_getaE (q := 5) F fL_23 dL_nails_2 rfl rfl (by first | exact hW.o | exact hW.ho | exact hW.to | exact hW.s2.o | exact hW.s2.ho | exact hW5.o | exact hW5.ho | exact hW5.s2.o | exact hW5.s2.ho) (by first | exact hW.p6 | exact hW5.p6) ?_
  refine aw_iload_1 (q := 6) F dL_nails_5 rfl ?_
  refine av_callV1 (q := 9) (ci := 2) F hm mH_isPerson_i mH_isPerson_n lL_136 dL_nails_6 rfl rfl rfl (by first | exact hW.o | exact hW.ho | exact hW.to | exact hW.s2.o | exact hW.s2.ho | exact hW5.o | exact hW5.ho | exact hW5.s2.o | exact hW5.s2.ho) (by decide) (by decide) (by decide) (Nat.le_of_ble_eq_true rfl) (wH_isPerson hW.h (fun c6 => ?_) (fun c6 => ?_))
  · refine aw_if_eq (q := 12) (t := 27) F dL_nails_9 rfl (by decide) (fun c9 => absurd c9 (by decide)) (fun c9 => ?_)
    refine aw_aload_0 (q := 13) F dL_nails_12 rfl ?_
    refine av_getaE (q := 16) F fL_23 dL_nails_13 rfl rfl (by first | exact hW.o | exact hW.ho | exact hW.to | exact hW.s2.o | exact hW.s2.ho | exact hW5.o | exact hW5.ho | exact hW5.s2.o | exact hW5.s2.ho) (by first | exact hW.p6 | exact hW5.p6) ?_
    refine aw_iload_2 (q := 17) F dL_nails_16 rfl ?_
    refine av_callV1 (q := 20) (ci := 2) F hm mH_isDoor_i mH_isDoor_n lL_110 dL_nails_17 rfl rfl rfl (by first | exact hW.o | exact hW.ho | exact hW.to | exact hW.s2.o | exact hW.s2.ho | exact hW5.o | exact hW5.ho | exact hW5.s2.o | exact hW5.s2.ho) (by decide) (by decide) (by decide) (Nat.le_of_ble_eq_true rfl) (wH_isDoor hW.h (fun c17 => ?_) (fun c17 => ?_))
    · refine aw_if_eq (q := 23) (t := 27) F dL_nails_20 rfl (by decide) (fun c20 => absurd c20 (by decide)) (fun c20 => ?_)
      refine aw_iconst (q := 24) F dL_nails_23 rfl (by decide) ?_
      refine aw_goto (t := 28) F dL_nails_24 (by decide) ?_
      refine aw_iconst (q := 29) F dL_nails_28 rfl (by decide) ?_
      refine av_callV2 (q := 32) (ci := 7) F hm mL_passes_i mL_passes_n lL_114 dL_nails_29 rfl rfl rfl (by first | exact hW.o | exact hW.ho | exact hW.to | exact hW.s2.o | exact hW.s2.ho | exact hW5.o | exact hW5.ho | exact hW5.s2.o | exact hW5.s2.ho) (by decide) (by decide) (by decide) (Nat.le_of_ble_eq_true rfl) (wL_passes hW (fun c29 d29 => ?_) (fun c29 => ?_) (fun c29 d29 => ?_))
      · refine aw_if_ne (q := 35) (t := 37) F dL_nails_32 rfl (by decide) (fun c32 => ?_) (fun c32 => absurd c32 (by decide))
        first | (exfalso; omega) | exact go (by omega)
      · refine aw_if_ne (q := 35) (t := 37) F dL_nails_32 rfl (by decide) (fun c32 => absurd c32 (by decide)) (fun c32 => ?_)
        refine aw_iconst (q := 36) F dL_nails_35 rfl (by decide) ?_
        refine aw_iret F C dL_nails_36 rfl (by decide) (by decide) ?_
        first | (exfalso; omega) | exact h.now (by decide) (r1 (by omega))
      · refine aw_if_ne (q := 35) (t := 37) F dL_nails_32 rfl (by decide) (fun c32 => absurd c32 (by decide)) (fun c32 => ?_)
        refine aw_iconst (q := 36) F dL_nails_35 rfl (by decide) ?_
        refine aw_iret F C dL_nails_36 rfl (by decide) (by decide) ?_
        first | (exfalso; omega) | exact h.now (by decide) (r1 (by omega))
    · refine aw_if_eq (q := 23) (t := 27) F dL_nails_20 rfl (by decide) (fun c20 => ?_) (fun c20 => absurd c20 (by decide))
      refine aw_iconst (q := 28) F dL_nails_27 rfl (by decide) ?_
      refine aw_iconst (q := 29) F dL_nails_28 rfl (by decide) ?_
      refine av_callV2 (q := 32) (ci := 7) F hm mL_passes_i mL_passes_n lL_114 dL_nails_29 rfl rfl rfl (by first | exact hW.o | exact hW.ho | exact hW.to | exact hW.s2.o | exact hW.s2.ho | exact hW5.o | exact hW5.ho | exact hW5.s2.o | exact hW5.s2.ho) (by decide) (by decide) (by decide) (Nat.le_of_ble_eq_true rfl) (wL_passes hW (fun c29 d29 => ?_) (fun c29 => ?_) (fun c29 d29 => ?_))
      · refine aw_if_ne (q := 35) (t := 37) F dL_nails_32 rfl (by decide) (fun c32 => ?_) (fun c32 => absurd c32 (by decide))
        first | (exfalso; omega) | exact go (by omega)
      · refine aw_if_ne (q := 35) (t := 37) F dL_nails_32 rfl (by decide) (fun c32 => absurd c32 (by decide)) (fun c32 => ?_)
        refine aw_iconst (q := 36) F dL_nails_35 rfl (by decide) ?_
        refine aw_iret F C dL_nails_36 rfl (by decide) (by decide) ?_
        first | (exfalso; omega) | exact h.now (by decide) (r1 (by omega))
      · refine aw_if_ne (q := 35) (t := 37) F dL_nails_32 rfl (by decide) (fun c32 => absurd c32 (by decide)) (fun c32 => ?_)
        refine aw_iconst (q := 36) F dL_nails_35 rfl (by decide) ?_
        refine aw_iret F C dL_nails_36 rfl (by decide) (by decide) ?_
        first | (exfalso; omega) | exact h.now (by decide) (r1 (by omega))
  · refine aw_if_eq (q := 12) (t := 27) F dL_nails_9 rfl (by decide) (fun c9 => ?_) (fun c9 => absurd c9 (by decide))
    refine aw_iconst (q := 28) F dL_nails_27 rfl (by decide) ?_
    refine aw_iconst (q := 29) F dL_nails_28 rfl (by decide) ?_
    refine av_callV2 (q := 32) (ci := 7) F hm mL_passes_i mL_passes_n lL_114 dL_nails_29 rfl rfl rfl (by first | exact hW.o | exact hW.ho | exact hW.to | exact hW.s2.o | exact hW.s2.ho | exact hW5.o | exact hW5.ho | exact hW5.s2.o | exact hW5.s2.ho) (by decide) (by decide) (by decide) (Nat.le_of_ble_eq_true rfl) (wL_passes hW (fun c29 d29 => ?_) (fun c29 => ?_) (fun c29 d29 => ?_))
    · refine aw_if_ne (q := 35) (t := 37) F dL_nails_32 rfl (by decide) (fun c32 => ?_) (fun c32 => absurd c32 (by decide))
      first | (exfalso; omega) | exact go (by omega)
    · refine aw_if_ne (q := 35) (t := 37) F dL_nails_32 rfl (by decide) (fun c32 => absurd c32 (by decide)) (fun c32 => ?_)
      refine aw_iconst (q := 36) F dL_nails_35 rfl (by decide) ?_
      refine aw_iret F C dL_nails_36 rfl (by decide) (by decide) ?_
      first | (exfalso; omega) | exact h.now (by decide) (r1 (by omega))
    · refine aw_if_ne (q := 35) (t := 37) F dL_nails_32 rfl (by decide) (fun c32 => absurd c32 (by decide)) (fun c32 => ?_)
      refine aw_iconst (q := 36) F dL_nails_35 rfl (by decide) ?_
      refine aw_iret F C dL_nails_36 rfl (by decide) (by decide) ?_
      first | (exfalso; omega) | exact h.now (by decide) (r1 (by omega))
end Nails
