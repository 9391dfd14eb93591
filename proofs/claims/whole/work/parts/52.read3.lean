theorem TV.dr {V : Nat → Nat → Int} {t : Nat} {T : TL} {z : Int} {v : Nat} (h : TV V t T) (hz : z = (v : Nat)) : TV (up2 V t 0 z) t (uDr T v) := by
  obtain ⟨⟨a0, a1, a2, a3, a4, a5⟩, b, c⟩ := h
  exact ⟨⟨by rw [up2_same]; exact hz, (up2_nek _ _ (by decide)).trans a1, (up2_nek _ _ (by decide)).trans a2, (up2_nek _ _ (by decide)).trans a3, (up2_nek _ _ (by decide)).trans a4, (up2_nek _ _ (by decide)).trans a5⟩, fun d hd => by rw [up2_nea _ _ (by omega), up2_nea _ _ (by omega)]; exact b d hd, fun p hp => by rw [up2_nea _ _ (by omega), up2_nea _ _ (by omega), up2_nea _ _ (by omega), up2_nea _ _ (by omega)]; exact c p hp⟩
theorem TV.pn {V : Nat → Nat → Int} {t : Nat} {T : TL} {z : Int} (h : TV V t T) (hz : z = (tPn T + 1 : Nat)) : TV (up2 V t 2 z) t (uPn T) := by
  obtain ⟨⟨a0, a1, a2, a3, a4, a5⟩, b, c⟩ := h
  exact ⟨⟨(up2_nek _ _ (by decide)).trans a0, (up2_nek _ _ (by decide)).trans a1, by rw [up2_same]; exact hz, (up2_nek _ _ (by decide)).trans a3, (up2_nek _ _ (by decide)).trans a4, (up2_nek _ _ (by decide)).trans a5⟩, fun d hd => by rw [up2_nea _ _ (by omega), up2_nea _ _ (by omega)]; exact b d hd, fun p hp => by rw [up2_nea _ _ (by omega), up2_nea _ _ (by omega), up2_nea _ _ (by omega), up2_nea _ _ (by omega)]; exact c p hp⟩
theorem TV.lk {V : Nat → Nat → Int} {t : Nat} {T : TL} {z : Int} {d : Nat} (h : TV V t T) (hz : z = (tLk T ||| 2 ^ d : Nat)) : TV (up2 V t 3 z) t (uLk T d) := by
  obtain ⟨⟨a0, a1, a2, a3, a4, a5⟩, b, c⟩ := h
  exact ⟨⟨(up2_nek _ _ (by decide)).trans a0, (up2_nek _ _ (by decide)).trans a1, (up2_nek _ _ (by decide)).trans a2, by rw [up2_same]; exact hz, (up2_nek _ _ (by decide)).trans a4, (up2_nek _ _ (by decide)).trans a5⟩, fun d hd => by rw [up2_nea _ _ (by omega), up2_nea _ _ (by omega)]; exact b d hd, fun p hp => by rw [up2_nea _ _ (by omega), up2_nea _ _ (by omega), up2_nea _ _ (by omega), up2_nea _ _ (by omega)]; exact c p hp⟩
theorem TV.ky {V : Nat → Nat → Int} {t : Nat} {T : TL} {z : Int} {d : Nat} (h : TV V t T) (hz : z = (tKy T ||| 2 ^ d : Nat)) : TV (up2 V t 4 z) t (uKy T d) := by
  obtain ⟨⟨a0, a1, a2, a3, a4, a5⟩, b, c⟩ := h
  exact ⟨⟨(up2_nek _ _ (by decide)).trans a0, (up2_nek _ _ (by decide)).trans a1, (up2_nek _ _ (by decide)).trans a2, (up2_nek _ _ (by decide)).trans a3, by rw [up2_same]; exact hz, (up2_nek _ _ (by decide)).trans a5⟩, fun d hd => by rw [up2_nea _ _ (by omega), up2_nea _ _ (by omega)]; exact b d hd, fun p hp => by rw [up2_nea _ _ (by omega), up2_nea _ _ (by omega), up2_nea _ _ (by omega), up2_nea _ _ (by omega)]; exact c p hp⟩
theorem TV.la {V : Nat → Nat → Int} {t : Nat} {T : TL} {z : Int} {d : Nat} (h : TV V t T) (hz : z = (d : Nat)) : TV (up2 V t 5 z) t (uLa T d) := by
  obtain ⟨⟨a0, a1, a2, a3, a4, a5⟩, b, c⟩ := h
  exact ⟨⟨(up2_nek _ _ (by decide)).trans a0, (up2_nek _ _ (by decide)).trans a1, (up2_nek _ _ (by decide)).trans a2, (up2_nek _ _ (by decide)).trans a3, (up2_nek _ _ (by decide)).trans a4, by rw [up2_same]; exact hz⟩, fun d hd => by rw [up2_nea _ _ (by omega), up2_nea _ _ (by omega)]; exact b d hd, fun p hp => by rw [up2_nea _ _ (by omega), up2_nea _ _ (by omega), up2_nea _ _ (by omega), up2_nea _ _ (by omega)]; exact c p hp⟩
theorem TV.dn {V : Nat → Nat → Int} {t k : Nat} {T : TL} {z w : Int} (h : TV V t T) (hz : z = (k : Nat)) (hw : w = (tDn T + 1 : Nat)) : TV (up2 (up2 V (t + 1) (tDn T) z) t 1 w) t (uDo T k) := by
  obtain ⟨⟨a0, a1, a2, a3, a4, a5⟩, b, c⟩ := h
  have e0 : ∀ j, j ≠ 1 → up2 (up2 V (t + 1) (tDn T) z) t 1 w t j = V t j := fun j hj => by rw [up2_nek _ _ hj, up2_nea _ _ (by omega)]
  have eb : ∀ i, i ≠ 0 → i ≠ 1 → up2 (up2 V (t + 1) (tDn T) z) t 1 w (t + i) = V (t + i) := fun i h0 h1 => by rw [up2_nea _ _ (by omega), up2_nea _ _ (by omega)]
  refine ⟨⟨(e0 0 (by decide)).trans a0, by rw [up2_same]; exact hw, (e0 2 (by decide)).trans a2, (e0 3 (by decide)).trans a3, (e0 4 (by decide)).trans a4, (e0 5 (by decide)).trans a5⟩, fun d hd => ⟨?_, ?_⟩, fun p hp => ?_⟩
  · rw [up2_nea _ _ (by omega)]
    show up2 V (t + 1) (tDn T) z (t + 1) d = ((uF (tKd T) (tDn T) k d : Nat) : Int)
    unfold uF
    by_cases q : d = tDn T
    · rw [q, up2_same, if_pos rfl]; exact hz
    · rw [up2_nek _ _ q, if_neg q]; exact (b d hd).1
  · rw [eb 2 (by decide) (by decide)]; exact (b d hd).2
  · rw [eb 3 (by decide) (by decide), eb 4 (by decide) (by decide), eb 5 (by decide) (by decide), eb 6 (by decide) (by decide)]; exact c p hp
theorem TV.ld {V : Nat → Nat → Int} {t d v : Nat} {T : TL} {z : Int} (h : TV V t T) (hz : z = (v : Nat)) : TV (up2 V (t + 2) d z) t (uLd T d v) := by
  obtain ⟨a, b, c⟩ := h
  have eb : ∀ i, i ≠ 2 → up2 V (t + 2) d z (t + i) = V (t + i) := fun i h0 => up2_nea _ _ (by omega)
  have e0 : up2 V (t + 2) d z t = V t := eb 0 (by decide)
  refine ⟨by rw [e0]; exact a, fun d' hd => ⟨?_, ?_⟩, fun p hp => ?_⟩
  · rw [eb 1 (by decide)]; exact (b d' hd).1
  · show up2 V (t + 2) d z (t + 2) d' = ((uF (tLd T) d v d' : Nat) : Int)
    unfold uF
    by_cases q : d' = d
    · rw [q, up2_same, if_pos rfl]; exact hz
    · rw [up2_nek _ _ q, if_neg q]; exact (b d' hd).2
  · rw [eb 3 (by decide), eb 4 (by decide), eb 5 (by decide), eb 6 (by decide)]; exact c p hp
theorem TV.att {V : Nat → Nat → Int} {t d v : Nat} {T : TL} {z : Int} (h : TV V t T) (hz : z = (v : Nat)) : TV (up2 V (t + 3) d z) t (uAt T d v) := by
  obtain ⟨a, b, c⟩ := h
  have eb : ∀ i, i ≠ 3 → up2 V (t + 3) d z (t + i) = V (t + i) := fun i h0 => up2_nea _ _ (by omega)
  have e0 : up2 V (t + 3) d z t = V t := eb 0 (by decide)
  refine ⟨by rw [e0]; exact a, fun d' hd => by rw [eb 1 (by decide), eb 2 (by decide)]; exact b d' hd, fun p hp => ⟨?_, ?_⟩⟩
  · show up2 V (t + 3) d z (t + 3) p = ((uF (tAt T) d v p : Nat) : Int)
    unfold uF
    by_cases q : p = d
    · rw [q, up2_same, if_pos rfl]; exact hz
    · rw [up2_nek _ _ q, if_neg q]; exact (c p hp).1
  · rw [eb 4 (by decide), eb 5 (by decide), eb 6 (by decide)]; exact (c p hp).2
theorem TV.pl {V : Nat → Nat → Int} {t d s : Nat} {T : TL} {z : Int} (hs : s < 3) (h : TV V t T) : TV (up2 V (t + 4 + s) d z) t (uPl s T d z) := by
  obtain ⟨a, b, c⟩ := h
  have eb : ∀ i, i < 4 → up2 V (t + 4 + s) d z (t + i) = V (t + i) := fun i h0 => up2_nea _ _ (by omega)
  have e0 : up2 V (t + 4 + s) d z t = V t := eb 0 (by decide)
  have eq : ∀ (f : Nat → Int) (p : Nat), V (t + 4 + s) p = f p → up2 V (t + 4 + s) d z (t + 4 + s) p = uF f d z p := fun f p hf => by
    unfold uF
    by_cases q : p = d
    · rw [q, up2_same, if_pos rfl]
    · rw [up2_nek _ _ q, if_neg q]; exact hf
  have en : ∀ i, i ≠ 4 + s → up2 V (t + 4 + s) d z (t + i) = V (t + i) := fun i h0 => up2_nea _ _ (by omega)
  refine ⟨by rw [e0]; exact a, fun d' hd => by rw [eb 1 (by decide), eb 2 (by decide)]; exact b d' hd, fun p hp => ⟨by rw [eb 3 (by decide)]; exact (c p hp).1, ?_⟩⟩
  have cc := c p hp
  match s, hs with
  | 0, _ => exact ⟨eq _ p cc.2.1, by rw [en 5 (by decide)]; exact cc.2.2.1, by rw [en 6 (by decide)]; exact cc.2.2.2⟩
  | 1, _ => exact ⟨by rw [en 4 (by decide)]; exact cc.2.1, eq _ p cc.2.2.1, by rw [en 6 (by decide)]; exact cc.2.2.2⟩
  | 2, _ => exact ⟨by rw [en 4 (by decide)]; exact cc.2.1, by rw [en 5 (by decide)]; exact cc.2.2.1, eq _ p cc.2.2.2⟩
/-- the ways on of a line's reading -/
def RdK (K : Option AV → Mem → Prop) (V : Nat → Nat → Int) (σ : Shp) (e n : Nat) (po : PO) : Prop := (∀ (V' : Nat → Nat → Int) (r' : PR) (t' : TK), po = .inl (r', t') → rdF V V' e → RER V' e r' → TKR V' e t' → okTk n t' → V' e 1 = V e 1 → K (some (vI 1)) (V', σ)) ∧ ∀ (V' : Nat → Nat → Int) (f a : Nat), po = .inr (f, a) → rdF V V' e → V' e 1 = f → V' e 2 = a → K (some (vI 0)) (V', σ)
theorem pDr_1 {r : PR} {t : TK} {k : Nat → PO} {d : Nat} (h : isNm t = true ∧ 0 ≤ nmI r t ∧ nmI r t < 4) (hd : nmI r t = d) : pDr r t k = k d := by
  unfold pDr
  rw [if_pos h, hd]
  rfl
theorem pDr_0 {r : PR} {t : TK} {k : Nat → PO} (h : ¬ (isNm t = true ∧ 0 ≤ nmI r t ∧ nmI r t < 4)) : pDr r t k = .inr (if isNm t then 2 else 1, t.2.1) := by
  unfold pDr
  rw [if_neg h]
theorem pPe_1 {r : PR} {t : TK} {k : Nat → PO} {d : Nat} (h : isNm t = true ∧ 4 ≤ nmI r t) (hd : (nmI r t).toNat - 4 = d) : pPe r t k = k d := by
  unfold pPe
  rw [if_pos h, hd]
theorem pPe_0 {r : PR} {t : TK} {k : Nat → PO} (h : ¬ (isNm t = true ∧ 4 ≤ nmI r t)) : pPe r t k = .inr (if isNm t then 2 else 1, t.2.1) := by
  unfold pPe
  rw [if_neg h]
theorem TK1 {V : Nat → Nat → Int} {e : Nat} {z : Int} {t : TK} (h : TKR V e t) : TKR (up2 V e 1 z) e t := h.up (Or.inr (by decide))
theorem rd_t {r : PR} {t : TK} {V : Nat → Nat → Int} {σ : Shp} {e b j : Nat} {z : Int} (hb : b ≠ e) (h9 : V e 9 = bz r.2.1 ∧ V e 10 = bz r.2.2.1) : up2 V b j z e 9 = bz r.2.1 ∧ up2 V b j z e 10 = bz r.2.2.1 := by
  rw [up2_nea _ _ (Ne.symm hb)]
  exact h9
/-- told has changed at b -/
theorem RER.t {V : Nat → Nat → Int} {e b j : Nat} {z : Int} {r : PR} {T : TL} (h : RER V e r) (hb : e < b ∧ b < e + 8) (hT : TV (up2 V b j z) (e + 1) T) : RER (up2 V b j z) e (T, r.2) := by
  obtain ⟨h1, h2, h3, h4⟩ := h
  exact ⟨hT, by rw [up2_nea _ _ (by omega)]; exact h2, by rw [up2_nea _ _ (by omega)]; exact h3, by rw [up2_nea _ _ (by omega)]; exact h4⟩
section Read3
variable {G : GE} {V : Nat → Nat → Int} {σ : Shp} {K : Option AV → Mem → Prop} {e n : Nat} {B : Nat → Int} {t : TK} {r : PR}
theorem wE_readLocked (hs : rdS σ e) (hX : TX V e n B) (hT : TKR V e t) (hok : okTk n t) (hR : RER V e r) (ho : okN r) (hK : RdK K V σ e n (pLocked B n r t)) : Wp G 7 mE_readLocked [vR e] (V, σ) 0 0 K := by
  have hlk : tLk r.1 < 16 := Nat.lt_of_lt_of_le ho.1.2.2.2.1 (two_le ho.1.2.1)
  refine wp_intro mE_readLocked_i.1 [some (vR e), none] rfl rfl (Nat.le_of_ble_eq_true rfl) ?_
  intro X hG F C
  have hm := C.rm
  refine aw_aload_0 (q := 1) F dE_readLocked_0 rfl ?_
  refine av_callV0 (q := 4) (ci := 3) F hm mE_advance_i mE_advance_n lE_36 dE_readLocked_1 rfl rfl rfl (by first | exact hs.o | exact hs.a2 | exact hs.a8 | exact hs.to | exact hs.t.a1 | exact hs.t.a2 | exact hs.t.a3) (by decide) (Nat.le_refl _) (Nat.le_refl _) (Nat.le_of_ble_eq_true rfl) (wE_advance hs hX (hT.p hok) hok.2.1 (fun v1 f1 k1 => ?_))
  have R1 := hR.tk f1
  have X1 := hX.tk hs f1
  have k1 : TKR v1 e (nxT B n t) := k1
  have ok1 : okTk n (nxT B n t) := lex_ok hok.2.1
  have e3 : v1 (e + 1) 3 = tLk r.1 := R1.1.1.2.2.2.1
  refine aw_pop (q := 5) F dE_readLocked_4 rfl trivial ?_
  refine aw_aload_0 (q := 6) F dE_readLocked_5 rfl ?_
  refine av_callV0 (q := 9) (ci := 3) F hm mE_doorHere_i mE_doorHere_n lE_120 dE_readLocked_6 rfl rfl rfl (by first | exact hs.o | exact hs.a2 | exact hs.a8 | exact hs.to | exact hs.t.a1 | exact hs.t.a2 | exact hs.t.a3) (by decide) (Nat.le_refl _) (Nat.le_refl _) (Nat.le_of_ble_eq_true rfl) (wE_doorHere hs k1 ok1 R1 (fun d6 q6 w6 => ?_) (fun q6 => ?_))
  · refine aw_istore_1 (q := 10) F dE_readLocked_9 rfl trivial ?_
    refine aw_iload_1 (q := 11) F dE_readLocked_10 rfl ?_
    refine aw_iconst (q := 12) F dE_readLocked_11 rfl (by decide) ?_
    refine aw_icmp_ne (q := 15) (t := 17) F dE_readLocked_12 rfl (by decide) (fun c12 => ?_) (fun c12 => by omega)
    refine aw_aload_0 (q := 18) F dE_readLocked_17 rfl ?_
    refine av_getaE (q := 21) F fE_12 dE_readLocked_18 rfl rfl (by first | exact hs.o | exact hs.a2 | exact hs.a8 | exact hs.to | exact hs.t.a1 | exact hs.t.a2 | exact hs.t.a3) hs.p0 ?_
    refine av_geti (q := 24) F fE_124 dE_readLocked_21 rfl rfl (by first | exact hs.o | exact hs.a2 | exact hs.a8 | exact hs.to | exact hs.t.a1 | exact hs.t.a2 | exact hs.t.a3) ?_
    refine aw_iload_1 (q := 25) F dE_readLocked_24 rfl ?_
    refine aw_ishr (q := 26) F dE_readLocked_25 rfl ?_
    refine aw_iconst (q := 27) F dE_readLocked_26 rfl (by decide) ?_
    refine aw_iand (q := 28) F dE_readLocked_27 rfl ?_
    rw [e3, bit_n (by omega) (by omega), bit_tb]
    refine aw_if_eq (q := 31) (t := 37) F dE_readLocked_28 rfl (by decide) (fun c28 => ?_) (fun c28 => ?_)
    · refine aw_aload_0 (q := 38) F dE_readLocked_37 rfl ?_
      refine av_getaE (q := 41) F fE_12 dE_readLocked_38 rfl rfl (by first | exact hs.o | exact hs.a2 | exact hs.a8 | exact hs.to | exact hs.t.a1 | exact hs.t.a2 | exact hs.t.a3) hs.p0 ?_
      refine aw_dup (q := 42) F dE_readLocked_41 rfl trivial ?_
      refine av_geti (q := 45) F fE_124 dE_readLocked_42 rfl rfl (by first | exact hs.o | exact hs.a2 | exact hs.a8 | exact hs.to | exact hs.t.a1 | exact hs.t.a2 | exact hs.t.a3) ?_
      refine aw_iconst (q := 46) F dE_readLocked_45 rfl (by decide) ?_
      refine aw_iload_1 (q := 47) F dE_readLocked_46 rfl ?_
      refine aw_ishl (q := 48) F dE_readLocked_47 rfl ?_
      rw [e3, shl1 (by omega) (by omega), Int.toNat_natCast]
      refine aw_ior (q := 49) F dE_readLocked_48 rfl ?_
      have hd4 : d6 < 4 := by omega
      have hor : tLk r.1 ||| 2 ^ d6 < 16 := Nat.or_lt_two_pow (n := 4) hlk (Nat.pow_lt_pow_right (by decide) hd4)
      rw [zor_n (by omega)]
      have R2 := R1.t (j := 3) (z := ((tLk r.1 ||| 2 ^ d6 : Nat) : Int)) (b := e + 1) (by omega) (R1.1.lk rfl)
      have k2 := k1.up (b := e + 1) (j := 3) (z := ((tLk r.1 ||| 2 ^ d6 : Nat) : Int)) (Or.inl (by omega))
      have F2 : rdF V (up2 v1 (e + 1) 3 ((tLk r.1 ||| 2 ^ d6 : Nat) : Int)) e := f1.rd.up (by omega) (Or.inl (by omega))
      refine av_puti (q := 52) F fE_124 dE_readLocked_49 rfl rfl (wr_6_3 _) (by first | exact hs.o | exact hs.a2 | exact hs.a8 | exact hs.to | exact hs.t.a1 | exact hs.t.a2 | exact hs.t.a3) ?_
      refine aw_aload_0 (q := 53) F dE_readLocked_52 rfl ?_
      refine av_callV0 (q := 56) (ci := 3) F hm mE_advance_i mE_advance_n lE_36 dE_readLocked_53 rfl rfl rfl (by first | exact hs.o | exact hs.a2 | exact hs.a8 | exact hs.to | exact hs.t.a1 | exact hs.t.a2 | exact hs.t.a3) (by decide) (Nat.le_refl _) (Nat.le_refl _) (Nat.le_of_ble_eq_true rfl) (wE_advance hs (hX.rd hs F2) (k2.p ok1) ok1.2.1 (fun v53 f53 k53 => ?_))
      refine aw_zret F C dE_readLocked_56 rfl (by decide) (Nat.le_refl _) (Nat.le_refl _) ?_
      refine hK.1 v53 (uLk r.1 d6, r.2) (nxT B n (nxT B n t)) ?_ (F2.tr f53.rd) (R2.tk f53) k53 (lex_ok ok1.2.1) ?_
      · unfold pLocked
        rw [pDr_1 q6 w6]
        by_cases hb : (tLk r.1).testBit d6 = true
        · rw [if_pos hb] at c28; exact absurd c28 (by decide)
        · rw [if_neg hb]
      · rw [f53.2 1 (by decide) (by decide) (by decide) (by decide) (by decide), up2_nea _ _ (by omega), f1.2 1 (by decide) (by decide) (by decide) (by decide) (by decide)]
    · refine aw_aload_0 (q := 32) F dE_readLocked_31 rfl ?_
      refine aw_iconst (q := 33) F dE_readLocked_32 rfl (by decide) ?_
      refine av_callV1 (q := 36) (ci := 3) F hm mE_fail_i mE_fail_n lE_49 dE_readLocked_33 rfl rfl rfl (by first | exact hs.o | exact hs.a2 | exact hs.a8 | exact hs.to | exact hs.t.a1 | exact hs.t.a2 | exact hs.t.a3) (by decide) (Nat.le_refl _) (Nat.le_refl _) (Nat.le_of_ble_eq_true rfl) (wE_fail hs ?_)
      refine aw_zret F C dE_readLocked_36 rfl (by omega) (Nat.le_refl _) (Nat.le_refl _) ?_
      refine hK.2 _ 3 _ ?_ (f1.rd.up (by omega) (Or.inr (by decide))) (up2_same _ _ _ _) ((TK1 k1).1)
      unfold pLocked
      rw [pDr_1 q6 w6]
      by_cases hb : (tLk r.1).testBit d6 = true
      · rw [if_pos hb]
      · rw [if_neg hb] at c28; exact absurd rfl c28
  · refine aw_istore_1 (q := 10) F dE_readLocked_9 rfl trivial ?_
    refine aw_iload_1 (q := 11) F dE_readLocked_10 rfl ?_
    refine aw_iconst (q := 12) F dE_readLocked_11 rfl (by decide) ?_
    refine aw_icmp_ne (q := 15) (t := 17) F dE_readLocked_12 rfl (by decide) (fun c12 => absurd c12 (by decide)) (fun c12 => ?_)
    refine aw_iconst (q := 16) F dE_readLocked_15 rfl (by decide) ?_
    refine aw_zret F C dE_readLocked_16 rfl (by decide) (Nat.le_refl _) (Nat.le_refl _) ?_
    exact hK.2 _ _ _ (pDr_0 q6) (f1.rd.up (by omega) (Or.inr (by decide))) (up2_same _ _ _ _) ((TK1 k1).1)
end Read3
