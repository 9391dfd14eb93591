theorem m4 {K : Option AV → Mem → Prop} {V : Nat → Nat → Int} {σ : Shp} {l : Nat} {S S1 : PS} {a b c : Prop} [Decidable a] [Decidable b] [Decidable c] {r d : Int} (hok : okP (ifS (wya a b c) S1 S)) (hK : MK K V σ l (ifS (wya a b c) S1 S) (some (vI (rfD (wya a b c) r d)))) : (a → b → c → okP S1 ∧ MK K V σ l S1 (some (vI r))) ∧ (¬ a → MK K V σ l (setR S 1) (some (vI d))) ∧ (a → ¬ b → MK K V σ l (setR S 5) (some (vI d))) ∧ (a → b → ¬ c → MK K V σ l (setR S 6) (some (vI d))) := by
  refine ⟨fun x y z => ?_, fun x => ?_, fun x y => ?_, fun x y z => ?_⟩
  · have e : wya a b c = 0 := by unfold wya; rw [if_pos x, if_pos y, if_pos z]
    rw [e] at hK hok; exact ⟨hok, hK⟩
  · have e : wya a b c = 1 := by unfold wya; rw [if_neg x]
    rw [e] at hK; exact hK
  · have e : wya a b c = 5 := by unfold wya; rw [if_pos x, if_neg y]
    rw [e] at hK; exact hK
  · have e : wya a b c = 6 := by unfold wya; rw [if_pos x, if_pos y, if_neg z]
    rw [e] at hK; exact hK
theorem may_op {c : Cfg} {n th d : Nat} (hd : d < dN c) : mayN c n th d = mO c n (inP c n 0 &&& th) d := by
  unfold mayN
  rw [Nat.div_eq_of_lt hd, if_pos rfl, Nat.mod_eq_of_lt hd]
theorem may_sh {c : Cfg} {n th d : Nat} (hd : d < dN c) : mayN c n th (dN c + d) = mS c n th d := by
  have := dm_at (c := c) 1 hd
  rw [Nat.mul_one] at this
  unfold mayN
  rw [this.1, this.2, if_neg (by decide), if_pos rfl]
theorem may_g2 {c : Cfg} {n p d : Nat} (hd : d < dN c) (hp : p < pN c) : mayN c n (allP c) (dN c * (2 + p) + d) = mG c n p d := by
  have := dm_at (c := c) (2 + p) hd
  unfold mayN
  rw [this.1, this.2, if_neg (by omega), if_neg (by omega), show 2 + p - 2 = p by omega, allP_bit hp, Bool.true_and]
section Mod22
variable {G : GE} {V V' V1 V2 : Nat → Nat → Int} {σ : Shp} {K : Option AV → Mem → Prop} {l : Nat} {c : Cfg} {n : Nat} {S : PS}
theorem MK.act {s' : Sc} {r : Option AV} (hK : MK K V σ l (actS S s') r) (h : MW V σ l S) (hX : XF (up2 V 53 0 0) V') (hd : 0 < tDn (psT S)) (hok : okP (actS S s')) (p : PK V' V1 (psP S).length) (e : ∀ b, b ≠ 55 → b ≠ 56 → V2 b = V1 b) (hA : AR (V2 55) (cfS (psT S) s') s'.2.2) : K r (up2 (up2 V2 53 1 0) 53 2 (-1), σ) := by
  obtain ⟨a, b⟩ := (h.th.xf hX).act hd hok p e hA
  exact hK _ a (((MR.f53 (V := V) (fun _ _ => rfl)).tr ((MF.rf _).xf hX).mr).tr b)
theorem wM_open {x : Int} (h : MW V σ l S) (hok : okP (ifS (wya (0 ≤ x ∧ x < tDn (psT S)) (ld (psC S) (psA S) x.toNat = 0) (mO (psC S) (psA S) (inP (psC S) (psA S) 0 &&& allP (psC S)) x.toNat = true)) (nOpen S x.toNat) S)) (hK : MK K V σ l (ifS (wya (0 ≤ x ∧ x < tDn (psT S)) (ld (psC S) (psA S) x.toNat = 0) (mO (psC S) (psA S) (inP (psC S) (psA S) 0 &&& allP (psC S)) x.toNat = true)) (nOpen S x.toNat) S) (some (vI (rfD (wya (0 ≤ x ∧ x < tDn (psT S)) (ld (psC S) (psA S) x.toNat = 0) (mO (psC S) (psA S) (inP (psC S) (psA S) 0 &&& allP (psC S)) x.toNat = true)) (ld (psC S) (aO (psC S) (psA S) x.toNat) x.toNat) (-1))))) : Wp G 4 mM_open [vR 53, vI x] (V, σ) 0 0 K := by
  obtain ⟨g, r1, r5, r6⟩ := m4 hok hK
  have hM := h.mo
  have hd4 : tDn (psT S) ≤ 4 := h.hc.1
  refine wp_intro mM_open_i.1 [some (vR 53), some (vI x)] rfl rfl (Nat.le_of_ble_eq_true rfl) ?_
  intro X hG F C
  have hm := C.rm
  refine aw_aload_0 (q := 1) F dM_open_0 rfl ?_
  refine aw_iconst (q := 2) F dM_open_1 rfl (by decide) ?_
  refine av_puti (q := 5) F fM_46 dM_open_2 rfl rfl (wr_9_0 _) (by first | exact hM.o | exact hl.o | exact hM.a55 | exact hM.a56 | exact hM.a57 | exact hM.a58) ?_
  refine aw_aload_0 (q := 6) F dM_open_5 rfl ?_
  refine aw_iload_1 (q := 7) F dM_open_6 rfl ?_
  refine av_callV1 (q := 10) (ci := 9) F hm mM_isDoor_i mM_isDoor_n lM_354 dM_open_7 rfl rfl rfl (by first | exact hM.o | exact hl.o | exact hM.a55 | exact hM.a56 | exact hM.a57 | exact hM.a58) (by decide) (Nat.le_refl _) (Nat.le_refl _) (Nat.le_of_ble_eq_true rfl) (wM_isDoor (D := tDn (psT S)) hM h.zer h.th.dr (fun c7 => ?_) (fun c7 => ?_))
  · refine aw_if_ne (q := 13) (t := 19) F dM_open_10 rfl (by decide) (fun c10 => ?_) (fun c10 => absurd c10 (by decide))
    have hd : 0 < tDn (psT S) := by omega
    have hst : tDn (psT S) ≤ stN (psC S) := by show tDn (psT S) ≤ tDn (psT S) * (2 + tPn (psT S)); exact Nat.le_mul_of_pos_right _ (by omega)
    have e55 := ar_ld ((h.th (z := 0)).wa hd).1 (d := x.toNat) (by omega) (show x.toNat < tDn (psT S) by omega)
    refine aw_aload_0 (q := 20) F dM_open_19 rfl ?_
    refine av_getaE (q := 23) F fM_17 dM_open_20 rfl rfl (by first | exact hM.o | exact hl.o | exact hM.a55 | exact hM.a56 | exact hM.a57 | exact hM.a58) hM.p15 ?_
    refine aw_iconst (q := 24) F dM_open_23 rfl (by decide) ?_
    refine aw_iload_1 (q := 25) F dM_open_24 rfl ?_
    refine aw_iadd (q := 26) F dM_open_25 rfl (by constructor <;> omega) ?_
    refine av_iaload (q := 27) F dM_open_26 rfl (by first | exact hM.o | exact hl.o | exact hM.a55 | exact hM.a56 | exact hM.a57 | exact hM.a58) (by omega) (by omega) ?_
    rw [show (2 + x).toNat = 2 + x.toNat by omega, e55]
    refine aw_if_le (q := 30) (t := 36) F dM_open_27 rfl (by decide) (fun c27 => ?_) (fun c27 => ?_)
    · refine aw_aload_0 (q := 37) F dM_open_36 rfl ?_
      refine aw_iload_1 (q := 38) F dM_open_37 rfl ?_
      refine av_callV1 (q := 41) (ci := 9) F hm mM_canNow_i mM_canNow_n lM_499 dM_open_38 rfl rfl rfl (by first | exact hM.o | exact hl.o | exact hM.a55 | exact hM.a56 | exact hM.a57 | exact hM.a58) (by decide) (Nat.le_refl _) (Nat.le_refl _) (Nat.le_of_ble_eq_true rfl) (wM_canNow (s := x.toNat) (by omega) (by omega) h.th hd (fun V' f38 m38 => ?_) (fun V' f38 m38 => ?_))
      · rw [may_op (show x.toNat < dN (psC S) by show x.toNat < tDn (psT S); omega)] at m38
        refine aw_if_ne (q := 44) (t := 51) F dM_open_41 rfl (by decide) (fun c41 => ?_) (fun c41 => absurd c41 (by decide))
        refine aw_aload_0 (q := 52) F dM_open_51 rfl ?_
        refine aw_iload_1 (q := 53) F dM_open_52 rfl ?_
        refine av_callV1 (q := 56) (ci := 9) F hm mM_does_i mM_does_n lM_502 dM_open_53 rfl rfl rfl (by first | exact hM.o | exact hl.o | exact hM.a55 | exact hM.a56 | exact hM.a57 | exact hM.a58) (by decide) (Nat.le_refl _) (Nat.le_refl _) (Nat.le_of_ble_eq_true rfl) (wM_does (s := x.toNat) (by omega) (by omega) (h.th.xf f38) hd (by rw [may_op (show x.toNat < dN (psC S) by show x.toNat < tDn (psT S); omega)]; exact m38) (fun V1 V2 p53 e53 a53 => ?_))
        rw [aft_open (show x.toNat < dN (psC S) by show x.toNat < tDn (psT S); omega)] at a53
        have e2 := ar_ld a53 (d := x.toNat) (by omega) (show x.toNat < tDn (psT S) by omega)
        obtain ⟨ok, g'⟩ := g c7 (by omega) m38
        refine aw_aload_0 (q := 57) F dM_open_56 rfl ?_
        refine aw_aload_0 (q := 58) F dM_open_57 rfl ?_
        refine av_getaE (q := 61) F fM_17 dM_open_58 rfl rfl (by first | exact hM.o | exact hl.o | exact hM.a55 | exact hM.a56 | exact hM.a57 | exact hM.a58) hM.p15 ?_
        refine aw_iconst (q := 62) F dM_open_61 rfl (by decide) ?_
        refine aw_iload_1 (q := 63) F dM_open_62 rfl ?_
        refine aw_iadd (q := 64) F dM_open_63 rfl (by constructor <;> omega) ?_
        refine av_iaload (q := 65) F dM_open_64 rfl (by first | exact hM.o | exact hl.o | exact hM.a55 | exact hM.a56 | exact hM.a57 | exact hM.a58) (by omega) (by omega) ?_
        rw [show (2 + x).toNat = 2 + x.toNat by omega, e2]
        refine av_callV1 (q := 68) (ci := 9) F hm mM_good_i mM_good_n lM_56 dM_open_65 rfl rfl rfl (by first | exact hM.o | exact hl.o | exact hM.a55 | exact hM.a56 | exact hM.a57 | exact hM.a58) (by decide) (Nat.le_refl _) (Nat.le_refl _) (Nat.le_of_ble_eq_true rfl) (wM_good hM ?_)
        refine aw_iret F C dM_open_68 rfl (Nat.le_refl _) (Nat.le_refl _) ?_
        exact MK.act g' h f38 hd ok p53 e53 a53
      · rw [may_op (show x.toNat < dN (psC S) by show x.toNat < tDn (psT S); omega)] at m38
        refine aw_if_ne (q := 44) (t := 51) F dM_open_41 rfl (by decide) (fun c41 => absurd c41 (by decide)) (fun c41 => ?_)
        refine aw_aload_0 (q := 45) F dM_open_44 rfl ?_
        refine aw_bipush (q := 47) F dM_open_45 rfl (by decide) ?_
        refine av_callV1 (q := 50) (ci := 9) F hm mM_refused_i mM_refused_n lM_52 dM_open_47 rfl rfl rfl (by first | exact hM.o | exact hl.o | exact hM.a55 | exact hM.a56 | exact hM.a57 | exact hM.a58) (by decide) (Nat.le_refl _) (Nat.le_refl _) (Nat.le_of_ble_eq_true rfl) (wM_refused hM ?_)
        refine aw_iret F C dM_open_50 rfl (Nat.le_refl _) (Nat.le_refl _) ?_
        exact MK.fin (S := S) (r6 c7 (by omega) (by rw [m38]; decide)) h (by decide) ((MF.rf _).xf f38) (h.th.q.xf f38)
    · refine aw_aload_0 (q := 31) F dM_open_30 rfl ?_
      refine aw_iconst (q := 32) F dM_open_31 rfl (by decide) ?_
      refine av_callV1 (q := 35) (ci := 9) F hm mM_refused_i mM_refused_n lM_52 dM_open_32 rfl rfl rfl (by first | exact hM.o | exact hl.o | exact hM.a55 | exact hM.a56 | exact hM.a57 | exact hM.a58) (by decide) (Nat.le_refl _) (Nat.le_refl _) (Nat.le_of_ble_eq_true rfl) (wM_refused hM ?_)
      refine aw_iret F C dM_open_35 rfl (Nat.le_refl _) (Nat.le_refl _) ?_
      exact MK.fin0 (r5 c7 (by omega)) h (by decide)
  · refine aw_if_ne (q := 13) (t := 19) F dM_open_10 rfl (by decide) (fun c10 => absurd c10 (by decide)) (fun c10 => ?_)
    refine aw_aload_0 (q := 14) F dM_open_13 rfl ?_
    refine aw_iconst (q := 15) F dM_open_14 rfl (by decide) ?_
    refine av_callV1 (q := 18) (ci := 9) F hm mM_refused_i mM_refused_n lM_52 dM_open_15 rfl rfl rfl (by first | exact hM.o | exact hl.o | exact hM.a55 | exact hM.a56 | exact hM.a57 | exact hM.a58) (by decide) (Nat.le_refl _) (Nat.le_refl _) (Nat.le_of_ble_eq_true rfl) (wM_refused hM ?_)
    refine aw_iret F C dM_open_18 rfl (Nat.le_refl _) (Nat.le_refl _) ?_
    exact MK.fin0 (r1 c7) h (by decide)
theorem wM_shut {x : Int} (h : MW V σ l S) (hok : okP (ifS (wya (0 ≤ x ∧ x < tDn (psT S)) (ld (psC S) (psA S) x.toNat ≠ 0) (mS (psC S) (psA S) (allP (psC S)) x.toNat = true)) (nShut S x.toNat) S)) (hK : MK K V σ l (ifS (wya (0 ≤ x ∧ x < tDn (psT S)) (ld (psC S) (psA S) x.toNat ≠ 0) (mS (psC S) (psA S) (allP (psC S)) x.toNat = true)) (nShut S x.toNat) S) (some (vI (rfD (wya (0 ≤ x ∧ x < tDn (psT S)) (ld (psC S) (psA S) x.toNat ≠ 0) (mS (psC S) (psA S) (allP (psC S)) x.toNat = true)) 1 0)))) : Wp G 4 mM_shut [vR 53, vI x] (V, σ) 0 0 K := by
  obtain ⟨g, r1, r5, r6⟩ := m4 hok hK
  have hM := h.mo
  have hd4 : tDn (psT S) ≤ 4 := h.hc.1
  refine wp_intro mM_shut_i.1 [some (vR 53), some (vI x)] rfl rfl (Nat.le_of_ble_eq_true rfl) ?_
  intro X hG F C
  have hm := C.rm
  refine aw_aload_0 (q := 1) F dM_shut_0 rfl ?_
  refine aw_iconst (q := 2) F dM_shut_1 rfl (by decide) ?_
  refine av_puti (q := 5) F fM_46 dM_shut_2 rfl rfl (wr_9_0 _) (by first | exact hM.o | exact hl.o | exact hM.a55 | exact hM.a56 | exact hM.a57 | exact hM.a58) ?_
  refine aw_aload_0 (q := 6) F dM_shut_5 rfl ?_
  refine aw_iload_1 (q := 7) F dM_shut_6 rfl ?_
  refine av_callV1 (q := 10) (ci := 9) F hm mM_isDoor_i mM_isDoor_n lM_354 dM_shut_7 rfl rfl rfl (by first | exact hM.o | exact hl.o | exact hM.a55 | exact hM.a56 | exact hM.a57 | exact hM.a58) (by decide) (Nat.le_refl _) (Nat.le_refl _) (Nat.le_of_ble_eq_true rfl) (wM_isDoor (D := tDn (psT S)) hM h.zer h.th.dr (fun c7 => ?_) (fun c7 => ?_))
  · refine aw_if_ne (q := 13) (t := 19) F dM_shut_10 rfl (by decide) (fun c10 => ?_) (fun c10 => absurd c10 (by decide))
    have hd : 0 < tDn (psT S) := by omega
    have hl := h.la hd
    have hst : 2 * tDn (psT S) ≤ stN (psC S) := by show 2 * tDn (psT S) ≤ tDn (psT S) * (2 + tPn (psT S)); rw [Nat.mul_comm]; exact Nat.mul_le_mul_left _ (by omega)
    have hxd : x.toNat < dN (psC S) := by show x.toNat < tDn (psT S); omega
    have e55 := ar_ld ((h.th (z := 0)).wa hd).1 (d := x.toNat) (by omega) hxd
    have el : ∀ V2 : Nat → Nat → Int, XF (up2 V 53 0 0) V2 → V2 l 1 = tDn (psT S) := fun V2 f => (f.lc (h.h64 hd) (h.th.lc hd)).1
    refine aw_aload_0 (q := 20) F dM_shut_19 rfl ?_
    refine av_getaE (q := 23) F fM_17 dM_shut_20 rfl rfl (by first | exact hM.o | exact hl.o | exact hM.a55 | exact hM.a56 | exact hM.a57 | exact hM.a58) hM.p15 ?_
    refine aw_iconst (q := 24) F dM_shut_23 rfl (by decide) ?_
    refine aw_iload_1 (q := 25) F dM_shut_24 rfl ?_
    refine aw_iadd (q := 26) F dM_shut_25 rfl (by constructor <;> omega) ?_
    refine av_iaload (q := 27) F dM_shut_26 rfl (by first | exact hM.o | exact hl.o | exact hM.a55 | exact hM.a56 | exact hM.a57 | exact hM.a58) (by omega) (by omega) ?_
    rw [show (2 + x).toNat = 2 + x.toNat by omega, e55]
    refine aw_if_ne (q := 30) (t := 36) F dM_shut_27 rfl (by decide) (fun c27 => ?_) (fun c27 => ?_)
    · refine aw_aload_0 (q := 37) F dM_shut_36 rfl ?_
      refine aw_aload_0 (q := 38) F dM_shut_37 rfl ?_
      refine av_getaE (q := 41) F fM_281 dM_shut_38 rfl rfl (by first | exact hM.o | exact hl.o | exact hM.a55 | exact hM.a56 | exact hM.a57 | exact hM.a58) hM.p3 ?_
      refine av_geti (q := 44) F fM_183 dM_shut_41 rfl rfl (by first | exact hM.o | exact hl.o | exact hM.a55 | exact hM.a56 | exact hM.a57 | exact hM.a58) ?_
      rw [el _ (fun _ _ => rfl)]
      refine aw_iload_1 (q := 45) F dM_shut_44 rfl ?_
      refine aw_iadd (q := 46) F dM_shut_45 rfl (by constructor <;> omega) ?_
      refine av_callV1 (q := 49) (ci := 9) F hm mM_canNow_i mM_canNow_n lM_499 dM_shut_46 rfl rfl rfl (by first | exact hM.o | exact hl.o | exact hM.a55 | exact hM.a56 | exact hM.a57 | exact hM.a58) (by decide) (Nat.le_refl _) (Nat.le_refl _) (Nat.le_of_ble_eq_true rfl) (wM_canNow (s := dN (psC S) + x.toNat) (by show (tDn (psT S) : Int) + x = ((tDn (psT S) + x.toNat : Nat) : Int); omega) (by show tDn (psT S) + x.toNat < stN (psC S); omega) h.th hd (fun V' f46 m46 => ?_) (fun V' f46 m46 => ?_))
      · rw [may_sh hxd] at m46
        refine aw_if_ne (q := 52) (t := 59) F dM_shut_49 rfl (by decide) (fun c49 => ?_) (fun c49 => absurd c49 (by decide))
        refine aw_aload_0 (q := 60) F dM_shut_59 rfl ?_
        refine aw_aload_0 (q := 61) F dM_shut_60 rfl ?_
        refine av_getaE (q := 64) F fM_281 dM_shut_61 rfl rfl (by first | exact hM.o | exact hl.o | exact hM.a55 | exact hM.a56 | exact hM.a57 | exact hM.a58) hM.p3 ?_
        refine av_geti (q := 67) F fM_183 dM_shut_64 rfl rfl (by first | exact hM.o | exact hl.o | exact hM.a55 | exact hM.a56 | exact hM.a57 | exact hM.a58) ?_
        rw [el _ f46]
        refine aw_iload_1 (q := 68) F dM_shut_67 rfl ?_
        refine aw_iadd (q := 69) F dM_shut_68 rfl (by constructor <;> omega) ?_
        refine av_callV1 (q := 72) (ci := 9) F hm mM_does_i mM_does_n lM_502 dM_shut_69 rfl rfl rfl (by first | exact hM.o | exact hl.o | exact hM.a55 | exact hM.a56 | exact hM.a57 | exact hM.a58) (by decide) (Nat.le_refl _) (Nat.le_refl _) (Nat.le_of_ble_eq_true rfl) (wM_does (s := dN (psC S) + x.toNat) (by show (tDn (psT S) : Int) + x = ((tDn (psT S) + x.toNat : Nat) : Int); omega) (by show tDn (psT S) + x.toNat < stN (psC S); omega) (h.th.xf f46) hd (by rw [may_sh hxd]; exact m46) (fun V1 V2 p69 e69 a69 => ?_))
        rw [aft_shut hxd] at a69
        obtain ⟨ok, g'⟩ := g c7 (by omega) m46
        refine aw_aload_0 (q := 73) F dM_shut_72 rfl ?_
        refine av_callV0 (q := 76) (ci := 9) F hm mM_granted_i mM_granted_n lM_508 dM_shut_73 rfl rfl rfl (by first | exact hM.o | exact hl.o | exact hM.a55 | exact hM.a56 | exact hM.a57 | exact hM.a58) (by decide) (Nat.le_refl _) (Nat.le_refl _) (Nat.le_of_ble_eq_true rfl) (wM_granted hM ?_)
        refine aw_zret F C dM_shut_76 rfl (by decide) (Nat.le_refl _) (Nat.le_refl _) ?_
        exact MK.act g' h f46 hd ok p69 e69 a69
      · rw [may_sh hxd] at m46
        refine aw_if_ne (q := 52) (t := 59) F dM_shut_49 rfl (by decide) (fun c49 => absurd c49 (by decide)) (fun c49 => ?_)
        refine aw_aload_0 (q := 53) F dM_shut_52 rfl ?_
        refine aw_bipush (q := 55) F dM_shut_53 rfl (by decide) ?_
        refine av_callV1 (q := 58) (ci := 9) F hm mM_denied_i mM_denied_n lM_505 dM_shut_55 rfl rfl rfl (by first | exact hM.o | exact hl.o | exact hM.a55 | exact hM.a56 | exact hM.a57 | exact hM.a58) (by decide) (Nat.le_refl _) (Nat.le_refl _) (Nat.le_of_ble_eq_true rfl) (wM_denied hM ?_)
        refine aw_zret F C dM_shut_58 rfl (by decide) (Nat.le_refl _) (Nat.le_refl _) ?_
        exact MK.fin (S := S) (r6 c7 (by omega) (by rw [m46]; decide)) h (by decide) ((MF.rf _).xf f46) (h.th.q.xf f46)
    · refine aw_aload_0 (q := 31) F dM_shut_30 rfl ?_
      refine aw_iconst (q := 32) F dM_shut_31 rfl (by decide) ?_
      refine av_callV1 (q := 35) (ci := 9) F hm mM_denied_i mM_denied_n lM_505 dM_shut_32 rfl rfl rfl (by first | exact hM.o | exact hl.o | exact hM.a55 | exact hM.a56 | exact hM.a57 | exact hM.a58) (by decide) (Nat.le_refl _) (Nat.le_refl _) (Nat.le_of_ble_eq_true rfl) (wM_denied hM ?_)
      refine aw_zret F C dM_shut_35 rfl (by decide) (Nat.le_refl _) (Nat.le_refl _) ?_
      exact MK.fin0 (r5 c7 (by omega)) h (by decide)
  · refine aw_if_ne (q := 13) (t := 19) F dM_shut_10 rfl (by decide) (fun c10 => absurd c10 (by decide)) (fun c10 => ?_)
    refine aw_aload_0 (q := 14) F dM_shut_13 rfl ?_
    refine aw_iconst (q := 15) F dM_shut_14 rfl (by decide) ?_
    refine av_callV1 (q := 18) (ci := 9) F hm mM_denied_i mM_denied_n lM_505 dM_shut_15 rfl rfl rfl (by first | exact hM.o | exact hl.o | exact hM.a55 | exact hM.a56 | exact hM.a57 | exact hM.a58) (by decide) (Nat.le_refl _) (Nat.le_refl _) (Nat.le_of_ble_eq_true rfl) (wM_denied hM ?_)
    refine aw_zret F C dM_shut_18 rfl (by decide) (Nat.le_refl _) (Nat.le_refl _) ?_
    exact MK.fin0 (r1 c7) h (by decide)
theorem wM_go {w x : Int} (h : MW V σ l S) (hok : okP (ifS (wya ((0 ≤ w ∧ w < tPn (psT S)) ∧ 0 ≤ x ∧ x < tDn (psT S)) (ld (psC S) (psA S) x.toNat ≠ 0) (mG (psC S) (psA S) w.toNat x.toNat = true)) (nGo S w.toNat x.toNat) S)) (hK : MK K V σ l (ifS (wya ((0 ≤ w ∧ w < tPn (psT S)) ∧ 0 ≤ x ∧ x < tDn (psT S)) (ld (psC S) (psA S) x.toNat ≠ 0) (mG (psC S) (psA S) w.toNat x.toNat = true)) (nGo S w.toNat x.toNat) S) (some (vI (rfD (wya ((0 ≤ w ∧ w < tPn (psT S)) ∧ 0 ≤ x ∧ x < tDn (psT S)) (ld (psC S) (psA S) x.toNat ≠ 0) (mG (psC S) (psA S) w.toNat x.toNat = true)) (pl (psC S) (aG (psC S) (psA S) w.toNat x.toNat) w.toNat) (-1))))) : Wp G 4 mM_go [vR 53, vI w, vI x] (V, σ) 0 0 K := by
  obtain ⟨g, r1, r5, r6⟩ := m4 hok hK
  have hM := h.mo
  have hd4 : tDn (psT S) ≤ 4 := h.hc.1
  have hp2 : tPn (psT S) ≤ 2 := h.hc.2.1
  refine wp_intro mM_go_i.1 [some (vR 53), some (vI w), some (vI x), none] rfl rfl (Nat.le_of_ble_eq_true rfl) ?_
  intro X hG F C
  have hm := C.rm
  refine aw_aload_0 (q := 1) F dM_go_0 rfl ?_
  refine aw_iconst (q := 2) F dM_go_1 rfl (by decide) ?_
  refine av_puti (q := 5) F fM_46 dM_go_2 rfl rfl (wr_9_0 _) (by first | exact hM.o | exact hl.o | exact hM.a55 | exact hM.a56 | exact hM.a57 | exact hM.a58) ?_
  refine aw_aload_0 (q := 6) F dM_go_5 rfl ?_
  refine aw_iload_1 (q := 7) F dM_go_6 rfl ?_
  refine av_callV1 (q := 10) (ci := 9) F hm mM_isPerson_i mM_isPerson_n lM_361 dM_go_7 rfl rfl rfl (by first | exact hM.o | exact hl.o | exact hM.a55 | exact hM.a56 | exact hM.a57 | exact hM.a58) (by decide) (Nat.le_refl _) (Nat.le_refl _) (Nat.le_of_ble_eq_true rfl) (wM_isPerson (D := tPn (psT S)) hM h.pz h.th.pr (fun c7 => ?_) (fun c7 => ?_))
  · refine aw_if_eq (q := 13) (t := 21) F dM_go_10 rfl (by decide) (fun c10 => absurd c10 (by decide)) (fun c10 => ?_)
    refine aw_aload_0 (q := 14) F dM_go_13 rfl ?_
    refine aw_iload_2 (q := 15) F dM_go_14 rfl ?_
    refine av_callV1 (q := 18) (ci := 9) F hm mM_isDoor_i mM_isDoor_n lM_354 dM_go_15 rfl rfl rfl (by first | exact hM.o | exact hl.o | exact hM.a55 | exact hM.a56 | exact hM.a57 | exact hM.a58) (by decide) (Nat.le_refl _) (Nat.le_refl _) (Nat.le_of_ble_eq_true rfl) (wM_isDoor (D := tDn (psT S)) hM h.zer h.th.dr (fun c15 => ?_) (fun c15 => ?_))
    · refine aw_if_ne (q := 21) (t := 27) F dM_go_18 rfl (by decide) (fun c18 => ?_) (fun c18 => absurd c18 (by decide))
      have hd : 0 < tDn (psT S) := by omega
      have hl := h.la hd
      have hwp : w.toNat < pN (psC S) := by show w.toNat < tPn (psT S); omega
      have hxd : x.toNat < dN (psC S) := by show x.toNat < tDn (psT S); omega
      have e55 := ar_ld ((h.th (z := 0)).wa hd).1 (d := x.toNat) (by omega) hxd
      have el : up2 V 53 0 0 l 1 = tDn (psT S) := (h.th.lc hd).1
      have hst : dN (psC S) * (2 + w.toNat) + x.toNat < stN (psC S) := by
        show tDn (psT S) * (2 + w.toNat) + x.toNat < tDn (psT S) * (2 + tPn (psT S))
        have h1 : tDn (psT S) * (2 + w.toNat + 1) ≤ tDn (psT S) * (2 + tPn (psT S)) := Nat.mul_le_mul_left _ (by show 2 + w.toNat + 1 ≤ 2 + pN (psC S); omega)
        rw [Nat.mul_add, Nat.mul_one] at h1
        have h2 : x.toNat < tDn (psT S) := hxd
        omega
      have hs16 := stN_le h.hc
      have ew : (2 + w) * (tDn (psT S) : Int) = ((dN (psC S) * (2 + w.toNat) : Nat) : Int) := by rw [Int.natCast_mul, Int.mul_comm, show ((2 + w.toNat : Nat) : Int) = 2 + w by omega]; rfl
      refine aw_aload_0 (q := 28) F dM_go_27 rfl ?_
      refine av_getaE (q := 31) F fM_17 dM_go_28 rfl rfl (by first | exact hM.o | exact hl.o | exact hM.a55 | exact hM.a56 | exact hM.a57 | exact hM.a58) hM.p15 ?_
      refine aw_iconst (q := 32) F dM_go_31 rfl (by decide) ?_
      refine aw_iload_2 (q := 33) F dM_go_32 rfl ?_
      refine aw_iadd (q := 34) F dM_go_33 rfl (by constructor <;> omega) ?_
      refine av_iaload (q := 35) F dM_go_34 rfl (by first | exact hM.o | exact hl.o | exact hM.a55 | exact hM.a56 | exact hM.a57 | exact hM.a58) (by omega) (by omega) ?_
      rw [show (2 + x).toNat = 2 + x.toNat by omega, e55]
      refine aw_if_ne (q := 38) (t := 44) F dM_go_35 rfl (by decide) (fun c35 => ?_) (fun c35 => ?_)
      · refine aw_iconst (q := 45) F dM_go_44 rfl (by decide) ?_
        refine aw_iload_1 (q := 46) F dM_go_45 rfl ?_
        refine aw_iadd (q := 47) F dM_go_46 rfl (by constructor <;> omega) ?_
        refine aw_aload_0 (q := 48) F dM_go_47 rfl ?_
        refine av_getaE (q := 51) F fM_281 dM_go_48 rfl rfl (by first | exact hM.o | exact hl.o | exact hM.a55 | exact hM.a56 | exact hM.a57 | exact hM.a58) hM.p3 ?_
        refine av_geti (q := 54) F fM_183 dM_go_51 rfl rfl (by first | exact hM.o | exact hl.o | exact hM.a55 | exact hM.a56 | exact hM.a57 | exact hM.a58) ?_
        rw [el]
        refine aw_imul (q := 55) F dM_go_54 rfl (by rw [ew]; omega) ?_
        rw [ew]
        refine aw_iload_2 (q := 56) F dM_go_55 rfl ?_
        refine aw_iadd (q := 57) F dM_go_56 rfl (by constructor <;> omega) ?_
        refine aw_istore_3 (q := 58) F dM_go_57 rfl trivial ?_
        refine aw_aload_0 (q := 59) F dM_go_58 rfl ?_
        refine aw_iload_3 (q := 60) F dM_go_59 rfl ?_
        refine av_callV1 (q := 63) (ci := 9) F hm mM_canNow_i mM_canNow_n lM_499 dM_go_60 rfl rfl rfl (by first | exact hM.o | exact hl.o | exact hM.a55 | exact hM.a56 | exact hM.a57 | exact hM.a58) (by decide) (Nat.le_refl _) (Nat.le_refl _) (Nat.le_of_ble_eq_true rfl) (wM_canNow (s := dN (psC S) * (2 + w.toNat) + x.toNat) (by omega) hst h.th hd (fun V' f60 m60 => ?_) (fun V' f60 m60 => ?_))
        · rw [may_g2 hxd hwp] at m60
          refine aw_if_ne (q := 66) (t := 73) F dM_go_63 rfl (by decide) (fun c63 => ?_) (fun c63 => absurd c63 (by decide))
          refine aw_aload_0 (q := 74) F dM_go_73 rfl ?_
          refine aw_iload_3 (q := 75) F dM_go_74 rfl ?_
          refine av_callV1 (q := 78) (ci := 9) F hm mM_does_i mM_does_n lM_502 dM_go_75 rfl rfl rfl (by first | exact hM.o | exact hl.o | exact hM.a55 | exact hM.a56 | exact hM.a57 | exact hM.a58) (by decide) (Nat.le_refl _) (Nat.le_refl _) (Nat.le_of_ble_eq_true rfl) (wM_does (s := dN (psC S) * (2 + w.toNat) + x.toNat) (by omega) hst (h.th.xf f60) hd (by rw [may_g2 hxd hwp]; exact m60) (fun V1 V2 p75 e75 a75 => ?_))
          rw [aft_go hxd] at a75
          have e2 := ar_pl a75 (p := w.toNat) (by omega) hwp
          obtain ⟨ok, g'⟩ := g ⟨c7, c15⟩ (by omega) m60
          refine aw_aload_0 (q := 79) F dM_go_78 rfl ?_
          refine aw_aload_0 (q := 80) F dM_go_79 rfl ?_
          refine av_getaE (q := 83) F fM_17 dM_go_80 rfl rfl (by first | exact hM.o | exact hl.o | exact hM.a55 | exact hM.a56 | exact hM.a57 | exact hM.a58) hM.p15 ?_
          refine aw_iload_1 (q := 84) F dM_go_83 rfl ?_
          refine av_iaload (q := 85) F dM_go_84 rfl (by first | exact hM.o | exact hl.o | exact hM.a55 | exact hM.a56 | exact hM.a57 | exact hM.a58) (by omega) (by omega) ?_
          rw [e2]
          refine av_callV1 (q := 88) (ci := 9) F hm mM_good_i mM_good_n lM_56 dM_go_85 rfl rfl rfl (by first | exact hM.o | exact hl.o | exact hM.a55 | exact hM.a56 | exact hM.a57 | exact hM.a58) (by decide) (Nat.le_refl _) (Nat.le_refl _) (Nat.le_of_ble_eq_true rfl) (wM_good hM ?_)
          refine aw_iret F C dM_go_88 rfl (Nat.le_refl _) (Nat.le_refl _) ?_
          exact MK.act g' h f60 hd ok p75 e75 a75
        · rw [may_g2 hxd hwp] at m60
          refine aw_if_ne (q := 66) (t := 73) F dM_go_63 rfl (by decide) (fun c63 => absurd c63 (by decide)) (fun c63 => ?_)
          refine aw_aload_0 (q := 67) F dM_go_66 rfl ?_
          refine aw_bipush (q := 69) F dM_go_67 rfl (by decide) ?_
          refine av_callV1 (q := 72) (ci := 9) F hm mM_refused_i mM_refused_n lM_52 dM_go_69 rfl rfl rfl (by first | exact hM.o | exact hl.o | exact hM.a55 | exact hM.a56 | exact hM.a57 | exact hM.a58) (by decide) (Nat.le_refl _) (Nat.le_refl _) (Nat.le_of_ble_eq_true rfl) (wM_refused hM ?_)
          refine aw_iret F C dM_go_72 rfl (Nat.le_refl _) (Nat.le_refl _) ?_
          exact MK.fin (S := S) (r6 ⟨c7, c15⟩ (by omega) (by rw [m60]; decide)) h (by decide) ((MF.rf _).xf f60) (h.th.q.xf f60)
      · refine aw_aload_0 (q := 39) F dM_go_38 rfl ?_
        refine aw_iconst (q := 40) F dM_go_39 rfl (by decide) ?_
        refine av_callV1 (q := 43) (ci := 9) F hm mM_refused_i mM_refused_n lM_52 dM_go_40 rfl rfl rfl (by first | exact hM.o | exact hl.o | exact hM.a55 | exact hM.a56 | exact hM.a57 | exact hM.a58) (by decide) (Nat.le_refl _) (Nat.le_refl _) (Nat.le_of_ble_eq_true rfl) (wM_refused hM ?_)
        refine aw_iret F C dM_go_43 rfl (Nat.le_refl _) (Nat.le_refl _) ?_
        exact MK.fin0 (r5 ⟨c7, c15⟩ (by omega)) h (by decide)
    · refine aw_if_ne (q := 21) (t := 27) F dM_go_18 rfl (by decide) (fun c18 => absurd c18 (by decide)) (fun c18 => ?_)
      refine aw_aload_0 (q := 22) F dM_go_21 rfl ?_
      refine aw_iconst (q := 23) F dM_go_22 rfl (by decide) ?_
      refine av_callV1 (q := 26) (ci := 9) F hm mM_refused_i mM_refused_n lM_52 dM_go_23 rfl rfl rfl (by first | exact hM.o | exact hl.o | exact hM.a55 | exact hM.a56 | exact hM.a57 | exact hM.a58) (by decide) (Nat.le_refl _) (Nat.le_refl _) (Nat.le_of_ble_eq_true rfl) (wM_refused hM ?_)
      refine aw_iret F C dM_go_26 rfl (Nat.le_refl _) (Nat.le_refl _) ?_
      exact MK.fin0 (r1 (by omega)) h (by decide)
  · refine aw_if_eq (q := 13) (t := 21) F dM_go_10 rfl (by decide) (fun c10 => ?_) (fun c10 => absurd c10 (by decide))
    refine aw_aload_0 (q := 22) F dM_go_21 rfl ?_
    refine aw_iconst (q := 23) F dM_go_22 rfl (by decide) ?_
    refine av_callV1 (q := 26) (ci := 9) F hm mM_refused_i mM_refused_n lM_52 dM_go_23 rfl rfl rfl (by first | exact hM.o | exact hl.o | exact hM.a55 | exact hM.a56 | exact hM.a57 | exact hM.a58) (by decide) (Nat.le_refl _) (Nat.le_refl _) (Nat.le_of_ble_eq_true rfl) (wM_refused hM ?_)
    refine aw_iret F C dM_go_26 rfl (Nat.le_refl _) (Nat.le_refl _) ?_
    exact MK.fin0 (r1 (by omega)) h (by decide)
theorem wM_nail {x : Int} (h : MW V σ l S) (hok : okP (ifS (wya (0 ≤ x ∧ x < tDn (psT S)) ((psS S).2.1.testBit x.toNat = false) (ld (psC S) (psA S) x.toNat = 0)) (nNail S x.toNat) S)) (hK : MK K V σ l (ifS (wya (0 ≤ x ∧ x < tDn (psT S)) ((psS S).2.1.testBit x.toNat = false) (ld (psC S) (psA S) x.toNat = 0)) (nNail S x.toNat) S) (some (vI (rfD (wya (0 ≤ x ∧ x < tDn (psT S)) ((psS S).2.1.testBit x.toNat = false) (ld (psC S) (psA S) x.toNat = 0)) 1 0)))) : Wp G 4 mM_nail [vR 53, vI x] (V, σ) 0 0 K := by
  obtain ⟨g, r1, r5, r6⟩ := m4 hok hK
  have hM := h.mo
  have hd4 : tDn (psT S) ≤ 4 := h.hc.1
  have hnl : nlC (psC S) < 16 := h.hc.2.2.2.2.2
  refine wp_intro mM_nail_i.1 [some (vR 53), some (vI x)] rfl rfl (Nat.le_of_ble_eq_true rfl) ?_
  intro X hG F C
  have hm := C.rm
  refine aw_aload_0 (q := 1) F dM_nail_0 rfl ?_
  refine aw_iconst (q := 2) F dM_nail_1 rfl (by decide) ?_
  refine av_puti (q := 5) F fM_46 dM_nail_2 rfl rfl (wr_9_0 _) (by first | exact hM.o | exact hl.o | exact hM.a55 | exact hM.a56 | exact hM.a57 | exact hM.a58) ?_
  refine aw_aload_0 (q := 6) F dM_nail_5 rfl ?_
  refine aw_iload_1 (q := 7) F dM_nail_6 rfl ?_
  refine av_callV1 (q := 10) (ci := 9) F hm mM_isDoor_i mM_isDoor_n lM_354 dM_nail_7 rfl rfl rfl (by first | exact hM.o | exact hl.o | exact hM.a55 | exact hM.a56 | exact hM.a57 | exact hM.a58) (by decide) (Nat.le_refl _) (Nat.le_refl _) (Nat.le_of_ble_eq_true rfl) (wM_isDoor (D := tDn (psT S)) hM h.zer h.th.dr (fun c7 => ?_) (fun c7 => ?_))
  · refine aw_if_ne (q := 13) (t := 19) F dM_nail_10 rfl (by decide) (fun c10 => ?_) (fun c10 => absurd c10 (by decide))
    have hd : 0 < tDn (psT S) := by omega
    have hl := h.la hd
    have hxd : x.toNat < dN (psC S) := by show x.toNat < tDn (psT S); omega
    have hA := ((h.th (z := 0)).wa hd).1
    have e55 := ar_ld hA (d := x.toNat) (by omega) hxd
    have e11 := hA.2.2.2.2
    refine aw_aload_0 (q := 20) F dM_nail_19 rfl ?_
    refine av_getaE (q := 23) F fM_17 dM_nail_20 rfl rfl (by first | exact hM.o | exact hl.o | exact hM.a55 | exact hM.a56 | exact hM.a57 | exact hM.a58) hM.p15 ?_
    refine aw_bipush (q := 25) F dM_nail_23 rfl (by decide) ?_
    refine av_iaload (q := 26) F dM_nail_25 rfl (by first | exact hM.o | exact hl.o | exact hM.a55 | exact hM.a56 | exact hM.a57 | exact hM.a58) (by omega) (by omega) ?_
    refine aw_iload_1 (q := 27) F dM_nail_26 rfl ?_
    refine av_callS2 (q := 30) F hm mM_bit_i mM_bit_n lM_241 dM_nail_27 rfl (by decide) (Nat.le_refl _) (Nat.le_refl _) (Nat.le_of_ble_eq_true rfl) (wM_bit (m := nlC (psC S)) (d := x.toNat) (by rw [show (11 : Int).toNat = 11 from rfl, e11]) (by omega) (by omega) (by omega) (fun c27 => ?_) (fun c27 => ?_))
    · refine aw_if_eq (q := 33) (t := 39) F dM_nail_30 rfl (by decide) (fun c30 => absurd c30 (by decide)) (fun c30 => ?_)
      refine aw_aload_0 (q := 34) F dM_nail_33 rfl ?_
      refine aw_iconst (q := 35) F dM_nail_34 rfl (by decide) ?_
      refine av_callV1 (q := 38) (ci := 9) F hm mM_denied_i mM_denied_n lM_505 dM_nail_35 rfl rfl rfl (by first | exact hM.o | exact hl.o | exact hM.a55 | exact hM.a56 | exact hM.a57 | exact hM.a58) (by decide) (Nat.le_refl _) (Nat.le_refl _) (Nat.le_of_ble_eq_true rfl) (wM_denied hM ?_)
      refine aw_zret F C dM_nail_38 rfl (by decide) (Nat.le_refl _) (Nat.le_refl _) ?_
      exact MK.fin0 (r5 c7 (by rw [show (psS S).2.1.testBit x.toNat = true from c27]; decide)) h (by decide)
    · refine aw_if_eq (q := 33) (t := 39) F dM_nail_30 rfl (by decide) (fun c30 => ?_) (fun c30 => absurd c30 (by decide))
      refine aw_aload_0 (q := 40) F dM_nail_39 rfl ?_
      refine av_getaE (q := 43) F fM_17 dM_nail_40 rfl rfl (by first | exact hM.o | exact hl.o | exact hM.a55 | exact hM.a56 | exact hM.a57 | exact hM.a58) hM.p15 ?_
      refine aw_iconst (q := 44) F dM_nail_43 rfl (by decide) ?_
      refine aw_iload_1 (q := 45) F dM_nail_44 rfl ?_
      refine aw_iadd (q := 46) F dM_nail_45 rfl (by constructor <;> omega) ?_
      refine av_iaload (q := 47) F dM_nail_46 rfl (by first | exact hM.o | exact hl.o | exact hM.a55 | exact hM.a56 | exact hM.a57 | exact hM.a58) (by omega) (by omega) ?_
      rw [show (2 + x).toNat = 2 + x.toNat by omega, e55]
      refine aw_if_le (q := 50) (t := 57) F dM_nail_47 rfl (by decide) (fun c47 => ?_) (fun c47 => ?_)
      · refine aw_aload_0 (q := 58) F dM_nail_57 rfl ?_
        refine av_callV0 (q := 61) (ci := 9) F hm mM_remembers_i mM_remembers_n lM_496 dM_nail_58 rfl rfl rfl (by first | exact hM.o | exact hl.o | exact hM.a55 | exact hM.a56 | exact hM.a57 | exact hM.a58) (by decide) (Nat.le_refl _) (Nat.le_refl _) (Nat.le_of_ble_eq_true rfl) (wM_remembers (n := (psP S).length) hM h.th.f.2.2.2.2.1 h.1.2.2.2.2.1 (fun V1 p58 => ?_))
        obtain ⟨ok, g'⟩ := g c7 c27 (by omega)
        have h55 : V1 55 = up2 V 53 0 0 55 := p58.1 55 (by decide) (by decide)
        have hlt : nlC (psC S) ||| 2 ^ x.toNat < 16 := Nat.or_lt_two_pow (n := 4) hnl (Nat.pow_lt_pow_right (by decide) (by omega))
        refine aw_aload_0 (q := 62) F dM_nail_61 rfl ?_
        refine av_getaE (q := 65) F fM_17 dM_nail_62 rfl rfl (by first | exact hM.o | exact hl.o | exact hM.a55 | exact hM.a56 | exact hM.a57 | exact hM.a58) hM.p15 ?_
        refine aw_bipush (q := 67) F dM_nail_65 rfl (by decide) ?_
        refine aw_dup2 (q := 68) F dM_nail_67 rfl trivial trivial ?_
        refine av_iaload (q := 69) F dM_nail_68 rfl (by first | exact hM.o | exact hl.o | exact hM.a55 | exact hM.a56 | exact hM.a57 | exact hM.a58) (by omega) (by omega) ?_
        rw [show (11 : Int).toNat = 11 from rfl, h55, e11]
        refine aw_iconst (q := 70) F dM_nail_69 rfl (by decide) ?_
        refine aw_iload_1 (q := 71) F dM_nail_70 rfl ?_
        refine aw_ishl (q := 72) F dM_nail_71 rfl ?_
        rw [shl1 (by omega) (by omega)]
        refine aw_ior (q := 73) F dM_nail_72 rfl ?_
        rw [zor_n (by omega)]
        refine av_iastore (q := 74) F dM_nail_73 rfl (by first | exact hM.o | exact hl.o | exact hM.a55 | exact hM.a56 | exact hM.a57 | exact hM.a58) (by omega) (by omega) ?_
        refine aw_aload_0 (q := 75) F dM_nail_74 rfl ?_
        refine av_callV0 (q := 78) (ci := 9) F hm mM_granted_i mM_granted_n lM_508 dM_nail_75 rfl rfl rfl (by first | exact hM.o | exact hl.o | exact hM.a55 | exact hM.a56 | exact hM.a57 | exact hM.a58) (by decide) (Nat.le_refl _) (Nat.le_refl _) (Nat.le_of_ble_eq_true rfl) (wM_granted hM ?_)
        refine aw_zret F C dM_nail_78 rfl (by decide) (Nat.le_refl _) (Nat.le_refl _) ?_
        refine MK.act g' h (fun _ _ => rfl) hd ok p58 (fun b h1 _ => up2_nea _ _ h1) ?_
        obtain ⟨b1, b2, b3, b4, b5⟩ := hA
        rw [up2_at, h55]
        refine ⟨fun p hp => ?_, fun d hd => ?_, ?_, fun d hd => ?_, ?_⟩
        · exact (if_neg (by omega)).trans (b1 p hp)
        · exact (if_neg (by omega)).trans (b2 d hd)
        · exact (if_neg (by decide)).trans b3
        · exact (if_neg (by omega)).trans (b4 d hd)
        · exact if_pos rfl
      · refine aw_aload_0 (q := 51) F dM_nail_50 rfl ?_
        refine aw_bipush (q := 53) F dM_nail_51 rfl (by decide) ?_
        refine av_callV1 (q := 56) (ci := 9) F hm mM_denied_i mM_denied_n lM_505 dM_nail_53 rfl rfl rfl (by first | exact hM.o | exact hl.o | exact hM.a55 | exact hM.a56 | exact hM.a57 | exact hM.a58) (by decide) (Nat.le_refl _) (Nat.le_refl _) (Nat.le_of_ble_eq_true rfl) (wM_denied hM ?_)
        refine aw_zret F C dM_nail_56 rfl (by decide) (Nat.le_refl _) (Nat.le_refl _) ?_
        exact MK.fin0 (r6 c7 c27 (by omega)) h (by decide)
  · refine aw_if_ne (q := 13) (t := 19) F dM_nail_10 rfl (by decide) (fun c10 => absurd c10 (by decide)) (fun c10 => ?_)
    refine aw_aload_0 (q := 14) F dM_nail_13 rfl ?_
    refine aw_iconst (q := 15) F dM_nail_14 rfl (by decide) ?_
    refine av_callV1 (q := 18) (ci := 9) F hm mM_denied_i mM_denied_n lM_505 dM_nail_15 rfl rfl rfl (by first | exact hM.o | exact hl.o | exact hM.a55 | exact hM.a56 | exact hM.a57 | exact hM.a58) (by decide) (Nat.le_refl _) (Nat.le_refl _) (Nat.le_of_ble_eq_true rfl) (wM_denied hM ?_)
    refine aw_zret F C dM_nail_18 rfl (by decide) (Nat.le_refl _) (Nat.le_refl _) ?_
    exact MK.fin0 (r1 c7) h (by decide)
theorem wM_spring {x : Int} (h : MW V σ l S) (hok : okP (ifS (wya (0 ≤ x ∧ x < tDn (psT S)) ((psS S).1 x.toNat ≤ 1) True) (nSpr S x.toNat) S)) (hK : MK K V σ l (ifS (wya (0 ≤ x ∧ x < tDn (psT S)) ((psS S).1 x.toNat ≤ 1) True) (nSpr S x.toNat) S) (some (vI (rfD (wya (0 ≤ x ∧ x < tDn (psT S)) ((psS S).1 x.toNat ≤ 1) True) (1 - (psS S).1 x.toNat : Nat) (-1))))) : Wp G 4 mM_spring [vR 53, vI x] (V, σ) 0 0 K := by
  obtain ⟨g, r1, r5, -⟩ := m4 hok hK
  have hM := h.mo
  have hd4 : tDn (psT S) ≤ 4 := h.hc.1
  refine wp_intro mM_spring_i.1 [some (vR 53), some (vI x)] rfl rfl (Nat.le_of_ble_eq_true rfl) ?_
  intro X hG F C
  have hm := C.rm
  refine aw_aload_0 (q := 1) F dM_spring_0 rfl ?_
  refine aw_iconst (q := 2) F dM_spring_1 rfl (by decide) ?_
  refine av_puti (q := 5) F fM_46 dM_spring_2 rfl rfl (wr_9_0 _) (by first | exact hM.o | exact hl.o | exact hM.a55 | exact hM.a56 | exact hM.a57 | exact hM.a58) ?_
  refine aw_aload_0 (q := 6) F dM_spring_5 rfl ?_
  refine aw_iload_1 (q := 7) F dM_spring_6 rfl ?_
  refine av_callV1 (q := 10) (ci := 9) F hm mM_isDoor_i mM_isDoor_n lM_354 dM_spring_7 rfl rfl rfl (by first | exact hM.o | exact hl.o | exact hM.a55 | exact hM.a56 | exact hM.a57 | exact hM.a58) (by decide) (Nat.le_refl _) (Nat.le_refl _) (Nat.le_of_ble_eq_true rfl) (wM_isDoor (D := tDn (psT S)) hM h.zer h.th.dr (fun c7 => ?_) (fun c7 => ?_))
  · refine aw_if_ne (q := 13) (t := 19) F dM_spring_10 rfl (by decide) (fun c10 => ?_) (fun c10 => absurd c10 (by decide))
    have hd : 0 < tDn (psT S) := by omega
    have hl := h.la hd
    have hA := ((h.th (z := 0)).wa hd).1
    have e7 : up2 V 53 0 0 55 (7 + x.toNat) = ((psS S).1 x.toNat : Int) := hA.2.2.2.1 x.toNat (by omega)
    refine aw_aload_0 (q := 20) F dM_spring_19 rfl ?_
    refine av_getaE (q := 23) F fM_17 dM_spring_20 rfl rfl (by first | exact hM.o | exact hl.o | exact hM.a55 | exact hM.a56 | exact hM.a57 | exact hM.a58) hM.p15 ?_
    refine aw_bipush (q := 25) F dM_spring_23 rfl (by decide) ?_
    refine aw_iload_1 (q := 26) F dM_spring_25 rfl ?_
    refine aw_iadd (q := 27) F dM_spring_26 rfl (by constructor <;> omega) ?_
    refine av_iaload (q := 28) F dM_spring_27 rfl (by first | exact hM.o | exact hl.o | exact hM.a55 | exact hM.a56 | exact hM.a57 | exact hM.a58) (by omega) (by omega) ?_
    rw [show (7 + x).toNat = 7 + x.toNat by omega, e7]
    refine aw_iconst (q := 29) F dM_spring_28 rfl (by decide) ?_
    refine aw_icmp_le (q := 32) (t := 38) F dM_spring_29 rfl (by decide) (fun c29 => ?_) (fun c29 => ?_)
    · refine aw_aload_0 (q := 39) F dM_spring_38 rfl ?_
      refine av_callV0 (q := 42) (ci := 9) F hm mM_remembers_i mM_remembers_n lM_496 dM_spring_39 rfl rfl rfl (by first | exact hM.o | exact hl.o | exact hM.a55 | exact hM.a56 | exact hM.a57 | exact hM.a58) (by decide) (Nat.le_refl _) (Nat.le_refl _) (Nat.le_of_ble_eq_true rfl) (wM_remembers (n := (psP S).length) hM h.th.f.2.2.2.2.1 h.1.2.2.2.2.1 (fun V1 p39 => ?_))
      obtain ⟨ok, g'⟩ := g c7 (by omega) trivial
      have h55 : V1 55 = up2 V 53 0 0 55 := p39.1 55 (by decide) (by decide)
      refine aw_aload_0 (q := 43) F dM_spring_42 rfl ?_
      refine av_getaE (q := 46) F fM_17 dM_spring_43 rfl rfl (by first | exact hM.o | exact hl.o | exact hM.a55 | exact hM.a56 | exact hM.a57 | exact hM.a58) hM.p15 ?_
      refine aw_bipush (q := 48) F dM_spring_46 rfl (by decide) ?_
      refine aw_iload_1 (q := 49) F dM_spring_48 rfl ?_
      refine aw_iadd (q := 50) F dM_spring_49 rfl (by constructor <;> omega) ?_
      refine aw_iconst (q := 51) F dM_spring_50 rfl (by decide) ?_
      refine aw_aload_0 (q := 52) F dM_spring_51 rfl ?_
      refine av_getaE (q := 55) F fM_17 dM_spring_52 rfl rfl (by first | exact hM.o | exact hl.o | exact hM.a55 | exact hM.a56 | exact hM.a57 | exact hM.a58) hM.p15 ?_
      refine aw_bipush (q := 57) F dM_spring_55 rfl (by decide) ?_
      refine aw_iload_1 (q := 58) F dM_spring_57 rfl ?_
      refine aw_iadd (q := 59) F dM_spring_58 rfl (by constructor <;> omega) ?_
      refine av_iaload (q := 60) F dM_spring_59 rfl (by first | exact hM.o | exact hl.o | exact hM.a55 | exact hM.a56 | exact hM.a57 | exact hM.a58) (by omega) (by omega) ?_
      rw [show (7 + x).toNat = 7 + x.toNat by omega, h55, e7]
      refine aw_isub (q := 61) F dM_spring_60 rfl (by constructor <;> omega) ?_
      refine av_iastore (q := 62) F dM_spring_61 rfl (by first | exact hM.o | exact hl.o | exact hM.a55 | exact hM.a56 | exact hM.a57 | exact hM.a58) (by omega) (by omega) ?_
      refine aw_aload_0 (q := 63) F dM_spring_62 rfl ?_
      refine aw_aload_0 (q := 64) F dM_spring_63 rfl ?_
      refine av_getaE (q := 67) F fM_17 dM_spring_64 rfl rfl (by first | exact hM.o | exact hl.o | exact hM.a55 | exact hM.a56 | exact hM.a57 | exact hM.a58) hM.p15 ?_
      refine aw_bipush (q := 69) F dM_spring_67 rfl (by decide) ?_
      refine aw_iload_1 (q := 70) F dM_spring_69 rfl ?_
      refine aw_iadd (q := 71) F dM_spring_70 rfl (by constructor <;> omega) ?_
      refine av_iaload (q := 72) F dM_spring_71 rfl (by first | exact hM.o | exact hl.o | exact hM.a55 | exact hM.a56 | exact hM.a57 | exact hM.a58) (by omega) (by omega) ?_
      rw [show (7 + x).toNat = 7 + x.toNat by omega, up2_same, show 1 - (((psS S).1 x.toNat : Nat) : Int) = ((1 - (psS S).1 x.toNat : Nat) : Int) by omega]
      refine av_callV1 (q := 75) (ci := 9) F hm mM_good_i mM_good_n lM_56 dM_spring_72 rfl rfl rfl (by first | exact hM.o | exact hl.o | exact hM.a55 | exact hM.a56 | exact hM.a57 | exact hM.a58) (by decide) (Nat.le_refl _) (Nat.le_refl _) (Nat.le_of_ble_eq_true rfl) (wM_good hM ?_)
      refine aw_iret F C dM_spring_75 rfl (Nat.le_refl _) (Nat.le_refl _) ?_
      refine MK.act g' h (fun _ _ => rfl) hd ok p39 (fun b h1 _ => up2_nea _ _ h1) ?_
      obtain ⟨b1, b2, b3, b4, b5⟩ := hA
      rw [up2_at, h55]
      refine ⟨fun p hp => ?_, fun d hd => ?_, ?_, fun d hd => ?_, ?_⟩
      · exact (if_neg (by omega)).trans (b1 p hp)
      · exact (if_neg (by omega)).trans (b2 d hd)
      · exact (if_neg (by omega)).trans b3
      · show (if 7 + d = 7 + x.toNat then _ else up2 V 53 0 0 55 (7 + d)) = ((spK (psS S).1 x.toNat d : Nat) : Int)
        unfold spK
        by_cases q : d = x.toNat
        · rw [if_pos (by omega), if_pos q]
        · rw [if_neg (by omega), if_neg q]; exact b4 d hd
      · exact (if_neg (by omega)).trans b5
    · refine aw_aload_0 (q := 33) F dM_spring_32 rfl ?_
      refine aw_iconst (q := 34) F dM_spring_33 rfl (by decide) ?_
      refine av_callV1 (q := 37) (ci := 9) F hm mM_refused_i mM_refused_n lM_52 dM_spring_34 rfl rfl rfl (by first | exact hM.o | exact hl.o | exact hM.a55 | exact hM.a56 | exact hM.a57 | exact hM.a58) (by decide) (Nat.le_refl _) (Nat.le_refl _) (Nat.le_of_ble_eq_true rfl) (wM_refused hM ?_)
      refine aw_iret F C dM_spring_37 rfl (Nat.le_refl _) (Nat.le_refl _) ?_
      exact MK.fin0 (r5 c7 (by omega)) h (by decide)
  · refine aw_if_ne (q := 13) (t := 19) F dM_spring_10 rfl (by decide) (fun c10 => absurd c10 (by decide)) (fun c10 => ?_)
    refine aw_aload_0 (q := 14) F dM_spring_13 rfl ?_
    refine aw_iconst (q := 15) F dM_spring_14 rfl (by decide) ?_
    refine av_callV1 (q := 18) (ci := 9) F hm mM_refused_i mM_refused_n lM_52 dM_spring_15 rfl rfl rfl (by first | exact hM.o | exact hl.o | exact hM.a55 | exact hM.a56 | exact hM.a57 | exact hM.a58) (by decide) (Nat.le_refl _) (Nat.le_refl _) (Nat.le_of_ble_eq_true rfl) (wM_refused hM ?_)
    refine aw_iret F C dM_spring_18 rfl (Nat.le_refl _) (Nat.le_refl _) ?_
    exact MK.fin0 (r1 c7) h (by decide)
end Mod22
