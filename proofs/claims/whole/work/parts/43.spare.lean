section Spare0
variable {V V' : Nat → Nat → Int} {σ σ' : Shp} {ow : Nat → Nat} {y : Dy} {S : PS} {kn : Bool}
theorem CL.dq2 {ow : Nat → Nat} {y : Dy} (h : CL ow y) {b : Nat} (hb : ow b ≠ 13) (hb2 : ow b ≠ 14) : b ≠ dQ2 y ∧ b ≠ dK2 y := ⟨CL.ne (ow := ow) (by rw [h.2.1.2.2.1]; exact hb), CL.ne (ow := ow) (by rw [h.2.1.2.2.2.1]; exact hb2)⟩
theorem CL.rg {ow : Nat → Nat} {y : Dy} (h : CL ow y) {b lo hi : Nat} (hb : ow b < 100 ∨ 1000 ≤ ow b) (hx : ∀ x, lo ≤ x → x ≤ hi → fx x) : b < lo ∨ hi < b := by
  rcases Nat.lt_or_ge b lo with h5 | h5
  · exact Or.inl h5
  · refine Or.inr (Nat.lt_of_not_le fun h6 => ?_)
    have h7 := h.f (hx b h5 h6)
    have h8 := fx_lt (hx b h5 h6)
    omega
theorem fx27 : ∀ x, 27 ≤ x → x ≤ 27 + 6 → fx x := fun x h1 h2 => by unfold fx; omega
theorem fx43 : ∀ x, 43 ≤ x → x ≤ 43 + 6 → fx x := fun x h1 h2 => by unfold fx; omega
/-- the spare search began anew -/
theorem CW.s2 {q k Q : Nat} (h : CW V σ ow y S kn) (hs : sS σ' 27 q k Q) (he : eS σ σ' (zS 27)) (hv : ∀ b, b < sX σ → b < 27 ∨ 27 + 6 < b → b ≠ dQ2 y → b ≠ dK2 y → V' b = V b) (hq : q = dQ2 y ∨ sX σ ≤ q) (hk : k = dK2 y ∨ sX σ ≤ k) : CW V' σ' (owN ow (sX σ) q 13 k 14) (y.1, y.2.1, (q, k, Q, Q / 64 + 1), y.2.2.2) S kn ∧ FR V V' σ σ' ow (owN ow (sX σ) q 13 k 14) := by
  have hL := h.cl
  have hX := h.cs.x53
  obtain ⟨⟨n1, n2, n3, n4⟩, ⟨n5, n6, n7⟩, n8⟩ := h.cs.nm
  have hf : ∀ {b : Nat}, fx b → b < 27 ∨ 27 + 6 < b → V' b = V b := fun {b} hb h2 => by
    have h1 := hL.f hb
    have h3 := hL.dq2 (b := b) (by omega) (by omega)
    exact hv b (by have := fx_lt hb; omega) h2 h3.1 h3.2
  have hd : ∀ {b : Nat}, b < sX σ → ow b < 100 → ow b ≠ 13 → ow b ≠ 14 → V' b = V b := fun {b} hb h1 h2 h3 => by
    have h4 := hL.dq2 h2 h3
    exact hv b hb (hL.rg (Or.inl h1) fx27) h4.1 h4.2
  refine ⟨⟨CS.mk' (y := y) (y' := (y.1, y.2.1, (q, k, Q, Q / 64 + 1), y.2.2.2)) he h.cs (fun j q => by have := q.1; omega) (fun j q => by have := q.1; omega) (fun j q => hL.tn (i := 0) (b := 27) (by omega) (by unfold fx; omega) q.1) (fun j q => by have := q.1; omega) (fun j q => by have := q.1; omega) rfl ?_ hs ?_ ?_, ?_, ⟨h.cb.1, Or.inl rfl, h.cb.2.2⟩, ?_⟩, ?_⟩
  · exact h.cs.s1.eS' he (fun j q => by have := q.1; omega) (fun j q => by have := q.1; omega)
  · exact h.cs.r.eS0 he (fun j q => by have := q.1; omega)
  · exact h.cs.g.eS' he (fun q => by have := q.1; omega) (fun q => by have := q.1; omega)
  · refine ⟨fun b hb => ?_, ⟨?_, ?_, owN_q hq n3 hL.2.1.2.2.1, owN_k hk n4 hL.2.1.2.2.2.1 hs.qk, ?_, ?_, ?_⟩, fun i hi => ?_⟩
    · rw [owN_lt (by have := fx_lt hb; omega)]; exact hL.f hb
    · exact (owN_lt n1).trans hL.2.1.1
    · exact (owN_lt n2).trans hL.2.1.2.1
    · exact (owN_lt n5).trans hL.2.1.2.2.2.2.1
    · exact (owN_lt n6).trans hL.2.1.2.2.2.2.2.1
    · exact (owN_lt n7).trans hL.2.1.2.2.2.2.2.2
    · exact (owN_lt (show dT y + i < sX σ by omega)).trans (hL.t hi)
  · refine CV.same (y := (y.1, y.2.1, (q, k, Q, Q / 64 + 1), y.2.2.2)) (V := V) h.2.2.2 (fun b hb => hf (by unfold fx; omega) (by omega)) (fun i hi => ?_) ?_ ?_
    · have := hL.t hi
      show V' (dT y + i) = V (dT y + i)
      exact hd (show dT y + i < sX σ by omega) (by omega) (by omega) (by omega)
    · exact hd n1 (by rw [hL.2.1.1]; omega) (by rw [hL.2.1.1]; omega) (by rw [hL.2.1.1]; omega)
    · exact hd n2 (by rw [hL.2.1.2.1]; omega) (by rw [hL.2.1.2.1]; omega) (by rw [hL.2.1.2.1]; omega)
  · refine ⟨he.1, fun b hb ho => ?_⟩
    have hq := he.2 b hb
    have n27 : b ≠ 27 := CL.ne (ow := ow) (by rw [hL.f (b := 27) (by unfold fx; omega)]; omega)
    have hdq := hL.dq2 (b := b) (by omega) (by omega)
    exact ⟨hv b hb (hL.rg (Or.inr ho) fx27) hdq.1 hdq.2, owN_lt hb, hq.1, hq.2.1, fun j => hq.2.2 j (fun q => n27 q.1)⟩
theorem CW.s2b (h : CW V σ ow y S kn) (hv : ∀ b, b < 27 ∨ 27 + 6 < b → b ≠ dQ2 y → b ≠ dK2 y → V' b = V b) : CW V' σ ow y S kn ∧ FR V V' σ σ ow ow := by
  have hL := h.cl
  have hf : ∀ {b : Nat}, fx b → b < 27 ∨ 27 + 6 < b → V' b = V b := fun {b} hb h2 => by
    have h1 := hL.f hb
    have h3 := hL.dq2 (b := b) (by omega) (by omega)
    exact hv b h2 h3.1 h3.2
  have hd : ∀ {b : Nat}, ow b < 100 → ow b ≠ 13 → ow b ≠ 14 → V' b = V b := fun {b} h1 h2 h3 => by
    have h4 := hL.dq2 h2 h3
    exact hv b (hL.rg (Or.inl h1) fx27) h4.1 h4.2
  refine ⟨⟨h.cs, hL, h.cb, h.2.2.2.same (fun b hb => hf (by unfold fx; omega) (by omega)) (fun i hi => ?_) ?_ ?_⟩, Nat.le_refl _, fun b hb ho => ⟨?_, rfl, rfl, rfl, fun _ => rfl⟩⟩
  · have := hL.t hi
    exact hd (by omega) (by omega) (by omega)
  · exact hd (by rw [hL.2.1.1]; omega) (by rw [hL.2.1.1]; omega) (by rw [hL.2.1.1]; omega)
  · exact hd (by rw [hL.2.1.2.1]; omega) (by rw [hL.2.1.2.1]; omega) (by rw [hL.2.1.2.1]; omega)
  · have hdq := hL.dq2 (b := b) (by omega) (by omega)
    exact hv b (hL.rg (Or.inr ho) fx27) hdq.1 hdq.2
/-- the contest's cells have changed -/
theorem CW.co (h : CW V σ ow y S kn) (hv : ∀ b, b < 43 ∨ 43 + 6 < b → V' b = V b) : CW V' σ ow y S kn ∧ FR V V' σ σ ow ow := by
  have hL := h.cl
  refine ⟨⟨h.cs, hL, h.cb, h.2.2.2.same (fun b hb => hv b (by omega)) (fun i hi => ?_) ?_ ?_⟩, Nat.le_refl _, fun b hb ho => ⟨hv b (hL.rg (Or.inr ho) fx43), rfl, rfl, rfl, fun _ => rfl⟩⟩
  · have := hL.t hi
    exact hv _ (hL.rg (Or.inl (by omega)) fx43)
  · exact hv _ (hL.rg (Or.inl (by rw [hL.2.1.1]; omega)) fx43)
  · exact hv _ (hL.rg (Or.inl (by rw [hL.2.1.2.1]; omega)) fx43)
theorem CW.ta (h : CW V σ ow y S kn) {lo hi : Nat} (hx : ∀ x, lo ≤ x → x ≤ hi → fx x) : dT y < lo ∨ hi < dT y := by
  have h0 := h.cl.t (i := 0) (by omega)
  exact h.cl.rg (b := dT y + 0) (Or.inl (by omega)) hx
end Spare0
section Spare1
variable {G : GE} {V : Nat → Nat → Int} {σ : Shp} {K : Option AV → Mem → Prop} {ow : Nat → Nat} {y : Dy} {S : PS} {kn : Bool}
theorem wL_shuttings {w : Int} (hB : sX σ + 10 < BG) (h : CW V σ ow y S kn) (hK : CK K V σ ow (setR S (wy (0 < tDn (psT S)) (0 ≤ w ∧ w ≤ 2))) kn (some (vI (rfD (wy (0 < tDn (psT S)) (0 ≤ w ∧ w ≤ 2)) (fsF (psC S) (goN S w) (mxQ (dL2 y) (spc (psC S)) + 1) [(psA S, 0)] 0 0) (-1))))) : Wp G 6 mL_shuttings [vR 1, vI w] (V, σ) 2 63500 K := by
  have hW := h.cs
  have hT1 : V (dT y) 1 = tDn (psT S) := h.tv.1.2.1
  have h2 := h.tr (z := 0) (by decide)
  obtain ⟨g, r1, r2⟩ := g3 hK
  have hc := h.oT.okC h.oS
  have hsl : spc (psC S) ≤ 62500 := spc_le hc
  have hcost : nC (dL2 y) (spc (psC S)) ≤ 2 ∧ nSl (dL2 y) (spc (psC S)) ≤ 63500 := by unfold nC nSl; split <;> omega
  refine wp_intro mL_shuttings_i.1 [some (vR 1), some (vI w)] rfl rfl (Nat.le_of_ble_eq_true rfl) ?_
  intro X hG F C
  have hm := C.rm
  have go : 0 < tDn (psT S) → 0 ≤ w ∧ w ≤ 2 → AW X 17 [some (vR 1), some (vI w)] [] (up2 V 1 2 0, σ) 0 0 := by
    intro hd hw
    have hsp : psA S < spc (psC S) := h.oS.2.2.2.1 hd
    have hT := h2.tv.1
    refine aw_aload_0 (q := 18) F dL_shuttings_17 rfl ?_
    refine av_getaE (q := 21) F fL_45 dL_shuttings_18 rfl rfl (by first | exact hW.o | exact hW.ho | exact hW.to | exact hW.s2.o | exact hW.c.1 | exact hW5.o | exact hW5.ho | exact hW5.s2.o | exact hW5.c.1) (by first | exact hW.p13 | exact hW5.p13) ?_
    refine aw_aload_0 (q := 22) F dL_shuttings_21 rfl ?_
    refine av_getaE (q := 25) F fL_16 dL_shuttings_22 rfl rfl (by first | exact hW.o | exact hW.ho | exact hW.to | exact hW.s2.o | exact hW.c.1 | exact hW5.o | exact hW5.ho | exact hW5.s2.o | exact hW5.c.1) (by first | exact hW.p5 | exact hW5.p5) ?_
    refine aw_aload_0 (q := 26) F dL_shuttings_25 rfl ?_
    refine av_getaE (q := 29) F fL_23 dL_shuttings_26 rfl rfl (by first | exact hW.o | exact hW.ho | exact hW.to | exact hW.s2.o | exact hW.c.1 | exact hW5.o | exact hW5.ho | exact hW5.s2.o | exact hW5.c.1) (by first | exact hW.p6 | exact hW5.p6) ?_
    refine av_callV0 (q := 32) (ci := 2) F hm mH_scene_i mH_scene_n lL_197 dL_shuttings_29 rfl rfl rfl (by first | exact hW.o | exact hW.ho | exact hW.to | exact hW.s2.o | exact hW.c.1 | exact hW5.o | exact hW5.ho | exact hW5.s2.o | exact hW5.c.1) (by decide) (by decide) (by decide) (Nat.le_of_ble_eq_true rfl) (wH_scene (c := psC S) (n := psA S) (by omega) hW.h (show HH (up2 V 1 2 0) 10 (psC S) (psA S) from h2.hh) ?_)
    refine av_callV2 (q := 35) (ci := 5) F hm mS_begin_i mS_begin_n lL_200 dL_shuttings_32 rfl rfl rfl (by first | exact hW.o | exact hW.ho | exact hW.to | exact hW.s2.o | exact hW.c.1 | exact hW5.o | exact hW5.ho | exact hW5.s2.o | exact hW5.c.1) (by decide) (by omega) (by omega) (Nat.le_of_ble_eq_true rfl) (wS_begin (c := psC S) (n := psA S) rfl hsp hc hd (by omega) h.cb.2.1 hW.s2 hW.t (h.ta fx27) hT.2.1 hT.2.2.1 hT.2.2.2.1 hT.2.2.2.2.1 (fun v32 sg32 q32 k32 hs32 e32 f32 sq32 n32 x32 => ?_))
    obtain ⟨c5, f5⟩ := h2.s2 hs32 e32 f32 n32.1 n32.2
    have hW5 := c5.cs
    refine aw_aload_0 (q := 36) F dL_shuttings_35 rfl ?_
    refine av_getaE (q := 39) F fL_45 dL_shuttings_36 rfl rfl (by first | exact hW.o | exact hW.ho | exact hW.to | exact hW.s2.o | exact hW.c.1 | exact hW5.o | exact hW5.ho | exact hW5.s2.o | exact hW5.c.1) (by first | exact hW.p13 | exact hW5.p13) ?_
    refine aw_aload_0 (q := 40) F dL_shuttings_39 rfl ?_
    refine aw_iload_1 (q := 41) F dL_shuttings_40 rfl ?_
    refine av_callV1 (q := 44) (ci := 7) F hm mL_goalOf_i mL_goalOf_n lL_184 dL_shuttings_41 rfl rfl rfl (by first | exact hW.o | exact hW.ho | exact hW.to | exact hW.s2.o | exact hW.c.1 | exact hW5.o | exact hW5.ho | exact hW5.s2.o | exact hW5.c.1) (by decide) (by omega) (by omega) (Nat.le_of_ble_eq_true rfl) (wL_goalOf (w := w) c5 ?_)
    refine av_callV1 (q := 47) (ci := 5) F hm mS_fewestShut_i mS_fewestShut_n lL_203 dL_shuttings_44 rfl rfl rfl (by first | exact hW.o | exact hW.ho | exact hW.to | exact hW.s2.o | exact hW.c.1 | exact hW5.o | exact hW5.ho | exact hW5.s2.o | exact hW5.c.1) (by decide) (by omega) (by omega) (Nat.le_of_ble_eq_true rfl) (wS_fewestShut (c := psC S) (P := goN S w) rfl (bs25 hc _) hs32 sq32.1 (fun v44 l44 m44 d44 f44 s44 => ?_))
    refine aw_iret F C dL_shuttings_47 rfl (by omega) (by omega) ?_
    obtain ⟨c6, f6⟩ := c5.s2b f44
    exact g hd hw _ _ _ _ c6 ((h.fr.tr f5).tr f6)
  refine aw_aload_0 (q := 1) F dL_shuttings_0 rfl ?_
  refine aw_aload_0 (q := 2) F dL_shuttings_1 rfl ?_
  refine av_callV0 (q := 5) (ci := 7) F hm mL_hasLane_i mL_hasLane_n lL_154 dL_shuttings_2 rfl rfl rfl (by first | exact hW.o | exact hW.ho | exact hW.to | exact hW.s2.o | exact hW.c.1 | exact hW5.o | exact hW5.ho | exact hW5.s2.o | exact hW5.c.1) (by decide) (by decide) (by decide) (Nat.le_of_ble_eq_true rfl) (wL_hasLane hW (fun c2 => ?_) (fun c2 => ?_))
  · refine aw_iload_1 (q := 6) F dL_shuttings_5 rfl ?_
    refine av_callS1 (q := 9) F hm mL_isErrand_i mL_isErrand_n lL_177 dL_shuttings_6 rfl (by decide) (by decide) (by decide) (Nat.le_of_ble_eq_true rfl) (wL_isErrand (fun c6 => ?_) (fun c6 => ?_))
    · refine av_callV2 (q := 12) (ci := 7) F hm mL_passes_i mL_passes_n lL_114 dL_shuttings_9 rfl rfl rfl (by first | exact hW.o | exact hW.ho | exact hW.to | exact hW.s2.o | exact hW.c.1 | exact hW5.o | exact hW5.ho | exact hW5.s2.o | exact hW5.c.1) (by decide) (by decide) (by decide) (Nat.le_of_ble_eq_true rfl) (wL_passes hW (fun c9 d9 => ?_) (fun c9 => ?_) (fun c9 d9 => ?_))
      · refine aw_if_ne (q := 15) (t := 17) F dL_shuttings_12 rfl (by decide) (fun c12 => ?_) (fun c12 => absurd c12 (by decide))
        first | (exfalso; omega) | exact go (by omega) (by omega)
      · refine aw_if_ne (q := 15) (t := 17) F dL_shuttings_12 rfl (by decide) (fun c12 => absurd c12 (by decide)) (fun c12 => ?_)
        refine aw_iconst (q := 16) F dL_shuttings_15 rfl (by decide) ?_
        refine aw_iret F C dL_shuttings_16 rfl (by decide) (by decide) ?_
        first | (exfalso; omega) | exact h.now (by decide) (r1 (by omega)) | exact h.now (by decide) (r2 (by omega) (by omega))
      · refine aw_if_ne (q := 15) (t := 17) F dL_shuttings_12 rfl (by decide) (fun c12 => absurd c12 (by decide)) (fun c12 => ?_)
        refine aw_iconst (q := 16) F dL_shuttings_15 rfl (by decide) ?_
        refine aw_iret F C dL_shuttings_16 rfl (by decide) (by decide) ?_
        first | (exfalso; omega) | exact h.now (by decide) (r1 (by omega)) | exact h.now (by decide) (r2 (by omega) (by omega))
    · refine av_callV2 (q := 12) (ci := 7) F hm mL_passes_i mL_passes_n lL_114 dL_shuttings_9 rfl rfl rfl (by first | exact hW.o | exact hW.ho | exact hW.to | exact hW.s2.o | exact hW.c.1 | exact hW5.o | exact hW5.ho | exact hW5.s2.o | exact hW5.c.1) (by decide) (by decide) (by decide) (Nat.le_of_ble_eq_true rfl) (wL_passes hW (fun c9 d9 => ?_) (fun c9 => ?_) (fun c9 d9 => ?_))
      · refine aw_if_ne (q := 15) (t := 17) F dL_shuttings_12 rfl (by decide) (fun c12 => ?_) (fun c12 => absurd c12 (by decide))
        first | (exfalso; omega) | exact go (by omega) (by omega)
      · refine aw_if_ne (q := 15) (t := 17) F dL_shuttings_12 rfl (by decide) (fun c12 => absurd c12 (by decide)) (fun c12 => ?_)
        refine aw_iconst (q := 16) F dL_shuttings_15 rfl (by decide) ?_
        refine aw_iret F C dL_shuttings_16 rfl (by decide) (by decide) ?_
        first | (exfalso; omega) | exact h.now (by decide) (r1 (by omega)) | exact h.now (by decide) (r2 (by omega) (by omega))
      · refine aw_if_ne (q := 15) (t := 17) F dL_shuttings_12 rfl (by decide) (fun c12 => absurd c12 (by decide)) (fun c12 => ?_)
        refine aw_iconst (q := 16) F dL_shuttings_15 rfl (by decide) ?_
        refine aw_iret F C dL_shuttings_16 rfl (by decide) (by decide) ?_
        first | (exfalso; omega) | exact h.now (by decide) (r1 (by omega)) | exact h.now (by decide) (r2 (by omega) (by omega))
  · refine aw_iload_1 (q := 6) F dL_shuttings_5 rfl ?_
    refine av_callS1 (q := 9) F hm mL_isErrand_i mL_isErrand_n lL_177 dL_shuttings_6 rfl (by decide) (by decide) (by decide) (Nat.le_of_ble_eq_true rfl) (wL_isErrand (fun c6 => ?_) (fun c6 => ?_))
    · refine av_callV2 (q := 12) (ci := 7) F hm mL_passes_i mL_passes_n lL_114 dL_shuttings_9 rfl rfl rfl (by first | exact hW.o | exact hW.ho | exact hW.to | exact hW.s2.o | exact hW.c.1 | exact hW5.o | exact hW5.ho | exact hW5.s2.o | exact hW5.c.1) (by decide) (by decide) (by decide) (Nat.le_of_ble_eq_true rfl) (wL_passes hW (fun c9 d9 => ?_) (fun c9 => ?_) (fun c9 d9 => ?_))
      · refine aw_if_ne (q := 15) (t := 17) F dL_shuttings_12 rfl (by decide) (fun c12 => ?_) (fun c12 => absurd c12 (by decide))
        first | (exfalso; omega) | exact go (by omega) (by omega)
      · refine aw_if_ne (q := 15) (t := 17) F dL_shuttings_12 rfl (by decide) (fun c12 => absurd c12 (by decide)) (fun c12 => ?_)
        refine aw_iconst (q := 16) F dL_shuttings_15 rfl (by decide) ?_
        refine aw_iret F C dL_shuttings_16 rfl (by decide) (by decide) ?_
        first | (exfalso; omega) | exact h.now (by decide) (r1 (by omega)) | exact h.now (by decide) (r2 (by omega) (by omega))
      · refine aw_if_ne (q := 15) (t := 17) F dL_shuttings_12 rfl (by decide) (fun c12 => absurd c12 (by decide)) (fun c12 => ?_)
        refine aw_iconst (q := 16) F dL_shuttings_15 rfl (by decide) ?_
        refine aw_iret F C dL_shuttings_16 rfl (by decide) (by decide) ?_
        first | (exfalso; omega) | exact h.now (by decide) (r1 (by omega)) | exact h.now (by decide) (r2 (by omega) (by omega))
    · refine av_callV2 (q := 12) (ci := 7) F hm mL_passes_i mL_passes_n lL_114 dL_shuttings_9 rfl rfl rfl (by first | exact hW.o | exact hW.ho | exact hW.to | exact hW.s2.o | exact hW.c.1 | exact hW5.o | exact hW5.ho | exact hW5.s2.o | exact hW5.c.1) (by decide) (by decide) (by decide) (Nat.le_of_ble_eq_true rfl) (wL_passes hW (fun c9 d9 => ?_) (fun c9 => ?_) (fun c9 d9 => ?_))
      · refine aw_if_ne (q := 15) (t := 17) F dL_shuttings_12 rfl (by decide) (fun c12 => ?_) (fun c12 => absurd c12 (by decide))
        first | (exfalso; omega) | exact go (by omega) (by omega)
      · refine aw_if_ne (q := 15) (t := 17) F dL_shuttings_12 rfl (by decide) (fun c12 => absurd c12 (by decide)) (fun c12 => ?_)
        refine aw_iconst (q := 16) F dL_shuttings_15 rfl (by decide) ?_
        refine aw_iret F C dL_shuttings_16 rfl (by decide) (by decide) ?_
        first | (exfalso; omega) | exact h.now (by decide) (r1 (by omega)) | exact h.now (by decide) (r2 (by omega) (by omega))
      · refine aw_if_ne (q := 15) (t := 17) F dL_shuttings_12 rfl (by decide) (fun c12 => absurd c12 (by decide)) (fun c12 => ?_)
        refine aw_iconst (q := 16) F dL_shuttings_15 rfl (by decide) ?_
        refine aw_iret F C dL_shuttings_16 rfl (by decide) (by decide) ?_
        first | (exfalso; omega) | exact h.now (by decide) (r1 (by omega)) | exact h.now (by decide) (r2 (by omega) (by omega))
theorem wL_gets {p x n : Int} (h : CW V σ ow y S kn) (hK : CK K V σ ow (setR S (wy ((0 ≤ p ∧ p < tPn (psT S)) ∧ (0 ≤ x ∧ x < tDn (psT S)) ∧ tPn (psT S) = 2) (0 ≤ n ∧ n ≤ 4))) kn (some (vI (rfD (wy ((0 ≤ p ∧ p < tPn (psT S)) ∧ (0 ≤ x ∧ x < tDn (psT S)) ∧ tPn (psT S) = 2) (0 ≤ n ∧ n ≤ 4)) (bz (gI (psC S) p.toNat (x.toNat + 1) n.toNat (psA S) true)) (-1))))) : Wp G 20 mL_gets [vR 1, vI p, vI x, vI n] (V, σ) 0 0 K := by
  have hW := h.cs
  have hv := h.v0
  have hv1 := h.v1
  have ht2 : V (dT y) 2 = tPn (psT S) := h.tv.1.2.2.1
  have h2 := h.tr (z := 0) (by decide)
  obtain ⟨g, r1, r2⟩ := g3 hK
  have hc := h.oT.okC h.oS
  have hsl : spc (psC S) ≤ 62500 := spc_le hc
  have hd4 : tDn (psT S) ≤ 4 := h.oT.2.1
  refine wp_intro mL_gets_i.1 [some (vR 1), some (vI p), some (vI x), some (vI n)] rfl rfl (Nat.le_of_ble_eq_true rfl) ?_
  intro X hG F C
  have hm := C.rm
  have go : (0 ≤ p ∧ p < tPn (psT S)) ∧ (0 ≤ x ∧ x < tDn (psT S)) ∧ tPn (psT S) = 2 → 0 ≤ n ∧ n ≤ 4 → AW X 29 [some (vR 1), some (vI p), some (vI x), some (vI n)] [] (up2 V 1 2 0, σ) 0 0 := by
    intro hp hn
    have hsp : psA S < spc (psC S) := h.oS.2.2.2.1 (by omega)
    have hT := h2.tv.1
    have hpn : pN (psC S) = 2 := hp.2.2
    refine aw_aload_0 (q := 30) F dL_gets_29 rfl ?_
    refine av_getaE (q := 33) F fL_58 dL_gets_30 rfl rfl (by first | exact hW.o | exact hW.ho | exact hW.to | exact hW.s2.o | exact hW.c.1 | exact hW5.o | exact hW5.ho | exact hW5.s2.o | exact hW5.c.1) (by first | exact hW.p15 | exact hW5.p15) ?_
    refine aw_aload_0 (q := 34) F dL_gets_33 rfl ?_
    refine av_getaE (q := 37) F fL_16 dL_gets_34 rfl rfl (by first | exact hW.o | exact hW.ho | exact hW.to | exact hW.s2.o | exact hW.c.1 | exact hW5.o | exact hW5.ho | exact hW5.s2.o | exact hW5.c.1) (by first | exact hW.p5 | exact hW5.p5) ?_
    refine aw_aload_0 (q := 38) F dL_gets_37 rfl ?_
    refine av_getaE (q := 41) F fL_23 dL_gets_38 rfl rfl (by first | exact hW.o | exact hW.ho | exact hW.to | exact hW.s2.o | exact hW.c.1 | exact hW5.o | exact hW5.ho | exact hW5.s2.o | exact hW5.c.1) (by first | exact hW.p6 | exact hW5.p6) ?_
    refine av_callV0 (q := 44) (ci := 2) F hm mH_scene_i mH_scene_n lL_197 dL_gets_41 rfl rfl rfl (by first | exact hW.o | exact hW.ho | exact hW.to | exact hW.s2.o | exact hW.c.1 | exact hW5.o | exact hW5.ho | exact hW5.s2.o | exact hW5.c.1) (by omega) (Nat.le_refl _) (Nat.le_refl _) (Nat.le_of_ble_eq_true rfl) (wH_scene (c := psC S) (n := psA S) (by omega) hW.h (show HH (up2 V 1 2 0) 10 (psC S) (psA S) from h2.hh) ?_)
    refine aw_iload_1 (q := 45) F dL_gets_44 rfl ?_
    refine aw_iload_2 (q := 46) F dL_gets_45 rfl ?_
    refine aw_iconst (q := 47) F dL_gets_46 rfl (by decide) ?_
    refine aw_iadd (q := 48) F dL_gets_47 rfl (by constructor <;> omega) ?_
    refine av_callV4 (q := 51) (ci := 0) F hm mC_begin_i mC_begin_n lL_252 dL_gets_48 rfl rfl rfl (by first | exact hW.o | exact hW.ho | exact hW.to | exact hW.s2.o | exact hW.c.1 | exact hW5.o | exact hW5.ho | exact hW5.s2.o | exact hW5.c.1) (by omega) (Nat.le_refl _) (Nat.le_refl _) (Nat.le_of_ble_eq_true rfl) (wC_begin (c := psC S) (n := psA S) (sk := p.toNat) (go := x.toNat + 1) hW.c rfl hsp hc hW.t (h.ta fx43) hT.2.1 hT.2.2.1 hT.2.2.2.1 hT.2.2.2.2.1 (by omega) (by omega) (fun v48 f48 c48 => ?_))
    have hh5 : HH v48 10 (psC S) (psA S) := (show HH (up2 V 1 2 0) 10 (psC S) (psA S) from h2.hh).same (fun b b1 b2 => f48 b (by omega))
    refine aw_aload_0 (q := 52) F dL_gets_51 rfl ?_
    refine av_getaE (q := 55) F fL_58 dL_gets_52 rfl rfl (by first | exact hW.o | exact hW.ho | exact hW.to | exact hW.s2.o | exact hW.c.1 | exact hW5.o | exact hW5.ho | exact hW5.s2.o | exact hW5.c.1) (by first | exact hW.p15 | exact hW5.p15) ?_
    refine aw_aload_0 (q := 56) F dL_gets_55 rfl ?_
    refine av_getaE (q := 59) F fL_23 dL_gets_56 rfl rfl (by first | exact hW.o | exact hW.ho | exact hW.to | exact hW.s2.o | exact hW.c.1 | exact hW5.o | exact hW5.ho | exact hW5.s2.o | exact hW5.c.1) (by first | exact hW.p6 | exact hW5.p6) ?_
    refine av_callV0 (q := 62) (ci := 2) F hm mH_arrangement_i mH_arrangement_n lL_255 dL_gets_59 rfl rfl rfl (by first | exact hW.o | exact hW.ho | exact hW.to | exact hW.s2.o | exact hW.c.1 | exact hW5.o | exact hW5.ho | exact hW5.s2.o | exact hW5.c.1) (by omega) (Nat.le_refl _) (Nat.le_refl _) (Nat.le_of_ble_eq_true rfl) (wH_arrangement (c := psC S) (n := psA S) hW.h hh5 ?_)
    refine aw_iload_3 (q := 63) F dL_gets_62 rfl ?_
    refine av_callV2 (q := 66) (ci := 0) F hm mC_succeeds_i mC_succeeds_n lL_258 dL_gets_63 rfl rfl rfl (by first | exact hW.o | exact hW.ho | exact hW.to | exact hW.s2.o | exact hW.c.1 | exact hW5.o | exact hW5.ho | exact hW5.s2.o | exact hW5.c.1) (by omega) (Nat.le_refl _) (Nat.le_refl _) (Nat.le_of_ble_eq_true rfl) (wC_succeeds (c := psC S) (sk := p.toNat) (go := x.toNat + 1) (l := n.toNat) (n := psA S) hW.c (by omega) hpn (by omega) c48 hsp rfl (by omega) (fun v63 f63 c63 => ?_))
    refine aw_if_eq (q := 69) (t := 73) F dL_gets_66 rfl (by decide) (fun c66 => ?_) (fun c66 => ?_)
    · refine aw_iconst (q := 74) F dL_gets_73 rfl (by decide) ?_
      refine aw_iret F C dL_gets_74 rfl (Nat.le_refl _) (Nat.le_refl _) ?_
      obtain ⟨c6, f6⟩ := h2.co (V' := v63) (fun b hb => (f63 b (by omega)).trans (f48 b (by omega)))
      refine kI (g hp hn _ _ _ _ c6 (h.fr.tr f6)) ?_
      cases hg : gI (psC S) p.toNat (x.toNat + 1) n.toNat (psA S) true
      · rw [hg] at c66; first | rfl | exact absurd rfl c66
      · rw [hg] at c66; first | rfl | exact absurd c66 (by decide)
    · refine aw_iconst (q := 70) F dL_gets_69 rfl (by decide) ?_
      refine aw_goto (t := 74) F dL_gets_70 (by decide) ?_
      refine aw_iret F C dL_gets_74 rfl (Nat.le_refl _) (Nat.le_refl _) ?_
      obtain ⟨c6, f6⟩ := h2.co (V' := v63) (fun b hb => (f63 b (by omega)).trans (f48 b (by omega)))
      refine kI (g hp hn _ _ _ _ c6 (h.fr.tr f6)) ?_
      cases hg : gI (psC S) p.toNat (x.toNat + 1) n.toNat (psA S) true
      · rw [hg] at c66; first | rfl | exact absurd rfl c66
      · rw [hg] at c66; first | rfl | exact absurd c66 (by decide)
  refine aw_aload_0 (q := 1) F dL_gets_0 rfl ?_
  refine aw_aload_0 (q := 2) F dL_gets_1 rfl ?_
  refine aw_iload_1 (q := 3) F dL_gets_2 rfl ?_
  refine aw_iload_2 (q := 4) F dL_gets_3 rfl ?_
  refine av_callV2 (q := 7) (ci := 7) F hm mL_isContest_i mL_isContest_n lL_249 dL_gets_4 rfl rfl rfl (by first | exact hW.o | exact hW.ho | exact hW.to | exact hW.s2.o | exact hW.c.1 | exact hW5.o | exact hW5.ho | exact hW5.s2.o | exact hW5.c.1) (by decide) (Nat.le_refl _) (Nat.le_refl _) (Nat.le_of_ble_eq_true rfl) (wL_isContest hW (fun c4 => ?_) (fun c4 => ?_))
  · refine aw_iload_3 (q := 8) F dL_gets_7 rfl ?_
    refine aw_if_lt (q := 11) (t := 20) F dL_gets_8 rfl (by decide) (fun c8 => ?_) (fun c8 => ?_)
    · refine aw_iconst (q := 21) F dL_gets_20 rfl (by decide) ?_
      refine av_callV2 (q := 24) (ci := 7) F hm mL_passes_i mL_passes_n lL_114 dL_gets_21 rfl rfl rfl (by first | exact hW.o | exact hW.ho | exact hW.to | exact hW.s2.o | exact hW.c.1 | exact hW5.o | exact hW5.ho | exact hW5.s2.o | exact hW5.c.1) (by decide) (Nat.le_refl _) (Nat.le_refl _) (Nat.le_of_ble_eq_true rfl) (wL_passes hW (fun c21 d21 => ?_) (fun c21 => ?_) (fun c21 d21 => ?_))
      · refine aw_if_ne (q := 27) (t := 29) F dL_gets_24 rfl (by decide) (fun c24 => ?_) (fun c24 => absurd c24 (by decide))
        first | (exfalso; omega) | exact go (by omega) (by omega)
      · refine aw_if_ne (q := 27) (t := 29) F dL_gets_24 rfl (by decide) (fun c24 => absurd c24 (by decide)) (fun c24 => ?_)
        refine aw_iconst (q := 28) F dL_gets_27 rfl (by decide) ?_
        refine aw_iret F C dL_gets_28 rfl (Nat.le_refl _) (Nat.le_refl _) ?_
        first | (exfalso; omega) | exact h.now (by decide) (r1 (by omega)) | exact h.now (by decide) (r2 (by omega) (by omega))
      · refine aw_if_ne (q := 27) (t := 29) F dL_gets_24 rfl (by decide) (fun c24 => absurd c24 (by decide)) (fun c24 => ?_)
        refine aw_iconst (q := 28) F dL_gets_27 rfl (by decide) ?_
        refine aw_iret F C dL_gets_28 rfl (Nat.le_refl _) (Nat.le_refl _) ?_
        first | (exfalso; omega) | exact h.now (by decide) (r1 (by omega)) | exact h.now (by decide) (r2 (by omega) (by omega))
    · refine aw_iload_3 (q := 12) F dL_gets_11 rfl ?_
      refine aw_iconst (q := 13) F dL_gets_12 rfl (by decide) ?_
      refine aw_icmp_gt (q := 16) (t := 20) F dL_gets_13 rfl (by decide) (fun c13 => ?_) (fun c13 => ?_)
      · refine aw_iconst (q := 21) F dL_gets_20 rfl (by decide) ?_
        refine av_callV2 (q := 24) (ci := 7) F hm mL_passes_i mL_passes_n lL_114 dL_gets_21 rfl rfl rfl (by first | exact hW.o | exact hW.ho | exact hW.to | exact hW.s2.o | exact hW.c.1 | exact hW5.o | exact hW5.ho | exact hW5.s2.o | exact hW5.c.1) (by decide) (Nat.le_refl _) (Nat.le_refl _) (Nat.le_of_ble_eq_true rfl) (wL_passes hW (fun c21 d21 => ?_) (fun c21 => ?_) (fun c21 d21 => ?_))
        · refine aw_if_ne (q := 27) (t := 29) F dL_gets_24 rfl (by decide) (fun c24 => ?_) (fun c24 => absurd c24 (by decide))
          first | (exfalso; omega) | exact go (by omega) (by omega)
        · refine aw_if_ne (q := 27) (t := 29) F dL_gets_24 rfl (by decide) (fun c24 => absurd c24 (by decide)) (fun c24 => ?_)
          refine aw_iconst (q := 28) F dL_gets_27 rfl (by decide) ?_
          refine aw_iret F C dL_gets_28 rfl (Nat.le_refl _) (Nat.le_refl _) ?_
          first | (exfalso; omega) | exact h.now (by decide) (r1 (by omega)) | exact h.now (by decide) (r2 (by omega) (by omega))
        · refine aw_if_ne (q := 27) (t := 29) F dL_gets_24 rfl (by decide) (fun c24 => absurd c24 (by decide)) (fun c24 => ?_)
          refine aw_iconst (q := 28) F dL_gets_27 rfl (by decide) ?_
          refine aw_iret F C dL_gets_28 rfl (Nat.le_refl _) (Nat.le_refl _) ?_
          first | (exfalso; omega) | exact h.now (by decide) (r1 (by omega)) | exact h.now (by decide) (r2 (by omega) (by omega))
      · refine aw_iconst (q := 17) F dL_gets_16 rfl (by decide) ?_
        refine aw_goto (t := 21) F dL_gets_17 (by decide) ?_
        refine av_callV2 (q := 24) (ci := 7) F hm mL_passes_i mL_passes_n lL_114 dL_gets_21 rfl rfl rfl (by first | exact hW.o | exact hW.ho | exact hW.to | exact hW.s2.o | exact hW.c.1 | exact hW5.o | exact hW5.ho | exact hW5.s2.o | exact hW5.c.1) (by decide) (Nat.le_refl _) (Nat.le_refl _) (Nat.le_of_ble_eq_true rfl) (wL_passes hW (fun c21 d21 => ?_) (fun c21 => ?_) (fun c21 d21 => ?_))
        · refine aw_if_ne (q := 27) (t := 29) F dL_gets_24 rfl (by decide) (fun c24 => ?_) (fun c24 => absurd c24 (by decide))
          first | (exfalso; omega) | exact go (by omega) (by omega)
        · refine aw_if_ne (q := 27) (t := 29) F dL_gets_24 rfl (by decide) (fun c24 => absurd c24 (by decide)) (fun c24 => ?_)
          refine aw_iconst (q := 28) F dL_gets_27 rfl (by decide) ?_
          refine aw_iret F C dL_gets_28 rfl (Nat.le_refl _) (Nat.le_refl _) ?_
          first | (exfalso; omega) | exact h.now (by decide) (r1 (by omega)) | exact h.now (by decide) (r2 (by omega) (by omega))
        · refine aw_if_ne (q := 27) (t := 29) F dL_gets_24 rfl (by decide) (fun c24 => absurd c24 (by decide)) (fun c24 => ?_)
          refine aw_iconst (q := 28) F dL_gets_27 rfl (by decide) ?_
          refine aw_iret F C dL_gets_28 rfl (Nat.le_refl _) (Nat.le_refl _) ?_
          first | (exfalso; omega) | exact h.now (by decide) (r1 (by omega)) | exact h.now (by decide) (r2 (by omega) (by omega))
  · refine aw_iload_3 (q := 8) F dL_gets_7 rfl ?_
    refine aw_if_lt (q := 11) (t := 20) F dL_gets_8 rfl (by decide) (fun c8 => ?_) (fun c8 => ?_)
    · refine aw_iconst (q := 21) F dL_gets_20 rfl (by decide) ?_
      refine av_callV2 (q := 24) (ci := 7) F hm mL_passes_i mL_passes_n lL_114 dL_gets_21 rfl rfl rfl (by first | exact hW.o | exact hW.ho | exact hW.to | exact hW.s2.o | exact hW.c.1 | exact hW5.o | exact hW5.ho | exact hW5.s2.o | exact hW5.c.1) (by decide) (Nat.le_refl _) (Nat.le_refl _) (Nat.le_of_ble_eq_true rfl) (wL_passes hW (fun c21 d21 => ?_) (fun c21 => ?_) (fun c21 d21 => ?_))
      · refine aw_if_ne (q := 27) (t := 29) F dL_gets_24 rfl (by decide) (fun c24 => ?_) (fun c24 => absurd c24 (by decide))
        first | (exfalso; omega) | exact go (by omega) (by omega)
      · refine aw_if_ne (q := 27) (t := 29) F dL_gets_24 rfl (by decide) (fun c24 => absurd c24 (by decide)) (fun c24 => ?_)
        refine aw_iconst (q := 28) F dL_gets_27 rfl (by decide) ?_
        refine aw_iret F C dL_gets_28 rfl (Nat.le_refl _) (Nat.le_refl _) ?_
        first | (exfalso; omega) | exact h.now (by decide) (r1 (by omega)) | exact h.now (by decide) (r2 (by omega) (by omega))
      · refine aw_if_ne (q := 27) (t := 29) F dL_gets_24 rfl (by decide) (fun c24 => absurd c24 (by decide)) (fun c24 => ?_)
        refine aw_iconst (q := 28) F dL_gets_27 rfl (by decide) ?_
        refine aw_iret F C dL_gets_28 rfl (Nat.le_refl _) (Nat.le_refl _) ?_
        first | (exfalso; omega) | exact h.now (by decide) (r1 (by omega)) | exact h.now (by decide) (r2 (by omega) (by omega))
    · refine aw_iload_3 (q := 12) F dL_gets_11 rfl ?_
      refine aw_iconst (q := 13) F dL_gets_12 rfl (by decide) ?_
      refine aw_icmp_gt (q := 16) (t := 20) F dL_gets_13 rfl (by decide) (fun c13 => ?_) (fun c13 => ?_)
      · refine aw_iconst (q := 21) F dL_gets_20 rfl (by decide) ?_
        refine av_callV2 (q := 24) (ci := 7) F hm mL_passes_i mL_passes_n lL_114 dL_gets_21 rfl rfl rfl (by first | exact hW.o | exact hW.ho | exact hW.to | exact hW.s2.o | exact hW.c.1 | exact hW5.o | exact hW5.ho | exact hW5.s2.o | exact hW5.c.1) (by decide) (Nat.le_refl _) (Nat.le_refl _) (Nat.le_of_ble_eq_true rfl) (wL_passes hW (fun c21 d21 => ?_) (fun c21 => ?_) (fun c21 d21 => ?_))
        · refine aw_if_ne (q := 27) (t := 29) F dL_gets_24 rfl (by decide) (fun c24 => ?_) (fun c24 => absurd c24 (by decide))
          first | (exfalso; omega) | exact go (by omega) (by omega)
        · refine aw_if_ne (q := 27) (t := 29) F dL_gets_24 rfl (by decide) (fun c24 => absurd c24 (by decide)) (fun c24 => ?_)
          refine aw_iconst (q := 28) F dL_gets_27 rfl (by decide) ?_
          refine aw_iret F C dL_gets_28 rfl (Nat.le_refl _) (Nat.le_refl _) ?_
          first | (exfalso; omega) | exact h.now (by decide) (r1 (by omega)) | exact h.now (by decide) (r2 (by omega) (by omega))
        · refine aw_if_ne (q := 27) (t := 29) F dL_gets_24 rfl (by decide) (fun c24 => absurd c24 (by decide)) (fun c24 => ?_)
          refine aw_iconst (q := 28) F dL_gets_27 rfl (by decide) ?_
          refine aw_iret F C dL_gets_28 rfl (Nat.le_refl _) (Nat.le_refl _) ?_
          first | (exfalso; omega) | exact h.now (by decide) (r1 (by omega)) | exact h.now (by decide) (r2 (by omega) (by omega))
      · refine aw_iconst (q := 17) F dL_gets_16 rfl (by decide) ?_
        refine aw_goto (t := 21) F dL_gets_17 (by decide) ?_
        refine av_callV2 (q := 24) (ci := 7) F hm mL_passes_i mL_passes_n lL_114 dL_gets_21 rfl rfl rfl (by first | exact hW.o | exact hW.ho | exact hW.to | exact hW.s2.o | exact hW.c.1 | exact hW5.o | exact hW5.ho | exact hW5.s2.o | exact hW5.c.1) (by decide) (Nat.le_refl _) (Nat.le_refl _) (Nat.le_of_ble_eq_true rfl) (wL_passes hW (fun c21 d21 => ?_) (fun c21 => ?_) (fun c21 d21 => ?_))
        · refine aw_if_ne (q := 27) (t := 29) F dL_gets_24 rfl (by decide) (fun c24 => ?_) (fun c24 => absurd c24 (by decide))
          first | (exfalso; omega) | exact go (by omega) (by omega)
        · refine aw_if_ne (q := 27) (t := 29) F dL_gets_24 rfl (by decide) (fun c24 => absurd c24 (by decide)) (fun c24 => ?_)
          refine aw_iconst (q := 28) F dL_gets_27 rfl (by decide) ?_
          refine aw_iret F C dL_gets_28 rfl (Nat.le_refl _) (Nat.le_refl _) ?_
          first | (exfalso; omega) | exact h.now (by decide) (r1 (by omega)) | exact h.now (by decide) (r2 (by omega) (by omega))
        · refine aw_if_ne (q := 27) (t := 29) F dL_gets_24 rfl (by decide) (fun c24 => absurd c24 (by decide)) (fun c24 => ?_)
          refine aw_iconst (q := 28) F dL_gets_27 rfl (by decide) ?_
          refine aw_iret F C dL_gets_28 rfl (Nat.le_refl _) (Nat.le_refl _) ?_
          first | (exfalso; omega) | exact h.now (by decide) (r1 (by omega)) | exact h.now (by decide) (r2 (by omega) (by omega))
def opW (S : PS) (p x n : Nat) : Int := if gI (psC S) p (x + 1) (n - 1) (psA S) false then -2 else if fbF (fmK (psC S) p (x + 1) (n - 1) (psA S) true) (stN (psC S)) = -1 then -2 else fbF (fmK (psC S) p (x + 1) (n - 1) (psA S) true) (stN (psC S))
theorem wL_opensWith {p x n : Int} (h : CW V σ ow y S kn) (hK : CK K V σ ow (setR S (wy ((0 ≤ p ∧ p < tPn (psT S)) ∧ (0 ≤ x ∧ x < tDn (psT S)) ∧ tPn (psT S) = 2) (1 ≤ n ∧ n ≤ 4))) kn (some (vI (rfD (wy ((0 ≤ p ∧ p < tPn (psT S)) ∧ (0 ≤ x ∧ x < tDn (psT S)) ∧ tPn (psT S) = 2) (1 ≤ n ∧ n ≤ 4)) (opW S p.toNat x.toNat n.toNat) (-1))))) : Wp G 20 mL_opensWith [vR 1, vI p, vI x, vI n] (V, σ) 0 0 K := by
  have hW := h.cs
  have hv := h.v0
  have hv1 := h.v1
  have ht2 : V (dT y) 2 = tPn (psT S) := h.tv.1.2.2.1
  have h2 := h.tr (z := 0) (by decide)
  obtain ⟨g, r1, r2⟩ := g3 hK
  have hc := h.oT.okC h.oS
  have hsl : spc (psC S) ≤ 62500 := spc_le hc
  have hd4 : tDn (psT S) ≤ 4 := h.oT.2.1
  refine wp_intro mL_opensWith_i.1 [some (vR 1), some (vI p), some (vI x), some (vI n)] rfl rfl (Nat.le_of_ble_eq_true rfl) ?_
  intro X hG F C
  have hm := C.rm
  have go : (0 ≤ p ∧ p < tPn (psT S)) ∧ (0 ≤ x ∧ x < tDn (psT S)) ∧ tPn (psT S) = 2 → 1 ≤ n ∧ n ≤ 4 → AW X 30 [some (vR 1), some (vI p), some (vI x), some (vI n)] [] (up2 V 1 2 0, σ) 0 0 := by
    intro hp hn
    have hsp : psA S < spc (psC S) := h.oS.2.2.2.1 (by omega)
    have hT := h2.tv.1
    have hpn : pN (psC S) = 2 := hp.2.2
    refine aw_aload_0 (q := 31) F dL_opensWith_30 rfl ?_
    refine av_getaE (q := 34) F fL_58 dL_opensWith_31 rfl rfl (by first | exact hW.o | exact hW.ho | exact hW.to | exact hW.s2.o | exact hW.c.1 | exact hW5.o | exact hW5.ho | exact hW5.s2.o | exact hW5.c.1) (by first | exact hW.p15 | exact hW5.p15) ?_
    refine aw_aload_0 (q := 35) F dL_opensWith_34 rfl ?_
    refine av_getaE (q := 38) F fL_16 dL_opensWith_35 rfl rfl (by first | exact hW.o | exact hW.ho | exact hW.to | exact hW.s2.o | exact hW.c.1 | exact hW5.o | exact hW5.ho | exact hW5.s2.o | exact hW5.c.1) (by first | exact hW.p5 | exact hW5.p5) ?_
    refine aw_aload_0 (q := 39) F dL_opensWith_38 rfl ?_
    refine av_getaE (q := 42) F fL_23 dL_opensWith_39 rfl rfl (by first | exact hW.o | exact hW.ho | exact hW.to | exact hW.s2.o | exact hW.c.1 | exact hW5.o | exact hW5.ho | exact hW5.s2.o | exact hW5.c.1) (by first | exact hW.p6 | exact hW5.p6) ?_
    refine av_callV0 (q := 45) (ci := 2) F hm mH_scene_i mH_scene_n lL_197 dL_opensWith_42 rfl rfl rfl (by first | exact hW.o | exact hW.ho | exact hW.to | exact hW.s2.o | exact hW.c.1 | exact hW5.o | exact hW5.ho | exact hW5.s2.o | exact hW5.c.1) (by omega) (Nat.le_refl _) (Nat.le_refl _) (Nat.le_of_ble_eq_true rfl) (wH_scene (c := psC S) (n := psA S) (by omega) hW.h (show HH (up2 V 1 2 0) 10 (psC S) (psA S) from h2.hh) ?_)
    refine aw_iload_1 (q := 46) F dL_opensWith_45 rfl ?_
    refine aw_iload_2 (q := 47) F dL_opensWith_46 rfl ?_
    refine aw_iconst (q := 48) F dL_opensWith_47 rfl (by decide) ?_
    refine aw_iadd (q := 49) F dL_opensWith_48 rfl (by constructor <;> omega) ?_
    refine av_callV4 (q := 52) (ci := 0) F hm mC_begin_i mC_begin_n lL_252 dL_opensWith_49 rfl rfl rfl (by first | exact hW.o | exact hW.ho | exact hW.to | exact hW.s2.o | exact hW.c.1 | exact hW5.o | exact hW5.ho | exact hW5.s2.o | exact hW5.c.1) (by omega) (Nat.le_refl _) (Nat.le_refl _) (Nat.le_of_ble_eq_true rfl) (wC_begin (c := psC S) (n := psA S) (sk := p.toNat) (go := x.toNat + 1) hW.c rfl hsp hc hW.t (h.ta fx43) hT.2.1 hT.2.2.1 hT.2.2.2.1 hT.2.2.2.2.1 (by omega) (by omega) (fun v49 f49 c49 => ?_))
    have hh5 : HH v49 10 (psC S) (psA S) := (show HH (up2 V 1 2 0) 10 (psC S) (psA S) from h2.hh).same (fun b b1 b2 => f49 b (by omega))
    refine aw_aload_0 (q := 53) F dL_opensWith_52 rfl ?_
    refine av_getaE (q := 56) F fL_58 dL_opensWith_53 rfl rfl (by first | exact hW.o | exact hW.ho | exact hW.to | exact hW.s2.o | exact hW.c.1 | exact hW5.o | exact hW5.ho | exact hW5.s2.o | exact hW5.c.1) (by first | exact hW.p15 | exact hW5.p15) ?_
    refine aw_aload_0 (q := 57) F dL_opensWith_56 rfl ?_
    refine av_getaE (q := 60) F fL_23 dL_opensWith_57 rfl rfl (by first | exact hW.o | exact hW.ho | exact hW.to | exact hW.s2.o | exact hW.c.1 | exact hW5.o | exact hW5.ho | exact hW5.s2.o | exact hW5.c.1) (by first | exact hW.p6 | exact hW5.p6) ?_
    refine av_callV0 (q := 63) (ci := 2) F hm mH_arrangement_i mH_arrangement_n lL_255 dL_opensWith_60 rfl rfl rfl (by first | exact hW.o | exact hW.ho | exact hW.to | exact hW.s2.o | exact hW.c.1 | exact hW5.o | exact hW5.ho | exact hW5.s2.o | exact hW5.c.1) (by omega) (Nat.le_refl _) (Nat.le_refl _) (Nat.le_of_ble_eq_true rfl) (wH_arrangement (c := psC S) (n := psA S) hW.h hh5 ?_)
    refine aw_iload_3 (q := 64) F dL_opensWith_63 rfl ?_
    refine av_callV2 (q := 67) (ci := 0) F hm mC_firstMove_i mC_firstMove_n lL_261 dL_opensWith_64 rfl rfl rfl (by first | exact hW.o | exact hW.ho | exact hW.to | exact hW.s2.o | exact hW.c.1 | exact hW5.o | exact hW5.ho | exact hW5.s2.o | exact hW5.c.1) (by omega) (Nat.le_refl _) (Nat.le_refl _) (Nat.le_of_ble_eq_true rfl) (wC_firstMove (c := psC S) (sk := p.toNat) (go := x.toNat + 1) (l := n.toNat - 1) (n := psA S) hW.c (by omega) hpn c49 hsp rfl (by omega) (by omega) (fun v64 r64 q64 f64 c64 b64 e64 => ?_))
    refine aw_iret F C dL_opensWith_67 rfl (Nat.le_refl _) (Nat.le_refl _) ?_
    obtain ⟨c6, f6⟩ := h2.co (V' := v64) (fun b hb => (f64 b (by omega)).trans (f49 b (by omega)))
    refine kI (g hp hn _ _ _ _ c6 (h.fr.tr f6)) ?_
    rw [e64, b64.eq]
    rfl
  refine aw_aload_0 (q := 1) F dL_opensWith_0 rfl ?_
  refine aw_aload_0 (q := 2) F dL_opensWith_1 rfl ?_
  refine aw_iload_1 (q := 3) F dL_opensWith_2 rfl ?_
  refine aw_iload_2 (q := 4) F dL_opensWith_3 rfl ?_
  refine av_callV2 (q := 7) (ci := 7) F hm mL_isContest_i mL_isContest_n lL_249 dL_opensWith_4 rfl rfl rfl (by first | exact hW.o | exact hW.ho | exact hW.to | exact hW.s2.o | exact hW.c.1 | exact hW5.o | exact hW5.ho | exact hW5.s2.o | exact hW5.c.1) (by decide) (Nat.le_refl _) (Nat.le_refl _) (Nat.le_of_ble_eq_true rfl) (wL_isContest hW (fun c4 => ?_) (fun c4 => ?_))
  · refine aw_iload_3 (q := 8) F dL_opensWith_7 rfl ?_
    refine aw_iconst (q := 9) F dL_opensWith_8 rfl (by decide) ?_
    refine aw_icmp_lt (q := 12) (t := 21) F dL_opensWith_9 rfl (by decide) (fun c9 => ?_) (fun c9 => ?_)
    · refine aw_iconst (q := 22) F dL_opensWith_21 rfl (by decide) ?_
      refine av_callV2 (q := 25) (ci := 7) F hm mL_passes_i mL_passes_n lL_114 dL_opensWith_22 rfl rfl rfl (by first | exact hW.o | exact hW.ho | exact hW.to | exact hW.s2.o | exact hW.c.1 | exact hW5.o | exact hW5.ho | exact hW5.s2.o | exact hW5.c.1) (by decide) (Nat.le_refl _) (Nat.le_refl _) (Nat.le_of_ble_eq_true rfl) (wL_passes hW (fun c22 d22 => ?_) (fun c22 => ?_) (fun c22 d22 => ?_))
      · refine aw_if_ne (q := 28) (t := 30) F dL_opensWith_25 rfl (by decide) (fun c25 => ?_) (fun c25 => absurd c25 (by decide))
        first | (exfalso; omega) | exact go (by omega) (by omega)
      · refine aw_if_ne (q := 28) (t := 30) F dL_opensWith_25 rfl (by decide) (fun c25 => absurd c25 (by decide)) (fun c25 => ?_)
        refine aw_iconst (q := 29) F dL_opensWith_28 rfl (by decide) ?_
        refine aw_iret F C dL_opensWith_29 rfl (Nat.le_refl _) (Nat.le_refl _) ?_
        first | (exfalso; omega) | exact h.now (by decide) (r1 (by omega)) | exact h.now (by decide) (r2 (by omega) (by omega))
      · refine aw_if_ne (q := 28) (t := 30) F dL_opensWith_25 rfl (by decide) (fun c25 => absurd c25 (by decide)) (fun c25 => ?_)
        refine aw_iconst (q := 29) F dL_opensWith_28 rfl (by decide) ?_
        refine aw_iret F C dL_opensWith_29 rfl (Nat.le_refl _) (Nat.le_refl _) ?_
        first | (exfalso; omega) | exact h.now (by decide) (r1 (by omega)) | exact h.now (by decide) (r2 (by omega) (by omega))
    · refine aw_iload_3 (q := 13) F dL_opensWith_12 rfl ?_
      refine aw_iconst (q := 14) F dL_opensWith_13 rfl (by decide) ?_
      refine aw_icmp_gt (q := 17) (t := 21) F dL_opensWith_14 rfl (by decide) (fun c14 => ?_) (fun c14 => ?_)
      · refine aw_iconst (q := 22) F dL_opensWith_21 rfl (by decide) ?_
        refine av_callV2 (q := 25) (ci := 7) F hm mL_passes_i mL_passes_n lL_114 dL_opensWith_22 rfl rfl rfl (by first | exact hW.o | exact hW.ho | exact hW.to | exact hW.s2.o | exact hW.c.1 | exact hW5.o | exact hW5.ho | exact hW5.s2.o | exact hW5.c.1) (by decide) (Nat.le_refl _) (Nat.le_refl _) (Nat.le_of_ble_eq_true rfl) (wL_passes hW (fun c22 d22 => ?_) (fun c22 => ?_) (fun c22 d22 => ?_))
        · refine aw_if_ne (q := 28) (t := 30) F dL_opensWith_25 rfl (by decide) (fun c25 => ?_) (fun c25 => absurd c25 (by decide))
          first | (exfalso; omega) | exact go (by omega) (by omega)
        · refine aw_if_ne (q := 28) (t := 30) F dL_opensWith_25 rfl (by decide) (fun c25 => absurd c25 (by decide)) (fun c25 => ?_)
          refine aw_iconst (q := 29) F dL_opensWith_28 rfl (by decide) ?_
          refine aw_iret F C dL_opensWith_29 rfl (Nat.le_refl _) (Nat.le_refl _) ?_
          first | (exfalso; omega) | exact h.now (by decide) (r1 (by omega)) | exact h.now (by decide) (r2 (by omega) (by omega))
        · refine aw_if_ne (q := 28) (t := 30) F dL_opensWith_25 rfl (by decide) (fun c25 => absurd c25 (by decide)) (fun c25 => ?_)
          refine aw_iconst (q := 29) F dL_opensWith_28 rfl (by decide) ?_
          refine aw_iret F C dL_opensWith_29 rfl (Nat.le_refl _) (Nat.le_refl _) ?_
          first | (exfalso; omega) | exact h.now (by decide) (r1 (by omega)) | exact h.now (by decide) (r2 (by omega) (by omega))
      · refine aw_iconst (q := 18) F dL_opensWith_17 rfl (by decide) ?_
        refine aw_goto (t := 22) F dL_opensWith_18 (by decide) ?_
        refine av_callV2 (q := 25) (ci := 7) F hm mL_passes_i mL_passes_n lL_114 dL_opensWith_22 rfl rfl rfl (by first | exact hW.o | exact hW.ho | exact hW.to | exact hW.s2.o | exact hW.c.1 | exact hW5.o | exact hW5.ho | exact hW5.s2.o | exact hW5.c.1) (by decide) (Nat.le_refl _) (Nat.le_refl _) (Nat.le_of_ble_eq_true rfl) (wL_passes hW (fun c22 d22 => ?_) (fun c22 => ?_) (fun c22 d22 => ?_))
        · refine aw_if_ne (q := 28) (t := 30) F dL_opensWith_25 rfl (by decide) (fun c25 => ?_) (fun c25 => absurd c25 (by decide))
          first | (exfalso; omega) | exact go (by omega) (by omega)
        · refine aw_if_ne (q := 28) (t := 30) F dL_opensWith_25 rfl (by decide) (fun c25 => absurd c25 (by decide)) (fun c25 => ?_)
          refine aw_iconst (q := 29) F dL_opensWith_28 rfl (by decide) ?_
          refine aw_iret F C dL_opensWith_29 rfl (Nat.le_refl _) (Nat.le_refl _) ?_
          first | (exfalso; omega) | exact h.now (by decide) (r1 (by omega)) | exact h.now (by decide) (r2 (by omega) (by omega))
        · refine aw_if_ne (q := 28) (t := 30) F dL_opensWith_25 rfl (by decide) (fun c25 => absurd c25 (by decide)) (fun c25 => ?_)
          refine aw_iconst (q := 29) F dL_opensWith_28 rfl (by decide) ?_
          refine aw_iret F C dL_opensWith_29 rfl (Nat.le_refl _) (Nat.le_refl _) ?_
          first | (exfalso; omega) | exact h.now (by decide) (r1 (by omega)) | exact h.now (by decide) (r2 (by omega) (by omega))
  · refine aw_iload_3 (q := 8) F dL_opensWith_7 rfl ?_
    refine aw_iconst (q := 9) F dL_opensWith_8 rfl (by decide) ?_
    refine aw_icmp_lt (q := 12) (t := 21) F dL_opensWith_9 rfl (by decide) (fun c9 => ?_) (fun c9 => ?_)
    · refine aw_iconst (q := 22) F dL_opensWith_21 rfl (by decide) ?_
      refine av_callV2 (q := 25) (ci := 7) F hm mL_passes_i mL_passes_n lL_114 dL_opensWith_22 rfl rfl rfl (by first | exact hW.o | exact hW.ho | exact hW.to | exact hW.s2.o | exact hW.c.1 | exact hW5.o | exact hW5.ho | exact hW5.s2.o | exact hW5.c.1) (by decide) (Nat.le_refl _) (Nat.le_refl _) (Nat.le_of_ble_eq_true rfl) (wL_passes hW (fun c22 d22 => ?_) (fun c22 => ?_) (fun c22 d22 => ?_))
      · refine aw_if_ne (q := 28) (t := 30) F dL_opensWith_25 rfl (by decide) (fun c25 => ?_) (fun c25 => absurd c25 (by decide))
        first | (exfalso; omega) | exact go (by omega) (by omega)
      · refine aw_if_ne (q := 28) (t := 30) F dL_opensWith_25 rfl (by decide) (fun c25 => absurd c25 (by decide)) (fun c25 => ?_)
        refine aw_iconst (q := 29) F dL_opensWith_28 rfl (by decide) ?_
        refine aw_iret F C dL_opensWith_29 rfl (Nat.le_refl _) (Nat.le_refl _) ?_
        first | (exfalso; omega) | exact h.now (by decide) (r1 (by omega)) | exact h.now (by decide) (r2 (by omega) (by omega))
      · refine aw_if_ne (q := 28) (t := 30) F dL_opensWith_25 rfl (by decide) (fun c25 => absurd c25 (by decide)) (fun c25 => ?_)
        refine aw_iconst (q := 29) F dL_opensWith_28 rfl (by decide) ?_
        refine aw_iret F C dL_opensWith_29 rfl (Nat.le_refl _) (Nat.le_refl _) ?_
        first | (exfalso; omega) | exact h.now (by decide) (r1 (by omega)) | exact h.now (by decide) (r2 (by omega) (by omega))
    · refine aw_iload_3 (q := 13) F dL_opensWith_12 rfl ?_
      refine aw_iconst (q := 14) F dL_opensWith_13 rfl (by decide) ?_
      refine aw_icmp_gt (q := 17) (t := 21) F dL_opensWith_14 rfl (by decide) (fun c14 => ?_) (fun c14 => ?_)
      · refine aw_iconst (q := 22) F dL_opensWith_21 rfl (by decide) ?_
        refine av_callV2 (q := 25) (ci := 7) F hm mL_passes_i mL_passes_n lL_114 dL_opensWith_22 rfl rfl rfl (by first | exact hW.o | exact hW.ho | exact hW.to | exact hW.s2.o | exact hW.c.1 | exact hW5.o | exact hW5.ho | exact hW5.s2.o | exact hW5.c.1) (by decide) (Nat.le_refl _) (Nat.le_refl _) (Nat.le_of_ble_eq_true rfl) (wL_passes hW (fun c22 d22 => ?_) (fun c22 => ?_) (fun c22 d22 => ?_))
        · refine aw_if_ne (q := 28) (t := 30) F dL_opensWith_25 rfl (by decide) (fun c25 => ?_) (fun c25 => absurd c25 (by decide))
          first | (exfalso; omega) | exact go (by omega) (by omega)
        · refine aw_if_ne (q := 28) (t := 30) F dL_opensWith_25 rfl (by decide) (fun c25 => absurd c25 (by decide)) (fun c25 => ?_)
          refine aw_iconst (q := 29) F dL_opensWith_28 rfl (by decide) ?_
          refine aw_iret F C dL_opensWith_29 rfl (Nat.le_refl _) (Nat.le_refl _) ?_
          first | (exfalso; omega) | exact h.now (by decide) (r1 (by omega)) | exact h.now (by decide) (r2 (by omega) (by omega))
        · refine aw_if_ne (q := 28) (t := 30) F dL_opensWith_25 rfl (by decide) (fun c25 => absurd c25 (by decide)) (fun c25 => ?_)
          refine aw_iconst (q := 29) F dL_opensWith_28 rfl (by decide) ?_
          refine aw_iret F C dL_opensWith_29 rfl (Nat.le_refl _) (Nat.le_refl _) ?_
          first | (exfalso; omega) | exact h.now (by decide) (r1 (by omega)) | exact h.now (by decide) (r2 (by omega) (by omega))
      · refine aw_iconst (q := 18) F dL_opensWith_17 rfl (by decide) ?_
        refine aw_goto (t := 22) F dL_opensWith_18 (by decide) ?_
        refine av_callV2 (q := 25) (ci := 7) F hm mL_passes_i mL_passes_n lL_114 dL_opensWith_22 rfl rfl rfl (by first | exact hW.o | exact hW.ho | exact hW.to | exact hW.s2.o | exact hW.c.1 | exact hW5.o | exact hW5.ho | exact hW5.s2.o | exact hW5.c.1) (by decide) (Nat.le_refl _) (Nat.le_refl _) (Nat.le_of_ble_eq_true rfl) (wL_passes hW (fun c22 d22 => ?_) (fun c22 => ?_) (fun c22 d22 => ?_))
        · refine aw_if_ne (q := 28) (t := 30) F dL_opensWith_25 rfl (by decide) (fun c25 => ?_) (fun c25 => absurd c25 (by decide))
          first | (exfalso; omega) | exact go (by omega) (by omega)
        · refine aw_if_ne (q := 28) (t := 30) F dL_opensWith_25 rfl (by decide) (fun c25 => absurd c25 (by decide)) (fun c25 => ?_)
          refine aw_iconst (q := 29) F dL_opensWith_28 rfl (by decide) ?_
          refine aw_iret F C dL_opensWith_29 rfl (Nat.le_refl _) (Nat.le_refl _) ?_
          first | (exfalso; omega) | exact h.now (by decide) (r1 (by omega)) | exact h.now (by decide) (r2 (by omega) (by omega))
        · refine aw_if_ne (q := 28) (t := 30) F dL_opensWith_25 rfl (by decide) (fun c25 => absurd c25 (by decide)) (fun c25 => ?_)
          refine aw_iconst (q := 29) F dL_opensWith_28 rfl (by decide) ?_
          refine aw_iret F C dL_opensWith_29 rfl (Nat.le_refl _) (Nat.le_refl _) ?_
          first | (exfalso; omega) | exact h.now (by decide) (r1 (by omega)) | exact h.now (by decide) (r2 (by omega) (by omega))
end Spare1
