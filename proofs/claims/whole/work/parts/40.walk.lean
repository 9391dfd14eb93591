theorem dL_walkFromNow_0 : decode mL_walkFromNow.2.1 0 = .ok (.aload_n 0, 1) := by decide +kernel
theorem dL_walkFromNow_1 : decode mL_walkFromNow.2.1 1 = .ok (.getfield 23, 3) := by decide +kernel
theorem dL_walkFromNow_4 : decode mL_walkFromNow.2.1 4 = .ok (.invokevirtual 197, 3) := by decide +kernel
theorem dL_walkFromNow_7 : decode mL_walkFromNow.2.1 7 = .ok (.istore_n 1, 1) := by decide +kernel
theorem dL_walkFromNow_8 : decode mL_walkFromNow.2.1 8 = .ok (.aload_n 0, 1) := by decide +kernel
theorem dL_walkFromNow_9 : decode mL_walkFromNow.2.1 9 = .ok (.getfield 41, 3) := by decide +kernel
theorem dL_walkFromNow_12 : decode mL_walkFromNow.2.1 12 = .ok (.iload_n 1, 1) := by decide +kernel
theorem dL_walkFromNow_13 : decode mL_walkFromNow.2.1 13 = .ok (.if_icmp .eq 20, 3) := by decide +kernel
theorem dL_walkFromNow_16 : decode mL_walkFromNow.2.1 16 = .ok (.aload_n 0, 1) := by decide +kernel
theorem dL_walkFromNow_17 : decode mL_walkFromNow.2.1 17 = .ok (.getfield 37, 3) := by decide +kernel
theorem dL_walkFromNow_20 : decode mL_walkFromNow.2.1 20 = .ok (.aload_n 0, 1) := by decide +kernel
theorem dL_walkFromNow_21 : decode mL_walkFromNow.2.1 21 = .ok (.getfield 16, 3) := by decide +kernel
theorem dL_walkFromNow_24 : decode mL_walkFromNow.2.1 24 = .ok (.iload_n 1, 1) := by decide +kernel
theorem dL_walkFromNow_25 : decode mL_walkFromNow.2.1 25 = .ok (.invokevirtual 200, 3) := by decide +kernel
theorem dL_walkFromNow_28 : decode mL_walkFromNow.2.1 28 = .ok (.aload_n 0, 1) := by decide +kernel
theorem dL_walkFromNow_29 : decode mL_walkFromNow.2.1 29 = .ok (.iload_n 1, 1) := by decide +kernel
theorem dL_walkFromNow_30 : decode mL_walkFromNow.2.1 30 = .ok (.putfield 41, 3) := by decide +kernel
theorem dL_walkFromNow_33 : decode mL_walkFromNow.2.1 33 = .ok (.aload_n 0, 1) := by decide +kernel
theorem dL_walkFromNow_34 : decode mL_walkFromNow.2.1 34 = .ok (.getfield 37, 3) := by decide +kernel
theorem dL_walkFromNow_37 : decode mL_walkFromNow.2.1 37 = .ok (.areturn, 1) := by decide +kernel
theorem dL_walkAll_0 : decode mL_walkAll.2.1 0 = .ok (.aload_n 0, 1) := by decide +kernel
theorem dL_walkAll_1 : decode mL_walkAll.2.1 1 = .ok (.invokevirtual 180, 3) := by decide +kernel
theorem dL_walkAll_4 : decode mL_walkAll.2.1 4 = .ok (.astore_n 1, 1) := by decide +kernel
theorem dL_walkAll_5 : decode mL_walkAll.2.1 5 = .ok (.aload_n 1, 1) := by decide +kernel
theorem dL_walkAll_6 : decode mL_walkAll.2.1 6 = .ok (.invokevirtual 394, 3) := by decide +kernel
theorem dL_walkAll_9 : decode mL_walkAll.2.1 9 = .ok (.aload_n 1, 1) := by decide +kernel
theorem dL_walkAll_10 : decode mL_walkAll.2.1 10 = .ok (.areturn, 1) := by decide +kernel
theorem dL_goalOf_0 : decode mL_goalOf.2.1 0 = .ok (.iload_n 1, 1) := by decide +kernel
theorem dL_goalOf_1 : decode mL_goalOf.2.1 1 = .ok (.iconst 2, 1) := by decide +kernel
theorem dL_goalOf_2 : decode mL_goalOf.2.1 2 = .ok (.if_icmp .ne 13, 3) := by decide +kernel
theorem dL_goalOf_5 : decode mL_goalOf.2.1 5 = .ok (.aload_n 0, 1) := by decide +kernel
theorem dL_goalOf_6 : decode mL_goalOf.2.1 6 = .ok (.getfield 23, 3) := by decide +kernel
theorem dL_goalOf_9 : decode mL_goalOf.2.1 9 = .ok (.iconst 0, 1) := by decide +kernel
theorem dL_goalOf_10 : decode mL_goalOf.2.1 10 = .ok (.iconst 0, 1) := by decide +kernel
theorem dL_goalOf_11 : decode mL_goalOf.2.1 11 = .ok (.invokevirtual 397, 3) := by decide +kernel
theorem dL_goalOf_14 : decode mL_goalOf.2.1 14 = .ok (.ireturn, 1) := by decide +kernel
theorem dL_goalOf_15 : decode mL_goalOf.2.1 15 = .ok (.iload_n 1, 1) := by decide +kernel
theorem dL_goalOf_16 : decode mL_goalOf.2.1 16 = .ok (.iconst 1, 1) := by decide +kernel
theorem dL_goalOf_17 : decode mL_goalOf.2.1 17 = .ok (.if_icmp .ne 13, 3) := by decide +kernel
theorem dL_goalOf_20 : decode mL_goalOf.2.1 20 = .ok (.aload_n 0, 1) := by decide +kernel
theorem dL_goalOf_21 : decode mL_goalOf.2.1 21 = .ok (.getfield 16, 3) := by decide +kernel
theorem dL_goalOf_24 : decode mL_goalOf.2.1 24 = .ok (.getfield 145, 3) := by decide +kernel
theorem dL_goalOf_27 : decode mL_goalOf.2.1 27 = .ok (.goto 10, 3) := by decide +kernel
theorem dL_goalOf_30 : decode mL_goalOf.2.1 30 = .ok (.aload_n 0, 1) := by decide +kernel
theorem dL_goalOf_31 : decode mL_goalOf.2.1 31 = .ok (.getfield 16, 3) := by decide +kernel
theorem dL_goalOf_34 : decode mL_goalOf.2.1 34 = .ok (.getfield 148, 3) := by decide +kernel
theorem dL_goalOf_37 : decode mL_goalOf.2.1 37 = .ok (.astore_n 2, 1) := by decide +kernel
theorem dL_goalOf_38 : decode mL_goalOf.2.1 38 = .ok (.aload_n 0, 1) := by decide +kernel
theorem dL_goalOf_39 : decode mL_goalOf.2.1 39 = .ok (.getfield 23, 3) := by decide +kernel
theorem dL_goalOf_42 : decode mL_goalOf.2.1 42 = .ok (.aload_n 2, 1) := by decide +kernel
theorem dL_goalOf_43 : decode mL_goalOf.2.1 43 = .ok (.iconst 0, 1) := by decide +kernel
theorem dL_goalOf_44 : decode mL_goalOf.2.1 44 = .ok (.iaload, 1) := by decide +kernel
theorem dL_goalOf_45 : decode mL_goalOf.2.1 45 = .ok (.aload_n 2, 1) := by decide +kernel
theorem dL_goalOf_46 : decode mL_goalOf.2.1 46 = .ok (.iconst 1, 1) := by decide +kernel
theorem dL_goalOf_47 : decode mL_goalOf.2.1 47 = .ok (.iaload, 1) := by decide +kernel
theorem dL_goalOf_48 : decode mL_goalOf.2.1 48 = .ok (.invokevirtual 397, 3) := by decide +kernel
theorem dL_goalOf_51 : decode mL_goalOf.2.1 51 = .ok (.ireturn, 1) := by decide +kernel
/-- labels of two new cells -/
def owN (ow : Nat → Nat) (X q a k b : Nat) : Nat → Nat := fun z => if z < X then ow z else if z = q then a else if z = k then b else 0
section OwN
variable {ow : Nat → Nat} {X q a k b : Nat}
theorem owN_lt {z : Nat} (h : z < X) : owN ow X q a k b z = ow z := if_pos h
theorem owN_q {q0 : Nat} (h : q = q0 ∨ X ≤ q) (h0 : q0 < X) (ha : ow q0 = a) : owN ow X q a k b q = a := by
  rcases h with h | h
  · rw [h, owN_lt h0]; exact ha
  · unfold owN; rw [if_neg (by omega), if_pos rfl]
theorem owN_k {k0 : Nat} (h : k = k0 ∨ X ≤ k) (h0 : k0 < X) (hb : ow k0 = b) (hqk : q ≠ k) : owN ow X q a k b k = b := by
  rcases h with h | h
  · rw [h, owN_lt h0]; exact hb
  · unfold owN; rw [if_neg (by omega), if_neg (Ne.symm hqk), if_pos rfl]
end OwN
section Walk0
variable {V V' : Nat → Nat → Int} {σ σ' : Shp} {ow : Nat → Nat} {y : Dy} {S : PS} {kn : Bool}
theorem CS.x53 (h : CS σ y) : 53 ≤ sX σ := by
  have h1 := h.g.w.2.2.2
  have h2 := h.g.n.2.2.2
  have h3 := h.g.ne
  have h4 := h.g.gw
  have h5 := h.g.gn
  omega
/-- every name that the object holds is below the next one -/
theorem CS.nm (h : CS σ y) : (dQ1 y < sX σ ∧ dK1 y < sX σ ∧ dQ2 y < sX σ ∧ dK2 y < sX σ) ∧ (dRn y < sX σ ∧ dVn y < sX σ ∧ dLn y < sX σ) ∧ dT y + 6 < sX σ := ⟨⟨h.s1.q.2.2.2, h.s1.k.2.2.2, h.s2.q.2.2.2, h.s2.k.2.2.2⟩, ⟨h.r.a4.2.2.2, h.r.a5.2.2.2, h.r.a6.2.2.2⟩, h.t.a6.2.2.2⟩
theorem fx_lt {b : Nat} (h : fx b) : b < 53 := by unfold fx at h; omega
theorem CL.dq {ow : Nat → Nat} {y : Dy} (h : CL ow y) {b : Nat} (hb : ow b ≠ 11) (hb2 : ow b ≠ 12) : b ≠ dQ1 y ∧ b ≠ dK1 y := ⟨CL.ne (ow := ow) (by rw [h.2.1.1]; exact hb), CL.ne (ow := ow) (by rw [h.2.1.2.1]; exact hb2)⟩
/-- the walk began anew, from the scene s -/
theorem CW.s1 {s : Sc} {q k Q m j : Nat} (h : CW V σ ow y S kn) (hs : sS σ' 18 q k Q) (he : eS σ σ' (zS 18)) (hv : ∀ b, b < sX σ → b < 18 ∨ 18 + 6 < b → b ≠ dQ1 y → b ≠ dK1 y → V' b = V b) (hq : q = dQ1 y ∨ sX σ ≤ q) (hk : k = dK1 y ∨ sX σ ≤ k) (hS : SQ V' 18 q k Q (cfS (psT S) s) (itS (cfS (psT S) s) (t0S s.2.2) j) m) (hok : okS (psT S) s) : CW (up2 V' 1 12 (snS (psT S) s)) σ' (owN ow (sX σ) q 11 k 12) (y.1, (q, k, Q, Q / 64 + 1), y.2.2) S kn ∧ FR V (up2 V' 1 12 (snS (psT S) s)) σ σ' ow (owN ow (sX σ) q 11 k 12) := by
  have hL := h.cl
  have hX := h.cs.x53
  obtain ⟨⟨n1, n2, n3, n4⟩, ⟨n5, n6, n7⟩, n8⟩ := h.cs.nm
  have hf : ∀ {b : Nat}, fx b → b < 18 ∨ 18 + 6 < b → V' b = V b := fun {b} hb h2 => by
    have h1 := hL.f hb
    have h3 := hL.dq (b := b) (by omega) (by omega)
    exact hv b (by have := fx_lt hb; omega) h2 h3.1 h3.2
  have hd : ∀ {b : Nat}, b < sX σ → ow b < 100 → ow b ≠ 11 → ow b ≠ 12 → V' b = V b := fun {b} hb h1 h2 h3 => by
    have h4 := hL.dq h2 h3
    refine hv b hb ?_ h4.1 h4.2
    rcases Nat.lt_or_ge b 18 with h5 | h5
    · exact Or.inl h5
    · refine Or.inr (Nat.lt_of_not_le fun h6 => ?_)
      exact hL.nf (b := b) (x := b) (by unfold fx; omega) h1 rfl
  have h1q : ∀ {b : Nat}, b ≠ 1 → up2 V' 1 12 (snS (psT S) s : Int) b = V' b := fun {b} hb => up2_nea _ _ hb
  have q1 : q ≠ 1 := by
    rcases hq with e | e
    · rw [e]; exact hL.nf (by unfold fx; omega) (by rw [hL.2.1.1]; omega)
    · omega
  have k1 : k ≠ 1 := by
    rcases hk with e | e
    · rw [e]; exact hL.nf (by unfold fx; omega) (by rw [hL.2.1.2.1]; omega)
    · omega
  have e1 : V' 1 = V 1 := hf (by unfold fx; omega) (by omega)
  refine ⟨⟨CS.mk' (y := y) (y' := (y.1, (q, k, Q, Q / 64 + 1), y.2.2)) he h.cs (fun j q => by have := q.1; omega) (fun j q => by have := q.1; omega) (fun j q => hL.tn (i := 0) (b := 18) (by omega) (by unfold fx; omega) q.1) (fun j q => by have := q.1; omega) (fun j q => by have := q.1; omega) rfl hs ?_ ?_ ?_, ?_, ⟨Or.inl rfl, h.cb.2⟩, h.ok, ?_, ?_, ?_⟩, ?_⟩
  · exact h.cs.s2.eS' he (fun j q => by have := q.1; omega) (fun j q => by have := q.1; omega)
  · exact h.cs.r.eS0 he (fun j q => by have := q.1; omega)
  · exact h.cs.g.eS' he (fun q => by have := q.1; omega) (fun q => by have := q.1; omega)
  · refine ⟨fun b hb => ?_, ⟨owN_q hq n1 hL.2.1.1, owN_k hk n2 hL.2.1.2.1 hs.qk, ?_, ?_, ?_, ?_, ?_⟩, fun i hi => ?_⟩
    · rw [owN_lt (by have := fx_lt hb; omega)]; exact hL.f hb
    · exact (owN_lt n3).trans hL.2.1.2.2.1
    · exact (owN_lt n4).trans hL.2.1.2.2.2.1
    · exact (owN_lt n5).trans hL.2.1.2.2.2.2.1
    · exact (owN_lt n6).trans hL.2.1.2.2.2.2.2.1
    · exact (owN_lt n7).trans hL.2.1.2.2.2.2.2.2
    · exact (owN_lt (show dT y + i < sX σ by omega)).trans (hL.t hi)
  · obtain ⟨f1, f2, f3, f4, f5, f6⟩ := h.cf
    refine ⟨?_, ?_, ?_, fun e => ?_, ?_, ?_⟩
    · rw [up2_nek _ _ (by decide), e1]; exact f1
    · rw [up2_nek _ _ (by decide), e1]; exact f2
    · rw [up2_nek _ _ (by decide), e1]; exact f3
    · rw [up2_nek _ _ (by decide), e1]; exact f4 e
    · rw [up2_nek _ _ (by decide), e1]; exact f5
    · rw [up2_nek _ _ (by decide), e1]; exact f6
  · refine CR.same (y := (y.1, (q, k, Q, Q / 64 + 1), y.2.2)) (V := V) h.cr ?_ (fun i hi => ?_) (fun b b1 b2 => ?_) ?_ ?_ ?_ ?_ ?_
    · rw [h1q (by decide)]; exact hf (by unfold fx; omega) (by omega)
    · have := hL.t hi
      rw [h1q (hL.tn hi (by unfold fx; omega))]; exact hd (by show dT y + i < sX σ; omega) (by omega) (by omega) (by omega)
    · rw [h1q (by omega)]; exact hf (by unfold fx; omega) (by omega)
    · rw [h1q (by decide)]; exact hf (by unfold fx; omega) (by omega)
    · rw [h1q (by decide)]; exact hf (by unfold fx; omega) (by omega)
    · rw [h1q (by decide)]; exact hf (by unfold fx; omega) (by omega)
    · rw [h1q (by decide)]; exact hf (by unfold fx; omega) (by omega)
    · rw [h1q (by decide)]; exact hf (by unfold fx; omega) (by omega)
  · refine Or.inr ⟨s, j, m, hok, rfl, up2_same _ _ _ _, hS.same (fun b hb => h1q ?_)⟩
    rcases hb with hb | hb | hb
    · omega
    · rw [hb]; exact q1
    · rw [hb]; exact k1
  · refine ⟨he.1, fun b hb ho => ?_⟩
    have hq := he.2 b hb
    have n18 : b ≠ 18 := CL.ne (ow := ow) (by rw [hL.f (b := 18) (by unfold fx; omega)]; omega)
    have n1 : b ≠ 1 := CL.ne (ow := ow) (by rw [hL.f (b := 1) (by unfold fx; omega)]; omega)
    have hdq := hL.dq (b := b) (by omega) (by omega)
    refine ⟨?_, owN_lt hb, hq.1, hq.2.1, fun j => hq.2.2 j (fun q => n18 q.1)⟩
    rw [h1q n1]
    refine hv b hb ?_ hdq.1 hdq.2
    rcases Nat.lt_or_ge b 18 with h5 | h5
    · exact Or.inl h5
    · refine Or.inr (Nat.lt_of_not_le fun h6 => ?_)
      have := hL.f (b := b) (by unfold fx; omega)
      omega
/-- the walk went on -/
theorem CW.s1b (h : CW V σ ow y S kn) (hv : ∀ b, b < 18 ∨ 18 + 6 < b → b ≠ dQ1 y → b ≠ dK1 y → V' b = V b) (hw : WK V' y (psT S)) : CW V' σ ow y S kn ∧ FR V V' σ σ ow ow := by
  have hL := h.cl
  have hf : ∀ {b : Nat}, fx b → b < 18 ∨ 18 + 6 < b → V' b = V b := fun {b} hb h2 => by
    have h1 := hL.f hb
    have h3 := hL.dq (b := b) (by omega) (by omega)
    exact hv b h2 h3.1 h3.2
  have e1 : V' 1 = V 1 := hf (by unfold fx; omega) (by omega)
  refine ⟨⟨h.cs, hL, h.cb, h.ok, ?_, ?_, hw⟩, Nat.le_refl _, fun b hb ho => ⟨?_, rfl, rfl, rfl, fun _ => rfl⟩⟩
  · have := h.cf
    unfold CF at this ⊢
    rw [e1]; exact this
  · refine h.cr.same (hf (by unfold fx; omega) (by omega)) (fun i hi => ?_) (fun b b1 b2 => hf (by unfold fx; omega) (by omega)) (hf (by unfold fx; omega) (by omega)) (hf (by unfold fx; omega) (by omega)) (hf (by unfold fx; omega) (by omega)) (hf (by unfold fx; omega) (by omega)) (hf (by unfold fx; omega) (by omega))
    have h1 := hL.t hi
    have h4 := hL.dq (b := dT y + i) (by omega) (by omega)
    refine hv _ ?_ h4.1 h4.2
    rcases Nat.lt_or_ge (dT y + i) 18 with h5 | h5
    · exact Or.inl h5
    · refine Or.inr (Nat.lt_of_not_le fun h6 => ?_)
      exact hL.nf (b := dT y + i) (x := dT y + i) (by unfold fx; omega) (by omega) rfl
  · have h4 := hL.dq (b := b) (by omega) (by omega)
    refine hv _ ?_ h4.1 h4.2
    rcases Nat.lt_or_ge b 18 with h5 | h5
    · exact Or.inl h5
    · refine Or.inr (Nat.lt_of_not_le fun h6 => ?_)
      have := hL.f (b := b) (by unfold fx; omega)
      omega
theorem sn_inj {T : TL} {s s' : Sc} (hT : okT T) (h : okS T s) (h' : okS T s') (hd : 0 < tDn T) (e : snS T s = snS T s') : s = s' := by
  have c1 := hT.okC h
  have c2 := hT.okC h'
  have l1 : s.2.2 < 65536 := Nat.lt_of_lt_of_le (h.2.2.2.1 hd) (Nat.le_trans (spc_le c1) (by decide))
  have l2 : s'.2.2 < 65536 := Nat.lt_of_lt_of_le (h'.2.2.2.1 hd) (Nat.le_trans (spc_le c2) (by decide))
  have a1 := scN_n c1 l1
  have a2 := scN_n c2 l2
  unfold snS at e
  rw [e] at a1
  have e1 : s.1 = s'.1 := by
    funext d
    rcases Nat.lt_or_ge d (tDn T) with h1 | h1
    · have b1 := scN_k (d := d) c1 l1 h1
      have b2 := scN_k (d := d) c2 l2 h1
      rw [e, b2] at b1
      exact b1.symm
    · rw [h.2.1 d h1, h'.2.1 d h1]
  have e2 : s.2.1 = s'.2.1 := a1.1.symm.trans a2.1
  have e3 : s.2.2 = s'.2.2 := a1.2.symm.trans a2.2
  exact Prod.ext e1 (Prod.ext e2 e3)
end Walk0
/-- the walk is of now -/
def WN (V : Nat → Nat → Int) (y : Dy) (S : PS) : Prop := ∃ k m, dM1 y = dL1 y / 64 + 1 ∧ V 1 12 = snS (psT S) (psS S) ∧ SQ V 18 (dQ1 y) (dK1 y) (dL1 y) (psC S) (itS (psC S) (t0S (psA S)) k) m
theorem WN.wk {V : Nat → Nat → Int} {y : Dy} {S : PS} (h : WN V y S) (hs : okS (psT S) (psS S)) : WK V y (psT S) := by
  obtain ⟨k, m, h1, h2, h3⟩ := h
  exact Or.inr ⟨psS S, k, m, hs, h1, h2, h3⟩
section Walk1
variable {G : GE} {V : Nat → Nat → Int} {σ : Shp} {K : Option AV → Mem → Prop} {ow : Nat → Nat} {y : Dy} {S : PS} {kn : Bool}
theorem wL_walkFromNow (h : CW V σ ow y S kn) (hd : 0 < tDn (psT S)) (hB : sX σ + 10 < BG) (hK : ∀ (V' : Nat → Nat → Int) (σ' : Shp) (ow' : Nat → Nat) (y' : Dy), CW V' σ' ow' y' S kn → FR V V' σ σ' ow ow' → WN V' y' S → K (some (vR 18)) (V', σ')) : Wp G 3 mL_walkFromNow [vR 1] (V, σ) 2 63500 K := by
  have hW := h.cs
  have hc := h.oT.okC h.oS
  have hsp : psA S < spc (psC S) := h.oS.2.2.2.1 hd
  have hsl : spc (psC S) ≤ 62500 := spc_le hc
  have hT := h.tv.1
  have hta : dT y < 18 ∨ 18 + 6 < dT y := by
    have h0 := h.cl.t (i := 0) (by omega)
    rcases Nat.lt_or_ge (dT y) 18 with h5 | h5
    · exact Or.inl h5
    · refine Or.inr (Nat.lt_of_not_le fun h6 => ?_)
      exact h.cl.nf (b := dT y + 0) (x := dT y) (by unfold fx; omega) (by omega) rfl
  have hcost : nC (dL1 y) (spc (psC S)) ≤ 2 ∧ nSl (dL1 y) (spc (psC S)) ≤ 63500 := by unfold nC nSl; split <;> omega
  have hsame : V 1 12 = scN (psC S) (psA S) → WN V y S := fun e => by
    rcases h.wk with hw | ⟨s, k, m, q1, q2, q3, q4⟩
    · rw [hw] at e; exact absurd e (by omega)
    · have : s = psS S := sn_inj h.oT q1 h.oS hd (by have := q3.symm.trans e; exact Int.ofNat.inj this)
      subst this
      exact ⟨k, m, q2, q3, q4⟩
  refine wp_intro mL_walkFromNow_i.1 [some (vR 1), none] rfl rfl (Nat.le_of_ble_eq_true rfl) ?_
  intro X hG F C
  have hm := C.rm
  refine aw_aload_0 (q := 1) F dL_walkFromNow_0 rfl ?_
  refine av_getaE (q := 4) F fL_23 dL_walkFromNow_1 rfl rfl (by first | exact hW.o | exact hW.ho | exact hW.to | exact hW.s1.o | exact hW.t.a4 | exact hW.t.a5 | exact hs25.o | exact ho25) hW.p6 ?_
  refine av_callV0 (q := 7) (ci := 2) F hm mH_scene_i mH_scene_n lL_197 dL_walkFromNow_4 rfl rfl rfl (by first | exact hW.o | exact hW.ho | exact hW.to | exact hW.s1.o | exact hW.t.a4 | exact hW.t.a5 | exact hs25.o | exact ho25) (by decide) (by decide) (by decide) (Nat.le_of_ble_eq_true rfl) (wH_scene (c := psC S) (n := psA S) (by omega) hW.h h.hh ?_)
  refine aw_istore_1 (q := 8) F dL_walkFromNow_7 rfl trivial ?_
  refine aw_aload_0 (q := 9) F dL_walkFromNow_8 rfl ?_
  refine av_geti (q := 12) F fL_41 dL_walkFromNow_9 rfl rfl (by first | exact hW.o | exact hW.ho | exact hW.to | exact hW.s1.o | exact hW.t.a4 | exact hW.t.a5 | exact hs25.o | exact ho25) ?_
  refine aw_iload_1 (q := 13) F dL_walkFromNow_12 rfl ?_
  refine aw_icmp_eq (q := 16) (t := 33) F dL_walkFromNow_13 rfl (by decide) (fun c13 => ?_) (fun c13 => ?_)
  · refine aw_aload_0 (q := 34) F dL_walkFromNow_33 rfl ?_
    refine av_getaE (q := 37) F fL_37 dL_walkFromNow_34 rfl rfl (by first | exact hW.o | exact hW.ho | exact hW.to | exact hW.s1.o | exact hW.t.a4 | exact hW.t.a5 | exact hs25.o | exact ho25) (by first | exact hW.p11 | exact hp25) ?_
    refine aw_aret F C dL_walkFromNow_37 rfl (by omega) (by omega) ?_
    first
    | (obtain ⟨c5, f5⟩ := h.s1 (s := psS S) (j := 0) hs25 e25 f25 n25.1 n25.2 sq25 h.oS
       exact hK _ _ _ _ c5 f5 ⟨0, psA S, rfl, up2_same _ _ _ _, by
         have hw := c5.wk
         rcases hw with hw | ⟨s, k, m, q1, q2, q3, q4⟩
         · rw [up2_same] at hw; exact absurd hw (by omega)
         · refine sq25.same (fun b hb => up2_nea _ _ ?_)
           rcases hb with hb | hb | hb
           · omega
           · rw [hb]; exact c5.cl.nf (by unfold fx; omega) (by rw [c5.cl.2.1.1]; omega)
           · rw [hb]; exact c5.cl.nf (by unfold fx; omega) (by rw [c5.cl.2.1.2.1]; omega)⟩)
    | exact hK V σ ow y h (FR.rf _ _ _) (hsame c13)
  · refine aw_aload_0 (q := 17) F dL_walkFromNow_16 rfl ?_
    refine av_getaE (q := 20) F fL_37 dL_walkFromNow_17 rfl rfl (by first | exact hW.o | exact hW.ho | exact hW.to | exact hW.s1.o | exact hW.t.a4 | exact hW.t.a5 | exact hs25.o | exact ho25) (by first | exact hW.p11 | exact hp25) ?_
    refine aw_aload_0 (q := 21) F dL_walkFromNow_20 rfl ?_
    refine av_getaE (q := 24) F fL_16 dL_walkFromNow_21 rfl rfl (by first | exact hW.o | exact hW.ho | exact hW.to | exact hW.s1.o | exact hW.t.a4 | exact hW.t.a5 | exact hs25.o | exact ho25) hW.p5 ?_
    refine aw_iload_1 (q := 25) F dL_walkFromNow_24 rfl ?_
    refine av_callV2 (q := 28) (ci := 5) F hm mS_begin_i mS_begin_n lL_200 dL_walkFromNow_25 rfl rfl rfl (by first | exact hW.o | exact hW.ho | exact hW.to | exact hW.s1.o | exact hW.t.a4 | exact hW.t.a5 | exact hs25.o | exact ho25) (by decide) (by omega) (by omega) (Nat.le_of_ble_eq_true rfl) (wS_begin (c := psC S) (n := psA S) rfl hsp hc hd (by omega) h.cb.1 hW.s1 hW.t hta hT.2.1 hT.2.2.1 hT.2.2.2.1 hT.2.2.2.2.1 (fun v25 sg25 q25 k25 hs25 e25 f25 sq25 n25 x25 => ?_))
    have ho25 := e25.o hW.o
    have hp25 : sP sg25 1 11 = 18 := (e25.p hW.o (fun q => by have := q.1; omega)).trans hW.p11
    refine aw_aload_0 (q := 29) F dL_walkFromNow_28 rfl ?_
    refine aw_iload_1 (q := 30) F dL_walkFromNow_29 rfl ?_
    refine av_puti (q := 33) F fL_41 dL_walkFromNow_30 rfl rfl (wr_7_12 _) (by first | exact hW.o | exact hW.ho | exact hW.to | exact hW.s1.o | exact hW.t.a4 | exact hW.t.a5 | exact hs25.o | exact ho25) ?_
    refine aw_aload_0 (q := 34) F dL_walkFromNow_33 rfl ?_
    refine av_getaE (q := 37) F fL_37 dL_walkFromNow_34 rfl rfl (by first | exact hW.o | exact hW.ho | exact hW.to | exact hW.s1.o | exact hW.t.a4 | exact hW.t.a5 | exact hs25.o | exact ho25) (by first | exact hW.p11 | exact hp25) ?_
    refine aw_aret F C dL_walkFromNow_37 rfl (by omega) (by omega) ?_
    first
    | (obtain ⟨c5, f5⟩ := h.s1 (s := psS S) (j := 0) hs25 e25 f25 n25.1 n25.2 sq25 h.oS
       exact hK _ _ _ _ c5 f5 ⟨0, psA S, rfl, up2_same _ _ _ _, by
         have hw := c5.wk
         rcases hw with hw | ⟨s, k, m, q1, q2, q3, q4⟩
         · rw [up2_same] at hw; exact absurd hw (by omega)
         · refine sq25.same (fun b hb => up2_nea _ _ ?_)
           rcases hb with hb | hb | hb
           · omega
           · rw [hb]; exact c5.cl.nf (by unfold fx; omega) (by rw [c5.cl.2.1.1]; omega)
           · rw [hb]; exact c5.cl.nf (by unfold fx; omega) (by rw [c5.cl.2.1.2.1]; omega)⟩)
    | exact hK V σ ow y h (FR.rf _ _ _) (hsame c13)
def goN (S : PS) (w : Int) : Nat := bsum (fitN (psC S) (if w = 2 then 0 else if w = 1 then tHo (psT S) 0 else tWi (psT S) 0) (if w = 2 then 0 else if w = 1 then tHo (psT S) 1 else tWi (psT S) 1)) (wB (psC S) (tPn (psT S)))
theorem wL_goalOf {w : Int} (h : CW V σ ow y S kn) (hK : K (some (vI (goN S w))) (V, σ)) : Wp G 1 mL_goalOf [vR 1, vI w] (V, σ) 0 0 K := by
  have hW := h.cs
  have ht := h.tv.2.2
  refine wp_intro mL_goalOf_i.1 [some (vR 1), some (vI w), none] rfl rfl (Nat.le_of_ble_eq_true rfl) ?_
  intro X hG F C
  have hm := C.rm
  refine aw_iload_1 (q := 1) F dL_goalOf_0 rfl ?_
  refine aw_iconst (q := 2) F dL_goalOf_1 rfl (by decide) ?_
  refine aw_icmp_ne (q := 5) (t := 15) F dL_goalOf_2 rfl (by decide) (fun c2 => ?_) (fun c2 => ?_)
  · refine aw_iload_1 (q := 16) F dL_goalOf_15 rfl ?_
    refine aw_iconst (q := 17) F dL_goalOf_16 rfl (by decide) ?_
    refine aw_icmp_ne (q := 20) (t := 30) F dL_goalOf_17 rfl (by decide) (fun c17 => ?_) (fun c17 => ?_)
    · refine aw_aload_0 (q := 31) F dL_goalOf_30 rfl ?_
      refine av_getaE (q := 34) F fL_16 dL_goalOf_31 rfl rfl (by first | exact hW.o | exact hW.ho | exact hW.to | exact hW.s1.o | exact hW.t.a4 | exact hW.t.a5 | exact hs25.o | exact ho25) hW.p5 ?_
      refine av_getaE (q := 37) F fL_148 dL_goalOf_34 rfl rfl (by first | exact hW.o | exact hW.ho | exact hW.to | exact hW.s1.o | exact hW.t.a4 | exact hW.t.a5 | exact hs25.o | exact ho25) hW.t.p10 ?_
      refine aw_astore_2 (q := 38) F dL_goalOf_37 rfl trivial ?_
      refine aw_aload_0 (q := 39) F dL_goalOf_38 rfl ?_
      refine av_getaE (q := 42) F fL_23 dL_goalOf_39 rfl rfl (by first | exact hW.o | exact hW.ho | exact hW.to | exact hW.s1.o | exact hW.t.a4 | exact hW.t.a5 | exact hs25.o | exact ho25) hW.p6 ?_
      refine aw_aload_2 (q := 43) F dL_goalOf_42 rfl ?_
      refine aw_iconst (q := 44) F dL_goalOf_43 rfl (by decide) ?_
      refine av_iaload (q := 45) F dL_goalOf_44 rfl (by first | exact hW.o | exact hW.ho | exact hW.to | exact hW.s1.o | exact hW.t.a4 | exact hW.t.a5 | exact hs25.o | exact ho25) (by omega) (by omega) ?_
      refine aw_aload_2 (q := 46) F dL_goalOf_45 rfl ?_
      refine aw_iconst (q := 47) F dL_goalOf_46 rfl (by decide) ?_
      refine av_iaload (q := 48) F dL_goalOf_47 rfl (by first | exact hW.o | exact hW.ho | exact hW.to | exact hW.s1.o | exact hW.t.a4 | exact hW.t.a5 | exact hs25.o | exact ho25) (by omega) (by omega) ?_
      refine av_callV2 (q := 51) (ci := 2) F hm mH_placingsFor_i mH_placingsFor_n lL_397 dL_goalOf_48 rfl rfl rfl (by first | exact hW.o | exact hW.ho | exact hW.to | exact hW.s1.o | exact hW.t.a4 | exact hW.t.a5 | exact hs25.o | exact ho25) (by decide) (Nat.le_refl _) (Nat.le_refl _) (Nat.le_of_ble_eq_true rfl) (wH_placingsFor hW.h h.hh ?_)
      refine aw_iret F C dL_goalOf_51 rfl (Nat.le_refl _) (Nat.le_refl _) ?_
      refine kI hK ?_; unfold goN; rw [if_neg c2, if_neg c2]; first | (rw [if_pos c17, if_pos c17]; show _ = ((bsum (fitN (psC S) (V (dT y + 4) 0) (V (dT y + 4) 1)) (wB (psC S) (tPn (psT S))) : Nat) : Int); rw [(ht 0 (by decide)).2.1, (ht 1 (by decide)).2.1]) | (rw [if_neg c17, if_neg c17]; show _ = ((bsum (fitN (psC S) (V (dT y + 5) 0) (V (dT y + 5) 1)) (wB (psC S) (tPn (psT S))) : Nat) : Int); rw [(ht 0 (by decide)).2.2.1, (ht 1 (by decide)).2.2.1])
    · refine aw_aload_0 (q := 21) F dL_goalOf_20 rfl ?_
      refine av_getaE (q := 24) F fL_16 dL_goalOf_21 rfl rfl (by first | exact hW.o | exact hW.ho | exact hW.to | exact hW.s1.o | exact hW.t.a4 | exact hW.t.a5 | exact hs25.o | exact ho25) hW.p5 ?_
      refine av_getaE (q := 27) F fL_145 dL_goalOf_24 rfl rfl (by first | exact hW.o | exact hW.ho | exact hW.to | exact hW.s1.o | exact hW.t.a4 | exact hW.t.a5 | exact hs25.o | exact ho25) hW.t.p9 ?_
      refine aw_goto (t := 37) F dL_goalOf_27 (by decide) ?_
      refine aw_astore_2 (q := 38) F dL_goalOf_37 rfl trivial ?_
      refine aw_aload_0 (q := 39) F dL_goalOf_38 rfl ?_
      refine av_getaE (q := 42) F fL_23 dL_goalOf_39 rfl rfl (by first | exact hW.o | exact hW.ho | exact hW.to | exact hW.s1.o | exact hW.t.a4 | exact hW.t.a5 | exact hs25.o | exact ho25) hW.p6 ?_
      refine aw_aload_2 (q := 43) F dL_goalOf_42 rfl ?_
      refine aw_iconst (q := 44) F dL_goalOf_43 rfl (by decide) ?_
      refine av_iaload (q := 45) F dL_goalOf_44 rfl (by first | exact hW.o | exact hW.ho | exact hW.to | exact hW.s1.o | exact hW.t.a4 | exact hW.t.a5 | exact hs25.o | exact ho25) (by omega) (by omega) ?_
      refine aw_aload_2 (q := 46) F dL_goalOf_45 rfl ?_
      refine aw_iconst (q := 47) F dL_goalOf_46 rfl (by decide) ?_
      refine av_iaload (q := 48) F dL_goalOf_47 rfl (by first | exact hW.o | exact hW.ho | exact hW.to | exact hW.s1.o | exact hW.t.a4 | exact hW.t.a5 | exact hs25.o | exact ho25) (by omega) (by omega) ?_
      refine av_callV2 (q := 51) (ci := 2) F hm mH_placingsFor_i mH_placingsFor_n lL_397 dL_goalOf_48 rfl rfl rfl (by first | exact hW.o | exact hW.ho | exact hW.to | exact hW.s1.o | exact hW.t.a4 | exact hW.t.a5 | exact hs25.o | exact ho25) (by decide) (Nat.le_refl _) (Nat.le_refl _) (Nat.le_of_ble_eq_true rfl) (wH_placingsFor hW.h h.hh ?_)
      refine aw_iret F C dL_goalOf_51 rfl (Nat.le_refl _) (Nat.le_refl _) ?_
      refine kI hK ?_; unfold goN; rw [if_neg c2, if_neg c2]; first | (rw [if_pos c17, if_pos c17]; show _ = ((bsum (fitN (psC S) (V (dT y + 4) 0) (V (dT y + 4) 1)) (wB (psC S) (tPn (psT S))) : Nat) : Int); rw [(ht 0 (by decide)).2.1, (ht 1 (by decide)).2.1]) | (rw [if_neg c17, if_neg c17]; show _ = ((bsum (fitN (psC S) (V (dT y + 5) 0) (V (dT y + 5) 1)) (wB (psC S) (tPn (psT S))) : Nat) : Int); rw [(ht 0 (by decide)).2.2.1, (ht 1 (by decide)).2.2.1])
  · refine aw_aload_0 (q := 6) F dL_goalOf_5 rfl ?_
    refine av_getaE (q := 9) F fL_23 dL_goalOf_6 rfl rfl (by first | exact hW.o | exact hW.ho | exact hW.to | exact hW.s1.o | exact hW.t.a4 | exact hW.t.a5 | exact hs25.o | exact ho25) hW.p6 ?_
    refine aw_iconst (q := 10) F dL_goalOf_9 rfl (by decide) ?_
    refine aw_iconst (q := 11) F dL_goalOf_10 rfl (by decide) ?_
    refine av_callV2 (q := 14) (ci := 2) F hm mH_placingsFor_i mH_placingsFor_n lL_397 dL_goalOf_11 rfl rfl rfl (by first | exact hW.o | exact hW.ho | exact hW.to | exact hW.s1.o | exact hW.t.a4 | exact hW.t.a5 | exact hs25.o | exact ho25) (by decide) (Nat.le_refl _) (Nat.le_refl _) (Nat.le_of_ble_eq_true rfl) (wH_placingsFor hW.h h.hh ?_)
    refine aw_iret F C dL_goalOf_14 rfl (Nat.le_refl _) (Nat.le_refl _) ?_
    refine kI hK ?_; unfold goN; rw [if_pos c2, if_pos c2]; rfl
end Walk1
