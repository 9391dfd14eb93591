-- the class's world and the reference's beside each other
def LBl (ow : Nat → Nat) (l : Nat) : Prop := (∀ b, 53 ≤ b → b ≤ 64 → 1000 ≤ ow b) ∧ (l ≠ 0 → 65 ≤ l ∧ ∀ i, i ≤ 8 → 1000 ≤ ow (l + i))
section Law1
variable {V V' V1 V2 : Nat → Nat → Int} {σ σ' σ1 σ2 : Shp} {ow ow' ow1 : Nat → Nat} {y y1 : Dy} {S S' : PS} {kn kn' : Bool} {l e : Nat}
/-- what isn't the class's has changed -/
theorem CW.mv {Z : Nat → Nat → Prop} (h : CW V σ ow y S kn) (he : eS σ σ' Z) (hZ : ∀ b j, ow b < 1000 → ¬ Z b j) (hv : ∀ b, b < sX σ → ow b < 1000 → V' b = V b) : CW V' σ' ow y S kn := by
  have hX := h.cs.x53
  have hL := h.cl
  have ht : ow (dT y) = 20 := hL.t (i := 0) (Nat.zero_le _)
  have ff : ∀ {b : Nat}, fx b → ow b < 1000 := fun {b} hb => by rw [hL.f hb]; have := fx_lt hb; omega
  obtain ⟨⟨n1, n2, n3, n4⟩, ⟨n5, n6, n7⟩, n8⟩ := h.cs.nm
  refine ⟨CS.mk' (y := y) (y' := y) he h.cs (fun j => hZ _ _ (ff (by unfold fx; omega))) (fun j => hZ _ _ (ff (by unfold fx; omega))) (fun j => hZ _ _ (by omega)) (fun j => hZ _ _ (ff (by unfold fx; omega))) (fun j => hZ _ _ (ff (by unfold fx; omega))) rfl (h.cs.s1.eS' he (fun j => hZ _ _ (ff (by unfold fx; omega))) (fun j => hZ _ _ (ff (by unfold fx; omega)))) (h.cs.s2.eS' he (fun j => hZ _ _ (ff (by unfold fx; omega))) (fun j => hZ _ _ (ff (by unfold fx; omega)))) (h.cs.r.eS0 he (fun j => hZ _ _ (ff (by unfold fx; omega)))) (h.cs.g.eS' he (hZ _ _ (ff (by unfold fx; omega))) (hZ _ _ (ff (by unfold fx; omega)))), hL, h.cb, h.2.2.2.same (fun b hb => hv b (by omega) (ff (by unfold fx; omega))) (fun i hi => hv _ (by omega) (by rw [hL.t hi]; omega)) (hv _ n1 (by rw [hL.2.1.1]; decide)) (hv _ n2 (by rw [hL.2.1.2.1]; decide))⟩
theorem CW.lbl (h : CW V σ ow y S kn) (e : ∀ b, b < sX σ → ow' b = ow b) : CW V σ ow' y S kn := by
  have hX := h.cs.x53
  have hL := h.cl
  obtain ⟨⟨n1, n2, n3, n4⟩, ⟨n5, n6, n7⟩, n8⟩ := h.cs.nm
  refine ⟨h.cs, ⟨fun b hb => ?_, ⟨?_, ?_, ?_, ?_, ?_, ?_, ?_⟩, fun i hi => ?_⟩, h.cb, h.2.2.2⟩
  · rw [e b (by have := fx_lt hb; omega)]; exact hL.f hb
  · rw [e _ n1]; exact hL.2.1.1
  · rw [e _ n2]; exact hL.2.1.2.1
  · rw [e _ n3]; exact hL.2.1.2.2.1
  · rw [e _ n4]; exact hL.2.1.2.2.2.1
  · rw [e _ n5]; exact hL.2.1.2.2.2.2.1
  · rw [e _ n6]; exact hL.2.1.2.2.2.2.2.1
  · rw [e _ n7]; exact hL.2.1.2.2.2.2.2.2
  · rw [e _ (by omega)]; exact hL.t hi
theorem moS.fr (h : moS σ l) (hX : sX σ ≤ sX σ') (e : ∀ b, 53 ≤ b → b ≤ 63 → sT σ' b = sT σ b ∧ sN σ' b = sN σ b ∧ ∀ j, sP σ' b j = sP σ b j) : moS σ' l := by
  obtain ⟨o, p3, ⟨p5, p15, p16, p17, p18, p21, p22, p23, p24, p28⟩, a54, a55, a56, a57, a58, a59, a60, a61, a62, a63⟩ := h
  have q : ∀ j, sP σ' 53 j = sP σ 53 j := (e 53 (by decide) (by decide)).2.2
  have ka : ∀ {a t n : Nat}, 53 ≤ a → a ≤ 63 → sA σ a t n → sA σ' a t n := fun {a t n} h1 h2 h => ⟨(e a h1 h2).1.trans h.1, (e a h1 h2).2.1.trans h.2.1, h.2.2.1, Nat.lt_of_lt_of_le h.2.2.2 hX⟩
  exact ⟨⟨(e 53 (by decide) (by decide)).1.trans o.1, o.2.1, Nat.lt_of_lt_of_le o.2.2 hX⟩, (q 3).trans p3, ⟨(q 5).trans p5, (q 15).trans p15, (q 16).trans p16, (q 17).trans p17, (q 18).trans p18, (q 21).trans p21, (q 22).trans p22, (q 23).trans p23, (q 24).trans p24, (q 28).trans p28⟩, ka (by decide) (by decide) a54, ka (by decide) (by decide) a55, ka (by decide) (by decide) a56, ka (by decide) (by decide) a57, ka (by decide) (by decide) a58, ka (by decide) (by decide) a59, ka (by decide) (by decide) a60, ka (by decide) (by decide) a61, ka (by decide) (by decide) a62, ka (by decide) (by decide) a63⟩
theorem laS.fr (h : laS σ l) (hX : sX σ ≤ sX σ') (e : ∀ i, i ≤ 8 → sT σ' (l + i) = sT σ (l + i) ∧ sN σ' (l + i) = sN σ (l + i) ∧ ∀ j, sP σ' (l + i) j = sP σ (l + i) j) : laS σ' l := by
  obtain ⟨o, ⟨p9, p10, p11, p12, p13, p15, p16, p17⟩, a1, a2, a3, a4, a5, a6, a7, a8⟩ := h
  have e0 : sT σ' l = sT σ l ∧ sN σ' l = sN σ l ∧ ∀ j, sP σ' l j = sP σ l j := e 0 (by decide)
  have q : ∀ j, sP σ' l j = sP σ l j := e0.2.2
  have ka : ∀ {i t n : Nat}, i ≤ 8 → sA σ (l + i) t n → sA σ' (l + i) t n := fun {i t n} h1 h => ⟨(e i h1).1.trans h.1, (e i h1).2.1.trans h.2.1, h.2.2.1, Nat.lt_of_lt_of_le h.2.2.2 hX⟩
  exact ⟨⟨e0.1.trans o.1, o.2.1, Nat.lt_of_lt_of_le o.2.2 hX⟩, ⟨(q 9).trans p9, (q 10).trans p10, (q 11).trans p11, (q 12).trans p12, (q 13).trans p13, (q 15).trans p15, (q 16).trans p16, (q 17).trans p17⟩, ka (by decide) a1, ka (by decide) a2, ka (by decide) a3, ka (by decide) a4, ka (by decide) a5, ka (by decide) a6, ka (by decide) a7, ka (by decide) a8⟩
/-- the reference's cells are as they were -/
theorem MW.fr (h : MW V σ l S) (f : FR V V' σ σ' ow ow') (lb : LBl ow l) : MW V' σ' l S := by
  have hM := h.mo
  have hX : 63 < sX σ := hM.a63.2.2.2
  have c : ∀ b, 53 ≤ b → b ≤ 63 → V' b = V b ∧ ow' b = ow b ∧ sT σ' b = sT σ b ∧ sN σ' b = sN σ b ∧ ∀ j, sP σ' b j = sP σ b j := fun b h1 h2 => f.2 b (by omega) (lb.1 b h1 (by omega))
  have e53 : V' 53 = V 53 := (c 53 (by decide) (by decide)).1
  refine ⟨h.ok, hM.fr f.1 (fun b h1 h2 => (c b h1 h2).2.2), h.2.2.1, fun hd => ?_, ?_, ?_, MWq.fl h.q (by rw [e53]) (by rw [e53]) (c 59 (by decide) (by decide)).1 (c 60 (by decide) (by decide)).1 (c 61 (by decide) (by decide)).1⟩
  · have hl := h.la hd
    have h64 := h.h64 hd
    have hlt := hl.lt
    have d : ∀ i, i ≤ 8 → V' (l + i) = V (l + i) ∧ ow' (l + i) = ow (l + i) ∧ sT σ' (l + i) = sT σ (l + i) ∧ sN σ' (l + i) = sN σ (l + i) ∧ ∀ j, sP σ' (l + i) j = sP σ (l + i) j := fun i hi => f.2 _ (by omega) ((lb.2 (by omega)).2 i hi)
    exact ⟨hl.fr f.1 (fun i hi => (d i hi).2.2), h64, (h.wa hd).same (c 55 (by decide) (by decide)).1 (c 57 (by decide) (by decide)).1 (c 58 (by decide) (by decide)).1 (fun i hi => (d i (by omega)).1)⟩
  · rw [(c 54 (by decide) (by decide)).1]; exact h.2.2.2.2.1
  · unfold MWf; rw [e53]; exact h.f
theorem LBl.fr (lb : LBl ow l) (h : MW V σ l S) (hX : 64 < sX σ) (f : FR V V' σ σ' ow ow') : LBl ow' l := by
  refine ⟨fun b h1 h2 => ?_, fun hl => ⟨(lb.2 hl).1, fun i hi => ?_⟩⟩
  · rw [(f.2 b (by omega) (lb.1 b h1 h2)).2.1]; exact lb.1 b h1 h2
  · have hlt := (h.la (h.pos hl)).lt
    rw [(f.2 (l + i) (by omega) ((lb.2 hl).2 i hi)).2.1]; exact (lb.2 hl).2 i hi
/-- the law's world -/
def LW (V : Nat → Nat → Int) (σ : Shp) (ow : Nat → Nat) (y : Dy) (l : Nat) (S : PS) (kn : Bool) : Prop := CW V σ ow y S kn ∧ MW V σ l S ∧ LBl ow l ∧ sA σ 64 12 1
theorem LW.cw (h : LW V σ ow y l S kn) : CW V σ ow y S kn := h.1
theorem LW.mw (h : LW V σ ow y l S kn) : MW V σ l S := h.2.1
theorem LW.x64 (h : LW V σ ow y l S kn) : 64 < sX σ := h.2.2.2.2.2.2
theorem LW.o1 (h : LW V σ ow y l S kn) : sO σ 1 7 := h.1.cs.o
/-- behind the class's call the reference stands as it stood -/
theorem LW.m1 (h : LW V σ ow y l S kn) (f : FR V V1 σ σ1 ow ow1) : MW V1 σ1 l S := h.mw.fr f h.2.2.1
theorem LW.a64 (h : LW V σ ow y l S kn) (f : FR V V1 σ σ1 ow ow1) : sA σ1 64 12 1 := by
  have c := f.2 64 h.x64 (h.2.2.1.1 64 (by decide) (by decide))
  have a := h.2.2.2
  exact ⟨c.2.2.1.trans a.1, c.2.2.2.1.trans a.2.1, a.2.2.1, Nat.lt_of_lt_of_le a.2.2.2 f.1⟩
/-- both calls are done -/
theorem LW.st (h : LW V σ ow y l S kn) (c1 : CW V1 σ1 ow1 y1 S' kn') (f : FR V V1 σ σ1 ow ow1) (m2 : MW V2 σ1 l S') (r : MR V1 V2) : LW V2 σ1 ow1 y1 l S' kn' := by
  have lb := h.2.2.1.fr h.mw h.x64 f
  refine ⟨c1.mv (eS.rf σ1 (fun _ _ => False)) (fun b j _ q => q) (fun b hb ho => r b ?_), m2, lb, h.a64 f⟩
  rcases Nat.lt_or_ge b 53 with q | q
  · exact Or.inl q
  · rcases Nat.lt_or_ge 63 b with q2 | q2
    · exact Or.inr q2
    · have := lb.1 b q (by omega); omega
/-- a lane's fault -/
theorem LW.lf (h : LW V σ ow y l S kn) (c1 : CW V1 σ1 ow1 y1 S' kn') (f : FR V V1 σ σ1 ow ow1) (m2 : MW V2 σ2 l S') (r : MR2 V1 V2 σ1 σ2) : LW V2 σ2 ow1 y1 l S' kn' := by
  have lb := h.2.2.1.fr h.mw h.x64 f
  have a := h.a64 f
  refine ⟨c1.mv r.1 (fun b j ho q => ?_) (fun b hb ho => r.2.2 b hb ?_), m2, lb, r.1.a a⟩
  · have q : b = 53 := q
    have := lb.1 53 (by decide) (by decide); rw [q] at ho; omega
  · rcases Nat.lt_or_ge b 53 with q | q
    · exact Or.inl q
    · rcases Nat.lt_or_ge 63 b with q2 | q2
      · exact Or.inr q2
      · have := lb.1 b q (by omega); omega
/-- another lane -/
theorem LW.lg (h : LW V σ ow y l S kn) (c1 : CW V1 σ1 ow1 y1 S' kn') (f : FR V V1 σ σ1 ow ow1) (m2 : MW V2 σ2 (sX σ1) S') (r : MR2 V1 V2 σ1 σ2) : LW V2 σ2 (fun z => if sX σ1 ≤ z then 1000 else ow1 z) y1 (sX σ1) S' kn' := by
  have lb := h.2.2.1.fr h.mw h.x64 f
  have a := h.a64 f
  have hX := h.x64
  have hX1 : sX σ ≤ sX σ1 := f.1
  have c2 := c1.lbl (ow' := fun z => if sX σ1 ≤ z then 1000 else ow1 z) (fun b hb => if_neg (by omega))
  refine ⟨c2.mv r.1 (fun b j ho q => ?_) (fun b hb ho => r.2.2 b hb ?_), m2, ⟨fun b h1 h2 => ?_, fun _ => ⟨by omega, fun i hi => ?_⟩⟩, r.1.a a⟩
  · have q : b = 53 := q
    have := lb.1 53 (by decide) (by decide)
    have ho : (if sX σ1 ≤ b then 1000 else ow1 b) < 1000 := ho
    rw [if_neg (by omega), q] at ho; omega
  · have ho : (if sX σ1 ≤ b then 1000 else ow1 b) < 1000 := ho
    rw [if_neg (by omega)] at ho
    rcases Nat.lt_or_ge b 53 with q | q
    · exact Or.inl q
    · rcases Nat.lt_or_ge 63 b with q2 | q2
      · exact Or.inr q2
      · have := lb.1 b q (by omega); omega
  · show 1000 ≤ (if sX σ1 ≤ b then 1000 else ow1 b)
    rw [if_neg (by omega)]; exact lb.1 b h1 h2
  · show 1000 ≤ (if sX σ1 ≤ sX σ1 + i then 1000 else ow1 (sX σ1 + i))
    rw [if_pos (by omega)]; exact Nat.le_refl _
/-- the law writes its own row -/
theorem LW.out (h : LW V σ ow y l S kn) {j : Nat} {z : Int} : LW (up2 V 64 j z) σ ow y l S kn := by
  obtain ⟨h1, h2, h3, h4⟩ := h
  have e : ∀ b, b ≠ 64 → up2 V 64 j z b = V b := fun b hb => up2_nea _ _ hb
  refine ⟨h1.mv (eS.rf σ (fun _ _ => False)) (fun b j _ q => q) (fun b hb ho => e b (fun q => ?_)), ?_, h3, h4⟩
  · have := h3.1 64 (by decide) (by decide); rw [q] at ho; omega
  · have e53 := e 53 (by decide)
    refine ⟨h2.ok, h2.mo, h2.2.2.1, fun hd => ?_, ?_, ?_, MWq.fl h2.q (by rw [e53]) (by rw [e53]) (e 59 (by decide)) (e 60 (by decide)) (e 61 (by decide))⟩
    · have hl := h2.la hd
      have h64 := h2.h64 hd
      have h65 := (h3.2 (by omega)).1
      exact ⟨hl, h64, (h2.wa hd).same (e 55 (by decide)) (e 57 (by decide)) (e 58 (by decide)) (fun i hi => e _ (by omega))⟩
    · rw [e 54 (by decide)]; exact h2.2.2.2.2.1
    · unfold MWf; rw [e53]; exact h2.f
end Law1
