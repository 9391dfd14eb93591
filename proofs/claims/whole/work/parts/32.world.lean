-- what a text tells
abbrev TL : Type := (Nat × Nat × Nat × Nat × Nat × Nat) × (Nat → Nat) × (Nat → Nat) × (Nat → Nat) × (Nat → Int) × (Nat → Int) × (Nat → Int)
abbrev tDr (T : TL) : Nat := T.1.1
abbrev tDn (T : TL) : Nat := T.1.2.1
abbrev tPn (T : TL) : Nat := T.1.2.2.1
abbrev tLk (T : TL) : Nat := T.1.2.2.2.1
abbrev tKy (T : TL) : Nat := T.1.2.2.2.2.1
abbrev tLa (T : TL) : Nat := T.1.2.2.2.2.2
abbrev tKd (T : TL) : Nat → Nat := T.2.1
abbrev tLd (T : TL) : Nat → Nat := T.2.2.1
abbrev tAt (T : TL) : Nat → Nat := T.2.2.2.1
abbrev tHo (T : TL) : Nat → Int := T.2.2.2.2.1
abbrev tWi (T : TL) : Nat → Int := T.2.2.2.2.2.1
abbrev tSi (T : TL) : Nat → Int := T.2.2.2.2.2.2
def okT (T : TL) : Prop := tDr T ≤ 100 ∧ tDn T ≤ 4 ∧ tPn T ≤ 2 ∧ tLk T < 2 ^ tDn T ∧ tKy T < 2 ^ tPn T ∧ (0 < tDn T → tLa T < tDn T) ∧ (tDn T = 0 → tLa T = 0 ∧ tPn T = 0 ∧ tDr T = 0) ∧ (∀ d, tKd T d < 4 ∧ tLd T d ≤ tDn T) ∧ (∀ d, tDn T ≤ d → tKd T d = 0 ∧ tLd T d = 0) ∧ (∀ p, tAt T p ≤ tDn T) ∧ (∀ p, tPn T ≤ p → tAt T p = 0 ∧ tHo T p = -2 ∧ tWi T p = -2 ∧ tSi T p = -2) ∧ ∀ p, (tHo T p = -2 ∨ 0 ≤ tHo T p ∧ tHo T p ≤ tDn T) ∧ (tWi T p = -2 ∨ 0 ≤ tWi T p ∧ tWi T p ≤ tDn T) ∧ (tSi T p = -2 ∨ 0 ≤ tSi T p ∧ tSi T p ≤ tDn T)
-- a scene: kinds, nails, the arrangement
abbrev Sc : Type := (Nat → Nat) × Nat × Nat
def cfS (T : TL) (s : Sc) : Cfg := (tDn T, tPn T, tLk T, tKy T, s.1, s.2.1)
def okS (T : TL) (s : Sc) : Prop := (∀ d, s.1 d < 4) ∧ (∀ d, tDn T ≤ d → s.1 d = 0) ∧ s.2.1 < 2 ^ tDn T ∧ (0 < tDn T → s.2.2 < spc (cfS T s)) ∧ (tDn T = 0 → s.2.2 = 0)
def sc0 (T : TL) : Sc := (tKd T, 0, encN (tDn T, tPn T, tLk T, tKy T, tKd T, 0) (tAt T) (tLd T) (tLa T))
def snS (T : TL) (s : Sc) : Nat := scN (cfS T s) s.2.2
-- the whole state: the tape and its length, trouble, fault, place, what was told, the scene now, past ones, images
abbrev PS : Type := (Nat → Int) × Nat × Int × Int × Int × TL × Sc × List Sc × List Sc
abbrev psB (S : PS) : Nat → Int := S.1
abbrev psN (S : PS) : Nat := S.2.1
abbrev psR (S : PS) : Int := S.2.2.1
abbrev psF (S : PS) : Int := S.2.2.2.1
abbrev psL (S : PS) : Int := S.2.2.2.2.1
abbrev psT (S : PS) : TL := S.2.2.2.2.2.1
abbrev psS (S : PS) : Sc := S.2.2.2.2.2.2.1
abbrev psP (S : PS) : List Sc := S.2.2.2.2.2.2.2.1
abbrev psI (S : PS) : List Sc := S.2.2.2.2.2.2.2.2
abbrev psC (S : PS) : Cfg := cfS (psT S) (psS S)
abbrev psA (S : PS) : Nat := (psS S).2.2
def okP (S : PS) : Prop := psN S ≤ 800 ∧ (∀ i, -128 ≤ psB S i ∧ psB S i < 128) ∧ okT (psT S) ∧ okS (psT S) (psS S) ∧ (psP S).length ≤ 16 ∧ (∀ s ∈ psP S, okS (psT S) s) ∧ (psI S).length ≤ 3 ∧ (∀ s ∈ psI S, okS (psT S) s) ∧ (tDn (psT S) = 0 → psP S = [] ∧ psI S = [])
def setR (S : PS) (z : Int) : PS := (psB S, psN S, z, S.2.2.2)
-- the class's cells that come and go: told; queue, marks, their lengths (walk); the same (spare); ranks, values, longer, their lengths; weights, next
abbrev Dy : Type := Nat × (Nat × Nat × Nat × Nat) × (Nat × Nat × Nat × Nat) × (Nat × Nat × Nat × Nat × Nat × Nat) × Nat × Nat
abbrev dT (y : Dy) : Nat := y.1
abbrev dQ1 (y : Dy) : Nat := y.2.1.1
abbrev dK1 (y : Dy) : Nat := y.2.1.2.1
abbrev dL1 (y : Dy) : Nat := y.2.1.2.2.1
abbrev dM1 (y : Dy) : Nat := y.2.1.2.2.2
abbrev dQ2 (y : Dy) : Nat := y.2.2.1.1
abbrev dK2 (y : Dy) : Nat := y.2.2.1.2.1
abbrev dL2 (y : Dy) : Nat := y.2.2.1.2.2.1
abbrev dM2 (y : Dy) : Nat := y.2.2.1.2.2.2
abbrev dRn (y : Dy) : Nat := y.2.2.2.1.1
abbrev dVn (y : Dy) : Nat := y.2.2.2.1.2.1
abbrev dLn (y : Dy) : Nat := y.2.2.2.1.2.2.1
abbrev dRA (y : Dy) : Nat := y.2.2.2.1.2.2.2.1
abbrev dRB (y : Dy) : Nat := y.2.2.2.1.2.2.2.2.1
abbrev dRC (y : Dy) : Nat := y.2.2.2.1.2.2.2.2.2
abbrev dWn (y : Dy) : Nat := y.2.2.2.2.1
abbrev dNn (y : Dy) : Nat := y.2.2.2.2.2
def CS (σ : Shp) (y : Dy) : Prop := sO σ 1 7 ∧ (sP σ 1 0 = 2 ∧ sP σ 1 5 = dT y ∧ sP σ 1 6 = 10 ∧ sP σ 1 7 = 16 ∧ sP σ 1 9 = 17 ∧ sP σ 1 11 = 18 ∧ sP σ 1 13 = 27 ∧ sP σ 1 14 = 36 ∧ sP σ 1 15 = 43 ∧ sP σ 1 16 = 50) ∧ sA σ 2 10 800 ∧ hS σ 10 ∧ sA σ 16 11 16 ∧ sA σ 17 11 3 ∧ tS σ (dT y) ∧ sS0 σ 18 (dQ1 y) (dK1 y) (dL1 y) (dM1 y) ∧ sS0 σ 27 (dQ2 y) (dK2 y) (dL2 y) (dM2 y) ∧ rS σ 36 (dRn y) (dVn y) (dLn y) (dRA y) (dRB y) (dRC y) ∧ coS σ 43 ∧ gS σ 50 (dWn y) (dNn y)
section CSs
variable {σ : Shp} {y : Dy}
theorem CS.o (h : CS σ y) : sO σ 1 7 := h.1
theorem CS.p0 (h : CS σ y) : sP σ 1 0 = 2 := h.2.1.1
theorem CS.p5 (h : CS σ y) : sP σ 1 5 = dT y := h.2.1.2.1
theorem CS.p6 (h : CS σ y) : sP σ 1 6 = 10 := h.2.1.2.2.1
theorem CS.p7 (h : CS σ y) : sP σ 1 7 = 16 := h.2.1.2.2.2.1
theorem CS.p9 (h : CS σ y) : sP σ 1 9 = 17 := h.2.1.2.2.2.2.1
theorem CS.p11 (h : CS σ y) : sP σ 1 11 = 18 := h.2.1.2.2.2.2.2.1
theorem CS.p13 (h : CS σ y) : sP σ 1 13 = 27 := h.2.1.2.2.2.2.2.2.1
theorem CS.p14 (h : CS σ y) : sP σ 1 14 = 36 := h.2.1.2.2.2.2.2.2.2.1
theorem CS.p15 (h : CS σ y) : sP σ 1 15 = 43 := h.2.1.2.2.2.2.2.2.2.2.1
theorem CS.p16 (h : CS σ y) : sP σ 1 16 = 50 := h.2.1.2.2.2.2.2.2.2.2.2
theorem CS.a2 (h : CS σ y) : sA σ 2 10 800 := h.2.2.1
theorem CS.h (h : CS σ y) : hS σ 10 := h.2.2.2.1
theorem CS.ho (h : CS σ y) : sO σ 10 2 := h.2.2.2.1.o
theorem CS.a16 (h : CS σ y) : sA σ 16 11 16 := h.2.2.2.2.1
theorem CS.a17 (h : CS σ y) : sA σ 17 11 3 := h.2.2.2.2.2.1
theorem CS.t (h : CS σ y) : tS σ (dT y) := h.2.2.2.2.2.2.1
theorem CS.to (h : CS σ y) : sO σ (dT y) 6 := h.2.2.2.2.2.2.1.1
theorem CS.s1 (h : CS σ y) : sS0 σ 18 (dQ1 y) (dK1 y) (dL1 y) (dM1 y) := h.2.2.2.2.2.2.2.1
theorem CS.s2 (h : CS σ y) : sS0 σ 27 (dQ2 y) (dK2 y) (dL2 y) (dM2 y) := h.2.2.2.2.2.2.2.2.1
theorem CS.r (h : CS σ y) : rS σ 36 (dRn y) (dVn y) (dLn y) (dRA y) (dRB y) (dRC y) := h.2.2.2.2.2.2.2.2.2.1
theorem CS.c (h : CS σ y) : coS σ 43 := h.2.2.2.2.2.2.2.2.2.2.1
theorem CS.g (h : CS σ y) : gS σ 50 (dWn y) (dNn y) := h.2.2.2.2.2.2.2.2.2.2.2
end CSs
/-- cells whose owner never changes -/
def fx (b : Nat) : Prop := b = 1 ∨ b = 2 ∨ (10 ≤ b ∧ b ≤ 24) ∨ (27 ≤ b ∧ b ≤ 33) ∨ (36 ≤ b ∧ b ≤ 39) ∨ (43 ≤ b ∧ b ≤ 52)
/-- whose a cell is, by labels; 1000 and more: none of the class's -/
def CL (ow : Nat → Nat) (y : Dy) : Prop := (∀ b, fx b → ow b = 100 + b) ∧ (ow (dQ1 y) = 11 ∧ ow (dK1 y) = 12 ∧ ow (dQ2 y) = 13 ∧ ow (dK2 y) = 14 ∧ ow (dRn y) = 15 ∧ ow (dVn y) = 16 ∧ ow (dLn y) = 17) ∧ ∀ i, i ≤ 6 → ow (dT y + i) = 20 + i
def CB (y : Dy) : Prop := (dM1 y = dL1 y / 64 + 1 ∨ (dL1 y = 0 ∧ dM1 y = 0)) ∧ (dM2 y = dL2 y / 64 + 1 ∨ (dL2 y = 0 ∧ dM2 y = 0)) ∧ (dRA y ≤ 62500 ∧ dRB y ≤ 62500 ∧ dRC y ≤ 62500)
def TV (V : Nat → Nat → Int) (t : Nat) (T : TL) : Prop := (V t 0 = tDr T ∧ V t 1 = tDn T ∧ V t 2 = tPn T ∧ V t 3 = tLk T ∧ V t 4 = tKy T ∧ V t 5 = tLa T) ∧ (∀ d, d < 4 → V (t + 1) d = tKd T d ∧ V (t + 2) d = tLd T d) ∧ ∀ p, p < 2 → V (t + 3) p = tAt T p ∧ V (t + 4) p = tHo T p ∧ V (t + 5) p = tWi T p ∧ V (t + 6) p = tSi T p
/-- which placings fit what was seen -/
def siP (T : TL) : Nat := bsum (fitN (cfS T (sc0 T)) (tSi T 0) (tSi T 1)) (wB (cfS T (sc0 T)) (tPn T))
def KR (V : Nat → Nat → Int) (T : TL) : Prop := (∀ n, n < 7 → V 37 n = vlN (cfS T (sc0 T)) (siP T) n (sc0 T).2.2) ∧ ∀ e, e < 112 → V 38 e = fsV (cfS T (sc0 T)) (siP T) (sc0 T).2.2 7 e
def WK (V : Nat → Nat → Int) (y : Dy) (T : TL) : Prop := V 1 12 = -1 ∨ ∃ (s : Sc) (k m : Nat), okS T s ∧ dM1 y = dL1 y / 64 + 1 ∧ V 1 12 = snS T s ∧ SQ V 18 (dQ1 y) (dK1 y) (dL1 y) (cfS T s) (itS (cfS T s) ([(s.2.2, 0)], 0, 0) k) m
/-- the fields of the object itself -/
def CF (V : Nat → Nat → Int) (S : PS) : Prop := V 1 1 = psN S ∧ V 1 2 = psR S ∧ V 1 3 = psF S ∧ (psR S = 4 → V 1 4 = psL S) ∧ V 1 8 = (psP S).length ∧ V 1 10 = (psI S).length
/-- the rest that it holds -/
def CR (V : Nat → Nat → Int) (y : Dy) (S : PS) (kn : Bool) : Prop := (∀ i, i < psN S → V 2 i = psB S i) ∧ TV V (dT y) (psT S) ∧ HH V 10 (psC S) (psA S) ∧ (∀ i s, (psP S)[i]? = some s → V 16 i = snS (psT S) s) ∧ (∀ i s, (psI S)[i]? = some s → V 17 i = snS (psT S) s) ∧ V 36 0 = bz kn ∧ (kn = true → 0 < tDn (psT S) ∧ KR V (psT S))
def CV (V : Nat → Nat → Int) (y : Dy) (S : PS) (kn : Bool) : Prop := okP S ∧ CF V S ∧ CR V y S kn ∧ WK V y (psT S)
def CW (V : Nat → Nat → Int) (σ : Shp) (ow : Nat → Nat) (y : Dy) (S : PS) (kn : Bool) : Prop := CS σ y ∧ CL ow y ∧ CB y ∧ CV V y S kn
/-- what is not the class's stays -/
def FR (V V' : Nat → Nat → Int) (σ σ' : Shp) (ow ow' : Nat → Nat) : Prop := sX σ ≤ sX σ' ∧ ∀ b, b < sX σ → 1000 ≤ ow b → V' b = V b ∧ ow' b = ow b ∧ sT σ' b = sT σ b ∧ sN σ' b = sN σ b ∧ ∀ j, sP σ' b j = sP σ b j
theorem FR.rf (V : Nat → Nat → Int) (σ : Shp) (ow : Nat → Nat) : FR V V σ σ ow ow := ⟨Nat.le_refl _, fun _ _ _ => ⟨rfl, rfl, rfl, rfl, fun _ => rfl⟩⟩
theorem FR.tr {V V1 V2 : Nat → Nat → Int} {σ σ1 σ2 : Shp} {ow ow1 ow2 : Nat → Nat} (h : FR V V1 σ σ1 ow ow1) (g : FR V1 V2 σ1 σ2 ow1 ow2) : FR V V2 σ σ2 ow ow2 := by
  refine ⟨Nat.le_trans h.1 g.1, fun b hb ho => ?_⟩
  obtain ⟨a1, a2, a3, a4, a5⟩ := h.2 b hb ho
  obtain ⟨b1, b2, b3, b4, b5⟩ := g.2 b (Nat.lt_of_lt_of_le hb h.1) (by rw [a2]; exact ho)
  exact ⟨b1.trans a1, b2.trans a2, b3.trans a3, b4.trans a4, fun j => (b5 j).trans (a5 j)⟩
theorem FR.up {V V1 : Nat → Nat → Int} {σ σ1 : Shp} {ow ow1 : Nat → Nat} {b k : Nat} {z : Int} (h : FR V V1 σ σ1 ow ow1) (hb : ow1 b < 1000) : FR V (up2 V1 b k z) σ σ1 ow ow1 := ⟨h.1, fun q hq ho => by
  obtain ⟨a1, a2, a3⟩ := h.2 q hq ho
  have : q ≠ b := fun e => by rw [e] at a2 ho; omega
  exact ⟨by rw [up2_nea _ _ this]; exact a1, a2, a3⟩⟩
theorem FR.vs {V V1 V2 : Nat → Nat → Int} {σ σ1 : Shp} {ow ow1 : Nat → Nat} (h : FR V V1 σ σ1 ow ow1) (g : ∀ b, 1000 ≤ ow1 b → V2 b = V1 b) : FR V V2 σ σ1 ow ow1 := ⟨h.1, fun q hq ho => by
  obtain ⟨a1, a2, a3⟩ := h.2 q hq ho
  exact ⟨(g q (by rw [a2]; exact ho)).trans a1, a2, a3⟩⟩
section CWs
variable {V V' : Nat → Nat → Int} {σ : Shp} {ow : Nat → Nat} {y : Dy} {S : PS} {kn : Bool}
theorem CL.ne {b b' : Nat} (h1 : ow b ≠ ow b') : b ≠ b' := fun e => h1 (by rw [e])
theorem CL.f (h : CL ow y) {b : Nat} (hb : fx b) : ow b = 100 + b := h.1 b hb
theorem TV.same {t : Nat} {T : TL} (h : TV V t T) (e : ∀ i, i ≤ 6 → V' (t + i) = V (t + i)) : TV V' t T := by
  obtain ⟨h1, h2, h3⟩ := h
  have e0 : V' t = V t := e 0 (by omega)
  refine ⟨by rw [e0]; exact h1, fun d hd => ?_, fun p hp => ?_⟩
  · rw [e 1 (by omega), e 2 (by omega)]; exact h2 d hd
  · rw [e 3 (by omega), e 4 (by omega), e 5 (by omega), e 6 (by omega)]; exact h3 p hp
theorem CR.same (h : CR V y S kn) (e2 : V' 2 = V 2) (et : ∀ i, i ≤ 6 → V' (dT y + i) = V (dT y + i)) (eh : ∀ b, 10 ≤ b → b ≤ 15 → V' b = V b) (e16 : V' 16 = V 16) (e17 : V' 17 = V 17) (e36 : V' 36 = V 36) (e37 : V' 37 = V 37) (e38 : V' 38 = V 38) : CR V' y S kn := by
  obtain ⟨h1, h2, h3, h4, h5, h6, h7⟩ := h
  exact ⟨by rw [e2]; exact h1, h2.same et, h3.same (fun b q1 q2 => eh b q1 q2), by rw [e16]; exact h4, by rw [e17]; exact h5, by rw [e36]; exact h6, fun hk => ⟨(h7 hk).1, by unfold KR; rw [e37, e38]; exact (h7 hk).2⟩⟩
theorem CL.t (h : CL ow y) {i : Nat} (hi : i ≤ 6) : ow (dT y + i) = 20 + i := h.2.2 i hi
/-- only the object's own fields change -/
theorem CR.one {k : Nat} {z : Int} (hL : CL ow y) (h : CR V y S kn) : CR (up2 V 1 k z) y S kn := by
  have h1 := hL.f (b := 1) (Or.inl rfl)
  refine h.same ?_ (fun i hi => ?_) (fun b q1 q2 => ?_) ?_ ?_ ?_ ?_ ?_
  · exact up2_nea _ _ (by decide)
  · exact up2_nea _ _ (CL.ne (ow := ow) (by rw [hL.t hi, h1]; omega))
  · exact up2_nea _ _ (by omega)
  · exact up2_nea _ _ (by decide)
  · exact up2_nea _ _ (by decide)
  · exact up2_nea _ _ (by decide)
  · exact up2_nea _ _ (by decide)
  · exact up2_nea _ _ (by decide)
theorem WK.one {k : Nat} {z : Int} {T : TL} (hL : CL ow y) (hk : k ≠ 12) (h : WK V y T) : WK (up2 V 1 k z) y T := by
  have h1 := hL.f (b := 1) (Or.inl rfl)
  have e : up2 V 1 k z 1 12 = V 1 12 := up2_nek _ _ (Ne.symm hk)
  unfold WK
  rw [e]
  rcases h with h | ⟨s, n, m, q1, q2, q3, q4⟩
  · exact Or.inl h
  · refine Or.inr ⟨s, n, m, q1, q2, q3, q4.same (fun b hb => up2_nea _ _ ?_)⟩
    rcases hb with hb | hb | hb
    · omega
    · rw [hb]; exact CL.ne (ow := ow) (by rw [hL.2.1.1, h1]; decide)
    · rw [hb]; exact CL.ne (ow := ow) (by rw [hL.2.1.2.1, h1]; decide)
/-- only trouble changes -/
theorem CW.tr {z : Int} (h : CW V σ ow y S kn) (hz : z ≠ 4) : CW (up2 V 1 2 z) σ ow y (setR S z) kn := by
  obtain ⟨h1, h2, h3, h4, h5, h6, h7⟩ := h
  refine ⟨h1, h2, h3, h4, ?_, ?_, ?_⟩
  · obtain ⟨f1, f2, f3, f4, f5, f6⟩ := h5
    exact ⟨by rw [up2_nek _ _ (by decide)]; exact f1, up2_same _ _ _ _, by rw [up2_nek _ _ (by decide)]; exact f3, fun e => absurd e hz, by rw [up2_nek _ _ (by decide)]; exact f5, by rw [up2_nek _ _ (by decide)]; exact f6⟩
  · exact CR.one (S := S) h2 h6
  · exact WK.one h2 (by decide) h7
theorem CW.fr {k : Nat} {z : Int} (h : CW V σ ow y S kn) : FR V (up2 V 1 k z) σ σ ow ow := (FR.rf V σ ow).up (by rw [h.2.1.f (b := 1) (Or.inl rfl)]; decide)
end CWs
