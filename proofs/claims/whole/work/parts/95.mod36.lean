/-- come to with so many shuttings -/
def sh1 (c : Cfg) (s : Nat) : Nat := if shS c s then 1 else 0
def SCt (c : Cfg) (n k m : Nat) : Prop := ∀ Q : Nat → Nat → Prop, Q 0 n → (∀ k m s, Q k m → s < stN c → mayN c m (allP c) s = true → Q (k + sh1 c s) (aftN c m s)) → Q k m
theorem SCt.z (c : Cfg) (n : Nat) : SCt c n 0 n := fun _ h _ => h
theorem SCt.s {c : Cfg} {n k m s : Nat} (h : SCt c n k m) (hs : s < stN c) (hm : mayN c m (allP c) s = true) : SCt c n (k + sh1 c s) (aftN c m s) := fun Q h0 h1 => h1 k m s (h Q h0 h1) hs hm
theorem SCt.lt {c : Cfg} {n k m : Nat} (hn : n < spc c) (h : SCt c n k m) : m < spc c := h (fun _ m => m < spc c) hn (fun _ _ _ a b d => aft_lt a b d)
def SH (c : Cfg) (n P : Nat) (r : Int) : Prop := (r = -2 ∧ ∀ k m, SCt c n k m → fitP c P (m, 0) = false) ∨ ∃ k : Nat, r = k ∧ (∃ m, SCt c n k m ∧ fitP c P (m, 0) = true) ∧ ∀ k' m, SCt c n k' m → fitP c P (m, 0) = true → k ≤ k'
theorem SH.one {c : Cfg} {n P : Nat} {r q : Int} (h : SH c n P r) (g : SH c n P q) : r = q := by
  rcases h with ⟨h1, h2⟩ | ⟨k, h1, ⟨m, h2, h3⟩, h4⟩ <;> rcases g with ⟨g1, g2⟩ | ⟨j, g1, ⟨i, g2, g3⟩, g4⟩
  · rw [h1, g1]
  · rw [h2 _ _ g2] at g3; cases g3
  · rw [g2 _ _ h2] at h3; cases h3
  · have a := h4 _ _ g2 g3
    have b := g4 _ _ h2 h3
    rw [h1, g1]
    omega
theorem fitP_1 (c : Cfg) (P : Nat) (q : Nat × Nat) : fitP c P q = fitP c P (q.1, 0) := rfl
theorem okW_1 {c : Cfg} {n k : Nat} : okW c n 1 k = true ↔ mayN c n (allP c) k = true ∧ shS c k = false := by
  unfold okW
  cases mayN c n (allP c) k <;> cases shS c k <;> decide
theorem okW_2 {c : Cfg} {n k : Nat} : okW c n 2 k = true ↔ mayN c n (allP c) k = true ∧ shS c k = true := by
  unfold okW
  cases mayN c n (allP c) k <;> cases shS c k <;> decide
theorem exL_src {c : Cfg} {n w i : Nat} {L : List (Nat × Nat)} : ∀ {k x : Nat}, x ∈ (exL c n w i L k).map Prod.fst → x ∈ L.map Prod.fst ∨ ∃ k', k' < k ∧ okW c n w k' = true ∧ x = aftN c n k'
  | 0, x, h => Or.inl h
  | k + 1, x, h => by
    have up : (x ∈ (exL c n w i L k).map Prod.fst) → x ∈ L.map Prod.fst ∨ ∃ k', k' < k + 1 ∧ okW c n w k' = true ∧ x = aftN c n k' := fun q => by
      rcases exL_src q with z | ⟨k', z1, z2⟩
      · exact Or.inl z
      · exact Or.inr ⟨k', by omega, z2⟩
    cases ho : okW c n w k with
    | false => rw [exL_0 ho] at h; exact up h
    | true =>
      rw [exL_1 ho] at h
      unfold addL at h
      split at h
      · exact up h
      · rw [List.map_append, List.mem_append] at h
        rcases h with h | h
        · exact up h
        · exact Or.inr ⟨k, by omega, ho, List.mem_singleton.mp h⟩
theorem pre_at {L M : List (Nat × Nat)} {i : Nat} {q : Nat × Nat} (h : L[i]? = some q) : (L ++ M)[i]? = some q := by
  rw [List.getElem?_append_left (List.getElem?_eq_some_iff.mp h).1]; exact h
theorem pre_mem {L M : List (Nat × Nat)} {x : Nat} (h : x ∈ L.map Prod.fst) : x ∈ (L ++ M).map Prod.fst := by
  rw [List.map_append]; exact List.mem_append_left _ h
theorem ph1_sp {c : Cfg} : ∀ f (L : List (Nat × Nat)) i, okQ c L → spc c ≤ f + i → (∀ Φ : Nat → Prop, (∀ m k, Φ m → k < stN c → mayN c m (allP c) k = true → shS c k = false → Φ (aftN c m k)) → (∀ x ∈ L.map Prod.fst, Φ x) → ∀ x ∈ (ph1 c f L i).map Prod.fst, Φ x) ∧ okQ c (ph1 c f L i) ∧ (∃ M, ph1 c f L i = L ++ M) ∧ ∀ j q k, i ≤ j → (ph1 c f L i)[j]? = some q → k < stN c → mayN c q.1 (allP c) k = true → shS c k = false → aftN c q.1 k ∈ (ph1 c f L i).map Prod.fst
  | 0, L, i, ho, hf => by
    refine ⟨fun Φ _ h => h, ho, ⟨[], (List.append_nil L).symm⟩, fun j q k hj hq => ?_⟩
    have h1 := okQ_len ho
    have h2 := (List.getElem?_eq_some_iff.mp hq).1
    have h3 : j < L.length := h2
    omega
  | f + 1, L, i, ho, hf => by
    by_cases hi : i < L.length
    · have e : ph1 c (f + 1) L i = ph1 c f (xpL c 1 L i) (i + 1) := by show (if i < L.length then _ else _) = _; rw [if_pos hi]
      have hq0 : L[i]? = some L[i] := List.getElem?_eq_getElem hi
      generalize L[i] = q0 at hq0
      have hq0s := ho.2.1 q0 (List.mem_of_getElem? hq0)
      rw [e, xpL_some hq0]
      have ho1 : okQ c (exL c q0.1 1 i L (stN c)) := exL_ok ho hq0s hi _ (Nat.le_refl _)
      obtain ⟨M1, hM1⟩ := exL_pre c q0.1 1 i L (stN c)
      obtain ⟨a1, a2, ⟨M2, a3⟩, a4⟩ := ph1_sp f (exL c q0.1 1 i L (stN c)) (i + 1) ho1 (by omega)
      refine ⟨fun Φ hΦ h => a1 Φ hΦ (fun x hx => ?_), a2, ⟨M1 ++ M2, by rw [a3, hM1, List.append_assoc]⟩, fun j q k hj hq hk hm hs => ?_⟩
      · rcases exL_src hx with z | ⟨k', z1, z2, z3⟩
        · exact h x z
        · rw [z3]
          obtain ⟨y1, y2⟩ := okW_1.mp z2
          exact hΦ q0.1 k' (h q0.1 (List.mem_map_of_mem (List.mem_of_getElem? hq0))) z1 y1 y2
      · by_cases ej : j = i
        · have hqq : q = q0 := by
            have h5 : (ph1 c f (exL c q0.1 1 i L (stN c)) (i + 1))[i]? = some q0 := by rw [a3, hM1, List.append_assoc]; exact pre_at hq0
            rw [ej, h5] at hq
            cases hq
            rfl
          rw [hqq] at hm ⊢
          have h6 := exL_mem (i := i) (L := L) (okW_1.mpr ⟨hm, hs⟩) hk
          rw [a3]
          exact pre_mem h6
        · exact a4 j q k (by omega) hq hk hm hs
    · have e : ph1 c (f + 1) L i = L := by show (if i < L.length then _ else _) = _; rw [if_neg hi]
      rw [e]
      refine ⟨fun Φ _ h => h, ho, ⟨[], (List.append_nil L).symm⟩, fun j q k hj hq => ?_⟩
      have h2 := (List.getElem?_eq_some_iff.mp hq).1
      have h3 : j < L.length := h2
      omega
theorem xpN_sp {c : Cfg} {U : List (Nat × Nat)} {fr : Nat} (ho : okQ c U) : ∀ k, fr + k ≤ U.length → okQ c (xpN c 2 U fr k) ∧ (∃ M, xpN c 2 U fr k = U ++ M) ∧ (∀ x ∈ (xpN c 2 U fr k).map Prod.fst, x ∈ U.map Prod.fst ∨ ∃ m s, m ∈ U.map Prod.fst ∧ s < stN c ∧ mayN c m (allP c) s = true ∧ shS c s = true ∧ x = aftN c m s) ∧ ∀ j q s, fr ≤ j → j < fr + k → U[j]? = some q → s < stN c → mayN c q.1 (allP c) s = true → shS c s = true → aftN c q.1 s ∈ (xpN c 2 U fr k).map Prod.fst
  | 0, _ => ⟨ho, ⟨[], (List.append_nil U).symm⟩, fun x hx => Or.inl hx, fun j q s h1 h2 => absurd h2 (by omega)⟩
  | k + 1, hk => by
    obtain ⟨a1, ⟨M, a2⟩, a3, a4⟩ := xpN_sp (fr := fr) ho k (by omega)
    have hq0 : U[fr + k]? = some U[fr + k] := List.getElem?_eq_getElem (by omega)
    generalize U[fr + k] = q0 at hq0
    have hq1 : (xpN c 2 U fr k)[fr + k]? = some q0 := by rw [a2]; exact pre_at hq0
    have hq0s := ho.2.1 q0 (List.mem_of_getElem? hq0)
    have e : xpN c 2 U fr (k + 1) = exL c q0.1 2 (fr + k) (xpN c 2 U fr k) (stN c) := xpL_some hq1
    obtain ⟨M1, hM1⟩ := exL_pre c q0.1 2 (fr + k) (xpN c 2 U fr k) (stN c)
    rw [e]
    refine ⟨exL_ok a1 hq0s (List.getElem?_eq_some_iff.mp hq1).1 _ (Nat.le_refl _), ⟨M ++ M1, by rw [hM1, a2, List.append_assoc]⟩, fun x hx => ?_, fun j q s h1 h2 hq hs hm hh => ?_⟩
    · rcases exL_src hx with z | ⟨s, z1, z2, z3⟩
      · exact a3 x z
      · obtain ⟨y1, y2⟩ := okW_2.mp z2
        exact Or.inr ⟨q0.1, s, List.mem_map_of_mem (List.mem_of_getElem? hq0), z1, y1, y2, z3⟩
    · by_cases ej : j = fr + k
      · rw [ej, hq0] at hq
        cases hq
        exact exL_mem (okW_2.mpr ⟨hm, hh⟩) hs
      · have h6 := a4 j q s h1 (by omega) hq hs hm hh
        rw [hM1]
        exact pre_mem h6
def fsI (c : Cfg) (n P : Nat) (L : List (Nat × Nat)) (fr k : Nat) : Prop := okQ c L ∧ (fr < L.length ∧ k ≤ fr) ∧ (∀ x ∈ L.map Prod.fst, ∃ j, j ≤ k ∧ SCt c n j x) ∧ (∀ j m, j < k → SCt c n j m → ∃ i q, i < fr ∧ L[i]? = some q ∧ q.1 = m) ∧ (∀ i q s, i < fr → L[i]? = some q → s < stN c → mayN c q.1 (allP c) s = true → aftN c q.1 s ∈ L.map Prod.fst) ∧ n ∈ L.map Prod.fst ∧ ∀ i q, i < fr → L[i]? = some q → fitP c P q = false
theorem fsF_sp {c : Cfg} {n P : Nat} : ∀ f (L : List (Nat × Nat)) fr k, fsI c n P L fr k → spc c < f + k → SH c n P (fsF c P f L fr k)
  | 0, L, fr, k, h, hf => by
    have := okQ_len h.1
    have := h.2.1
    omega
  | f + 1, L, fr, k, h, hf => by
    obtain ⟨h1, ⟨h2, h2'⟩, h3, h4, h5, h6, h7⟩ := h
    rw [fsF_s rfl]
    obtain ⟨a1, a2, ⟨M, a3⟩, a4⟩ := ph1_sp (spc c - fr) L fr h1 (by omega)
    generalize ph1 c (spc c - fr) L fr = U at a1 a2 a3 a4
    have uS : ∀ x ∈ U.map Prod.fst, ∃ j, j ≤ k ∧ SCt c n j x := a1 (fun x => ∃ j, j ≤ k ∧ SCt c n j x) (fun m s ⟨j, j1, j2⟩ hs hm hh => ⟨j, j1, by have := j2.s hs hm; unfold sh1 at this; rw [hh, if_neg Bool.false_ne_true, Nat.add_zero] at this; exact this⟩) h3
    have uC : ∀ i q s, U[i]? = some q → s < stN c → mayN c q.1 (allP c) s = true → shS c s = false ∨ i < fr → aftN c q.1 s ∈ U.map Prod.fst := fun i q s hq hs hm hh => by
      by_cases hi : i < fr
      · rw [a3, List.getElem?_append_left (by omega)] at hq
        rw [a3]
        exact pre_mem (h5 i q s hi hq hs hm)
      · rcases hh with hh | hh
        · exact a4 i q s (by omega) hq hs hm hh
        · exact absurd hh hi
    have uL : fr ≤ U.length := by rw [a3, List.length_append]; omega
    have uLL : L.length ≤ U.length := by rw [a3, List.length_append]; omega
    have full : ∀ j m, SCt c n j m → j ≤ k → m ∈ U.map Prod.fst := fun j m hS => (hS (fun j m => SCt c n j m ∧ (j ≤ k → m ∈ U.map Prod.fst)) ⟨SCt.z c n, fun _ => by rw [a3]; exact pre_mem h6⟩ (fun j m s ⟨q1, q2⟩ hs hm => ⟨q1.s hs hm, fun hle => by
      cases hh : shS c s with
      | false =>
        unfold sh1 at hle
        rw [hh, if_neg Bool.false_ne_true] at hle
        obtain ⟨q, hq, rfl⟩ := List.mem_map.mp (q2 (by omega))
        obtain ⟨i, hi⟩ := List.mem_iff_getElem?.mp hq
        exact uC i q s hi hs hm (Or.inl hh)
      | true =>
        unfold sh1 at hle
        rw [hh, if_pos rfl] at hle
        obtain ⟨i, q, i1, i2, rfl⟩ := h4 j m (by omega) q1
        exact uC i q s (by rw [a3]; exact pre_at i2) hs hm (Or.inr i1)⟩)).2
    have low : ∀ j m, j < k → SCt c n j m → fitP c P (m, 0) = false := fun j m hj hS => by
      obtain ⟨i, q, i1, i2, rfl⟩ := h4 j m hj hS
      exact h7 i q i1 i2
    cases hany : U.any (fitP c P) with
    | true =>
      rw [if_pos rfl]
      obtain ⟨q, q1, q2⟩ := List.any_eq_true.mp hany
      obtain ⟨j, j1, j2⟩ := uS q.1 (List.mem_map_of_mem q1)
      have hjk : j = k := by
        rcases Nat.lt_or_eq_of_le j1 with z | z
        · have := low j q.1 z j2
          rw [← fitP_1, q2] at this
          cases this
        · exact z
      rw [hjk] at j2
      refine Or.inr ⟨k, rfl, ⟨q.1, j2, q2⟩, fun k' m hS hfit => ?_⟩
      refine Classical.byContradiction fun hlt => ?_
      rw [low k' m (by omega) hS] at hfit
      cases hfit
    | false =>
      rw [if_neg Bool.false_ne_true]
      have nofit : ∀ q ∈ U, fitP c P q = false := fun q hq => by
        have := List.any_eq_false.mp hany q hq
        exact Bool.eq_false_iff.mpr this
      obtain ⟨b1, ⟨M', b2⟩, b3, b4⟩ := xpN_sp (fr := fr) a2 (U.length - fr) (by omega)
      generalize xpN c 2 U fr (U.length - fr) = W at b1 b2 b3 b4
      by_cases hlen : W.length = U.length
      · rw [if_pos hlen]
        have hWU : W = U := by
          have : M' = [] := by
            rw [b2, List.length_append] at hlen
            exact List.length_eq_zero_iff.mp (by omega)
          rw [b2, this, List.append_nil]
        rw [hWU] at b4
        refine Or.inl ⟨rfl, fun j m hS => ?_⟩
        have hm : m ∈ U.map Prod.fst := hS (fun _ m => m ∈ U.map Prod.fst) (by rw [a3]; exact pre_mem h6) (fun j m s hmU hs hma => by
          obtain ⟨q, hq, rfl⟩ := List.mem_map.mp hmU
          obtain ⟨i, hi⟩ := List.mem_iff_getElem?.mp hq
          have hil := (List.getElem?_eq_some_iff.mp hi).1
          cases hh : shS c s with
          | false => exact uC i q s hi hs hma (Or.inl hh)
          | true =>
            by_cases z : i < fr
            · exact uC i q s hi hs hma (Or.inr z)
            · exact b4 i q s (by omega) (by omega) hi hs hma hh)
        obtain ⟨q, hq, rfl⟩ := List.mem_map.mp hm
        exact nofit q hq
      · rw [if_neg hlen]
        have hWl : U.length < W.length := by rw [b2, List.length_append] at hlen ⊢; omega
        refine fsF_sp f W U.length (k + 1) ⟨b1, ⟨hWl, by omega⟩, fun x hx => ?_, fun j m hj hS => ?_, fun i q s hi hq hs hma => ?_, ?_, fun i q hi hq => ?_⟩ (by omega)
        · rcases b3 x hx with z | ⟨m, s, z1, z2, z3, z4, z5⟩
          · obtain ⟨j, j1, j2⟩ := uS x z
            exact ⟨j, by omega, j2⟩
          · obtain ⟨j, j1, j2⟩ := uS m z1
            have := j2.s z2 z3
            unfold sh1 at this
            rw [z4, if_pos rfl] at this
            rw [z5]
            exact ⟨j + 1, by omega, this⟩
        · obtain ⟨q, hq, rfl⟩ := List.mem_map.mp (full j m hS (by omega))
          obtain ⟨i, hi⟩ := List.mem_iff_getElem?.mp hq
          exact ⟨i, q, (List.getElem?_eq_some_iff.mp hi).1, by rw [b2]; exact pre_at hi, rfl⟩
        · rw [b2, List.getElem?_append_left hi] at hq
          cases hh : shS c s with
          | false => rw [b2]; exact pre_mem (uC i q s hq hs hma (Or.inl hh))
          | true =>
            by_cases z : i < fr
            · rw [b2]; exact pre_mem (uC i q s hq hs hma (Or.inr z))
            · exact b4 i q s (by omega) (by omega) hq hs hma hh
        · rw [b2, a3]; exact pre_mem (pre_mem h6)
        · rw [b2, List.getElem?_append_left hi] at hq
          exact nofit q (List.mem_of_getElem? hq)
theorem fsF_SH {c : Cfg} {n P Q : Nat} (hn : n < spc c) (hQ : spc c ≤ Q) : SH c n P (fsF c P (Q + 1) [(n, 0)] 0 0) := by
  refine fsF_sp (Q + 1) _ 0 0 ⟨(t0_ok hn), ⟨Nat.one_pos, Nat.le_refl _⟩, fun x hx => ⟨0, Nat.le_refl _, ?_⟩, fun j m hj => absurd hj (by omega), fun i q s hi => absurd hi (by omega), List.mem_singleton.mpr rfl, fun i q hi => absurd hi (by omega)⟩ (by omega)
  rw [List.mem_singleton.mp hx]
  exact SCt.z c n
