-- searches to their ends: pure rows
def okQ (c : Cfg) (L : List (Nat × Nat)) : Prop := (L.map Prod.fst).Nodup ∧ (∀ q ∈ L, q.1 < spc c) ∧ okPar L
theorem addL_ok {c : Cfg} {L : List (Nat × Nat)} {n f : Nat} (h : okQ c L) (hn : n < spc c) (hf : f < L.length) : okQ c (addL L n f) := by
  by_cases hm : n ∈ L.map Prod.fst
  · rw [addL_in hm]; exact h
  · rw [addL_out hm]
    refine ⟨?_, fun q hq => ?_, fun i q hi => ?_⟩
    · rw [List.map_append]
      exact List.nodup_append.mpr ⟨h.1, by simp, fun a ha b hb => by
        rw [List.map_singleton, List.mem_singleton] at hb
        intro e
        have hb : b = n := hb
        rw [e, hb] at ha
        exact hm ha⟩
    · rcases List.mem_append.mp hq with hq | hq
      · exact h.2.1 q hq
      · rw [List.mem_singleton.mp hq]; exact hn
    · by_cases hl : i < L.length
      · rw [List.getElem?_append_left hl] at hi; exact h.2.2 i q hi
      · have hlt := (List.getElem?_eq_some_iff.mp hi).1
        simp at hlt
        have e : i = L.length := by omega
        subst e
        rw [List.getElem?_append_right (Nat.le_refl _), Nat.sub_self] at hi
        cases hi
        exact ⟨by show f ≤ _; omega, fun _ => hf⟩
theorem exL_ok {c : Cfg} {n w i : Nat} {L : List (Nat × Nat)} (h : okQ c L) (hn : n < spc c) (hi : i < L.length) : ∀ k, k ≤ stN c → okQ c (exL c n w i L k)
  | 0, _ => h
  | k + 1, hk => by
    have ih := exL_ok (w := w) h hn hi k (by omega)
    by_cases ok : okW c n w k = true
    · rw [exL_1 ok]
      obtain ⟨M, hM⟩ := exL_pre c n w i L k
      refine addL_ok ih (aft_lt (th := allP c) hn (by omega) ?_) (by rw [hM, List.length_append]; omega)
      unfold okW at ok
      exact (Bool.and_eq_true _ _ ▸ ok : _ ∧ _).1
    · rw [exL_0 (by simpa using ok)]; exact ih
theorem stpS_ok {c : Cfg} {t : ST} (h : okQ c t.1) : okQ c (stpS c t).1 := by
  cases hq : t.1[t.2.1]? with
  | none =>
    have : stpS c t = t := by unfold stpS; rw [hq]
    rw [this]; exact h
  | some q => rw [stpS_some hq]; exact exL_ok h (h.2.1 q (List.mem_of_getElem? hq)) (List.getElem?_eq_some_iff.mp hq).1 _ (Nat.le_refl _)
theorem itS_ok {c : Cfg} {t : ST} (h : okQ c t.1) : ∀ k, okQ c (itS c t k).1
  | 0 => h
  | k + 1 => stpS_ok (itS_ok h k)
abbrev t0S (n : Nat) : ST := ([(n, 0)], 0, 0)
theorem t0_ok {c : Cfg} {n : Nat} (hn : n < spc c) : okQ c (t0S n).1 := by
  refine ⟨by simp, fun q hq => ?_, fun i q hi => ?_⟩
  · rw [List.mem_singleton.mp hq]; exact hn
  · match i, hi with
    | 0, hi => cases hi; exact ⟨Nat.le_refl _, fun h => absurd h (Nat.lt_irrefl _)⟩
theorem okQ_len {c : Cfg} {L : List (Nat × Nat)} (h : okQ c L) : L.length ≤ spc c := by
  have := nodup_le (spc c) (L.map Prod.fst) h.1 (fun x hx => by obtain ⟨q, hq, rfl⟩ := List.mem_map.mp hx; exact h.2.1 q hq)
  simpa using this
theorem stp_done {c : Cfg} {t : ST} (h : t.1.length ≤ t.2.1) : stpS c t = t := by
  unfold stpS
  rw [List.getElem?_eq_none h]
theorem it_done' {c : Cfg} {t : ST} (h : t.1.length ≤ t.2.1) : ∀ k, itS c t k = t
  | 0 => rfl
  | k + 1 => by
    show stpS c (itS c t k) = t
    rw [it_done' h k, stp_done h]
theorem it_head {c : Cfg} {t : ST} (h0 : t.2.1 = 0) : ∀ k, (itS c t k).2.1 = k ∨ (itS c t k).1.length ≤ (itS c t k).2.1
  | 0 => Or.inl h0
  | k + 1 => by
    rcases Nat.lt_or_ge (itS c t k).2.1 (itS c t k).1.length with hl | hl
    · rcases it_head h0 k (c := c) with ih | ih
      · left
        show (stpS c (itS c t k)).2.1 = k + 1
        rw [stpS_some (List.getElem?_eq_getElem hl)]
        show (itS c t k).2.1 + 1 = k + 1
        omega
      · omega
    · right
      show (stpS c (itS c t k)).1.length ≤ (stpS c (itS c t k)).2.1
      rw [stp_done hl]; exact hl
/-- all that can be come to, in the order of the search -/
def fuS (c : Cfg) (n : Nat) : ST := itS c (t0S n) (spc c)
theorem fu_ok {c : Cfg} {n : Nat} (hn : n < spc c) : okQ c (fuS c n).1 := itS_ok (t0_ok hn) _
theorem fu_done {c : Cfg} {n : Nat} (hn : n < spc c) : (fuS c n).1.length ≤ (fuS c n).2.1 := by
  rcases it_head (c := c) (t := t0S n) rfl (spc c) with h | h
  · have h2 := okQ_len (fu_ok hn)
    show (itS c (t0S n) (spc c)).1.length ≤ (itS c (t0S n) (spc c)).2.1
    rw [h]; exact h2
  · exact h
theorem it_end {c : Cfg} {n k : Nat} (hn : n < spc c) (h : (itS c (t0S n) k).1.length ≤ (itS c (t0S n) k).2.1) : itS c (t0S n) k = fuS c n := by
  rcases Nat.le_total k (spc c) with hk | hk
  · have := itS_add c (t0S n) k (spc c - k)
    rw [show k + (spc c - k) = spc c by omega, it_done' h] at this
    exact this.symm
  · have := itS_add c (t0S n) (spc c) (k - spc c)
    rw [show spc c + (k - spc c) = k by omega, it_done' (show (itS c (t0S n) (spc c)).1.length ≤ _ from fu_done hn)] at this
    exact this
theorem it_pre {c : Cfg} {n : Nat} (hn : n < spc c) (k : Nat) : ∃ M, (fuS c n).1 = (itS c (t0S n) k).1 ++ M := by
  rcases Nat.le_total k (spc c) with hk | hk
  · obtain ⟨M, hM⟩ := itS_pre c (itS c (t0S n) k) (spc c - k)
    rw [← itS_add, show k + (spc c - k) = spc c by omega] at hM
    exact ⟨M, hM⟩
  · have := itS_add c (t0S n) (spc c) (k - spc c)
    rw [show spc c + (k - spc c) = k by omega, it_done' (show (itS c (t0S n) (spc c)).1.length ≤ _ from fu_done hn)] at this
    exact ⟨[], by rw [List.append_nil, this]; rfl⟩
-- depths do not hang on what came later
theorem parL_app {L M : List (Nat × Nat)} {i : Nat} (h : i < L.length) : parL (L ++ M) i = parL L i := by
  unfold parL
  rw [List.getElem?_append_left h]
theorem dpL_app {L M : List (Nat × Nat)} (hp : okPar L) : ∀ (f i : Nat), i < L.length → dpL (L ++ M) f i = dpL L f i
  | 0, _, _ => rfl
  | f + 1, i, h => by
    show (if i = 0 then 0 else dpL (L ++ M) f (parL (L ++ M) i) + 1) = if i = 0 then 0 else dpL L f (parL L i) + 1
    rw [parL_app h, dpL_app hp f _ (Nat.lt_of_le_of_lt (parL_lt hp i) h)]
theorem par_lt {L : List (Nat × Nat)} (hp : okPar L) {i : Nat} (h : i < L.length) (h0 : i ≠ 0) : parL L i < i := by
  have := hp i _ (List.getElem?_eq_getElem h)
  rw [parL_some (List.getElem?_eq_getElem h)]
  exact this.2 (by omega)
theorem dpL_fuel {L : List (Nat × Nat)} (hp : okPar L) : ∀ (f f' i : Nat), i ≤ f → i ≤ f' → i < L.length → dpL L f i = dpL L f' i
  | 0, f', i, h1, h2, h => by
    have : i = 0 := by omega
    subst this
    cases f' <;> rfl
  | f + 1, 0, i, h1, h2, h => by
    have : i = 0 := by omega
    subst this
    rfl
  | f + 1, f' + 1, i, h1, h2, h => by
    show (if i = 0 then 0 else dpL L f (parL L i) + 1) = if i = 0 then 0 else dpL L f' (parL L i) + 1
    by_cases e : i = 0
    · rw [if_pos e, if_pos e]
    · rw [if_neg e, if_neg e]
      have := par_lt hp h e
      rw [dpL_fuel hp f f' (parL L i) (by omega) (by omega) (by omega)]
/-- how many steps lead to an entry -/
def dpE (L : List (Nat × Nat)) (i : Nat) : Nat := dpL L L.length i
theorem dpE_app {L M : List (Nat × Nat)} (hp : okPar L) (hp2 : okPar (L ++ M)) {i : Nat} (h : i < L.length) : dpE (L ++ M) i = dpE L i := by
  unfold dpE
  rw [dpL_fuel hp2 _ L.length i (by rw [List.length_append]; omega) (by omega) (by rw [List.length_append]; omega), dpL_app hp _ _ h]
theorem upL_app {L M : List (Nat × Nat)} (hp : okPar L) {i : Nat} (h : i < L.length) : ∀ k, upL (L ++ M) k i = upL L k i
  | 0 => rfl
  | k + 1 => by
    show parL (L ++ M) (upL (L ++ M) k i) = parL L (upL L k i)
    rw [upL_app hp h k, parL_app (Nat.lt_of_le_of_lt (upL_le hp k i) h)]
-- the first that fits
def ffO (c : Cfg) (P : Nat) : List (Nat × Nat) → Option Nat
  | [] => none
  | q :: L => if fitP c P q then some 0 else (ffO c P L).map (· + 1)
theorem ffO_none {c : Cfg} {P : Nat} : ∀ {L : List (Nat × Nat)}, L.any (fitP c P) = false → ffO c P L = none
  | [], _ => rfl
  | q :: L, h => by
    rw [List.any_cons, Bool.or_eq_false_iff] at h
    show (if fitP c P q then some 0 else (ffO c P L).map (· + 1)) = none
    rw [h.1, ffO_none h.2]
    rfl
theorem ffO_some {c : Cfg} {P : Nat} : ∀ {L : List (Nat × Nat)} {i : Nat} {q : Nat × Nat}, L[i]? = some q → fitP c P q = true → (∀ j q', j < i → L[j]? = some q' → fitP c P q' = false) → ffO c P L = some i
  | [], i, q, h, _, _ => by cases i <;> cases h
  | x :: L, 0, q, h, hf, _ => by
    cases h
    show (if fitP c P x then some 0 else (ffO c P L).map (· + 1)) = some 0
    rw [hf]
    rfl
  | x :: L, i + 1, q, h, hf, hb => by
    have h0 := hb 0 x (by omega) rfl
    show (if fitP c P x then some 0 else (ffO c P L).map (· + 1)) = some (i + 1)
    rw [h0, ffO_some (L := L) (i := i) h hf (fun j q' hj hq => hb (j + 1) q' (by omega) hq)]
    rfl
theorem ffO_get {c : Cfg} {P : Nat} : ∀ {L : List (Nat × Nat)} {i : Nat}, ffO c P L = some i → ∃ q, L[i]? = some q ∧ fitP c P q = true ∧ ∀ j q', j < i → L[j]? = some q' → fitP c P q' = false
  | [], i, h => by cases h
  | x :: L, i, h => by
    have h : (if fitP c P x then some 0 else (ffO c P L).map (· + 1)) = some i := h
    by_cases hf : fitP c P x = true
    · rw [if_pos hf] at h
      cases h
      exact ⟨x, rfl, hf, fun j q' hj => absurd hj (by omega)⟩
    · rw [if_neg hf] at h
      cases hL : ffO c P L with
      | none => rw [hL] at h; cases h
      | some k =>
        rw [hL] at h
        cases h
        obtain ⟨q, h1, h2, h3⟩ := ffO_get hL
        refine ⟨q, h1, h2, fun j q' hj hq => ?_⟩
        cases j with
        | zero => cases hq; simpa using hf
        | succ j => exact h3 j q' (by have hj : j + 1 < k + 1 := hj; omega) hq
/-- of an errand: the fewest steps, or -2 -/
def erF (c : Cfg) (n P : Nat) : Int := match ffO c P (fuS c n).1 with
  | some i => dpE (fuS c n).1 i
  | none => -2
theorem ff_fu {c : Cfg} {n P k : Nat} {r : Int} (hn : n < spc c) (h : FFr c (itS c (t0S n) k) P r) : (r = -1 ∧ ffO c P (fuS c n).1 = none) ∨ ∃ i : Nat, r = i ∧ ffO c P (fuS c n).1 = some i ∧ i < (itS c (t0S n) k).1.length := by
  rcases h with ⟨h1, h2, h3⟩ | ⟨i, q, h1, h2, h3, h4⟩
  · rw [it_end hn h2] at h3
    exact Or.inl ⟨h1, ffO_none h3⟩
  · obtain ⟨M, hM⟩ := it_pre hn k
    have hl := (List.getElem?_eq_some_iff.mp h2).1
    refine Or.inr ⟨i, h1, ?_, hl⟩
    rw [hM]
    refine ffO_some (q := q) (by rw [List.getElem?_append_left hl]; exact h2) h3 (fun j q' hj hq => h4 j q' hj ?_)
    rw [List.getElem?_append_left (by omega)] at hq
    exact hq
-- the first of some numbers
def fbF (f : Nat → Bool) : Nat → Int
  | 0 => -1
  | n + 1 => if fbF f n = -1 then (if f n then (n : Int) else -1) else fbF f n
theorem fbF_none {f : Nat → Bool} : ∀ {n : Nat}, (∀ k, k < n → f k = false) → fbF f n = -1
  | 0, _ => rfl
  | n + 1, h => by
    show (if fbF f n = -1 then (if f n then (n : Int) else -1) else fbF f n) = -1
    rw [fbF_none (fun k hk => h k (by omega)), if_pos rfl, h n (by omega)]
    rfl
theorem fbF_some {f : Nat → Bool} {k : Nat} (h1 : f k = true) (h2 : ∀ j, j < k → f j = false) : ∀ {n : Nat}, k < n → fbF f n = k
  | 0, h => absurd h (by omega)
  | n + 1, h => by
    show (if fbF f n = -1 then (if f n then (n : Int) else -1) else fbF f n) = k
    by_cases e : k = n
    · subst e
      rw [fbF_none h2, if_pos rfl, if_pos h1]
    · rw [fbF_some h1 h2 (n := n) (by omega), if_neg (by omega)]
theorem FBr.eq {f : Nat → Bool} {n : Nat} {r : Int} (h : FBr f n r) : r = fbF f n := by
  rcases h with ⟨k, h1, h2, h3, h4⟩ | ⟨h1, h2⟩
  · rw [fbF_some h3 h4 h2]; exact h1
  · rw [fbF_none h2]; exact h1
