-- what a search has met: pure rows
theorem addL_mem (L : List (Nat × Nat)) (n f : Nat) : n ∈ (addL L n f).map Prod.fst := by
  unfold addL
  split
  · assumption
  · simp
theorem addL_sub {L : List (Nat × Nat)} {x : Nat} (n f : Nat) (h : x ∈ L.map Prod.fst) : x ∈ (addL L n f).map Prod.fst := by
  obtain ⟨M, hM⟩ := addL_pre L n f
  rw [hM, List.map_append]
  exact List.mem_append_left _ h
theorem okW_0 (c : Cfg) (n k : Nat) : okW c n 0 k = mayN c n (allP c) k := by
  unfold okW
  simp
theorem exL_sub {c : Cfg} {n w i x : Nat} {L : List (Nat × Nat)} (k : Nat) (h : x ∈ L.map Prod.fst) : x ∈ (exL c n w i L k).map Prod.fst := by
  obtain ⟨M, hM⟩ := exL_pre c n w i L k
  rw [hM, List.map_append]
  exact List.mem_append_left _ h
theorem exL_mem {c : Cfg} {n w i k' : Nat} {L : List (Nat × Nat)} (ok : okW c n w k' = true) : ∀ {k : Nat}, k' < k → aftN c n k' ∈ (exL c n w i L k).map Prod.fst
  | 0, h => absurd h (by omega)
  | k + 1, h => by
    by_cases e : k' = k
    · subst e
      rw [exL_1 ok]
      exact addL_mem _ _ _
    · have h1 := exL_mem ok (k := k) (i := i) (L := L) (by omega)
      by_cases hk : okW c n w k = true
      · rw [exL_1 hk]; exact addL_sub _ _ h1
      · rw [exL_0 (by simpa using hk)]; exact h1
/-- all before the head are gone on from -/
def clH (c : Cfg) (t : ST) : Prop := ∀ i q, i < t.2.1 → t.1[i]? = some q → ∀ k, k < stN c → mayN c q.1 (allP c) k = true → aftN c q.1 k ∈ t.1.map Prod.fst
theorem clH_stp {c : Cfg} {t : ST} (h : clH c t) : clH c (stpS c t) := by
  cases hq : t.1[t.2.1]? with
  | none =>
    have : stpS c t = t := by unfold stpS; rw [hq]
    rw [this]
    exact h
  | some q0 =>
    rw [stpS_some hq]
    intro i q hi hiq k hk hm
    have hi : i < t.2.1 + 1 := hi
    have hlt : t.2.1 < t.1.length := (List.getElem?_eq_some_iff.mp hq).1
    have hiq : (exL c q0.1 0 t.2.1 t.1 (stN c))[i]? = some q := hiq
    show aftN c q.1 k ∈ (exL c q0.1 0 t.2.1 t.1 (stN c)).map Prod.fst
    obtain ⟨M, hM⟩ := exL_pre c q0.1 0 t.2.1 t.1 (stN c)
    rw [hM, List.getElem?_append_left (by omega)] at hiq
    by_cases e : i = t.2.1
    · subst e
      rw [hq] at hiq
      cases hiq
      exact exL_mem (by rw [okW_0]; exact hm) hk
    · exact exL_sub _ (h i q (by omega) hiq k hk hm)
theorem clH_it {c : Cfg} {t : ST} (h : clH c t) : ∀ k, clH c (itS c t k)
  | 0 => h
  | k + 1 => clH_stp (clH_it h k)
theorem clH_lv {c : Cfg} {t : ST} (h : clH c t) : ∀ k, clH c (lvS c t k)
  | 0 => h
  | k + 1 => clH_it (clH_lv h k) _
theorem lv_head {c : Cfg} {t : ST} (h : t.2.1 ≤ t.1.length) (n : Nat) : (lvS c t (n + 1)).2.1 = (lvS c t n).1.length := by
  have h1 := lvS_head c t h n
  have h2 := itS_head c (lvS c t n) ((lvS c t n).1.length - (lvS c t n).2.1) (by omega)
  show (itS c (lvS c t n) _).2.1 = _
  omega
theorem lv_pre (c : Cfg) (t : ST) (j : Nat) : ∀ k, ∃ M, (lvS c t (j + k)).1 = (lvS c t j).1 ++ M
  | 0 => ⟨[], by simp⟩
  | k + 1 => by
    obtain ⟨M, hM⟩ := lv_pre c t j k
    obtain ⟨M2, h2⟩ := itS_pre c (lvS c t (j + k)) ((lvS c t (j + k)).1.length - (lvS c t (j + k)).2.1)
    exact ⟨M ++ M2, (show (lvS c t (j + (k + 1))).1 = _ from h2).trans (by rw [hM, List.append_assoc])⟩
/-- what is met by n steps goes on into what is met by one more -/
theorem lv_suc {c : Cfg} {t : ST} (hh : t.2.1 ≤ t.1.length) (hc : clH c t) {n N i k : Nat} {q : Nat × Nat} (hn : n + 1 ≤ N) (hi : i < (lvS c t n).1.length) (hq : (lvS c t N).1[i]? = some q) (hk : k < stN c) (hm : mayN c q.1 (allP c) k = true) : ∃ (j : Nat) (q' : Nat × Nat), j < (lvS c t (n + 1)).1.length ∧ (lvS c t N).1[j]? = some q' ∧ q'.1 = aftN c q.1 k := by
  obtain ⟨M, hM⟩ := lv_pre c t (n + 1) (N - (n + 1))
  rw [show n + 1 + (N - (n + 1)) = N by omega] at hM
  have hl := lv_head hh n (c := c)
  have hl2 := lvS_head c t hh (n + 1)
  rw [hM, List.getElem?_append_left (by omega)] at hq
  have h1 := clH_lv hc (n + 1) i q (by omega) hq k hk hm
  obtain ⟨q', hq', he⟩ := List.mem_map.mp h1
  obtain ⟨j, hj⟩ := List.mem_iff_getElem?.mp hq'
  have hjl := (List.getElem?_eq_some_iff.mp hj).1
  exact ⟨j, q', hjl, by rw [hM, List.getElem?_append_left hjl]; exact hj, he⟩
-- ranks
theorem rk_s (L : List (Nat × Nat)) (x : Nat) : rkL L (x + 1) = rkL L x + if inL L x then 1 else 0 := rfl
theorem rk_mono (L : List (Nat × Nat)) (a : Nat) : ∀ d, rkL L a ≤ rkL L (a + d)
  | 0 => Nat.le_refl _
  | d + 1 => by
    have := rk_mono L a d
    rw [← Nat.add_assoc, rk_s]
    omega
theorem rk_step {L : List (Nat × Nat)} {a : Nat} (h : a ∈ L.map Prod.fst) : rkL L (a + 1) = rkL L a + 1 := by
  rw [rk_s]
  unfold inL
  simp [h]
theorem rk_lt {L : List (Nat × Nat)} {a b : Nat} (h : a ∈ L.map Prod.fst) (hab : a < b) : rkL L a < rkL L b := by
  have h1 := rk_step h
  have h2 := rk_mono L (a + 1) (b - (a + 1))
  rw [show a + 1 + (b - (a + 1)) = b by omega] at h2
  omega
theorem rk_inj {L : List (Nat × Nat)} {a b : Nat} (ha : a ∈ L.map Prod.fst) (hb : b ∈ L.map Prod.fst) (h : rkL L a = rkL L b) : a = b := by
  rcases Nat.lt_trichotomy a b with hl | hl | hl
  · have := rk_lt ha hl; omega
  · exact hl
  · have := rk_lt hb hl; omega
theorem rk_le_len : ∀ (L : List (Nat × Nat)) (x : Nat), rkL L x ≤ L.length
  | [], x => by
    induction x with
    | zero => exact Nat.le_refl _
    | succ x ih => rw [rk_s]; simp [inL] at ih ⊢; exact ih
  | q :: L, x => by
    have h1 : ∀ x, rkL (q :: L) x ≤ rkL L x + if q.1 < x then 1 else 0 := by
      intro x
      induction x with
      | zero => exact Nat.zero_le _
      | succ x ih =>
        rw [rk_s, rk_s]
        by_cases hx : x = q.1
        · have : ¬ q.1 < x := by omega
          rw [if_neg this] at ih
          rw [if_pos (show q.1 < x + 1 by omega)]
          split <;> split <;> omega
        · have e : inL (q :: L) x = inL L x := by unfold inL; simp [hx]
          rw [e]
          by_cases hq : q.1 < x
          · rw [if_pos hq] at ih; rw [if_pos (show q.1 < x + 1 by omega)]; omega
          · rw [if_neg hq] at ih; rw [if_neg (show ¬ q.1 < x + 1 by omega)]; omega
    have h2 := rk_le_len L x
    have h3 := h1 x
    simp only [List.length_cons]
    split at h3 <;> omega
theorem rk_lt_len {L : List (Nat × Nat)} {a : Nat} (h : a ∈ L.map Prod.fst) : rkL L a < L.length := by
  have h1 := rk_step h
  have h2 := rk_le_len L (a + 1)
  omega
