theorem fbF_get {f : Nat → Bool} {k : Nat} : ∀ {m : Nat}, fbF f m = k → k < m ∧ f k = true
  | 0, h => by
    have h : (-1 : Int) = k := h
    omega
  | m + 1, h => by
    have h : (if fbF f m = -1 then (if f m then (m : Int) else -1) else fbF f m) = k := h
    by_cases h1 : fbF f m = -1
    · rw [if_pos h1] at h
      by_cases h2 : f m = true
      · rw [if_pos h2] at h
        have : m = k := by omega
        subst this
        exact ⟨by omega, h2⟩
      · rw [if_neg h2] at h; omega
    · rw [if_neg h1] at h
      have := fbF_get h
      exact ⟨by omega, this.2⟩
section PInv
variable {B : Nat → Int} {n : Nat} {r r' : PR} {t t' : TK} {k : Nat → PO}
theorem pDr_inv (ho : okN r) (ht : okTk n t) (h : pDr r t k = .inl (r', t')) : ∃ d, d < tDn r.1 ∧ k d = .inl (r', t') := by
  by_cases hc : isNm t = true ∧ 0 ≤ nmI r t ∧ nmI r t < 4
  · rw [pDr_1 hc (d := (nmI r t).toNat) (by omega)] at h
    refine ⟨_, ?_, h⟩
    have hg := fbF_get (f := fun k => r.2.2.2 k == t.2.2.2) (k := (nmI r t).toNat) (m := 6) (by show nmI r t = _; omega)
    have he : r.2.2.2 (nmI r t).toNat = t.2.2.2 := beq_iff_eq.mp hg.2
    exact (ho.2.2.1 _ (by omega)).mp (by rw [he]; exact (ht.2.2 (isNm_1 hc.1)).1)
  · rw [pDr_0 hc] at h; cases h
theorem pPe_inv (ho : okN r) (ht : okTk n t) (h : pPe r t k = .inl (r', t')) : ∃ p, p < tPn r.1 ∧ k p = .inl (r', t') := by
  by_cases hc : isNm t = true ∧ 4 ≤ nmI r t
  · rw [pPe_1 hc (d := (nmI r t).toNat - 4) rfl] at h
    refine ⟨_, ?_, h⟩
    have hg := fbF_get (f := fun k => r.2.2.2 k == t.2.2.2) (k := (nmI r t).toNat) (m := 6) (by show nmI r t = _; omega)
    have he : r.2.2.2 (nmI r t).toNat = t.2.2.2 := beq_iff_eq.mp hg.2
    have e4 : 4 + ((nmI r t).toNat - 4) = (nmI r t).toNat := by omega
    exact (ho.2.2.2 _ (by omega)).mp (by rw [e4, he]; exact (ht.2.2 (isNm_1 hc.1)).1)
  · rw [pPe_0 hc] at h; cases h
theorem pNw_inv {q : PO} (h : pNw r t q = .inl (r', t')) : isNm t = true ∧ nmI r t = -1 ∧ q = .inl (r', t') := by
  unfold pNw at h
  by_cases h1 : isNm t = true
  · rw [if_pos h1] at h
    by_cases h2 : nmI r t = -1
    · rw [if_pos h2] at h; exact ⟨h1, h2, h⟩
    · rw [if_neg h2] at h; cases h
  · rw [if_neg h1] at h; cases h
theorem okN_T {T : TL} (ho : okN r) (h : okU T) (hd : tDn T = tDn r.1) (hp : tPn T = tPn r.1) (b c : Bool) : okN (T, b, c, r.2.2.2) := ⟨h, ho.2.1, fun d q => by show _ ↔ d < tDn T; rw [hd]; exact ho.2.2.1 d q, fun p q => by show _ ↔ p < tPn T; rw [hp]; exact ho.2.2.2 p q⟩
theorem okU_lk {T : TL} (h : okU T) {d : Nat} (hd : d < tDn T) : okU (uLk T d) := by
  obtain ⟨a1, a2, a3, a4, a⟩ := h
  exact ⟨a1, a2, a3, Nat.or_lt_two_pow a4 (Nat.pow_lt_pow_right (by decide) hd), a⟩
theorem okU_ky {T : TL} (h : okU T) {d : Nat} (hd : d < tPn T) : okU (uKy T d) := by
  obtain ⟨a1, a2, a3, a4, a5, a⟩ := h
  exact ⟨a1, a2, a3, a4, Nat.or_lt_two_pow a5 (Nat.pow_lt_pow_right (by decide) hd), a⟩
theorem okU_la {T : TL} (h : okU T) {d : Nat} (hd : d < tDn T) : okU (uLa T d) := by
  obtain ⟨a1, a2, a3, a4, a5, a6, a7, a⟩ := h
  exact ⟨a1, a2, a3, a4, a5, fun _ => hd, fun q => absurd (show tDn T = 0 from q) (by omega), a⟩
theorem okU_ld {T : TL} (h : okU T) {d v : Nat} (hd : d < tDn T) (hv : v ≤ tDn T) : okU (uLd T d v) := by
  obtain ⟨a1, a2, a3, a4, a5, a6, a7, a8, a9, a⟩ := h
  refine ⟨a1, a2, a3, a4, a5, a6, a7, fun k => ⟨(a8 k).1, ?_⟩, fun k hk => ⟨(a9 k hk).1, ?_⟩, a⟩
  · show uF (tLd T) d v k ≤ tDn T
    unfold uF
    split
    · exact hv
    · exact (a8 k).2
  · have hk : tDn T ≤ k := hk
    show uF (tLd T) d v k = 0
    unfold uF
    rw [if_neg (by omega)]
    exact (a9 k hk).2
theorem okU_at {T : TL} (h : okU T) {p v : Nat} (hp : p < tPn T) (hv : v ≤ tDn T) : okU (uAt T p v) := by
  obtain ⟨a1, a2, a3, a4, a5, a6, a7, a8, a9, a10, a11, a⟩ := h
  refine ⟨a1, a2, a3, a4, a5, a6, a7, a8, a9, fun k => ?_, fun k hk => ⟨?_, (a11 k hk).2⟩, a⟩
  · show uF (tAt T) p v k ≤ tDn T
    unfold uF
    split
    · exact hv
    · exact a10 k
  · have hk : tPn T ≤ k := hk
    show uF (tAt T) p v k = 0
    unfold uF
    rw [if_neg (by omega)]
    exact (a11 k hk).1
theorem okU_pl {T : TL} (h : okU T) {s p : Nat} {v : Int} (hp : p < tPn T) (hv : 0 ≤ v ∧ v ≤ tDn T) : okU (uPl s T p v) := by
  obtain ⟨a1, a2, a3, a4, a5, a6, a7, a8, a9, a10, a11, a12⟩ := h
  have g1 : ∀ (f : Nat → Int) (k : Nat), (f k = -2 ∨ 0 ≤ f k ∧ f k ≤ tDn T) → (uF f p v k = -2 ∨ 0 ≤ uF f p v k ∧ uF f p v k ≤ tDn T) := fun f k hk => by
    unfold uF
    split
    · exact Or.inr hv
    · exact hk
  have g2 : ∀ (f : Nat → Int) (k : Nat), tPn T ≤ k → f k = -2 → uF f p v k = -2 := fun f k hk hf => by
    unfold uF
    rw [if_neg (by omega)]
    exact hf
  refine ⟨a1, a2, a3, a4, a5, a6, a7, a8, a9, a10, fun k hk => ⟨(a11 k hk).1, ?_, ?_, ?_⟩, fun k => ⟨?_, ?_, ?_⟩⟩
  · show (if s = 0 then uF (tHo T) p v else tHo T) k = -2
    split
    · exact g2 _ k hk (a11 k hk).2.1
    · exact (a11 k hk).2.1
  · show (if s = 1 then uF (tWi T) p v else tWi T) k = -2
    split
    · exact g2 _ k hk (a11 k hk).2.2.1
    · exact (a11 k hk).2.2.1
  · show (if s = 0 ∨ s = 1 then tSi T else uF (tSi T) p v) k = -2
    split
    · exact (a11 k hk).2.2.2
    · exact g2 _ k hk (a11 k hk).2.2.2
  · show (if s = 0 then uF (tHo T) p v else tHo T) k = -2 ∨ 0 ≤ (if s = 0 then uF (tHo T) p v else tHo T) k ∧ (if s = 0 then uF (tHo T) p v else tHo T) k ≤ tDn T
    split
    · exact g1 _ k (a12 k).1
    · exact (a12 k).1
  · show (if s = 1 then uF (tWi T) p v else tWi T) k = -2 ∨ 0 ≤ (if s = 1 then uF (tWi T) p v else tWi T) k ∧ (if s = 1 then uF (tWi T) p v else tWi T) k ≤ tDn T
    split
    · exact g1 _ k (a12 k).2.1
    · exact (a12 k).2.1
  · show (if s = 0 ∨ s = 1 then tSi T else uF (tSi T) p v) k = -2 ∨ 0 ≤ (if s = 0 ∨ s = 1 then tSi T else uF (tSi T) p v) k ∧ (if s = 0 ∨ s = 1 then tSi T else uF (tSi T) p v) k ≤ tDn T
    split
    · exact (a12 k).2.2
    · exact g1 _ k (a12 k).2.2
theorem okU_do {T : TL} (h : okU T) {v : Nat} (hd : tDn T < 4) (hv : v < 4) : okU (uDo T v) := by
  obtain ⟨a1, a2, a3, a4, a5, a6, a7, a8, a9, a10, a11, a12⟩ := h
  refine ⟨a1, hd, a3, ?_, a5, fun _ => ?_, fun q => absurd q (by show ¬ tDn T + 1 = 0; omega), fun k => ⟨?_, ?_⟩, fun k hk => ⟨?_, ?_⟩, fun p => ?_, a11, fun p => ?_⟩
  · show tLk T < 2 ^ (tDn T + 1)
    rw [Nat.pow_succ]; omega
  · show tLa T < tDn T + 1
    rcases Nat.eq_zero_or_pos (tDn T) with q | q
    · have := a7 q; omega
    · have := a6 q; omega
  · show uF (tKd T) (tDn T) v k < 4
    unfold uF
    split
    · exact hv
    · exact (a8 k).1
  · show tLd T k ≤ tDn T + 1
    have := (a8 k).2; omega
  · have hk : tDn T + 1 ≤ k := hk
    show uF (tKd T) (tDn T) v k = 0
    unfold uF
    rw [if_neg (by omega)]
    exact (a9 k (by omega)).1
  · have hk : tDn T + 1 ≤ k := hk
    exact (a9 k (by omega)).2
  · show tAt T p ≤ tDn T + 1
    have := a10 p; omega
  · have := a12 p
    show (tHo T p = -2 ∨ 0 ≤ tHo T p ∧ tHo T p ≤ ((tDn T + 1 : Nat) : Int)) ∧ (tWi T p = -2 ∨ 0 ≤ tWi T p ∧ tWi T p ≤ ((tDn T + 1 : Nat) : Int)) ∧ (tSi T p = -2 ∨ 0 ≤ tSi T p ∧ tSi T p ≤ ((tDn T + 1 : Nat) : Int))
    refine ⟨?_, ?_, ?_⟩
    · have := this.1; omega
    · have := this.2.1; omega
    · have := this.2.2; omega
theorem okU_pn {T : TL} (h : okU T) (hp : tPn T < 2) : okU (uPn T) := by
  obtain ⟨a1, a2, a3, a4, a5, a6, a7, a8, a9, a10, a11, a12⟩ := h
  refine ⟨a1, a2, hp, a4, ?_, a6, a7, a8, a9, a10, fun k hk => a11 k (Nat.le_of_succ_le hk), a12⟩
  show tKy T < 2 ^ (tPn T + 1)
  rw [Nat.pow_succ]; omega
theorem inlE {a b : PR × TK} (h : (Sum.inl a : PO) = .inl b) : a = b := Sum.inl.inj h
/-- a line read well leaves all in order -/
theorem pLine_ok (ho : okN r) (ht : okTk n t) (h : pLine B n r t = .inl (r', t')) : okN r' := by
  have o1 : okTk n (nxT B n t) := lex_ok ht.2.1
  have o2 : okTk n (nxT B n (nxT B n t)) := lex_ok o1.2.1
  unfold pLine at h
  by_cases q0 : wnI 0 t = -1
  · rw [if_pos q0] at h
    cases h
  rw [if_neg q0] at h
  by_cases q1 : r.2.1 = false ∧ wnI 0 t ≠ 0
  · rw [if_pos q1] at h
    cases h
  rw [if_neg q1] at h
  by_cases q2 : wnI 0 t = 0
  · rw [if_pos q2] at h
    unfold pLane at h
    split at h
    · cases h
    split at h
    · cases h
    split at h
    · split at h
      · rename_i hv
        have := inlE h
        cases this
        exact okN_T (T := uDr r.1 (nxT B n (nxT B n t)).2.2.2) ho ⟨hv, ho.1.2⟩ rfl rfl true r.2.2.1
      · cases h
    · cases h
  rw [if_neg q2] at h
  by_cases q3 : wnI 0 t = 1
  · rw [if_pos q3] at h
    unfold pDoor at h
    split at h
    · cases h
    · rename_i hd4
      obtain ⟨g1, g2, g3⟩ := pNw_inv h
      split at g3
      · cases g3
      · rename_i hw
        have := inlE g3
        cases this
        have hb := wn2_bd (nxT B n (nxT B n t))
        have tv := o1.2.2 (isNm_1 g1)
        refine ⟨okU_do ho.1 (by omega) (by omega), fun k hk => ?_, fun d hd => ?_, fun p hp => ?_⟩
        · show uNm r.2.2.2 (tDn r.1) (nxT B n t).2.2.2 k < 32 ^ 8
          unfold uNm
          split
          · exact tv.2
          · exact ho.2.1 k hk
        · show 0 < uNm r.2.2.2 (tDn r.1) (nxT B n t).2.2.2 d ↔ d < tDn r.1 + 1
          unfold uNm
          split
          · rename_i q; constructor
            · intro _; omega
            · intro _; exact tv.1
          · rename_i q
            have := ho.2.2.1 d hd
            rw [this]; omega
        · show 0 < uNm r.2.2.2 (tDn r.1) (nxT B n t).2.2.2 (4 + p) ↔ p < tPn r.1
          unfold uNm
          rw [if_neg (by omega)]
          exact ho.2.2.2 p hp
  rw [if_neg q3] at h
  by_cases q4 : wnI 0 t = 2
  · rw [if_pos q4] at h
    obtain ⟨d, hd, g⟩ := pDr_inv ho o1 h
    split at g
    · cases g
    · have := inlE g
      cases this
      exact okN_T ho (okU_lk ho.1 hd) rfl rfl _ _
  rw [if_neg q4] at h
  by_cases q5 : wnI 0 t = 3
  · rw [if_pos q5] at h
    unfold pLast at h
    split at h
    · cases h
    · obtain ⟨d, hd, g⟩ := pDr_inv ho o1 h
      split at g
      · cases g
      · have := inlE g
        cases this
        exact okN_T ho (okU_la ho.1 hd) rfl rfl _ _
  rw [if_neg q5] at h
  by_cases q6 : wnI 0 t = 4
  · rw [if_pos q6] at h
    obtain ⟨d, hd, g⟩ := pDr_inv ho o1 h
    split at g
    · cases g
    · split at g
      · cases g
      · obtain ⟨m, hm, g⟩ := pDr_inv ho o2 g
        have := inlE g
        cases this
        exact okN_T ho (okU_ld ho.1 hd hm) rfl rfl _ _
  rw [if_neg q6] at h
  by_cases q7 : wnI 0 t = 5
  · rw [if_pos q7] at h
    unfold pPerson at h
    split at h
    · cases h
    · rename_i hd4
      obtain ⟨g1, g2, g3⟩ := pNw_inv h
      have := inlE g3
      cases this
      have tv := o1.2.2 (isNm_1 g1)
      refine ⟨okU_pn ho.1 (by omega), fun k hk => ?_, fun d hd => ?_, fun p hp => ?_⟩
      · show uNm r.2.2.2 (4 + tPn r.1) (nxT B n t).2.2.2 k < 32 ^ 8
        unfold uNm
        split
        · exact tv.2
        · exact ho.2.1 k hk
      · show 0 < uNm r.2.2.2 (4 + tPn r.1) (nxT B n t).2.2.2 d ↔ d < tDn r.1
        unfold uNm
        rw [if_neg (by omega)]
        exact ho.2.2.1 d hd
      · show 0 < uNm r.2.2.2 (4 + tPn r.1) (nxT B n t).2.2.2 (4 + p) ↔ p < tPn r.1 + 1
        unfold uNm
        split
        · rename_i q; constructor
          · intro _; omega
          · intro _; exact tv.1
        · rename_i q
          have := ho.2.2.2 p hp
          rw [this]; omega
  rw [if_neg q7] at h
  by_cases q8 : wnI 0 t = 6
  · rw [if_pos q8] at h
    obtain ⟨p, hp, g⟩ := pPe_inv ho o1 h
    split at g
    · cases g
    · obtain ⟨m, hm, g⟩ := pDr_inv ho o2 g
      have := inlE g
      cases this
      exact okN_T ho (okU_at ho.1 hp hm) rfl rfl _ _
  rw [if_neg q8] at h
  by_cases q9 : wnI 0 t = 7
  · rw [if_pos q9] at h
    obtain ⟨p, hp, g⟩ := pPe_inv ho o1 h
    split at g
    · cases g
    · have := inlE g
      cases this
      exact okN_T ho (okU_ky ho.1 hp) rfl rfl _ _
  rw [if_neg q9] at h
  have hpl : ∀ s, pPlace B n r t s = .inl (r', t') → okN r' := fun s h => by
    obtain ⟨p, hp, g⟩ := pPe_inv ho o1 h
    split at g
    · cases g
    · split at g
      · have := inlE g
        cases this
        exact okN_T ho (okU_pl ho.1 hp ⟨by omega, by omega⟩) rfl rfl _ _
      · obtain ⟨m, hm, g⟩ := pDr_inv ho o2 g
        have := inlE g
        cases this
        exact okN_T ho (okU_pl ho.1 hp ⟨by omega, by omega⟩) rfl rfl _ _
  by_cases q8 : wnI 0 t = 8
  · rw [if_pos q8] at h; exact hpl _ h
  rw [if_neg q8] at h
  by_cases q9 : wnI 0 t = 9
  · rw [if_pos q9] at h; exact hpl _ h
  · rw [if_neg q9] at h; exact hpl _ h
end PInv
