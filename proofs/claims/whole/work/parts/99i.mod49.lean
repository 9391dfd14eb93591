theorem dM_readLine_0 : decode mM_readLine.2.1 0 = .ok (.aload_n 0, 1) := by decide +kernel
theorem dM_readLine_1 : decode mM_readLine.2.1 1 = .ok (.ldc 117, 2) := by decide +kernel
theorem dM_readLine_3 : decode mM_readLine.2.1 3 = .ok (.invokevirtual 119, 3) := by decide +kernel
theorem dM_readLine_6 : decode mM_readLine.2.1 6 = .ok (.ifCond .eq 10, 3) := by decide +kernel
theorem dM_readLine_9 : decode mM_readLine.2.1 9 = .ok (.aload_n 0, 1) := by decide +kernel
theorem dM_readLine_10 : decode mM_readLine.2.1 10 = .ok (.invokevirtual 186, 3) := by decide +kernel
theorem dM_readLine_13 : decode mM_readLine.2.1 13 = .ok (.goto 171, 3) := by decide +kernel
theorem dM_readLine_16 : decode mM_readLine.2.1 16 = .ok (.aload_n 0, 1) := by decide +kernel
theorem dM_readLine_17 : decode mM_readLine.2.1 17 = .ok (.ldc 123, 2) := by decide +kernel
theorem dM_readLine_19 : decode mM_readLine.2.1 19 = .ok (.invokevirtual 119, 3) := by decide +kernel
theorem dM_readLine_22 : decode mM_readLine.2.1 22 = .ok (.ifCond .eq 10, 3) := by decide +kernel
theorem dM_readLine_25 : decode mM_readLine.2.1 25 = .ok (.aload_n 0, 1) := by decide +kernel
theorem dM_readLine_26 : decode mM_readLine.2.1 26 = .ok (.invokevirtual 189, 3) := by decide +kernel
theorem dM_readLine_29 : decode mM_readLine.2.1 29 = .ok (.goto 155, 3) := by decide +kernel
theorem dM_readLine_32 : decode mM_readLine.2.1 32 = .ok (.aload_n 0, 1) := by decide +kernel
theorem dM_readLine_33 : decode mM_readLine.2.1 33 = .ok (.ldc 125, 2) := by decide +kernel
theorem dM_readLine_35 : decode mM_readLine.2.1 35 = .ok (.invokevirtual 119, 3) := by decide +kernel
theorem dM_readLine_38 : decode mM_readLine.2.1 38 = .ok (.ifCond .eq 10, 3) := by decide +kernel
theorem dM_readLine_41 : decode mM_readLine.2.1 41 = .ok (.aload_n 0, 1) := by decide +kernel
theorem dM_readLine_42 : decode mM_readLine.2.1 42 = .ok (.invokevirtual 192, 3) := by decide +kernel
theorem dM_readLine_45 : decode mM_readLine.2.1 45 = .ok (.goto 139, 3) := by decide +kernel
theorem dM_readLine_48 : decode mM_readLine.2.1 48 = .ok (.aload_n 0, 1) := by decide +kernel
theorem dM_readLine_49 : decode mM_readLine.2.1 49 = .ok (.ldc 127, 2) := by decide +kernel
theorem dM_readLine_51 : decode mM_readLine.2.1 51 = .ok (.invokevirtual 119, 3) := by decide +kernel
theorem dM_readLine_54 : decode mM_readLine.2.1 54 = .ok (.ifCond .eq 10, 3) := by decide +kernel
theorem dM_readLine_57 : decode mM_readLine.2.1 57 = .ok (.aload_n 0, 1) := by decide +kernel
theorem dM_readLine_58 : decode mM_readLine.2.1 58 = .ok (.invokevirtual 195, 3) := by decide +kernel
theorem dM_readLine_61 : decode mM_readLine.2.1 61 = .ok (.goto 123, 3) := by decide +kernel
theorem dM_readLine_64 : decode mM_readLine.2.1 64 = .ok (.aload_n 0, 1) := by decide +kernel
theorem dM_readLine_65 : decode mM_readLine.2.1 65 = .ok (.ldc 129, 2) := by decide +kernel
theorem dM_readLine_67 : decode mM_readLine.2.1 67 = .ok (.invokevirtual 119, 3) := by decide +kernel
theorem dM_readLine_70 : decode mM_readLine.2.1 70 = .ok (.ifCond .eq 10, 3) := by decide +kernel
theorem dM_readLine_73 : decode mM_readLine.2.1 73 = .ok (.aload_n 0, 1) := by decide +kernel
theorem dM_readLine_74 : decode mM_readLine.2.1 74 = .ok (.invokevirtual 198, 3) := by decide +kernel
theorem dM_readLine_77 : decode mM_readLine.2.1 77 = .ok (.goto 107, 3) := by decide +kernel
theorem dM_readLine_80 : decode mM_readLine.2.1 80 = .ok (.aload_n 0, 1) := by decide +kernel
theorem dM_readLine_81 : decode mM_readLine.2.1 81 = .ok (.ldc 131, 2) := by decide +kernel
theorem dM_readLine_83 : decode mM_readLine.2.1 83 = .ok (.invokevirtual 119, 3) := by decide +kernel
theorem dM_readLine_86 : decode mM_readLine.2.1 86 = .ok (.ifCond .eq 10, 3) := by decide +kernel
theorem dM_readLine_89 : decode mM_readLine.2.1 89 = .ok (.aload_n 0, 1) := by decide +kernel
theorem dM_readLine_90 : decode mM_readLine.2.1 90 = .ok (.invokevirtual 201, 3) := by decide +kernel
theorem dM_readLine_93 : decode mM_readLine.2.1 93 = .ok (.goto 91, 3) := by decide +kernel
theorem dM_readLine_96 : decode mM_readLine.2.1 96 = .ok (.aload_n 0, 1) := by decide +kernel
theorem dM_readLine_97 : decode mM_readLine.2.1 97 = .ok (.ldc 133, 2) := by decide +kernel
theorem dM_readLine_99 : decode mM_readLine.2.1 99 = .ok (.invokevirtual 119, 3) := by decide +kernel
theorem dM_readLine_102 : decode mM_readLine.2.1 102 = .ok (.ifCond .eq 10, 3) := by decide +kernel
theorem dM_readLine_105 : decode mM_readLine.2.1 105 = .ok (.aload_n 0, 1) := by decide +kernel
theorem dM_readLine_106 : decode mM_readLine.2.1 106 = .ok (.invokevirtual 204, 3) := by decide +kernel
theorem dM_readLine_109 : decode mM_readLine.2.1 109 = .ok (.goto 75, 3) := by decide +kernel
theorem dM_readLine_112 : decode mM_readLine.2.1 112 = .ok (.aload_n 0, 1) := by decide +kernel
theorem dM_readLine_113 : decode mM_readLine.2.1 113 = .ok (.ldc 135, 2) := by decide +kernel
theorem dM_readLine_115 : decode mM_readLine.2.1 115 = .ok (.invokevirtual 119, 3) := by decide +kernel
theorem dM_readLine_118 : decode mM_readLine.2.1 118 = .ok (.ifCond .eq 10, 3) := by decide +kernel
theorem dM_readLine_121 : decode mM_readLine.2.1 121 = .ok (.aload_n 0, 1) := by decide +kernel
theorem dM_readLine_122 : decode mM_readLine.2.1 122 = .ok (.invokevirtual 207, 3) := by decide +kernel
theorem dM_readLine_125 : decode mM_readLine.2.1 125 = .ok (.goto 59, 3) := by decide +kernel
theorem dM_readLine_128 : decode mM_readLine.2.1 128 = .ok (.aload_n 0, 1) := by decide +kernel
theorem dM_readLine_129 : decode mM_readLine.2.1 129 = .ok (.ldc 137, 2) := by decide +kernel
theorem dM_readLine_131 : decode mM_readLine.2.1 131 = .ok (.invokevirtual 119, 3) := by decide +kernel
theorem dM_readLine_134 : decode mM_readLine.2.1 134 = .ok (.ifCond .eq 11, 3) := by decide +kernel
theorem dM_readLine_137 : decode mM_readLine.2.1 137 = .ok (.aload_n 0, 1) := by decide +kernel
theorem dM_readLine_138 : decode mM_readLine.2.1 138 = .ok (.iconst 0, 1) := by decide +kernel
theorem dM_readLine_139 : decode mM_readLine.2.1 139 = .ok (.invokevirtual 210, 3) := by decide +kernel
theorem dM_readLine_142 : decode mM_readLine.2.1 142 = .ok (.goto 42, 3) := by decide +kernel
theorem dM_readLine_145 : decode mM_readLine.2.1 145 = .ok (.aload_n 0, 1) := by decide +kernel
theorem dM_readLine_146 : decode mM_readLine.2.1 146 = .ok (.ldc 139, 2) := by decide +kernel
theorem dM_readLine_148 : decode mM_readLine.2.1 148 = .ok (.invokevirtual 119, 3) := by decide +kernel
theorem dM_readLine_151 : decode mM_readLine.2.1 151 = .ok (.ifCond .eq 11, 3) := by decide +kernel
theorem dM_readLine_154 : decode mM_readLine.2.1 154 = .ok (.aload_n 0, 1) := by decide +kernel
theorem dM_readLine_155 : decode mM_readLine.2.1 155 = .ok (.iconst 1, 1) := by decide +kernel
theorem dM_readLine_156 : decode mM_readLine.2.1 156 = .ok (.invokevirtual 210, 3) := by decide +kernel
theorem dM_readLine_159 : decode mM_readLine.2.1 159 = .ok (.goto 25, 3) := by decide +kernel
theorem dM_readLine_162 : decode mM_readLine.2.1 162 = .ok (.aload_n 0, 1) := by decide +kernel
theorem dM_readLine_163 : decode mM_readLine.2.1 163 = .ok (.ldc 141, 2) := by decide +kernel
theorem dM_readLine_165 : decode mM_readLine.2.1 165 = .ok (.invokevirtual 119, 3) := by decide +kernel
theorem dM_readLine_168 : decode mM_readLine.2.1 168 = .ok (.ifCond .eq 11, 3) := by decide +kernel
theorem dM_readLine_171 : decode mM_readLine.2.1 171 = .ok (.aload_n 0, 1) := by decide +kernel
theorem dM_readLine_172 : decode mM_readLine.2.1 172 = .ok (.iconst 2, 1) := by decide +kernel
theorem dM_readLine_173 : decode mM_readLine.2.1 173 = .ok (.invokevirtual 210, 3) := by decide +kernel
theorem dM_readLine_176 : decode mM_readLine.2.1 176 = .ok (.goto 8, 3) := by decide +kernel
theorem dM_readLine_179 : decode mM_readLine.2.1 179 = .ok (.aload_n 0, 1) := by decide +kernel
theorem dM_readLine_180 : decode mM_readLine.2.1 180 = .ok (.iconst 1, 1) := by decide +kernel
theorem dM_readLine_181 : decode mM_readLine.2.1 181 = .ok (.invokevirtual 143, 3) := by decide +kernel
theorem dM_readLine_184 : decode mM_readLine.2.1 184 = .ok (.return_, 1) := by decide +kernel
theorem dM_readAll_0 : decode mM_readAll.2.1 0 = .ok (.iconst 1, 1) := by decide +kernel
theorem dM_readAll_1 : decode mM_readAll.2.1 1 = .ok (.istore_n 1, 1) := by decide +kernel
theorem dM_readAll_2 : decode mM_readAll.2.1 2 = .ok (.iload_n 1, 1) := by decide +kernel
theorem dM_readAll_3 : decode mM_readAll.2.1 3 = .ok (.ifCond .eq 15, 3) := by decide +kernel
theorem dM_readAll_6 : decode mM_readAll.2.1 6 = .ok (.aload_n 0, 1) := by decide +kernel
theorem dM_readAll_7 : decode mM_readAll.2.1 7 = .ok (.invokevirtual 177, 3) := by decide +kernel
theorem dM_readAll_10 : decode mM_readAll.2.1 10 = .ok (.aload_n 0, 1) := by decide +kernel
theorem dM_readAll_11 : decode mM_readAll.2.1 11 = .ok (.invokevirtual 180, 3) := by decide +kernel
theorem dM_readAll_14 : decode mM_readAll.2.1 14 = .ok (.istore_n 1, 1) := by decide +kernel
theorem dM_readAll_15 : decode mM_readAll.2.1 15 = .ok (.goto (-13), 3) := by decide +kernel
theorem dM_readAll_18 : decode mM_readAll.2.1 18 = .ok (.aload_n 0, 1) := by decide +kernel
theorem dM_readAll_19 : decode mM_readAll.2.1 19 = .ok (.getfield 78, 3) := by decide +kernel
theorem dM_readAll_22 : decode mM_readAll.2.1 22 = .ok (.iconst 1, 1) := by decide +kernel
theorem dM_readAll_23 : decode mM_readAll.2.1 23 = .ok (.if_icmp .eq 8, 3) := by decide +kernel
theorem dM_readAll_26 : decode mM_readAll.2.1 26 = .ok (.aload_n 0, 1) := by decide +kernel
theorem dM_readAll_27 : decode mM_readAll.2.1 27 = .ok (.iconst 1, 1) := by decide +kernel
theorem dM_readAll_28 : decode mM_readAll.2.1 28 = .ok (.invokevirtual 143, 3) := by decide +kernel
theorem dM_readAll_31 : decode mM_readAll.2.1 31 = .ok (.aload_n 0, 1) := by decide +kernel
theorem dM_readAll_32 : decode mM_readAll.2.1 32 = .ok (.getfield 147, 3) := by decide +kernel
theorem dM_readAll_35 : decode mM_readAll.2.1 35 = .ok (.getfield 183, 3) := by decide +kernel
theorem dM_readAll_38 : decode mM_readAll.2.1 38 = .ok (.ifCond .ne 9, 3) := by decide +kernel
theorem dM_readAll_41 : decode mM_readAll.2.1 41 = .ok (.aload_n 0, 1) := by decide +kernel
theorem dM_readAll_42 : decode mM_readAll.2.1 42 = .ok (.bipush 6, 2) := by decide +kernel
theorem dM_readAll_44 : decode mM_readAll.2.1 44 = .ok (.invokevirtual 143, 3) := by decide +kernel
theorem dM_readAll_47 : decode mM_readAll.2.1 47 = .ok (.return_, 1) := by decide +kernel
section PRd
variable {B : Nat → Int} {n : Nat} {r r' : PR} {t t' : TK}
theorem lex_3 {p : Nat} (h : (lexT B n p).1 = 3) : (lexT B n p).2.2.1 = (lexT B n p).2.1 + 1 := by
  unfold lexT lexS at h ⊢
  split at h
  · exact absurd h (by show ¬ 0 = 3; decide)
  · rename_i q1
    rw [if_neg q1]
    split at h
    · have h : (if rnT isLb B n (p + rnT isSb B n p) ≤ 8 then 1 else 4) = 3 := h
      split at h <;> omega
    · rename_i q2
      rw [if_neg q2]
      split at h
      · have h : (if rnT isDb B n (p + rnT isSb B n p) ≤ 3 then 2 else 4) = 3 := h
        split at h <;> omega
      · rename_i q3
        rw [if_neg q3]
        try rfl
theorem nm_all (h : nmI r t = -1) : ∀ k, k < 6 → r.2.2.2 k ≠ t.2.2.2 := by
  intro k hk q
  rcases fbF_sp (fun k => r.2.2.2 k == t.2.2.2) 6 with ⟨a, b⟩ | ⟨k', a, b⟩
  · exact absurd q (beq_eq_false_iff_ne.mp (b k hk))
  · have h : fbF (fun k => r.2.2.2 k == t.2.2.2) 6 = -1 := h
    omega
theorem okRd.nm (h : okRd r) {a w : Nat} (hw : ∀ k, k < 6 → r.2.2.2 k ≠ w) : ∀ i j, i < 6 → j < 6 → uNm r.2.2.2 a w i = uNm r.2.2.2 a w j → 0 < uNm r.2.2.2 a w i → i = j := by
  intro i j hi hj h1 h2
  unfold uNm at h1 h2
  by_cases p : i = a
  · by_cases q : j = a
    · omega
    · rw [if_pos p, if_neg q] at h1; exact absurd h1.symm (hw j hj)
  · by_cases q : j = a
    · rw [if_neg p, if_pos q] at h1; exact absurd h1 (hw i hi)
    · rw [if_neg p, if_neg q] at h1; rw [if_neg p] at h2; exact h.2.2 i j hi hj h1 h2
theorem okRd.T (h : okRd r) (hb : ¬ r.2.1 = false) (T : TL) (c : Bool) (hc : c = false → tLa T = 0) : okRd (T, r.2.1, c, r.2.2.2) := ⟨fun q => absurd q hb, hc, h.2.2⟩
/-- a line read well: names apart, and the next token behind -/
theorem pLine_rd (ho : okN r) (hr : okRd r) (ht : okTk n t) (h : pLine B n r t = .inl (r', t')) : okRd r' ∧ ∃ p, t.2.1 ≤ p ∧ p ≤ n ∧ t' = lexT B n p := by
  have o1 : okTk n (nxT B n t) := lex_ok ht.2.1
  have o2 : okTk n (nxT B n (nxT B n t)) := lex_ok o1.2.1
  have l1 : t.2.2.1 ≤ (nxT B n t).2.1 := (lex_le (B := B) ht.2.1).2.2
  have l2 : (nxT B n t).2.2.1 ≤ (nxT B n (nxT B n t)).2.1 := (lex_le (B := B) o1.2.1).2.2
  have l0 := ht.1
  have l3 := o1.1
  have l4 := o2.1
  have n2 : ∃ p, t.2.1 ≤ p ∧ p ≤ n ∧ nxT B n (nxT B n t) = lexT B n p := ⟨(nxT B n t).2.2.1, by omega, o1.2.1, rfl⟩
  have n3 : ∃ p, t.2.1 ≤ p ∧ p ≤ n ∧ nxT B n (nxT B n (nxT B n t)) = lexT B n p := ⟨(nxT B n (nxT B n t)).2.2.1, by omega, o2.2.1, rfl⟩
  unfold pLine at h
  by_cases q0 : wnI 0 t = -1
  · rw [if_pos q0] at h
    cases h
  rw [if_neg q0] at h
  by_cases q1 : r.2.1 = false ∧ wnI 0 t ≠ 0
  · rw [if_pos q1] at h
    cases h
  rw [if_neg q1] at h
  by_cases q2 : wnI 0 t = 0
  · rw [if_pos q2] at h
    unfold pLane at h
    split at h
    · cases h
    split at h
    · cases h
    split at h
    · split at h
      · have := inlE h
        cases this
        exact ⟨⟨fun q => (by cases q), hr.2.1, hr.2.2⟩, n3⟩
      · cases h
    · cases h
  have hb : ¬ r.2.1 = false := fun z => q1 ⟨z, q2⟩
  rw [if_neg q2] at h
  by_cases q3 : wnI 0 t = 1
  · rw [if_pos q3] at h
    unfold pDoor at h
    split at h
    · cases h
    · obtain ⟨g1, g2, g3⟩ := pNw_inv h
      split at g3
      · cases g3
      · have := inlE g3
        cases this
        exact ⟨⟨fun q => absurd q hb, hr.2.1, hr.nm (nm_all g2)⟩, n3⟩
  rw [if_neg q3] at h
  by_cases q4 : wnI 0 t = 2
  · rw [if_pos q4] at h
    obtain ⟨d, hd, g⟩ := pDr_inv ho o1 h
    split at g
    · cases g
    · have := inlE g
      cases this
      exact ⟨hr.T hb _ _ hr.2.1, n2⟩
  rw [if_neg q4] at h
  by_cases q5 : wnI 0 t = 3
  · rw [if_pos q5] at h
    unfold pLast at h
    split at h
    · cases h
    · obtain ⟨d, hd, g⟩ := pDr_inv ho o1 h
      split at g
      · cases g
      · have := inlE g
        cases this
        exact ⟨hr.T hb _ _ (fun q => by cases q), n2⟩
  rw [if_neg q5] at h
  by_cases q6 : wnI 0 t = 4
  · rw [if_pos q6] at h
    obtain ⟨d, hd, g⟩ := pDr_inv ho o1 h
    split at g
    · cases g
    · split at g
      · cases g
      · obtain ⟨m, hm, g⟩ := pDr_inv ho o2 g
        have := inlE g
        cases this
        exact ⟨hr.T hb _ _ hr.2.1, n3⟩
  rw [if_neg q6] at h
  by_cases q7 : wnI 0 t = 5
  · rw [if_pos q7] at h
    unfold pPerson at h
    split at h
    · cases h
    · obtain ⟨g1, g2, g3⟩ := pNw_inv h
      have := inlE g3
      cases this
      exact ⟨⟨fun q => absurd q hb, hr.2.1, hr.nm (nm_all g2)⟩, n2⟩
  rw [if_neg q7] at h
  by_cases q8 : wnI 0 t = 6
  · rw [if_pos q8] at h
    obtain ⟨p, hp, g⟩ := pPe_inv ho o1 h
    split at g
    · cases g
    · obtain ⟨m, hm, g⟩ := pDr_inv ho o2 g
      have := inlE g
      cases this
      exact ⟨hr.T hb _ _ hr.2.1, n3⟩
  rw [if_neg q8] at h
  by_cases q9 : wnI 0 t = 7
  · rw [if_pos q9] at h
    obtain ⟨p, hp, g⟩ := pPe_inv ho o1 h
    split at g
    · cases g
    · have := inlE g
      cases this
      exact ⟨hr.T hb _ _ hr.2.1, n2⟩
  rw [if_neg q9] at h
  have hpl : ∀ s, pPlace B n r t s = .inl (r', t') → okRd r' ∧ ∃ p, t.2.1 ≤ p ∧ p ≤ n ∧ t' = lexT B n p := fun s h => by
    obtain ⟨p, hp, g⟩ := pPe_inv ho o1 h
    split at g
    · cases g
    · split at g
      · have := inlE g
        cases this
        exact ⟨hr.T hb _ _ hr.2.1, n3⟩
      · obtain ⟨m, hm, g⟩ := pDr_inv ho o2 g
        have := inlE g
        cases this
        exact ⟨hr.T hb _ _ hr.2.1, n3⟩
  by_cases q8 : wnI 0 t = 8
  · rw [if_pos q8] at h; exact hpl _ h
  rw [if_neg q8] at h
  by_cases q9 : wnI 0 t = 9
  · rw [if_pos q9] at h; exact hpl _ h
  · rw [if_neg q9] at h; exact hpl _ h
theorem pLi_0 (h : wnI 0 t = 0) : pLine B n r t = pLane B n r t := by
  unfold pLine
  rw [if_neg (show ¬ wnI 0 t = -1 by omega), if_neg (show ¬ (r.2.1 = false ∧ wnI 0 t ≠ 0) from fun z => z.2 h), if_pos h]
theorem pLi_1 (h : wnI 0 t = 1) : pLine B n r t = if r.2.1 = false then .inr (6, t.2.1) else pDoor B n r t := by
  unfold pLine
  rw [if_neg (show ¬ wnI 0 t = -1 by omega)]
  by_cases q : r.2.1 = false
  · rw [if_pos (show r.2.1 = false ∧ wnI 0 t ≠ 0 from ⟨q, by omega⟩), if_pos q]
  · rw [if_neg (show ¬ (r.2.1 = false ∧ wnI 0 t ≠ 0) from fun z => q z.1), if_neg q, if_neg (show ¬ wnI 0 t = 0 by omega), if_pos h]
theorem pLi_2 (h : wnI 0 t = 2) : pLine B n r t = if r.2.1 = false then .inr (6, t.2.1) else pLocked B n r t := by
  unfold pLine
  rw [if_neg (show ¬ wnI 0 t = -1 by omega)]
  by_cases q : r.2.1 = false
  · rw [if_pos (show r.2.1 = false ∧ wnI 0 t ≠ 0 from ⟨q, by omega⟩), if_pos q]
  · rw [if_neg (show ¬ (r.2.1 = false ∧ wnI 0 t ≠ 0) from fun z => q z.1), if_neg q, if_neg (show ¬ wnI 0 t = 0 by omega), if_neg (show ¬ wnI 0 t = 1 by omega), if_pos h]
theorem pLi_3 (h : wnI 0 t = 3) : pLine B n r t = if r.2.1 = false then .inr (6, t.2.1) else pLast B n r t := by
  unfold pLine
  rw [if_neg (show ¬ wnI 0 t = -1 by omega)]
  by_cases q : r.2.1 = false
  · rw [if_pos (show r.2.1 = false ∧ wnI 0 t ≠ 0 from ⟨q, by omega⟩), if_pos q]
  · rw [if_neg (show ¬ (r.2.1 = false ∧ wnI 0 t ≠ 0) from fun z => q z.1), if_neg q, if_neg (show ¬ wnI 0 t = 0 by omega), if_neg (show ¬ wnI 0 t = 1 by omega), if_neg (show ¬ wnI 0 t = 2 by omega), if_pos h]
theorem pLi_4 (h : wnI 0 t = 4) : pLine B n r t = if r.2.1 = false then .inr (6, t.2.1) else pAjar B n r t := by
  unfold pLine
  rw [if_neg (show ¬ wnI 0 t = -1 by omega)]
  by_cases q : r.2.1 = false
  · rw [if_pos (show r.2.1 = false ∧ wnI 0 t ≠ 0 from ⟨q, by omega⟩), if_pos q]
  · rw [if_neg (show ¬ (r.2.1 = false ∧ wnI 0 t ≠ 0) from fun z => q z.1), if_neg q, if_neg (show ¬ wnI 0 t = 0 by omega), if_neg (show ¬ wnI 0 t = 1 by omega), if_neg (show ¬ wnI 0 t = 2 by omega), if_neg (show ¬ wnI 0 t = 3 by omega), if_pos h]
theorem pLi_5 (h : wnI 0 t = 5) : pLine B n r t = if r.2.1 = false then .inr (6, t.2.1) else pPerson B n r t := by
  unfold pLine
  rw [if_neg (show ¬ wnI 0 t = -1 by omega)]
  by_cases q : r.2.1 = false
  · rw [if_pos (show r.2.1 = false ∧ wnI 0 t ≠ 0 from ⟨q, by omega⟩), if_pos q]
  · rw [if_neg (show ¬ (r.2.1 = false ∧ wnI 0 t ≠ 0) from fun z => q z.1), if_neg q, if_neg (show ¬ wnI 0 t = 0 by omega), if_neg (show ¬ wnI 0 t = 1 by omega), if_neg (show ¬ wnI 0 t = 2 by omega), if_neg (show ¬ wnI 0 t = 3 by omega), if_neg (show ¬ wnI 0 t = 4 by omega), if_pos h]
theorem pLi_6 (h : wnI 0 t = 6) : pLine B n r t = if r.2.1 = false then .inr (6, t.2.1) else pInside B n r t := by
  unfold pLine
  rw [if_neg (show ¬ wnI 0 t = -1 by omega)]
  by_cases q : r.2.1 = false
  · rw [if_pos (show r.2.1 = false ∧ wnI 0 t ≠ 0 from ⟨q, by omega⟩), if_pos q]
  · rw [if_neg (show ¬ (r.2.1 = false ∧ wnI 0 t ≠ 0) from fun z => q z.1), if_neg q, if_neg (show ¬ wnI 0 t = 0 by omega), if_neg (show ¬ wnI 0 t = 1 by omega), if_neg (show ¬ wnI 0 t = 2 by omega), if_neg (show ¬ wnI 0 t = 3 by omega), if_neg (show ¬ wnI 0 t = 4 by omega), if_neg (show ¬ wnI 0 t = 5 by omega), if_pos h]
theorem pLi_7 (h : wnI 0 t = 7) : pLine B n r t = if r.2.1 = false then .inr (6, t.2.1) else pKey B n r t := by
  unfold pLine
  rw [if_neg (show ¬ wnI 0 t = -1 by omega)]
  by_cases q : r.2.1 = false
  · rw [if_pos (show r.2.1 = false ∧ wnI 0 t ≠ 0 from ⟨q, by omega⟩), if_pos q]
  · rw [if_neg (show ¬ (r.2.1 = false ∧ wnI 0 t ≠ 0) from fun z => q z.1), if_neg q, if_neg (show ¬ wnI 0 t = 0 by omega), if_neg (show ¬ wnI 0 t = 1 by omega), if_neg (show ¬ wnI 0 t = 2 by omega), if_neg (show ¬ wnI 0 t = 3 by omega), if_neg (show ¬ wnI 0 t = 4 by omega), if_neg (show ¬ wnI 0 t = 5 by omega), if_neg (show ¬ wnI 0 t = 6 by omega), if_pos h]
theorem pLi_8 (h : wnI 0 t = 8) : pLine B n r t = if r.2.1 = false then .inr (6, t.2.1) else pPlace B n r t 0 := by
  unfold pLine
  rw [if_neg (show ¬ wnI 0 t = -1 by omega)]
  by_cases q : r.2.1 = false
  · rw [if_pos (show r.2.1 = false ∧ wnI 0 t ≠ 0 from ⟨q, by omega⟩), if_pos q]
  · rw [if_neg (show ¬ (r.2.1 = false ∧ wnI 0 t ≠ 0) from fun z => q z.1), if_neg q, if_neg (show ¬ wnI 0 t = 0 by omega), if_neg (show ¬ wnI 0 t = 1 by omega), if_neg (show ¬ wnI 0 t = 2 by omega), if_neg (show ¬ wnI 0 t = 3 by omega), if_neg (show ¬ wnI 0 t = 4 by omega), if_neg (show ¬ wnI 0 t = 5 by omega), if_neg (show ¬ wnI 0 t = 6 by omega), if_neg (show ¬ wnI 0 t = 7 by omega), if_pos h]
theorem pLi_9 (h : wnI 0 t = 9) : pLine B n r t = if r.2.1 = false then .inr (6, t.2.1) else pPlace B n r t 1 := by
  unfold pLine
  rw [if_neg (show ¬ wnI 0 t = -1 by omega)]
  by_cases q : r.2.1 = false
  · rw [if_pos (show r.2.1 = false ∧ wnI 0 t ≠ 0 from ⟨q, by omega⟩), if_pos q]
  · rw [if_neg (show ¬ (r.2.1 = false ∧ wnI 0 t ≠ 0) from fun z => q z.1), if_neg q, if_neg (show ¬ wnI 0 t = 0 by omega), if_neg (show ¬ wnI 0 t = 1 by omega), if_neg (show ¬ wnI 0 t = 2 by omega), if_neg (show ¬ wnI 0 t = 3 by omega), if_neg (show ¬ wnI 0 t = 4 by omega), if_neg (show ¬ wnI 0 t = 5 by omega), if_neg (show ¬ wnI 0 t = 6 by omega), if_neg (show ¬ wnI 0 t = 7 by omega), if_neg (show ¬ wnI 0 t = 8 by omega), if_pos h]
theorem pLi_10 (h : wnI 0 t = 10) : pLine B n r t = if r.2.1 = false then .inr (6, t.2.1) else pPlace B n r t 2 := by
  unfold pLine
  rw [if_neg (show ¬ wnI 0 t = -1 by omega)]
  by_cases q : r.2.1 = false
  · rw [if_pos (show r.2.1 = false ∧ wnI 0 t ≠ 0 from ⟨q, by omega⟩), if_pos q]
  · rw [if_neg (show ¬ (r.2.1 = false ∧ wnI 0 t ≠ 0) from fun z => q z.1), if_neg q, if_neg (show ¬ wnI 0 t = 0 by omega), if_neg (show ¬ wnI 0 t = 1 by omega), if_neg (show ¬ wnI 0 t = 2 by omega), if_neg (show ¬ wnI 0 t = 3 by omega), if_neg (show ¬ wnI 0 t = 4 by omega), if_neg (show ¬ wnI 0 t = 5 by omega), if_neg (show ¬ wnI 0 t = 6 by omega), if_neg (show ¬ wnI 0 t = 7 by omega), if_neg (show ¬ wnI 0 t = 8 by omega), if_neg (show ¬ wnI 0 t = 9 by omega)]
end PRd
section Mod49
variable {G : GE} {V V' V1 V2 : Nat → Nat → Int} {σ : Shp} {K : Option AV → Mem → Prop} {l n e : Nat} {B : Nat → Int} {r : PR} {t : TK}
theorem wM_readLine (hM : moS σ l) (hl : laS σ e) (h4p : sP σ 53 4 = e) (he : 64 ≤ e) (h : GS V e n B r t) (hK : MrK K V σ e n B (pLine B n r t)) : Wp G 9 mM_readLine [vR 53] (V, σ) 0 0 K := by
  have h4 : ∀ k, k < 11 → isWv V (lt0 k) → t.1 ≠ 4 := fun k hk q => by rw [((h.1.wv _).mp q).1]; decide
  have hw : ∀ k, k < 11 → isWv V (lt0 k) → wnI 0 t = (k : Nat) := fun k hk q => (h.1.w0 hk).mp q
  refine wp_intro mM_readLine_i.1 [some (vR 53)] rfl rfl (Nat.le_of_ble_eq_true rfl) ?_
  intro X hG F C
  have hm := C.rm
  refine aw_aload_0 (q := 1) F dM_readLine_0 rfl ?_
  refine aw_ldcS (q := 3) (j := 3) F dM_readLine_1 rfl (by decide) rfl rfl ?_
  refine av_callV1 (q := 6) (ci := 9) F hm mM_isWord_i mM_isWord_n lM_119 dM_readLine_3 rfl rfl rfl (by first | exact hM.o | exact hl.o) (by decide) (Nat.le_refl _) (Nat.le_refl _) (Nat.le_of_ble_eq_true rfl) (wM_isWord (j := 3) (by decide) (by decide) hM (fun w3 => ?_) (fun w3 => ?_))
  · refine aw_if_eq (q := 9) (t := 16) F dM_readLine_6 rfl (by decide) (fun c6 => absurd c6 (by decide)) (fun c6 => ?_)
    refine aw_aload_0 (q := 10) F dM_readLine_9 rfl ?_
    refine av_callV0 (q := 13) (ci := 9) F hm mM_readLane_i mM_readLane_n lM_186 dM_readLine_10 rfl rfl rfl (by first | exact hM.o | exact hl.o) (by decide) (Nat.le_refl _) (Nat.le_refl _) (Nat.le_of_ble_eq_true rfl) (wM_readLane hM hl h4p he h (h4 0 (by decide) w3) ⟨(fun V1 r10 q10 a10 b10 d10 => ?_), (fun V1 x10 p10 a10 b10 d10 => ?_)⟩)
    · have HK : K none (V1, σ) := hK.1 V1 _ _ ((pLi_0 (hw 0 (by decide) w3)).trans a10) b10 d10
      refine aw_goto (t := 184) F dM_readLine_13 (by decide) ?_
      refine aw_vret F C dM_readLine_184 rfl (Nat.le_refl _) (Nat.le_refl _) ?_
      exact HK
    · have HK : K none (V1, σ) := hK.2 V1 _ _ ((pLi_0 (hw 0 (by decide) w3)).trans a10) b10 d10
      refine aw_goto (t := 184) F dM_readLine_13 (by decide) ?_
      refine aw_vret F C dM_readLine_184 rfl (Nat.le_refl _) (Nat.le_refl _) ?_
      exact HK
  · refine aw_if_eq (q := 9) (t := 16) F dM_readLine_6 rfl (by decide) (fun c6 => ?_) (fun c6 => absurd c6 (by decide))
    refine aw_aload_0 (q := 17) F dM_readLine_16 rfl ?_
    refine aw_ldcS (q := 19) (j := 5) F dM_readLine_17 rfl (by decide) rfl rfl ?_
    refine av_callV1 (q := 22) (ci := 9) F hm mM_isWord_i mM_isWord_n lM_119 dM_readLine_19 rfl rfl rfl (by first | exact hM.o | exact hl.o) (by decide) (Nat.le_refl _) (Nat.le_refl _) (Nat.le_of_ble_eq_true rfl) (wM_isWord (j := 5) (by decide) (by decide) hM (fun w19 => ?_) (fun w19 => ?_))
    · refine aw_if_eq (q := 25) (t := 32) F dM_readLine_22 rfl (by decide) (fun c22 => absurd c22 (by decide)) (fun c22 => ?_)
      refine aw_aload_0 (q := 26) F dM_readLine_25 rfl ?_
      refine av_callV0 (q := 29) (ci := 9) F hm mM_readDoor_i mM_readDoor_n lM_189 dM_readLine_26 rfl rfl rfl (by first | exact hM.o | exact hl.o) (by decide) (Nat.le_refl _) (Nat.le_refl _) (Nat.le_of_ble_eq_true rfl) (wM_readDoor hM hl h4p he h (h4 1 (by decide) w19) ⟨(fun V1 r26 q26 a26 b26 d26 => ?_), (fun V1 x26 p26 a26 b26 d26 => ?_)⟩)
      · have HK : K none (V1, σ) := hK.1 V1 _ _ ((pLi_1 (hw 1 (by decide) w19)).trans a26) b26 d26
        refine aw_goto (t := 184) F dM_readLine_29 (by decide) ?_
        refine aw_vret F C dM_readLine_184 rfl (Nat.le_refl _) (Nat.le_refl _) ?_
        exact HK
      · have HK : K none (V1, σ) := hK.2 V1 _ _ ((pLi_1 (hw 1 (by decide) w19)).trans a26) b26 d26
        refine aw_goto (t := 184) F dM_readLine_29 (by decide) ?_
        refine aw_vret F C dM_readLine_184 rfl (Nat.le_refl _) (Nat.le_refl _) ?_
        exact HK
    · refine aw_if_eq (q := 25) (t := 32) F dM_readLine_22 rfl (by decide) (fun c22 => ?_) (fun c22 => absurd c22 (by decide))
      refine aw_aload_0 (q := 33) F dM_readLine_32 rfl ?_
      refine aw_ldcS (q := 35) (j := 6) F dM_readLine_33 rfl (by decide) rfl rfl ?_
      refine av_callV1 (q := 38) (ci := 9) F hm mM_isWord_i mM_isWord_n lM_119 dM_readLine_35 rfl rfl rfl (by first | exact hM.o | exact hl.o) (by decide) (Nat.le_refl _) (Nat.le_refl _) (Nat.le_of_ble_eq_true rfl) (wM_isWord (j := 6) (by decide) (by decide) hM (fun w35 => ?_) (fun w35 => ?_))
      · refine aw_if_eq (q := 41) (t := 48) F dM_readLine_38 rfl (by decide) (fun c38 => absurd c38 (by decide)) (fun c38 => ?_)
        refine aw_aload_0 (q := 42) F dM_readLine_41 rfl ?_
        refine av_callV0 (q := 45) (ci := 9) F hm mM_readLocked_i mM_readLocked_n lM_192 dM_readLine_42 rfl rfl rfl (by first | exact hM.o | exact hl.o) (by decide) (Nat.le_refl _) (Nat.le_refl _) (Nat.le_of_ble_eq_true rfl) (wM_readLocked hM hl h4p he h (h4 2 (by decide) w35) ⟨(fun V1 r42 q42 a42 b42 d42 => ?_), (fun V1 x42 p42 a42 b42 d42 => ?_)⟩)
        · have HK : K none (V1, σ) := hK.1 V1 _ _ ((pLi_2 (hw 2 (by decide) w35)).trans a42) b42 d42
          refine aw_goto (t := 184) F dM_readLine_45 (by decide) ?_
          refine aw_vret F C dM_readLine_184 rfl (Nat.le_refl _) (Nat.le_refl _) ?_
          exact HK
        · have HK : K none (V1, σ) := hK.2 V1 _ _ ((pLi_2 (hw 2 (by decide) w35)).trans a42) b42 d42
          refine aw_goto (t := 184) F dM_readLine_45 (by decide) ?_
          refine aw_vret F C dM_readLine_184 rfl (Nat.le_refl _) (Nat.le_refl _) ?_
          exact HK
      · refine aw_if_eq (q := 41) (t := 48) F dM_readLine_38 rfl (by decide) (fun c38 => ?_) (fun c38 => absurd c38 (by decide))
        refine aw_aload_0 (q := 49) F dM_readLine_48 rfl ?_
        refine aw_ldcS (q := 51) (j := 7) F dM_readLine_49 rfl (by decide) rfl rfl ?_
        refine av_callV1 (q := 54) (ci := 9) F hm mM_isWord_i mM_isWord_n lM_119 dM_readLine_51 rfl rfl rfl (by first | exact hM.o | exact hl.o) (by decide) (Nat.le_refl _) (Nat.le_refl _) (Nat.le_of_ble_eq_true rfl) (wM_isWord (j := 7) (by decide) (by decide) hM (fun w51 => ?_) (fun w51 => ?_))
        · refine aw_if_eq (q := 57) (t := 64) F dM_readLine_54 rfl (by decide) (fun c54 => absurd c54 (by decide)) (fun c54 => ?_)
          refine aw_aload_0 (q := 58) F dM_readLine_57 rfl ?_
          refine av_callV0 (q := 61) (ci := 9) F hm mM_readLast_i mM_readLast_n lM_195 dM_readLine_58 rfl rfl rfl (by first | exact hM.o | exact hl.o) (by decide) (Nat.le_refl _) (Nat.le_refl _) (Nat.le_of_ble_eq_true rfl) (wM_readLast hM hl h4p he h (h4 3 (by decide) w51) ⟨(fun V1 r58 q58 a58 b58 d58 => ?_), (fun V1 x58 p58 a58 b58 d58 => ?_)⟩)
          · have HK : K none (V1, σ) := hK.1 V1 _ _ ((pLi_3 (hw 3 (by decide) w51)).trans a58) b58 d58
            refine aw_goto (t := 184) F dM_readLine_61 (by decide) ?_
            refine aw_vret F C dM_readLine_184 rfl (Nat.le_refl _) (Nat.le_refl _) ?_
            exact HK
          · have HK : K none (V1, σ) := hK.2 V1 _ _ ((pLi_3 (hw 3 (by decide) w51)).trans a58) b58 d58
            refine aw_goto (t := 184) F dM_readLine_61 (by decide) ?_
            refine aw_vret F C dM_readLine_184 rfl (Nat.le_refl _) (Nat.le_refl _) ?_
            exact HK
        · refine aw_if_eq (q := 57) (t := 64) F dM_readLine_54 rfl (by decide) (fun c54 => ?_) (fun c54 => absurd c54 (by decide))
          refine aw_aload_0 (q := 65) F dM_readLine_64 rfl ?_
          refine aw_ldcS (q := 67) (j := 8) F dM_readLine_65 rfl (by decide) rfl rfl ?_
          refine av_callV1 (q := 70) (ci := 9) F hm mM_isWord_i mM_isWord_n lM_119 dM_readLine_67 rfl rfl rfl (by first | exact hM.o | exact hl.o) (by decide) (Nat.le_refl _) (Nat.le_refl _) (Nat.le_of_ble_eq_true rfl) (wM_isWord (j := 8) (by decide) (by decide) hM (fun w67 => ?_) (fun w67 => ?_))
          · refine aw_if_eq (q := 73) (t := 80) F dM_readLine_70 rfl (by decide) (fun c70 => absurd c70 (by decide)) (fun c70 => ?_)
            refine aw_aload_0 (q := 74) F dM_readLine_73 rfl ?_
            refine av_callV0 (q := 77) (ci := 9) F hm mM_readAjar_i mM_readAjar_n lM_198 dM_readLine_74 rfl rfl rfl (by first | exact hM.o | exact hl.o) (by decide) (Nat.le_refl _) (Nat.le_refl _) (Nat.le_of_ble_eq_true rfl) (wM_readAjar hM hl h4p he h (h4 4 (by decide) w67) ⟨(fun V1 r74 q74 a74 b74 d74 => ?_), (fun V1 x74 p74 a74 b74 d74 => ?_)⟩)
            · have HK : K none (V1, σ) := hK.1 V1 _ _ ((pLi_4 (hw 4 (by decide) w67)).trans a74) b74 d74
              refine aw_goto (t := 184) F dM_readLine_77 (by decide) ?_
              refine aw_vret F C dM_readLine_184 rfl (Nat.le_refl _) (Nat.le_refl _) ?_
              exact HK
            · have HK : K none (V1, σ) := hK.2 V1 _ _ ((pLi_4 (hw 4 (by decide) w67)).trans a74) b74 d74
              refine aw_goto (t := 184) F dM_readLine_77 (by decide) ?_
              refine aw_vret F C dM_readLine_184 rfl (Nat.le_refl _) (Nat.le_refl _) ?_
              exact HK
          · refine aw_if_eq (q := 73) (t := 80) F dM_readLine_70 rfl (by decide) (fun c70 => ?_) (fun c70 => absurd c70 (by decide))
            refine aw_aload_0 (q := 81) F dM_readLine_80 rfl ?_
            refine aw_ldcS (q := 83) (j := 9) F dM_readLine_81 rfl (by decide) rfl rfl ?_
            refine av_callV1 (q := 86) (ci := 9) F hm mM_isWord_i mM_isWord_n lM_119 dM_readLine_83 rfl rfl rfl (by first | exact hM.o | exact hl.o) (by decide) (Nat.le_refl _) (Nat.le_refl _) (Nat.le_of_ble_eq_true rfl) (wM_isWord (j := 9) (by decide) (by decide) hM (fun w83 => ?_) (fun w83 => ?_))
            · refine aw_if_eq (q := 89) (t := 96) F dM_readLine_86 rfl (by decide) (fun c86 => absurd c86 (by decide)) (fun c86 => ?_)
              refine aw_aload_0 (q := 90) F dM_readLine_89 rfl ?_
              refine av_callV0 (q := 93) (ci := 9) F hm mM_readPerson_i mM_readPerson_n lM_201 dM_readLine_90 rfl rfl rfl (by first | exact hM.o | exact hl.o) (by decide) (Nat.le_refl _) (Nat.le_refl _) (Nat.le_of_ble_eq_true rfl) (wM_readPerson hM hl h4p he h (h4 5 (by decide) w83) ⟨(fun V1 r90 q90 a90 b90 d90 => ?_), (fun V1 x90 p90 a90 b90 d90 => ?_)⟩)
              · have HK : K none (V1, σ) := hK.1 V1 _ _ ((pLi_5 (hw 5 (by decide) w83)).trans a90) b90 d90
                refine aw_goto (t := 184) F dM_readLine_93 (by decide) ?_
                refine aw_vret F C dM_readLine_184 rfl (Nat.le_refl _) (Nat.le_refl _) ?_
                exact HK
              · have HK : K none (V1, σ) := hK.2 V1 _ _ ((pLi_5 (hw 5 (by decide) w83)).trans a90) b90 d90
                refine aw_goto (t := 184) F dM_readLine_93 (by decide) ?_
                refine aw_vret F C dM_readLine_184 rfl (Nat.le_refl _) (Nat.le_refl _) ?_
                exact HK
            · refine aw_if_eq (q := 89) (t := 96) F dM_readLine_86 rfl (by decide) (fun c86 => ?_) (fun c86 => absurd c86 (by decide))
              refine aw_aload_0 (q := 97) F dM_readLine_96 rfl ?_
              refine aw_ldcS (q := 99) (j := 10) F dM_readLine_97 rfl (by decide) rfl rfl ?_
              refine av_callV1 (q := 102) (ci := 9) F hm mM_isWord_i mM_isWord_n lM_119 dM_readLine_99 rfl rfl rfl (by first | exact hM.o | exact hl.o) (by decide) (Nat.le_refl _) (Nat.le_refl _) (Nat.le_of_ble_eq_true rfl) (wM_isWord (j := 10) (by decide) (by decide) hM (fun w99 => ?_) (fun w99 => ?_))
              · refine aw_if_eq (q := 105) (t := 112) F dM_readLine_102 rfl (by decide) (fun c102 => absurd c102 (by decide)) (fun c102 => ?_)
                refine aw_aload_0 (q := 106) F dM_readLine_105 rfl ?_
                refine av_callV0 (q := 109) (ci := 9) F hm mM_readInside_i mM_readInside_n lM_204 dM_readLine_106 rfl rfl rfl (by first | exact hM.o | exact hl.o) (by decide) (Nat.le_refl _) (Nat.le_refl _) (Nat.le_of_ble_eq_true rfl) (wM_readInside hM hl h4p he h (h4 6 (by decide) w99) ⟨(fun V1 r106 q106 a106 b106 d106 => ?_), (fun V1 x106 p106 a106 b106 d106 => ?_)⟩)
                · have HK : K none (V1, σ) := hK.1 V1 _ _ ((pLi_6 (hw 6 (by decide) w99)).trans a106) b106 d106
                  refine aw_goto (t := 184) F dM_readLine_109 (by decide) ?_
                  refine aw_vret F C dM_readLine_184 rfl (Nat.le_refl _) (Nat.le_refl _) ?_
                  exact HK
                · have HK : K none (V1, σ) := hK.2 V1 _ _ ((pLi_6 (hw 6 (by decide) w99)).trans a106) b106 d106
                  refine aw_goto (t := 184) F dM_readLine_109 (by decide) ?_
                  refine aw_vret F C dM_readLine_184 rfl (Nat.le_refl _) (Nat.le_refl _) ?_
                  exact HK
              · refine aw_if_eq (q := 105) (t := 112) F dM_readLine_102 rfl (by decide) (fun c102 => ?_) (fun c102 => absurd c102 (by decide))
                refine aw_aload_0 (q := 113) F dM_readLine_112 rfl ?_
                refine aw_ldcS (q := 115) (j := 11) F dM_readLine_113 rfl (by decide) rfl rfl ?_
                refine av_callV1 (q := 118) (ci := 9) F hm mM_isWord_i mM_isWord_n lM_119 dM_readLine_115 rfl rfl rfl (by first | exact hM.o | exact hl.o) (by decide) (Nat.le_refl _) (Nat.le_refl _) (Nat.le_of_ble_eq_true rfl) (wM_isWord (j := 11) (by decide) (by decide) hM (fun w115 => ?_) (fun w115 => ?_))
                · refine aw_if_eq (q := 121) (t := 128) F dM_readLine_118 rfl (by decide) (fun c118 => absurd c118 (by decide)) (fun c118 => ?_)
                  refine aw_aload_0 (q := 122) F dM_readLine_121 rfl ?_
                  refine av_callV0 (q := 125) (ci := 9) F hm mM_readKey_i mM_readKey_n lM_207 dM_readLine_122 rfl rfl rfl (by first | exact hM.o | exact hl.o) (by decide) (Nat.le_refl _) (Nat.le_refl _) (Nat.le_of_ble_eq_true rfl) (wM_readKey hM hl h4p he h (h4 7 (by decide) w115) ⟨(fun V1 r122 q122 a122 b122 d122 => ?_), (fun V1 x122 p122 a122 b122 d122 => ?_)⟩)
                  · have HK : K none (V1, σ) := hK.1 V1 _ _ ((pLi_7 (hw 7 (by decide) w115)).trans a122) b122 d122
                    refine aw_goto (t := 184) F dM_readLine_125 (by decide) ?_
                    refine aw_vret F C dM_readLine_184 rfl (Nat.le_refl _) (Nat.le_refl _) ?_
                    exact HK
                  · have HK : K none (V1, σ) := hK.2 V1 _ _ ((pLi_7 (hw 7 (by decide) w115)).trans a122) b122 d122
                    refine aw_goto (t := 184) F dM_readLine_125 (by decide) ?_
                    refine aw_vret F C dM_readLine_184 rfl (Nat.le_refl _) (Nat.le_refl _) ?_
                    exact HK
                · refine aw_if_eq (q := 121) (t := 128) F dM_readLine_118 rfl (by decide) (fun c118 => ?_) (fun c118 => absurd c118 (by decide))
                  refine aw_aload_0 (q := 129) F dM_readLine_128 rfl ?_
                  refine aw_ldcS (q := 131) (j := 12) F dM_readLine_129 rfl (by decide) rfl rfl ?_
                  refine av_callV1 (q := 134) (ci := 9) F hm mM_isWord_i mM_isWord_n lM_119 dM_readLine_131 rfl rfl rfl (by first | exact hM.o | exact hl.o) (by decide) (Nat.le_refl _) (Nat.le_refl _) (Nat.le_of_ble_eq_true rfl) (wM_isWord (j := 12) (by decide) (by decide) hM (fun w131 => ?_) (fun w131 => ?_))
                  · refine aw_if_eq (q := 137) (t := 145) F dM_readLine_134 rfl (by decide) (fun c134 => absurd c134 (by decide)) (fun c134 => ?_)
                    refine aw_aload_0 (q := 138) F dM_readLine_137 rfl ?_
                    refine aw_iconst (q := 139) F dM_readLine_138 rfl (by decide) ?_
                    refine av_callV1 (q := 142) (ci := 9) F hm mM_readPlace_i mM_readPlace_n lM_210 dM_readLine_139 rfl rfl rfl (by first | exact hM.o | exact hl.o) (by decide) (Nat.le_refl _) (Nat.le_refl _) (Nat.le_of_ble_eq_true rfl) (wM_readPlace (s := 0) rfl (by decide) hM hl h4p he h (h4 8 (by decide) w131) ⟨(fun V1 r139 q139 a139 b139 d139 => ?_), (fun V1 x139 p139 a139 b139 d139 => ?_)⟩)
                    · have HK : K none (V1, σ) := hK.1 V1 _ _ ((pLi_8 (hw 8 (by decide) w131)).trans a139) b139 d139
                      refine aw_goto (t := 184) F dM_readLine_142 (by decide) ?_
                      refine aw_vret F C dM_readLine_184 rfl (Nat.le_refl _) (Nat.le_refl _) ?_
                      exact HK
                    · have HK : K none (V1, σ) := hK.2 V1 _ _ ((pLi_8 (hw 8 (by decide) w131)).trans a139) b139 d139
                      refine aw_goto (t := 184) F dM_readLine_142 (by decide) ?_
                      refine aw_vret F C dM_readLine_184 rfl (Nat.le_refl _) (Nat.le_refl _) ?_
                      exact HK
                  · refine aw_if_eq (q := 137) (t := 145) F dM_readLine_134 rfl (by decide) (fun c134 => ?_) (fun c134 => absurd c134 (by decide))
                    refine aw_aload_0 (q := 146) F dM_readLine_145 rfl ?_
                    refine aw_ldcS (q := 148) (j := 13) F dM_readLine_146 rfl (by decide) rfl rfl ?_
                    refine av_callV1 (q := 151) (ci := 9) F hm mM_isWord_i mM_isWord_n lM_119 dM_readLine_148 rfl rfl rfl (by first | exact hM.o | exact hl.o) (by decide) (Nat.le_refl _) (Nat.le_refl _) (Nat.le_of_ble_eq_true rfl) (wM_isWord (j := 13) (by decide) (by decide) hM (fun w148 => ?_) (fun w148 => ?_))
                    · refine aw_if_eq (q := 154) (t := 162) F dM_readLine_151 rfl (by decide) (fun c151 => absurd c151 (by decide)) (fun c151 => ?_)
                      refine aw_aload_0 (q := 155) F dM_readLine_154 rfl ?_
                      refine aw_iconst (q := 156) F dM_readLine_155 rfl (by decide) ?_
                      refine av_callV1 (q := 159) (ci := 9) F hm mM_readPlace_i mM_readPlace_n lM_210 dM_readLine_156 rfl rfl rfl (by first | exact hM.o | exact hl.o) (by decide) (Nat.le_refl _) (Nat.le_refl _) (Nat.le_of_ble_eq_true rfl) (wM_readPlace (s := 1) rfl (by decide) hM hl h4p he h (h4 9 (by decide) w148) ⟨(fun V1 r156 q156 a156 b156 d156 => ?_), (fun V1 x156 p156 a156 b156 d156 => ?_)⟩)
                      · have HK : K none (V1, σ) := hK.1 V1 _ _ ((pLi_9 (hw 9 (by decide) w148)).trans a156) b156 d156
                        refine aw_goto (t := 184) F dM_readLine_159 (by decide) ?_
                        refine aw_vret F C dM_readLine_184 rfl (Nat.le_refl _) (Nat.le_refl _) ?_
                        exact HK
                      · have HK : K none (V1, σ) := hK.2 V1 _ _ ((pLi_9 (hw 9 (by decide) w148)).trans a156) b156 d156
                        refine aw_goto (t := 184) F dM_readLine_159 (by decide) ?_
                        refine aw_vret F C dM_readLine_184 rfl (Nat.le_refl _) (Nat.le_refl _) ?_
                        exact HK
                    · refine aw_if_eq (q := 154) (t := 162) F dM_readLine_151 rfl (by decide) (fun c151 => ?_) (fun c151 => absurd c151 (by decide))
                      refine aw_aload_0 (q := 163) F dM_readLine_162 rfl ?_
                      refine aw_ldcS (q := 165) (j := 14) F dM_readLine_163 rfl (by decide) rfl rfl ?_
                      refine av_callV1 (q := 168) (ci := 9) F hm mM_isWord_i mM_isWord_n lM_119 dM_readLine_165 rfl rfl rfl (by first | exact hM.o | exact hl.o) (by decide) (Nat.le_refl _) (Nat.le_refl _) (Nat.le_of_ble_eq_true rfl) (wM_isWord (j := 14) (by decide) (by decide) hM (fun w165 => ?_) (fun w165 => ?_))
                      · refine aw_if_eq (q := 171) (t := 179) F dM_readLine_168 rfl (by decide) (fun c168 => absurd c168 (by decide)) (fun c168 => ?_)
                        refine aw_aload_0 (q := 172) F dM_readLine_171 rfl ?_
                        refine aw_iconst (q := 173) F dM_readLine_172 rfl (by decide) ?_
                        refine av_callV1 (q := 176) (ci := 9) F hm mM_readPlace_i mM_readPlace_n lM_210 dM_readLine_173 rfl rfl rfl (by first | exact hM.o | exact hl.o) (by decide) (Nat.le_refl _) (Nat.le_refl _) (Nat.le_of_ble_eq_true rfl) (wM_readPlace (s := 2) rfl (by decide) hM hl h4p he h (h4 10 (by decide) w165) ⟨(fun V1 r173 q173 a173 b173 d173 => ?_), (fun V1 x173 p173 a173 b173 d173 => ?_)⟩)
                        · have HK : K none (V1, σ) := hK.1 V1 _ _ ((pLi_10 (hw 10 (by decide) w165)).trans a173) b173 d173
                          refine aw_goto (t := 184) F dM_readLine_176 (by decide) ?_
                          refine aw_vret F C dM_readLine_184 rfl (Nat.le_refl _) (Nat.le_refl _) ?_
                          exact HK
                        · have HK : K none (V1, σ) := hK.2 V1 _ _ ((pLi_10 (hw 10 (by decide) w165)).trans a173) b173 d173
                          refine aw_goto (t := 184) F dM_readLine_176 (by decide) ?_
                          refine aw_vret F C dM_readLine_184 rfl (Nat.le_refl _) (Nat.le_refl _) ?_
                          exact HK
                      · refine aw_if_eq (q := 171) (t := 179) F dM_readLine_168 rfl (by decide) (fun c168 => ?_) (fun c168 => absurd c168 (by decide))
                        refine aw_aload_0 (q := 180) F dM_readLine_179 rfl ?_
                        refine aw_iconst (q := 181) F dM_readLine_180 rfl (by decide) ?_
                        refine av_callV1 (q := 184) (ci := 9) F hm mM_flaw_i mM_flaw_n lM_143 dM_readLine_181 rfl rfl rfl (by first | exact hM.o | exact hl.o) (by decide) (Nat.le_refl _) (Nat.le_refl _) (Nat.le_of_ble_eq_true rfl) (h.ov hM (k := 1) rfl (by decide) (fun V1 a181 b181 => ?_))
                        refine aw_vret F C dM_readLine_184 rfl (Nat.le_refl _) (Nat.le_refl _) ?_
                        refine hK.2 V1 _ _ ?_ b181.pf a181
                        unfold pLine
                        rw [if_pos ?_]
                        rcases wnI0_cs t with q | ⟨k, q1, q2⟩
                        · exact q
                        · exfalso
                          have hv := (h.1.w0 q1).mpr q2
                          match k, q1, hv with
                          | 0, _, hv => exact w3 hv
                          | 1, _, hv => exact w19 hv
                          | 2, _, hv => exact w35 hv
                          | 3, _, hv => exact w51 hv
                          | 4, _, hv => exact w67 hv
                          | 5, _, hv => exact w83 hv
                          | 6, _, hv => exact w99 hv
                          | 7, _, hv => exact w115 hv
                          | 8, _, hv => exact w131 hv
                          | 9, _, hv => exact w148 hv
                          | 10, _, hv => exact w165 hv
/-- the ways on of a text's reading -/
def RaK (K : Option AV → Mem → Prop) (V : Nat → Nat → Int) (σ : Shp) (e : Nat) (po : TL ⊕ (Nat × Nat)) : Prop := (∀ V' r', po = .inl r'.1 → PF V V' e → LR V' e r' → okN r' → okRd r' → 0 < tDn r'.1 → V' 53 12 = 0 → K none (V', σ)) ∧ ∀ V' c p, po = .inr (c, p) → PF V V' e → OV V' c p → K none (V', σ)
theorem OV.pos {c p : Nat} (h : OV V c p) : 0 < c := h.2.2.2
/-- over: nothing more is done -/
theorem raO (hM : moS σ l) (hl : laS σ e) (h4p : sP σ 53 4 = e) {X : CT} {y : Int} (F : Fx X mM_readAll) (C : Rx X 10 0 0 K) (ho : V 53 9 = 5) (hy : y = 0) (hK : K none (V, σ)) : AW X 2 [some (vR 53), some (vI y)] [] (V, σ) 0 0 := by
  have hm := C.rm
  refine aw_iload_1 (q := 3) F dM_readAll_2 rfl ?_
  refine aw_if_eq (q := 6) (t := 18) F dM_readAll_3 rfl (by decide) (fun c3 => ?_) (fun c3 => by omega)
  refine aw_aload_0 (q := 19) F dM_readAll_18 rfl ?_
  refine av_geti (q := 22) F fM_78 dM_readAll_19 rfl rfl (by first | exact hM.o | exact hl.o) ?_
  refine aw_iconst (q := 23) F dM_readAll_22 rfl (by decide) ?_
  refine aw_icmp_eq (q := 26) (t := 31) F dM_readAll_23 rfl (by decide) (fun c23 => by exact absurd (ho.symm.trans c23) (by decide)) (fun c23 => ?_)
  refine aw_aload_0 (q := 27) F dM_readAll_26 rfl ?_
  refine aw_iconst (q := 28) F dM_readAll_27 rfl (by decide) ?_
  refine av_callV1 (q := 31) (ci := 9) F hm mM_flaw_i mM_flaw_n lM_143 dM_readAll_28 rfl rfl rfl (by first | exact hM.o | exact hl.o) (by decide) (Nat.le_refl _) (Nat.le_refl _) (Nat.le_of_ble_eq_true rfl) (wM_flawO hM ho ?_)
  refine aw_aload_0 (q := 32) F dM_readAll_31 rfl ?_
  refine av_getaE (q := 35) F fM_147 dM_readAll_32 rfl rfl (by first | exact hM.o | exact hl.o) h4p ?_
  refine av_geti (q := 38) F fM_183 dM_readAll_35 rfl rfl (by first | exact hM.o | exact hl.o) ?_
  refine aw_if_ne (q := 41) (t := 47) F dM_readAll_38 rfl (by decide) (fun c38 => ?_) (fun c38 => ?_)
  · refine aw_vret F C dM_readAll_47 rfl (Nat.le_refl _) (Nat.le_refl _) ?_
    exact hK
  · refine aw_aload_0 (q := 42) F dM_readAll_41 rfl ?_
    refine aw_bipush (q := 44) F dM_readAll_42 rfl (by decide) ?_
    refine av_callV1 (q := 47) (ci := 9) F hm mM_flaw_i mM_flaw_n lM_143 dM_readAll_44 rfl rfl rfl (by first | exact hM.o | exact hl.o) (by decide) (Nat.le_refl _) (Nat.le_refl _) (Nat.le_of_ble_eq_true rfl) (wM_flawO hM ho ?_)
    refine aw_vret F C dM_readAll_47 rfl (Nat.le_refl _) (Nat.le_refl _) ?_
    exact hK
theorem raE (hM : moS σ l) (hl : laS σ e) (h4p : sP σ 53 4 = e) (he : 64 ≤ e) {X : CT} {y : Int} (F : Fx X mM_readAll) (C : Rx X 10 0 0 K) (h : GS V1 e n B r t) (h3 : t.1 ≠ 3) (hF : PF V V1 e) {q : TL ⊕ (Nat × Nat)} (hy : y = 0) (hK : RaK K V σ e (if t.1 = 0 then (if 0 < tDn r.1 then .inl r.1 else .inr (6, t.2.1)) else if t.1 = 3 then q else .inr (1, t.2.1))) : AW X 2 [some (vR 53), some (vI y)] [] (V1, σ) 0 0 := by
  have hm := C.rm
  have e1 : V1 e 1 = tDn r.1 := h.2.1.1.2.1
  refine aw_iload_1 (q := 3) F dM_readAll_2 rfl ?_
  refine aw_if_eq (q := 6) (t := 18) F dM_readAll_3 rfl (by decide) (fun c3 => ?_) (fun c3 => by omega)
  refine aw_aload_0 (q := 19) F dM_readAll_18 rfl ?_
  refine av_geti (q := 22) F fM_78 dM_readAll_19 rfl rfl (by first | exact hM.o | exact hl.o) ?_
  refine aw_iconst (q := 23) F dM_readAll_22 rfl (by decide) ?_
  refine aw_icmp_eq (q := 26) (t := 31) F dM_readAll_23 rfl (by decide) (fun c23 => ?_) (fun c23 => ?_)
  · refine aw_aload_0 (q := 32) F dM_readAll_31 rfl ?_
    refine av_getaE (q := 35) F fM_147 dM_readAll_32 rfl rfl (by first | exact hM.o | exact hl.o) h4p ?_
    refine av_geti (q := 38) F fM_183 dM_readAll_35 rfl rfl (by first | exact hM.o | exact hl.o) ?_
    rw [e1]
    have t0 : t.1 = 0 := h.1.2.2.1.mpr c23
    rw [if_pos t0] at hK
    refine aw_if_ne (q := 41) (t := 47) F dM_readAll_38 rfl (by decide) (fun c38 => ?_) (fun c38 => ?_)
    · refine aw_vret F C dM_readAll_47 rfl (Nat.le_refl _) (Nat.le_refl _) ?_
      exact hK.1 V1 r (if_pos (by omega)) hF h.2.1 h.2.2.2.1 h.2.2.2.2.1 (by omega) h.2.2.2.2.2.2
    · refine aw_aload_0 (q := 42) F dM_readAll_41 rfl ?_
      refine aw_bipush (q := 44) F dM_readAll_42 rfl (by decide) ?_
      refine av_callV1 (q := 47) (ci := 9) F hm mM_flaw_i mM_flaw_n lM_143 dM_readAll_44 rfl rfl rfl (by first | exact hM.o | exact hl.o) (by decide) (Nat.le_refl _) (Nat.le_refl _) (Nat.le_of_ble_eq_true rfl) (h.ov hM (k := 6) rfl (by decide) (fun VO HO HQ => ?_))
      refine aw_vret F C dM_readAll_47 rfl (Nat.le_refl _) (Nat.le_refl _) ?_
      exact hK.2 VO _ _ (if_neg (by omega)) (hF.tr HQ.pf) HO
  · refine aw_aload_0 (q := 27) F dM_readAll_26 rfl ?_
    refine aw_iconst (q := 28) F dM_readAll_27 rfl (by decide) ?_
    refine av_callV1 (q := 31) (ci := 9) F hm mM_flaw_i mM_flaw_n lM_143 dM_readAll_28 rfl rfl rfl (by first | exact hM.o | exact hl.o) (by decide) (Nat.le_refl _) (Nat.le_refl _) (Nat.le_of_ble_eq_true rfl) (h.ov hM (k := 1) rfl (by decide) (fun VO HO HQ => ?_))
    have HK : K none (VO, σ) := hK.2 VO _ _ (by rw [if_neg (fun z => c23 (h.1.2.2.1.mp z)), if_neg h3]) (hF.tr HQ.pf) HO
    refine aw_aload_0 (q := 32) F dM_readAll_31 rfl ?_
    refine av_getaE (q := 35) F fM_147 dM_readAll_32 rfl rfl (by first | exact hM.o | exact hl.o) h4p ?_
    refine av_geti (q := 38) F fM_183 dM_readAll_35 rfl rfl (by first | exact hM.o | exact hl.o) ?_
    skip
    refine aw_if_ne (q := 41) (t := 47) F dM_readAll_38 rfl (by decide) (fun c38 => ?_) (fun c38 => ?_)
    · refine aw_vret F C dM_readAll_47 rfl (Nat.le_refl _) (Nat.le_refl _) ?_
      exact HK
    · refine aw_aload_0 (q := 42) F dM_readAll_41 rfl ?_
      refine aw_bipush (q := 44) F dM_readAll_42 rfl (by decide) ?_
      refine av_callV1 (q := 47) (ci := 9) F hm mM_flaw_i mM_flaw_n lM_143 dM_readAll_44 rfl rfl rfl (by first | exact hM.o | exact hl.o) (by decide) (Nat.le_refl _) (Nat.le_refl _) (Nat.le_of_ble_eq_true rfl) (wM_flawO hM HO.1 ?_)
      refine aw_vret F C dM_readAll_47 rfl (Nat.le_refl _) (Nat.le_refl _) ?_
      exact HK
theorem wM_readAll (hM : moS σ l) (hl : laS σ e) (h4p : sP σ 53 4 = e) (he : 64 ≤ e) (h : GS V e n B r t) {f : Nat} (hf : n < f + t.2.1) (hK : RaK K V σ e (pAll B n f r t)) : Wp G 10 mM_readAll [vR 53] (V, σ) 0 0 K := by
  refine wp_intro mM_readAll_i.1 [some (vR 53), none] rfl rfl (Nat.le_of_ble_eq_true rfl) ?_
  intro X hG F C
  have hm := C.rm
  have loop : ∀ (f : Nat) (V1 : Nat → Nat → Int) (r1 : PR) (t1 : TK) (y : Int), y = 1 → GS V1 e n B r1 t1 → PF V V1 e → n < f + t1.2.1 → RaK K V σ e (pAll B n f r1 t1) → AW X 2 [some (vR 53), some (vI y)] [] (V1, σ) 0 0 := by
    intro f
    induction f with
    | zero =>
      intro V1 r1 t1 y hy h1 hF hf hP
      exact absurd (Nat.le_trans h1.2.2.2.2.2.1.1 h1.2.2.2.2.2.1.2.1) (by omega)
    | succ f ih =>
      intro V1 r1 t1 y hy h1 hF hf hP
      rw [pAll_s] at hP
      refine aw_iload_1 (q := 3) F dM_readAll_2 rfl ?_
      refine aw_if_eq (q := 6) (t := 18) F dM_readAll_3 rfl (by decide) (fun c3 => by omega) (fun c3 => ?_)
      refine aw_aload_0 (q := 7) F dM_readAll_6 rfl ?_
      refine av_callV0 (q := 10) (ci := 9) F hm mM_readLine_i mM_readLine_n lM_177 dM_readAll_7 rfl rfl rfl (by first | exact hM.o | exact hl.o) (by decide) (Nat.le_refl _) (Nat.le_refl _) (Nat.le_of_ble_eq_true rfl) (wM_readLine hM hl h4p he h1 ⟨(fun V2 r7 q7 a7 b7 d7 => ?_), (fun V2 x7 p7 a7 b7 d7 => ?_)⟩)
      · rw [a7] at hP
        have o7 := pLine_ok h1.2.2.2.1 h1.2.2.2.2.2.1 a7
        obtain ⟨u7, p7, p71, p72, p73⟩ := pLine_rd h1.2.2.2.1 h1.2.2.2.2.1 h1.2.2.2.2.2.1 a7
        obtain ⟨m7, l7, x7, k7, z7⟩ := d7
        have G7 : GS V2 e n B r7 q7 := ⟨m7, l7, x7, o7, u7, k7, z7⟩
        have hP : RaK K V σ e (if q7.1 = 0 then (if 0 < tDn r7.1 then .inl r7.1 else .inr (6, q7.2.1)) else if q7.1 = 3 then pAll B n f r7 (nxT B n q7) else .inr (1, q7.2.1)) := hP
        refine aw_aload_0 (q := 11) F dM_readAll_10 rfl ?_
        refine av_callV0 (q := 14) (ci := 9) F hm mM_eatsSemicolon_i mM_eatsSemicolon_n lM_180 dM_readAll_11 rfl rfl rfl (by first | exact hM.o | exact hl.o) (by decide) (Nat.le_refl _) (Nat.le_refl _) (Nat.le_of_ble_eq_true rfl) (wM_eats hM x7 m7 k7.2.1 (fun a11 V3 f11 g11 => ?_) (fun a11 => ?_))
        · refine aw_istore_1 (q := 15) F dM_readAll_14 rfl trivial ?_
          refine aw_goto (t := 2) F dM_readAll_15 (by decide) ?_
          rw [if_neg (by omega), if_pos a11] at hP
          have s7 := lex_3 (B := B) (n := n) (p := p7) (by rw [← p73]; exact a11)
          rw [← p73] at s7
          have s8 := (lex_le (B := B) k7.2.1).2.2
          have s9 : (nxT B n q7).2.1 = (lexT B n q7.2.2.1).2.1 := rfl
          have s10 := (lex_le (B := B) p72).2.2
          rw [← p73] at s10
          exact ih V3 r7 (nxT B n q7) _ rfl (G7.nx f11 g11 he) ((hF.tr b7).tr f11.pf) (by omega) hP
        · refine aw_istore_1 (q := 15) F dM_readAll_14 rfl trivial ?_
          refine aw_goto (t := 2) F dM_readAll_15 (by decide) ?_
          exact raE hM hl h4p he F C G7 a11 (hF.tr b7) rfl hP
      · rw [a7] at hP
        have HK : K none (V2, σ) := hP.2 V2 _ _ rfl (hF.tr b7) d7
        refine aw_aload_0 (q := 11) F dM_readAll_10 rfl ?_
        refine av_callV0 (q := 14) (ci := 9) F hm mM_eatsSemicolon_i mM_eatsSemicolon_n lM_180 dM_readAll_11 rfl rfl rfl (by first | exact hM.o | exact hl.o) (by decide) (Nat.le_refl _) (Nat.le_refl _) (Nat.le_of_ble_eq_true rfl) (wM_eatsO hM d7.1 ?_)
        refine aw_istore_1 (q := 15) F dM_readAll_14 rfl trivial ?_
        refine aw_goto (t := 2) F dM_readAll_15 (by decide) ?_
        exact raO hM hl h4p F C d7.1 rfl HK
  refine aw_iconst (q := 1) F dM_readAll_0 rfl (by decide) ?_
  refine aw_istore_1 (q := 2) F dM_readAll_1 rfl trivial ?_
  exact loop f V r t _ rfl h (PF.rf V e) hf hK
end Mod49
