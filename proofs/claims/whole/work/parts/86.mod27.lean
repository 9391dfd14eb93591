theorem dM_comesBy_0 : decode mM_comesBy.2.1 0 = .ok (.aload_n 0, 1) := by decide +kernel
theorem dM_comesBy_1 : decode mM_comesBy.2.1 1 = .ok (.iconst 0, 1) := by decide +kernel
theorem dM_comesBy_2 : decode mM_comesBy.2.1 2 = .ok (.putfield 286, 3) := by decide +kernel
theorem dM_comesBy_5 : decode mM_comesBy.2.1 5 = .ok (.aload_n 0, 1) := by decide +kernel
theorem dM_comesBy_6 : decode mM_comesBy.2.1 6 = .ok (.invokevirtual 348, 3) := by decide +kernel
theorem dM_comesBy_9 : decode mM_comesBy.2.1 9 = .ok (.aload_n 0, 1) := by decide +kernel
theorem dM_comesBy_10 : decode mM_comesBy.2.1 10 = .ok (.getfield 21, 3) := by decide +kernel
theorem dM_comesBy_13 : decode mM_comesBy.2.1 13 = .ok (.bipush 11, 2) := by decide +kernel
theorem dM_comesBy_15 : decode mM_comesBy.2.1 15 = .ok (.dup2, 1) := by decide +kernel
theorem dM_comesBy_16 : decode mM_comesBy.2.1 16 = .ok (.iaload, 1) := by decide +kernel
theorem dM_comesBy_17 : decode mM_comesBy.2.1 17 = .ok (.iload_n 3, 1) := by decide +kernel
theorem dM_comesBy_18 : decode mM_comesBy.2.1 18 = .ok (.ior, 1) := by decide +kernel
theorem dM_comesBy_19 : decode mM_comesBy.2.1 19 = .ok (.iastore, 1) := by decide +kernel
theorem dM_comesBy_20 : decode mM_comesBy.2.1 20 = .ok (.aload_n 0, 1) := by decide +kernel
theorem dM_comesBy_21 : decode mM_comesBy.2.1 21 = .ok (.invokevirtual 351, 3) := by decide +kernel
theorem dM_comesBy_24 : decode mM_comesBy.2.1 24 = .ok (.iconst 0, 1) := by decide +kernel
theorem dM_comesBy_25 : decode mM_comesBy.2.1 25 = .ok (.istore 4, 2) := by decide +kernel
theorem dM_comesBy_27 : decode mM_comesBy.2.1 27 = .ok (.iload 4, 2) := by decide +kernel
theorem dM_comesBy_29 : decode mM_comesBy.2.1 29 = .ok (.aload_n 0, 1) := by decide +kernel
theorem dM_comesBy_30 : decode mM_comesBy.2.1 30 = .ok (.getfield 333, 3) := by decide +kernel
theorem dM_comesBy_33 : decode mM_comesBy.2.1 33 = .ok (.if_icmp .ge 32, 3) := by decide +kernel
theorem dM_comesBy_36 : decode mM_comesBy.2.1 36 = .ok (.aload_n 0, 1) := by decide +kernel
theorem dM_comesBy_37 : decode mM_comesBy.2.1 37 = .ok (.aload_n 0, 1) := by decide +kernel
theorem dM_comesBy_38 : decode mM_comesBy.2.1 38 = .ok (.getfield 37, 3) := by decide +kernel
theorem dM_comesBy_41 : decode mM_comesBy.2.1 41 = .ok (.iload 4, 2) := by decide +kernel
theorem dM_comesBy_43 : decode mM_comesBy.2.1 43 = .ok (.iaload, 1) := by decide +kernel
theorem dM_comesBy_44 : decode mM_comesBy.2.1 44 = .ok (.invokevirtual 339, 3) := by decide +kernel
theorem dM_comesBy_47 : decode mM_comesBy.2.1 47 = .ok (.aload_n 0, 1) := by decide +kernel
theorem dM_comesBy_48 : decode mM_comesBy.2.1 48 = .ok (.getfield 21, 3) := by decide +kernel
theorem dM_comesBy_51 : decode mM_comesBy.2.1 51 = .ok (.iload_n 1, 1) := by decide +kernel
theorem dM_comesBy_52 : decode mM_comesBy.2.1 52 = .ok (.iaload, 1) := by decide +kernel
theorem dM_comesBy_53 : decode mM_comesBy.2.1 53 = .ok (.iload_n 2, 1) := by decide +kernel
theorem dM_comesBy_54 : decode mM_comesBy.2.1 54 = .ok (.if_icmp .ne 5, 3) := by decide +kernel
theorem dM_comesBy_57 : decode mM_comesBy.2.1 57 = .ok (.iconst 1, 1) := by decide +kernel
theorem dM_comesBy_58 : decode mM_comesBy.2.1 58 = .ok (.ireturn, 1) := by decide +kernel
theorem dM_comesBy_59 : decode mM_comesBy.2.1 59 = .ok (.iinc 4 1, 3) := by decide +kernel
theorem dM_comesBy_62 : decode mM_comesBy.2.1 62 = .ok (.goto (-35), 3) := by decide +kernel
theorem dM_comesBy_65 : decode mM_comesBy.2.1 65 = .ok (.iconst 0, 1) := by decide +kernel
theorem dM_comesBy_66 : decode mM_comesBy.2.1 66 = .ok (.ireturn, 1) := by decide +kernel
theorem dM_nails_0 : decode mM_nails.2.1 0 = .ok (.aload_n 0, 1) := by decide +kernel
theorem dM_nails_1 : decode mM_nails.2.1 1 = .ok (.iconst 0, 1) := by decide +kernel
theorem dM_nails_2 : decode mM_nails.2.1 2 = .ok (.putfield 46, 3) := by decide +kernel
theorem dM_nails_5 : decode mM_nails.2.1 5 = .ok (.aload_n 0, 1) := by decide +kernel
theorem dM_nails_6 : decode mM_nails.2.1 6 = .ok (.iload_n 1, 1) := by decide +kernel
theorem dM_nails_7 : decode mM_nails.2.1 7 = .ok (.invokevirtual 361, 3) := by decide +kernel
theorem dM_nails_10 : decode mM_nails.2.1 10 = .ok (.ifCond .eq 11, 3) := by decide +kernel
theorem dM_nails_13 : decode mM_nails.2.1 13 = .ok (.aload_n 0, 1) := by decide +kernel
theorem dM_nails_14 : decode mM_nails.2.1 14 = .ok (.iload_n 2, 1) := by decide +kernel
theorem dM_nails_15 : decode mM_nails.2.1 15 = .ok (.invokevirtual 354, 3) := by decide +kernel
theorem dM_nails_18 : decode mM_nails.2.1 18 = .ok (.ifCond .ne 9, 3) := by decide +kernel
theorem dM_nails_21 : decode mM_nails.2.1 21 = .ok (.aload_n 0, 1) := by decide +kernel
theorem dM_nails_22 : decode mM_nails.2.1 22 = .ok (.iconst 1, 1) := by decide +kernel
theorem dM_nails_23 : decode mM_nails.2.1 23 = .ok (.invokevirtual 52, 3) := by decide +kernel
theorem dM_nails_26 : decode mM_nails.2.1 26 = .ok (.ireturn, 1) := by decide +kernel
theorem dM_nails_27 : decode mM_nails.2.1 27 = .ok (.iconst 0, 1) := by decide +kernel
theorem dM_nails_28 : decode mM_nails.2.1 28 = .ok (.istore_n 3, 1) := by decide +kernel
theorem dM_nails_29 : decode mM_nails.2.1 29 = .ok (.iconst 0, 1) := by decide +kernel
theorem dM_nails_30 : decode mM_nails.2.1 30 = .ok (.istore 4, 2) := by decide +kernel
theorem dM_nails_32 : decode mM_nails.2.1 32 = .ok (.iload 4, 2) := by decide +kernel
theorem dM_nails_34 : decode mM_nails.2.1 34 = .ok (.aload_n 0, 1) := by decide +kernel
theorem dM_nails_35 : decode mM_nails.2.1 35 = .ok (.getfield 281, 3) := by decide +kernel
theorem dM_nails_38 : decode mM_nails.2.1 38 = .ok (.getfield 183, 3) := by decide +kernel
theorem dM_nails_41 : decode mM_nails.2.1 41 = .ok (.if_icmp .ge 47, 3) := by decide +kernel
theorem dM_nails_44 : decode mM_nails.2.1 44 = .ok (.iload_n 3, 1) := by decide +kernel
theorem dM_nails_45 : decode mM_nails.2.1 45 = .ok (.aload_n 0, 1) := by decide +kernel
theorem dM_nails_46 : decode mM_nails.2.1 46 = .ok (.getfield 17, 3) := by decide +kernel
theorem dM_nails_49 : decode mM_nails.2.1 49 = .ok (.iconst 2, 1) := by decide +kernel
theorem dM_nails_50 : decode mM_nails.2.1 50 = .ok (.iload 4, 2) := by decide +kernel
theorem dM_nails_52 : decode mM_nails.2.1 52 = .ok (.iadd, 1) := by decide +kernel
theorem dM_nails_53 : decode mM_nails.2.1 53 = .ok (.iaload, 1) := by decide +kernel
theorem dM_nails_54 : decode mM_nails.2.1 54 = .ok (.ifCond .ne 25, 3) := by decide +kernel
theorem dM_nails_57 : decode mM_nails.2.1 57 = .ok (.aload_n 0, 1) := by decide +kernel
theorem dM_nails_58 : decode mM_nails.2.1 58 = .ok (.getfield 17, 3) := by decide +kernel
theorem dM_nails_61 : decode mM_nails.2.1 61 = .ok (.bipush 11, 2) := by decide +kernel
theorem dM_nails_63 : decode mM_nails.2.1 63 = .ok (.iaload, 1) := by decide +kernel
theorem dM_nails_64 : decode mM_nails.2.1 64 = .ok (.iload 4, 2) := by decide +kernel
theorem dM_nails_66 : decode mM_nails.2.1 66 = .ok (.invokestatic 241, 3) := by decide +kernel
theorem dM_nails_69 : decode mM_nails.2.1 69 = .ok (.ifCond .ne 10, 3) := by decide +kernel
theorem dM_nails_72 : decode mM_nails.2.1 72 = .ok (.iconst 1, 1) := by decide +kernel
theorem dM_nails_73 : decode mM_nails.2.1 73 = .ok (.iload 4, 2) := by decide +kernel
theorem dM_nails_75 : decode mM_nails.2.1 75 = .ok (.ishl, 1) := by decide +kernel
theorem dM_nails_76 : decode mM_nails.2.1 76 = .ok (.goto 4, 3) := by decide +kernel
theorem dM_nails_79 : decode mM_nails.2.1 79 = .ok (.iconst 0, 1) := by decide +kernel
theorem dM_nails_80 : decode mM_nails.2.1 80 = .ok (.ior, 1) := by decide +kernel
theorem dM_nails_81 : decode mM_nails.2.1 81 = .ok (.istore_n 3, 1) := by decide +kernel
theorem dM_nails_82 : decode mM_nails.2.1 82 = .ok (.iinc 4 1, 3) := by decide +kernel
theorem dM_nails_85 : decode mM_nails.2.1 85 = .ok (.goto (-53), 3) := by decide +kernel
theorem dM_nails_88 : decode mM_nails.2.1 88 = .ok (.bipush (-2), 2) := by decide +kernel
theorem dM_nails_90 : decode mM_nails.2.1 90 = .ok (.istore 4, 2) := by decide +kernel
theorem dM_nails_92 : decode mM_nails.2.1 92 = .ok (.iconst 0, 1) := by decide +kernel
theorem dM_nails_93 : decode mM_nails.2.1 93 = .ok (.istore 5, 2) := by decide +kernel
theorem dM_nails_95 : decode mM_nails.2.1 95 = .ok (.iload 5, 2) := by decide +kernel
theorem dM_nails_97 : decode mM_nails.2.1 97 = .ok (.iload_n 3, 1) := by decide +kernel
theorem dM_nails_98 : decode mM_nails.2.1 98 = .ok (.if_icmp .gt 58, 3) := by decide +kernel
theorem dM_nails_101 : decode mM_nails.2.1 101 = .ok (.iload 5, 2) := by decide +kernel
theorem dM_nails_103 : decode mM_nails.2.1 103 = .ok (.iload_n 3, 1) := by decide +kernel
theorem dM_nails_104 : decode mM_nails.2.1 104 = .ok (.iconst (-1), 1) := by decide +kernel
theorem dM_nails_105 : decode mM_nails.2.1 105 = .ok (.ixor, 1) := by decide +kernel
theorem dM_nails_106 : decode mM_nails.2.1 106 = .ok (.iand, 1) := by decide +kernel
theorem dM_nails_107 : decode mM_nails.2.1 107 = .ok (.ifCond .ne 43, 3) := by decide +kernel
theorem dM_nails_110 : decode mM_nails.2.1 110 = .ok (.iload 4, 2) := by decide +kernel
theorem dM_nails_112 : decode mM_nails.2.1 112 = .ok (.bipush (-2), 2) := by decide +kernel
theorem dM_nails_114 : decode mM_nails.2.1 114 = .ok (.if_icmp .eq 19, 3) := by decide +kernel
theorem dM_nails_117 : decode mM_nails.2.1 117 = .ok (.iload 5, 2) := by decide +kernel
theorem dM_nails_119 : decode mM_nails.2.1 119 = .ok (.invokestatic 296, 3) := by decide +kernel
theorem dM_nails_122 : decode mM_nails.2.1 122 = .ok (.iload 4, 2) := by decide +kernel
theorem dM_nails_124 : decode mM_nails.2.1 124 = .ok (.invokestatic 296, 3) := by decide +kernel
theorem dM_nails_127 : decode mM_nails.2.1 127 = .ok (.if_icmp .lt 6, 3) := by decide +kernel
theorem dM_nails_130 : decode mM_nails.2.1 130 = .ok (.goto 20, 3) := by decide +kernel
theorem dM_nails_133 : decode mM_nails.2.1 133 = .ok (.aload_n 0, 1) := by decide +kernel
theorem dM_nails_134 : decode mM_nails.2.1 134 = .ok (.iload_n 1, 1) := by decide +kernel
theorem dM_nails_135 : decode mM_nails.2.1 135 = .ok (.iload_n 2, 1) := by decide +kernel
theorem dM_nails_136 : decode mM_nails.2.1 136 = .ok (.iconst 1, 1) := by decide +kernel
theorem dM_nails_137 : decode mM_nails.2.1 137 = .ok (.iadd, 1) := by decide +kernel
theorem dM_nails_138 : decode mM_nails.2.1 138 = .ok (.iload 5, 2) := by decide +kernel
theorem dM_nails_140 : decode mM_nails.2.1 140 = .ok (.invokevirtual 406, 3) := by decide +kernel
theorem dM_nails_143 : decode mM_nails.2.1 143 = .ok (.ifCond .ne 7, 3) := by decide +kernel
theorem dM_nails_146 : decode mM_nails.2.1 146 = .ok (.iload 5, 2) := by decide +kernel
theorem dM_nails_148 : decode mM_nails.2.1 148 = .ok (.istore 4, 2) := by decide +kernel
theorem dM_nails_150 : decode mM_nails.2.1 150 = .ok (.iinc 5 1, 3) := by decide +kernel
theorem dM_nails_153 : decode mM_nails.2.1 153 = .ok (.goto (-58), 3) := by decide +kernel
theorem dM_nails_156 : decode mM_nails.2.1 156 = .ok (.aload_n 0, 1) := by decide +kernel
theorem dM_nails_157 : decode mM_nails.2.1 157 = .ok (.iload 4, 2) := by decide +kernel
theorem dM_nails_159 : decode mM_nails.2.1 159 = .ok (.invokevirtual 56, 3) := by decide +kernel
theorem dM_nails_162 : decode mM_nails.2.1 162 = .ok (.ireturn, 1) := by decide +kernel
theorem fbF_sp (f : Nat → Bool) : ∀ n, (fbF f n = -1 ∧ ∀ k, k < n → f k = false) ∨ ∃ k : Nat, fbF f n = k ∧ k < n ∧ f k = true ∧ ∀ j, j < k → f j = false
  | 0 => Or.inl ⟨rfl, fun k hk => absurd hk (by omega)⟩
  | n + 1 => by
    show ((if fbF f n = -1 then (if f n then (n : Int) else -1) else fbF f n) = -1 ∧ _) ∨ ∃ k : Nat, (if fbF f n = -1 then (if f n then (n : Int) else -1) else fbF f n) = k ∧ _
    rcases fbF_sp f n with ⟨h, g⟩ | ⟨k, h, g1, g2, g3⟩
    · rw [if_pos h]
      cases hf : f n
      · rw [if_neg Bool.false_ne_true]
        refine Or.inl ⟨rfl, fun k hk => ?_⟩
        by_cases e : k = n
        · rw [e]; exact hf
        · exact g k (by omega)
      · rw [if_pos rfl]
        exact Or.inr ⟨n, rfl, by omega, hf, g⟩
    · rw [if_neg (by rw [h]; omega)]
      exact Or.inr ⟨k, h, by omega, g2, g3⟩
-- the fewest doors to nail, said otherwise
def ltP (a b : Nat) : Prop := pc4 a < pc4 b ∨ (pc4 a = pc4 b ∧ a ≤ b)
theorem ltP_as {a b : Nat} (h : ltP a b) (g : ltP b a) : a = b := by
  rcases h with h | h <;> rcases g with g | g <;> omega
theorem ltP_tr {a b d : Nat} (h : ltP a b) (g : ltP b d) : ltP a d := by
  rcases h with h | h <;> rcases g with g | g
  · exact Or.inl (by omega)
  · exact Or.inl (by omega)
  · exact Or.inl (by omega)
  · exact Or.inr (by omega)
def okD (S : PS) (P d : Nat) : Prop := (d < 2 ^ tDn (psT S) ∧ d - (d &&& shN S) = 0) ∧ kpB S P d = true
def NB (S : PS) (P : Nat) (r : Int) : Prop := (r = -2 ∧ ∀ d, ¬ okD S P d) ∨ ∃ m : Nat, r = m ∧ okD S P m ∧ ∀ d, okD S P d → ltP m d
theorem NB.one {S : PS} {P : Nat} {r q : Int} (h : NB S P r) (g : NB S P q) : r = q := by
  rcases h with ⟨h1, h2⟩ | ⟨m, h1, h2, h3⟩ <;> rcases g with ⟨g1, g2⟩ | ⟨k, g1, g2, g3⟩
  · rw [h1, g1]
  · exact absurd g2 (h2 k)
  · exact absurd h2 (g2 m)
  · rw [h1, g1, ltP_as (h3 k g2) (g3 m h2)]
theorem pc4_d : ∀ D : Nat, D < 5 → ∀ d : Nat, d < 16 → d < 2 ^ D → pc4 d ≤ D := by decide +kernel
theorem nlT_iff {S : PS} {P k d : Nat} (hd : d < 2 ^ tDn (psT S)) : nlT S P k d = true ↔ okD S P d ∧ pc4 d = k := by
  unfold nlT okD
  rw [Bool.and_eq_true, Bool.and_eq_true, beq_iff_eq, beq_iff_eq]
  exact ⟨fun h => ⟨⟨⟨hd, h.1.1⟩, h.2⟩, h.1.2⟩, fun h => ⟨⟨h.1.1.2, h.2⟩, h.1.2⟩⟩
theorem nlH_sp {S : PS} {P : Nat} (h4 : tDn (psT S) ≤ 4) : ∀ f k, f + k = tDn (psT S) + 1 → (∀ d, okD S P d → k ≤ pc4 d) → NB S P (nlH S P f k)
  | 0, k, hk, h => by
    refine Or.inl ⟨rfl, fun d hd => ?_⟩
    have h1 := h d hd
    have h2 := pc4_d _ (by omega) d (Nat.lt_of_lt_of_le hd.1.1 (two_le h4)) hd.1.1
    omega
  | f + 1, k, hk, h => by
    show NB S P (if fbF (nlT S P k) (2 ^ tDn (psT S)) = -1 then nlH S P f (k + 1) else fbF (nlT S P k) (2 ^ tDn (psT S)))
    rcases fbF_sp (nlT S P k) (2 ^ tDn (psT S)) with ⟨e, g⟩ | ⟨m, e, g1, g2, g3⟩
    · rw [if_pos e]
      refine nlH_sp h4 f (k + 1) (by omega) (fun d hd => ?_)
      have h1 := h d hd
      have h2 : pc4 d ≠ k := fun q => by
        have := (nlT_iff (S := S) (P := P) (k := k) hd.1.1).mpr ⟨hd, q⟩
        rw [g d hd.1.1] at this
        cases this
      omega
    · rw [if_neg (by rw [e]; omega), e]
      have hm := (nlT_iff g1).mp g2
      refine Or.inr ⟨m, rfl, hm.1, fun d hd => ?_⟩
      have h1 := h d hd
      by_cases q : pc4 d = k
      · refine Or.inr ⟨hm.2.trans q.symm, ?_⟩
        refine Classical.byContradiction fun hlt => ?_
        have := (nlT_iff (S := S) (P := P) (k := k) hd.1.1).mpr ⟨hd, q⟩
        rw [g3 d (by omega)] at this
        cases this
      · exact Or.inl (by omega)
/-- doors that are shut and not nailed -/
def shM (S : PS) : Nat := bsum (fun d => ld (psC S) (psA S) d == 0 && !(psS S).2.1.testBit d) (tDn (psT S))
theorem nail_t1 : ∀ n : Nat, n < 16 → ∀ d : Nat, d < 16 → (n ||| (d - (d &&& n))) = (n ||| d) := by decide +kernel
theorem nail_t2 : ∀ n : Nat, n < 16 → ∀ d : Nat, d < 16 → d - (d &&& n) ≤ d ∧ pc4 (d - (d &&& n)) ≤ pc4 d ∧ (pc4 (d - (d &&& n)) = pc4 d → d - (d &&& n) = d) := by decide +kernel
theorem sub_t : ∀ s : Nat, s < 16 → ∀ d : Nat, d < 16 → (d - (d &&& s) = 0 ↔ ∀ b : Nat, b < 4 → d.testBit b = true → s.testBit b = true) := by decide +kernel
theorem dif_t : ∀ s : Nat, s < 16 → ∀ d : Nat, d < 16 → ∀ b : Nat, b < 4 → (d - (d &&& s)).testBit b = (d.testBit b && !s.testBit b) := by decide +kernel
theorem sub_le : ∀ s : Nat, s < 16 → ∀ d : Nat, d < 16 → d - (d &&& s) = 0 → d ≤ s := by decide +kernel
theorem all_t : ∀ D : Nat, D < 5 → ∀ b : Nat, b < 4 → (2 ^ D - 1).testBit b = decide (b < D) := by decide +kernel
theorem shN_tb {S : PS} (h4 : tDn (psT S) ≤ 4) {b : Nat} (hb : b < 4) : (shN S).testBit b = (decide (b < tDn (psT S)) && ld (psC S) (psA S) b == 0) := by
  have h16 := two_le h4
  have ho : opN S < 16 := Nat.lt_of_lt_of_le (bsum_lt _ _) h16
  have hp : 0 < 2 ^ tDn (psT S) := Nat.pow_pos (by decide)
  unfold shN
  rw [dif_t _ ho _ (by omega) b hb, all_t _ (by omega) b hb]
  unfold opN
  rw [bsum_tb]
  by_cases q : b < tDn (psT S)
  · rw [decide_eq_true q, Bool.true_and, Bool.true_and, Bool.true_and]
    cases e : ld (psC S) (psA S) b == 0
    · rw [show (ld (psC S) (psA S) b != 0) = true from by rw [bne, e]; rfl]; rfl
    · rw [show (ld (psC S) (psA S) b != 0) = false from by rw [bne, e]; rfl]; rfl
  · rw [decide_eq_false q, Bool.false_and, Bool.false_and]
theorem shM_tb {S : PS} {b : Nat} : (shM S).testBit b = (decide (b < tDn (psT S)) && (ld (psC S) (psA S) b == 0 && !(psS S).2.1.testBit b)) := bsum_tb _ _ _
theorem kpB_nl {S : PS} {P d : Nat} (hn : (psS S).2.1 < 16) (hd : d < 16) : kpB S P (d - (d &&& (psS S).2.1)) = kpB S P d := by
  unfold kpB
  rw [nail_t1 _ hn d hd]
/-- the reference looks at fewer sets, and finds the same -/
theorem NB_of {S : PS} {P : Nat} {r : Int} (h4 : tDn (psT S) ≤ 4) (hn : (psS S).2.1 < 2 ^ tDn (psT S)) (h : (r = -2 ∧ ∀ d, d - (d &&& shM S) = 0 → d < 2 ^ tDn (psT S) → kpB S P d = false) ∨ ∃ m : Nat, r = m ∧ (m < 2 ^ tDn (psT S) ∧ m - (m &&& shM S) = 0 ∧ kpB S P m = true) ∧ ∀ d, d - (d &&& shM S) = 0 → d < 2 ^ tDn (psT S) → kpB S P d = true → ltP m d) : NB S P r := by
  have h16 := two_le h4
  have hn16 : (psS S).2.1 < 16 := by omega
  have hsM : shM S < 16 := Nat.lt_of_lt_of_le (bsum_lt _ _) h16
  have hp : 0 < 2 ^ tDn (psT S) := Nat.pow_pos (by decide)
  have hsN : shN S < 16 := by unfold shN; omega
  have up : ∀ d, d < 2 ^ tDn (psT S) → d - (d &&& shM S) = 0 → d - (d &&& shN S) = 0 := fun d h1 h2 => by
    refine (sub_t _ hsN d (by omega)).mpr fun b hb ht => ?_
    have h3 := (sub_t _ hsM d (by omega)).mp h2 b hb ht
    rw [shM_tb] at h3
    rw [shN_tb h4 hb]
    revert h3
    cases decide (b < tDn (psT S)) <;> cases (ld (psC S) (psA S) b == 0) <;> cases ((psS S).2.1.testBit b) <;> simp
  have dn : ∀ d, d < 2 ^ tDn (psT S) → d - (d &&& shN S) = 0 → (d - (d &&& (psS S).2.1)) - ((d - (d &&& (psS S).2.1)) &&& shM S) = 0 := fun d h1 h2 => by
    refine (sub_t _ hsM _ (by omega)).mpr fun b hb ht => ?_
    rw [dif_t _ hn16 d (by omega) b hb, Bool.and_eq_true] at ht
    have h3 := (sub_t _ hsN d (by omega)).mp h2 b hb ht.1
    rw [shN_tb h4 hb] at h3
    rw [shM_tb, ht.2, Bool.and_true]
    exact h3
  rcases h with ⟨h1, h2⟩ | ⟨m, h1, ⟨m1, m2, m3⟩, h2⟩
  · refine Or.inl ⟨h1, fun d hd => ?_⟩
    have h3 := h2 _ (dn d hd.1.1 hd.1.2) (by have := hd.1.1; omega)
    rw [kpB_nl hn16 (by have := hd.1.1; omega), hd.2] at h3
    cases h3
  · refine Or.inr ⟨m, h1, ⟨⟨m1, up m m1 m2⟩, m3⟩, fun d hd => ?_⟩
    have hd16 : d < 16 := by have := hd.1.1; omega
    have h3 := h2 _ (dn d hd.1.1 hd.1.2) (by have := hd.1.1; omega) (by rw [kpB_nl hn16 hd16]; exact hd.2)
    obtain ⟨t1, t2, t3⟩ := nail_t2 _ hn16 d hd16
    refine ltP_tr h3 ?_
    by_cases e : pc4 (d - (d &&& (psS S).2.1)) = pc4 d
    · exact Or.inr ⟨e, t1⟩
    · exact Or.inl (by omega)
section Mod27
variable {G : GE} {V : Nat → Nat → Int} {σ : Shp} {K : Option AV → Mem → Prop} {l : Nat} {c : Cfg} {n : Nat} {S : PS}
theorem wM_comesBy {p x z : Int} {d : Nat} (hp : 0 ≤ p ∧ p < tPn (psT S)) (hx : 0 ≤ x) (hz : z = d) (hd2 : d < 2 ^ tDn (psT S)) (h : MW V σ l S) (hd : 0 < tDn (psT S)) (hK : ∀ V', MF V V' → V' 53 26 = 0 → K (some (vI (bz (!kpB S (plW S p x) d)))) (V', σ)) : Wp G 4 mM_comesBy [vR 53, vI p, vI x, vI z] (V, σ) 0 0 K := by
  have hM := h.mo
  have hl := h.la hd
  have h64 := h.h64 hd
  have hc0 := h.hc
  have hp2 : tPn (psT S) ≤ 2 := hc0.2.1
  have h4 : tDn (psT S) ≤ 4 := hc0.1
  have h16 := two_le h4
  have hor : (psS S).2.1 ||| d < 2 ^ tDn (psT S) := Nat.or_lt_two_pow h.1.2.2.2.1.2.2.1 hd2
  have hc : okC (cfS (psT S) ((psS S).1, (psS S).2.1 ||| d, psA S)) := ⟨hc0.1, hc0.2.1, hc0.2.2.1, hc0.2.2.2.1, hc0.2.2.2.2.1, show (psS S).2.1 ||| d < 16 by omega⟩
  have hn : psA S < spc (cfS (psT S) ((psS S).1, (psS S).2.1 ||| d, psA S)) := h.hn hd
  have hLC : LC V l (cfS (psT S) ((psS S).1, (psS S).2.1 ||| d, psA S)) := h.lc hd
  have hpw : ∀ q : Nat × Nat, fitP (cfS (psT S) ((psS S).1, (psS S).2.1 ||| d, psA S)) (plW S p x) q = (pl (psC S) q.1 p.toNat == x.toNat) := fun q => by
    have := plW_iff (S := S) (p := p.toNat) (r := x.toNat) (q := q) hc0 (show p.toNat < tPn (psT S) by omega)
    rw [show ((p.toNat : Nat) : Int) = p by omega, show ((x.toNat : Nat) : Int) = x by omega] at this
    exact this
  have ekp : kpB S (plW S p x) d = (ffO (cfS (psT S) ((psS S).1, (psS S).2.1 ||| d, psA S)) (plW S p x) (fuS (cfS (psT S) ((psS S).1, (psS S).2.1 ||| d, psA S)) (psA S)).1).isNone := rfl
  rw [ekp] at hK
  have hpl : ∀ m, pl (cfS (psT S) ((psS S).1, (psS S).2.1 ||| d, psA S)) m p.toNat = pl (psC S) m p.toNat := fun _ => rfl
  have hAC : ∀ f : Nat → Int, AR f (psC S) (psA S) → ∀ g : Nat → Int, (∀ k, k < 12 → k ≠ 11 → g k = f k) → g 11 = ((psS S).2.1 ||| d : Nat) → AR g (cfS (psT S) ((psS S).1, (psS S).2.1 ||| d, psA S)) (psA S) := fun f hA g e1 e2 => by
    obtain ⟨b1, b2, b3, b4, -⟩ := hA
    exact ⟨fun p hp => (e1 p (by omega) (by omega)).trans (b1 p hp), fun d hd => (e1 _ (by omega) (by omega)).trans (b2 d hd), (e1 6 (by omega) (by omega)).trans b3, fun d hd => (e1 _ (by omega) (by omega)).trans (b4 d hd), e2⟩
  have hok := fu_ok hn
  have hlen := okQ_len hok
  have hsp := spc_le hc
  have hpN : tPn (psT S) = pN (cfS (psT S) ((psS S).1, (psS S).2.1 ||| d, psA S)) := rfl
  generalize cfS (psT S) ((psS S).1, (psS S).2.1 ||| d, psA S) = c at hc hn hLC hpw hK hpl hAC hok hlen hsp hpN
  refine wp_intro mM_comesBy_i.1 [some (vR 53), some (vI p), some (vI x), some (vI z), none] rfl rfl (Nat.le_of_ble_eq_true rfl) ?_
  intro X hG F C
  have hm := C.rm
  have loop : ∀ (j i : Nat), i + j = (fuS c (psA S)).1.length → ∀ (V1 : Nat → Nat → Int) (z4 : Int) (m : Nat), MF V V1 → V1 53 26 = 0 → RQ V1 c (fuS c (psA S)).1 → AR (V1 56) c m → z4 = i → (∀ j q, j < i → (fuS c (psA S)).1[j]? = some q → fitP c (plW S p x) q = false) → AW X 27 [some (vR 53), some (vI p), some (vI x), some (vI z), some (vI z4)] [] (V1, σ) 0 0 := by
    intro j
    induction j with
    | zero =>
      intro i hi V1 z4 m hF h0 hR hA hz4 hI
      have h25 := hR.1
      refine aw_iload_4 (q := 29) F dM_comesBy_27 rfl ?_
      refine aw_aload_0 (q := 30) F dM_comesBy_29 rfl ?_
      refine av_geti (q := 33) F fM_333 dM_comesBy_30 rfl rfl (by first | exact hM.o | exact hl.o | exact hM.a55 | exact hM.a56 | exact hM.a59 | exact hM.a60 | exact hM.a61 | exact hM.a62) ?_
      rw [h25]
      refine aw_icmp_ge (q := 36) (t := 65) F dM_comesBy_33 rfl (by decide) (fun c33 => ?_) (fun c33 => by omega)
      refine aw_iconst (q := 66) F dM_comesBy_65 rfl (by decide) ?_
      refine aw_zret F C dM_comesBy_66 rfl (by decide) (Nat.le_refl _) (Nat.le_refl _) ?_
      have hh := hK V1 hF h0; rw [ffO_all fun j q hq => hI j q (by have := (List.getElem?_eq_some_iff.mp hq).1; omega) hq] at hh; exact hh
    | succ j ih =>
      intro i hi V1 z4 m hF h0 hR hA hz4 hI
      have h25 := hR.1
      have hq : (fuS c (psA S)).1[i]? = some (fuS c (psA S)).1[i] := List.getElem?_eq_getElem (by omega)
      generalize (fuS c (psA S)).1[i] = q at hq
      have hqs := hok.2.1 q (List.mem_of_getElem? hq)
      have e61 : V1 61 z4.toNat = mnN c q.1 := by rw [show z4.toNat = i by omega]; exact (hR.2.2 i q hq).1
      refine aw_iload_4 (q := 29) F dM_comesBy_27 rfl ?_
      refine aw_aload_0 (q := 30) F dM_comesBy_29 rfl ?_
      refine av_geti (q := 33) F fM_333 dM_comesBy_30 rfl rfl (by first | exact hM.o | exact hl.o | exact hM.a55 | exact hM.a56 | exact hM.a59 | exact hM.a60 | exact hM.a61 | exact hM.a62) ?_
      rw [h25]
      refine aw_icmp_ge (q := 36) (t := 65) F dM_comesBy_33 rfl (by decide) (fun c33 => by omega) (fun c33 => ?_)
      refine aw_aload_0 (q := 37) F dM_comesBy_36 rfl ?_
      refine aw_aload_0 (q := 38) F dM_comesBy_37 rfl ?_
      refine av_getaE (q := 41) F fM_37 dM_comesBy_38 rfl rfl (by first | exact hM.o | exact hl.o | exact hM.a55 | exact hM.a56 | exact hM.a59 | exact hM.a60 | exact hM.a61 | exact hM.a62) hM.p23 ?_
      refine aw_iload_4 (q := 43) F dM_comesBy_41 rfl ?_
      refine av_iaload (q := 44) F dM_comesBy_43 rfl (by first | exact hM.o | exact hl.o | exact hM.a55 | exact hM.a56 | exact hM.a59 | exact hM.a60 | exact hM.a61 | exact hM.a62) (by omega) (by omega) ?_
      rw [e61]
      refine av_callV1 (q := 47) (ci := 9) F hm mM_lays_i mM_lays_n lM_339 dM_comesBy_44 rfl rfl rfl (by first | exact hM.o | exact hl.o | exact hM.a55 | exact hM.a56 | exact hM.a59 | exact hM.a60 | exact hM.a61 | exact hM.a62) (by decide) (Nat.le_refl _) (Nat.le_refl _) (Nat.le_of_ble_eq_true rfl) (wM_lays (n := q.1) rfl hqs hM hl (hF.lc h64 hLC) hA hc (by omega) (fun V2 f44 g44 => ?_))
      have e0 : V2 56 p.toNat = (pl c q.1 p.toNat : Int) := ar_pl g44 (by omega) (by omega)
      refine aw_aload_0 (q := 48) F dM_comesBy_47 rfl ?_
      refine av_getaE (q := 51) F fM_21 dM_comesBy_48 rfl rfl (by first | exact hM.o | exact hl.o | exact hM.a55 | exact hM.a56 | exact hM.a59 | exact hM.a60 | exact hM.a61 | exact hM.a62) hM.p16 ?_
      refine aw_iload_1 (q := 52) F dM_comesBy_51 rfl ?_
      refine av_iaload (q := 53) F dM_comesBy_52 rfl (by first | exact hM.o | exact hl.o | exact hM.a55 | exact hM.a56 | exact hM.a59 | exact hM.a60 | exact hM.a61 | exact hM.a62) (by omega) (by omega) ?_
      rw [e0]
      refine aw_iload_2 (q := 54) F dM_comesBy_53 rfl ?_
      refine aw_icmp_ne (q := 57) (t := 59) F dM_comesBy_54 rfl (by decide) (fun c54 => ?_) (fun c54 => ?_)
      · refine aw_iinc_4 (q := 62) F dM_comesBy_59 rfl trivial (by constructor <;> omega) ?_
        refine aw_goto (t := 27) F dM_comesBy_62 (by decide) ?_
        refine ih (i + 1) (by omega) V2 _ q.1 (hF.xf f44) (by rw [f44 53 (by decide)]; exact h0) (hR.xf f44) g44 (by omega) (fun j' q' hj hq' => ?_)
        by_cases e : j' = i
        · rw [e, hq] at hq'; cases hq'; rw [hpw, ← hpl]; exact beq_eq_false_iff_ne.mpr (by omega)
        · exact hI j' q' (by omega) hq'
      · refine aw_iconst (q := 58) F dM_comesBy_57 rfl (by decide) ?_
        refine aw_zret F C dM_comesBy_58 rfl (by decide) (Nat.le_refl _) (Nat.le_refl _) ?_
        have hh := hK V2 (hF.xf f44) (by rw [f44 53 (by decide)]; exact h0)
        rw [ffO_some hq (by rw [hpw, ← hpl]; exact beq_iff_eq.mpr (by omega)) hI] at hh
        exact hh
  refine aw_aload_0 (q := 1) F dM_comesBy_0 rfl ?_
  refine aw_iconst (q := 2) F dM_comesBy_1 rfl (by decide) ?_
  refine av_putz (q := 5) F fM_286 dM_comesBy_2 rfl rfl (wr_9_26 _) (by first | exact hM.o | exact hl.o | exact hM.a55 | exact hM.a56 | exact hM.a59 | exact hM.a60 | exact hM.a61 | exact hM.a62) (by first | exact Or.inl rfl | exact Or.inr rfl | omega) ?_
  refine aw_aload_0 (q := 6) F dM_comesBy_5 rfl ?_
  refine av_callV0 (q := 9) (ci := 9) F hm mM_works_i mM_works_n lM_348 dM_comesBy_6 rfl rfl rfl (by first | exact hM.o | exact hl.o | exact hM.a55 | exact hM.a56 | exact hM.a59 | exact hM.a60 | exact hM.a61 | exact hM.a62) (by decide) (Nat.le_refl _) (Nat.le_refl _) (Nat.le_of_ble_eq_true rfl) (wM_works hM (fun V2 f6 g6 => ?_))
  have hX : XF (up2 V 53 26 0) V2 := f6
  have h55 : up2 V 53 26 0 55 = V 55 := up2_nea _ _ (by decide)
  have e11 : V2 56 11 = (psS S).2.1 := by rw [g6 11 (by decide), h55]; exact (h.wa hd).1.2.2.2.2
  have hF0 : MF V V2 := (((MF.rf V).fl (k := 26) (z := 0) (by decide)).xf hX)
  refine aw_aload_0 (q := 10) F dM_comesBy_9 rfl ?_
  refine av_getaE (q := 13) F fM_21 dM_comesBy_10 rfl rfl (by first | exact hM.o | exact hl.o | exact hM.a55 | exact hM.a56 | exact hM.a59 | exact hM.a60 | exact hM.a61 | exact hM.a62) hM.p16 ?_
  refine aw_bipush (q := 15) F dM_comesBy_13 rfl (by decide) ?_
  refine aw_dup2 (q := 16) F dM_comesBy_15 rfl trivial trivial ?_
  refine av_iaload (q := 17) F dM_comesBy_16 rfl (by first | exact hM.o | exact hl.o | exact hM.a55 | exact hM.a56 | exact hM.a59 | exact hM.a60 | exact hM.a61 | exact hM.a62) (by omega) (by omega) ?_
  rw [show (11 : Int).toNat = 11 from rfl, e11]
  refine aw_iload_3 (q := 18) F dM_comesBy_17 rfl ?_
  refine aw_ior (q := 19) F dM_comesBy_18 rfl ?_
  rw [hz, zor_n (by omega)]
  refine av_iastore (q := 20) F dM_comesBy_19 rfl (by first | exact hM.o | exact hl.o | exact hM.a55 | exact hM.a56 | exact hM.a59 | exact hM.a60 | exact hM.a61 | exact hM.a62) (by omega) (by omega) ?_
  refine aw_aload_0 (q := 21) F dM_comesBy_20 rfl ?_
  refine av_callV0 (q := 24) (ci := 9) F hm mM_reaches_i mM_reaches_n lM_351 dM_comesBy_21 rfl rfl rfl (by first | exact hM.o | exact hl.o | exact hM.a55 | exact hM.a56 | exact hM.a59 | exact hM.a60 | exact hM.a61 | exact hM.a62) (by decide) (Nat.le_refl _) (Nat.le_refl _) (Nat.le_of_ble_eq_true rfl) (wM_reaches (c := c) (n := psA S) hn hM hl h64 ((hF0.up (a := 56) (k := (11 : Int).toNat) (z := ((psS S).2.1 ||| d : Nat)) rfl).lc h64 hLC) (hAC (V 55) (h.wa hd).1 _ (fun k hk hk2 => (up2_nek _ _ hk2).trans (by rw [g6 k hk, h55])) (up2_same _ _ _ _)) hc (fun V3 m21 f21 o21 u21 v21 A z21 R => ?_))
  refine aw_iconst (q := 25) F dM_comesBy_24 rfl (by decide) ?_
  refine aw_istore_4 (q := 27) F dM_comesBy_25 rfl trivial ?_
  rw [← hz]; exact loop _ 0 (Nat.zero_add _) V3 _ m21 ((hF0.up rfl).tr f21) (by rw [o21, up2_nea _ _ (by decide), hX 53 (by decide)]; exact up2_same _ _ _ _) R A rfl (fun j q hj => absurd hj (by omega))
theorem wM_nails {p x : Int} (h : MW V σ l S) (hK : MK K V σ l (setR S (wy ((0 ≤ p ∧ p < tPn (psT S)) ∧ 0 ≤ x ∧ x < tDn (psT S)) True)) (some (vI (rfD (wy ((0 ≤ p ∧ p < tPn (psT S)) ∧ 0 ≤ x ∧ x < tDn (psT S)) True) (nlH S (plW S p (x + 1)) (tDn (psT S) + 1) 0) (-1))))) : Wp G 6 mM_nails [vR 53, vI p, vI x] (V, σ) 0 0 K := by
  obtain ⟨g, r1, -⟩ := m3 vI hK
  have hM := h.mo
  have hc := h.hc
  have h4 : tDn (psT S) ≤ 4 := hc.1
  have h16 := two_le h4
  have hnl : (psS S).2.1 < 2 ^ tDn (psT S) := h.1.2.2.2.1.2.2.1
  have hsM : shM S < 2 ^ tDn (psT S) := bsum_lt _ _
  refine wp_intro mM_nails_i.1 [some (vR 53), some (vI p), some (vI x), none, none, none] rfl rfl (Nat.le_of_ble_eq_true rfl) ?_
  intro X hG F C
  have hm := C.rm
  have sets : 0 < tDn (psT S) → (0 ≤ p ∧ p < tPn (psT S)) → (0 ≤ x ∧ x < tDn (psT S)) → ∀ (j s : Nat), s + j = shM S + 1 → ∀ (V1 : Nat → Nat → Int) (b z : Int), MF (up2 V 53 0 0) V1 → MWq V1 S → z = s → ((b = -2 ∧ ∀ d, d < s → d - (d &&& shM S) = 0 → kpB S (plW S p (x + 1)) d = false) ∨ ∃ m : Nat, b = m ∧ (m < s ∧ m - (m &&& shM S) = 0 ∧ kpB S (plW S p (x + 1)) m = true) ∧ ∀ d, d < s → d - (d &&& shM S) = 0 → kpB S (plW S p (x + 1)) d = true → ltP m d) → AW X 95 [some (vR 53), some (vI p), some (vI x), some (vI (shM S)), some (vI b), some (vI z)] [] (V1, σ) 0 0 := by
    intro hd hp hx j
    have g' := g ⟨hp, hx⟩ trivial
    induction j with
    | zero =>
      intro s hs V1 b z hF hq hz hI
      have hb : b = nlH S (plW S p (x + 1)) (tDn (psT S) + 1) 0 := by
        refine NB.one (NB_of h4 hnl ?_) (nlH_sp h4 _ 0 rfl (fun _ _ => Nat.zero_le _))
        rcases hI with ⟨i1, i2⟩ | ⟨m, i1, i2, i3⟩
        · exact Or.inl ⟨i1, fun d d1 d2 => i2 d (by have := sub_le _ (by omega) d (by omega) d1; omega) d1⟩
        · exact Or.inr ⟨m, i1, ⟨by omega, i2.2⟩, fun d d1 d2 => i3 d (by have := sub_le _ (by omega) d (by omega) d1; omega) d1⟩
      clear hI
      refine aw_iload_5 (q := 97) F dM_nails_95 rfl ?_
      refine aw_iload_3 (q := 98) F dM_nails_97 rfl ?_
      refine aw_icmp_gt (q := 101) (t := 156) F dM_nails_98 rfl (by decide) (fun c98 => ?_) (fun c98 => by omega)
      refine aw_aload_0 (q := 157) F dM_nails_156 rfl ?_
      refine aw_iload_4 (q := 159) F dM_nails_157 rfl ?_
      refine av_callV1 (q := 162) (ci := 9) F hm mM_good_i mM_good_n lM_56 dM_nails_159 rfl rfl rfl (by first | exact hM.o | exact hl.o | exact hM.a55 | exact hM.a56 | exact hM.a59 | exact hM.a60 | exact hM.a61 | exact hM.a62) (by decide) (Nat.le_refl _) (Nat.le_refl _) (Nat.le_of_ble_eq_true rfl) (wM_good hM ?_)
      refine aw_iret F C dM_nails_162 rfl (Nat.le_refl _) (Nat.le_refl _) ?_
      rw [hb]; exact MK.fin (S := S) g' h (by decide) hF hq
    | succ j ih =>
      intro s hs V1 b z hF hq hz hI
      have hM1 : MW V1 σ l S := h.th.mf hF hq
      have eand : zand z (zxor (shM S) (-1)) = (s - (s &&& shM S) : Nat) := by rw [hz]; exact cpr_z (by omega) (by omega)
      have skip : (s - (s &&& shM S) = 0 → kpB S (plW S p (x + 1)) s = false) → ∀ (V2 : Nat → Nat → Int), MF (up2 V 53 0 0) V2 → MWq V2 S → AW X 95 [some (vR 53), some (vI p), some (vI x), some (vI (shM S)), some (vI b), some (vI (z + 1))] [] (V2, σ) 0 0 := fun hh V2 hF2 hq2 => by
        refine ih (s + 1) (by omega) V2 b _ hF2 hq2 (by omega) ?_
        rcases hI with ⟨i1, i2⟩ | ⟨m, i1, i2, i3⟩
        · refine Or.inl ⟨i1, fun d d1 d2 => ?_⟩
          by_cases e : d = s
          · rw [e] at d2 ⊢; exact hh d2
          · exact i2 d (by omega) d2
        · refine Or.inr ⟨m, i1, ⟨by omega, i2.2⟩, fun d d1 d2 d3 => ?_⟩
          by_cases e : d = s
          · rw [e] at d2 d3; rw [hh d2] at d3; cases d3
          · exact i3 d (by omega) d2 d3
      have far : b ≠ -2 → pc4 b.toNat ≤ pc4 s → AW X 95 [some (vR 53), some (vI p), some (vI x), some (vI (shM S)), some (vI b), some (vI (z + 1))] [] (V1, σ) 0 0 := fun h1 h2 => by
        refine ih (s + 1) (by omega) V1 b _ hF hq (by omega) ?_
        rcases hI with ⟨i1, i2⟩ | ⟨m, i1, i2, i3⟩
        · exact absurd i1 h1
        · rw [i1, Int.toNat_natCast] at h2
          refine Or.inr ⟨m, i1, ⟨by omega, i2.2⟩, fun d d1 d2 d3 => ?_⟩
          by_cases e : d = s
          · rw [e]
            by_cases e2 : pc4 m = pc4 s
            · exact Or.inr ⟨e2, by omega⟩
            · exact Or.inl (by omega)
          · exact i3 d (by omega) d2 d3
      have take : (b ≠ -2 → pc4 s < pc4 b.toNat) → s - (s &&& shM S) = 0 → kpB S (plW S p (x + 1)) s = true → ∀ (V2 : Nat → Nat → Int), MF (up2 V 53 0 0) V2 → MWq V2 S → AW X 95 [some (vR 53), some (vI p), some (vI x), some (vI (shM S)), some (vI z), some (vI (z + 1))] [] (V2, σ) 0 0 := fun h1 h2 h3 V2 hF2 hq2 => by
        refine ih (s + 1) (by omega) V2 z _ hF2 hq2 (by omega) (Or.inr ⟨s, hz, ⟨by omega, h2, h3⟩, fun d d1 d2 d3 => ?_⟩)
        by_cases e : d = s
        · rw [e]; exact Or.inr ⟨rfl, Nat.le_refl _⟩
        · rcases hI with ⟨i1, i2⟩ | ⟨m, i1, i2, i3⟩
          · rw [i2 d (by omega) d2] at d3; cases d3
          · have h5 := h1 (by omega)
            rw [i1, Int.toNat_natCast] at h5
            rcases i3 d (by omega) d2 d3 with q | q
            · exact Or.inl (by omega)
            · exact Or.inl (by omega)
      have hb : b ≠ -2 → b = (b.toNat : Int) ∧ b.toNat < 16 := fun h1 => by
        rcases hI with ⟨i1, -⟩ | ⟨m, i1, i2, -⟩
        · exact absurd i1 h1
        · exact ⟨by omega, by omega⟩
      clear hI ih
      refine aw_iload_5 (q := 97) F dM_nails_95 rfl ?_
      refine aw_iload_3 (q := 98) F dM_nails_97 rfl ?_
      refine aw_icmp_gt (q := 101) (t := 156) F dM_nails_98 rfl (by decide) (fun c98 => by omega) (fun c98 => ?_)
      refine aw_iload_5 (q := 103) F dM_nails_101 rfl ?_
      refine aw_iload_3 (q := 104) F dM_nails_103 rfl ?_
      refine aw_iconst (q := 105) F dM_nails_104 rfl (by decide) ?_
      refine aw_ixor (q := 106) F dM_nails_105 rfl ?_
      refine aw_iand (q := 107) F dM_nails_106 rfl ?_
      rw [eand]
      refine aw_if_ne (q := 110) (t := 150) F dM_nails_107 rfl (by decide) (fun c107 => ?_) (fun c107 => ?_)
      · refine aw_iinc_5 (q := 153) F dM_nails_150 rfl trivial (by constructor <;> omega) ?_
        refine aw_goto (t := 95) F dM_nails_153 (by decide) ?_
        first
        | exact far c114 (by omega)
        | exact skip (fun e => absurd e (by omega)) V1 hF hq
        | exact take (fun _ => by omega) (by omega) (by cases hk : kpB S (plW S p (x + 1)) s; rw [hk] at c143; exact absurd c143 (by decide); rfl) V2 (hF.tr f140) (Or.inl o140)
        | exact take (fun e => absurd c114 e) (by omega) (by cases hk : kpB S (plW S p (x + 1)) s; rw [hk] at c143; exact absurd c143 (by decide); rfl) V2 (hF.tr f140) (Or.inl o140)
        | exact skip (fun _ => by cases hk : kpB S (plW S p (x + 1)) s; rfl; rw [hk] at c143; exact absurd rfl c143) V2 (hF.tr f140) (Or.inl o140)
      · refine aw_iload_4 (q := 112) F dM_nails_110 rfl ?_
        refine aw_bipush (q := 114) F dM_nails_112 rfl (by decide) ?_
        refine aw_icmp_eq (q := 117) (t := 133) F dM_nails_114 rfl (by decide) (fun c114 => ?_) (fun c114 => ?_)
        · refine aw_aload_0 (q := 134) F dM_nails_133 rfl ?_
          refine aw_iload_1 (q := 135) F dM_nails_134 rfl ?_
          refine aw_iload_2 (q := 136) F dM_nails_135 rfl ?_
          refine aw_iconst (q := 137) F dM_nails_136 rfl (by decide) ?_
          refine aw_iadd (q := 138) F dM_nails_137 rfl (by constructor <;> omega) ?_
          refine aw_iload_5 (q := 140) F dM_nails_138 rfl ?_
          refine av_callV3 (q := 143) (ci := 9) F hm mM_comesBy_i mM_comesBy_n lM_406 dM_nails_140 rfl rfl rfl (by first | exact hM.o | exact hl.o | exact hM.a55 | exact hM.a56 | exact hM.a59 | exact hM.a60 | exact hM.a61 | exact hM.a62) (by decide) (Nat.le_refl _) (Nat.le_refl _) (Nat.le_of_ble_eq_true rfl) (wM_comesBy (S := S) (d := s) hp (by omega) hz (by omega) hM1 hd (fun V2 f140 o140 => ?_))
          refine aw_if_ne (q := 146) (t := 150) F dM_nails_143 rfl (by decide) (fun c143 => ?_) (fun c143 => ?_)
          · refine aw_iinc_5 (q := 153) F dM_nails_150 rfl trivial (by constructor <;> omega) ?_
            refine aw_goto (t := 95) F dM_nails_153 (by decide) ?_
            first
            | exact far c114 (by omega)
            | exact skip (fun e => absurd e (by omega)) V1 hF hq
            | exact take (fun _ => by omega) (by omega) (by cases hk : kpB S (plW S p (x + 1)) s; rw [hk] at c143; exact absurd c143 (by decide); rfl) V2 (hF.tr f140) (Or.inl o140)
            | exact take (fun e => absurd c114 e) (by omega) (by cases hk : kpB S (plW S p (x + 1)) s; rw [hk] at c143; exact absurd c143 (by decide); rfl) V2 (hF.tr f140) (Or.inl o140)
            | exact skip (fun _ => by cases hk : kpB S (plW S p (x + 1)) s; rfl; rw [hk] at c143; exact absurd rfl c143) V2 (hF.tr f140) (Or.inl o140)
          · refine aw_iload_5 (q := 148) F dM_nails_146 rfl ?_
            refine aw_istore_4 (q := 150) F dM_nails_148 rfl trivial ?_
            refine aw_iinc_5 (q := 153) F dM_nails_150 rfl trivial (by constructor <;> omega) ?_
            refine aw_goto (t := 95) F dM_nails_153 (by decide) ?_
            first
            | exact far c114 (by omega)
            | exact skip (fun e => absurd e (by omega)) V1 hF hq
            | exact take (fun _ => by omega) (by omega) (by cases hk : kpB S (plW S p (x + 1)) s; rw [hk] at c143; exact absurd c143 (by decide); rfl) V2 (hF.tr f140) (Or.inl o140)
            | exact take (fun e => absurd c114 e) (by omega) (by cases hk : kpB S (plW S p (x + 1)) s; rw [hk] at c143; exact absurd c143 (by decide); rfl) V2 (hF.tr f140) (Or.inl o140)
            | exact skip (fun _ => by cases hk : kpB S (plW S p (x + 1)) s; rfl; rw [hk] at c143; exact absurd rfl c143) V2 (hF.tr f140) (Or.inl o140)
        · refine aw_iload_5 (q := 119) F dM_nails_117 rfl ?_
          refine av_callS1 (q := 122) F hm mM_bits_i mM_bits_n lM_296 dM_nails_119 rfl (by decide) (Nat.le_refl _) (Nat.le_refl _) (Nat.le_of_ble_eq_true rfl) (wM_bits (m := s) hz (by omega) ?_)
          refine aw_iload_4 (q := 124) F dM_nails_122 rfl ?_
          refine av_callS1 (q := 127) F hm mM_bits_i mM_bits_n lM_296 dM_nails_124 rfl (by decide) (Nat.le_refl _) (Nat.le_refl _) (Nat.le_of_ble_eq_true rfl) (wM_bits (m := b.toNat) (hb c114).1 (by have := (hb c114).2; omega) ?_)
          rw [pcN_16 _ (by omega), pcN_16 _ (hb c114).2]
          refine aw_icmp_lt (q := 130) (t := 133) F dM_nails_127 rfl (by decide) (fun c127 => ?_) (fun c127 => ?_)
          · refine aw_aload_0 (q := 134) F dM_nails_133 rfl ?_
            refine aw_iload_1 (q := 135) F dM_nails_134 rfl ?_
            refine aw_iload_2 (q := 136) F dM_nails_135 rfl ?_
            refine aw_iconst (q := 137) F dM_nails_136 rfl (by decide) ?_
            refine aw_iadd (q := 138) F dM_nails_137 rfl (by constructor <;> omega) ?_
            refine aw_iload_5 (q := 140) F dM_nails_138 rfl ?_
            refine av_callV3 (q := 143) (ci := 9) F hm mM_comesBy_i mM_comesBy_n lM_406 dM_nails_140 rfl rfl rfl (by first | exact hM.o | exact hl.o | exact hM.a55 | exact hM.a56 | exact hM.a59 | exact hM.a60 | exact hM.a61 | exact hM.a62) (by decide) (Nat.le_refl _) (Nat.le_refl _) (Nat.le_of_ble_eq_true rfl) (wM_comesBy (S := S) (d := s) hp (by omega) hz (by omega) hM1 hd (fun V2 f140 o140 => ?_))
            refine aw_if_ne (q := 146) (t := 150) F dM_nails_143 rfl (by decide) (fun c143 => ?_) (fun c143 => ?_)
            · refine aw_iinc_5 (q := 153) F dM_nails_150 rfl trivial (by constructor <;> omega) ?_
              refine aw_goto (t := 95) F dM_nails_153 (by decide) ?_
              first
              | exact far c114 (by omega)
              | exact skip (fun e => absurd e (by omega)) V1 hF hq
              | exact take (fun _ => by omega) (by omega) (by cases hk : kpB S (plW S p (x + 1)) s; rw [hk] at c143; exact absurd c143 (by decide); rfl) V2 (hF.tr f140) (Or.inl o140)
              | exact take (fun e => absurd c114 e) (by omega) (by cases hk : kpB S (plW S p (x + 1)) s; rw [hk] at c143; exact absurd c143 (by decide); rfl) V2 (hF.tr f140) (Or.inl o140)
              | exact skip (fun _ => by cases hk : kpB S (plW S p (x + 1)) s; rfl; rw [hk] at c143; exact absurd rfl c143) V2 (hF.tr f140) (Or.inl o140)
            · refine aw_iload_5 (q := 148) F dM_nails_146 rfl ?_
              refine aw_istore_4 (q := 150) F dM_nails_148 rfl trivial ?_
              refine aw_iinc_5 (q := 153) F dM_nails_150 rfl trivial (by constructor <;> omega) ?_
              refine aw_goto (t := 95) F dM_nails_153 (by decide) ?_
              first
              | exact far c114 (by omega)
              | exact skip (fun e => absurd e (by omega)) V1 hF hq
              | exact take (fun _ => by omega) (by omega) (by cases hk : kpB S (plW S p (x + 1)) s; rw [hk] at c143; exact absurd c143 (by decide); rfl) V2 (hF.tr f140) (Or.inl o140)
              | exact take (fun e => absurd c114 e) (by omega) (by cases hk : kpB S (plW S p (x + 1)) s; rw [hk] at c143; exact absurd c143 (by decide); rfl) V2 (hF.tr f140) (Or.inl o140)
              | exact skip (fun _ => by cases hk : kpB S (plW S p (x + 1)) s; rfl; rw [hk] at c143; exact absurd rfl c143) V2 (hF.tr f140) (Or.inl o140)
          · refine aw_goto (t := 150) F dM_nails_130 (by decide) ?_
            refine aw_iinc_5 (q := 153) F dM_nails_150 rfl trivial (by constructor <;> omega) ?_
            refine aw_goto (t := 95) F dM_nails_153 (by decide) ?_
            first
            | exact far c114 (by omega)
            | exact skip (fun e => absurd e (by omega)) V1 hF hq
            | exact take (fun _ => by omega) (by omega) (by cases hk : kpB S (plW S p (x + 1)) s; rw [hk] at c143; exact absurd c143 (by decide); rfl) V2 (hF.tr f140) (Or.inl o140)
            | exact take (fun e => absurd c114 e) (by omega) (by cases hk : kpB S (plW S p (x + 1)) s; rw [hk] at c143; exact absurd c143 (by decide); rfl) V2 (hF.tr f140) (Or.inl o140)
            | exact skip (fun _ => by cases hk : kpB S (plW S p (x + 1)) s; rfl; rw [hk] at c143; exact absurd rfl c143) V2 (hF.tr f140) (Or.inl o140)
  have shut : 0 < tDn (psT S) → (0 ≤ p ∧ p < tPn (psT S)) → (0 ≤ x ∧ x < tDn (psT S)) → ∀ (j d : Nat), d + j = tDn (psT S) → ∀ (y z : Int) (u : Option AV), y = bsum (fun d => ld (psC S) (psA S) d == 0 && !(psS S).2.1.testBit d) d → z = d → AW X 32 [some (vR 53), some (vI p), some (vI x), some (vI y), some (vI z), u] [] (up2 V 53 0 0, σ) 0 0 := by
    intro hd hp hx j
    have hl := h.la hd
    have c2 : up2 V 53 0 0 l 1 = tDn (psT S) := ((h.th (z := 0)).lc hd).1
    have h55 := ((h.th (z := 0)).wa hd).1
    have e11 : up2 V 53 0 0 55 11 = ((psS S).2.1 : Int) := h55.2.2.2.2
    induction j with
    | zero =>
      intro d hj y z u hy hz
      have hy2 : y = shM S := by rw [hy, show d = tDn (psT S) by omega]; rfl
      refine aw_iload_4 (q := 34) F dM_nails_32 rfl ?_
      refine aw_aload_0 (q := 35) F dM_nails_34 rfl ?_
      refine av_getaE (q := 38) F fM_281 dM_nails_35 rfl rfl (by first | exact hM.o | exact hl.o | exact hM.a55 | exact hM.a56 | exact hM.a59 | exact hM.a60 | exact hM.a61 | exact hM.a62) hM.p3 ?_
      refine av_geti (q := 41) F fM_183 dM_nails_38 rfl rfl (by first | exact hM.o | exact hl.o | exact hM.a55 | exact hM.a56 | exact hM.a59 | exact hM.a60 | exact hM.a61 | exact hM.a62) ?_
      rw [c2]
      refine aw_icmp_ge (q := 44) (t := 88) F dM_nails_41 rfl (by decide) (fun c41 => ?_) (fun c41 => by omega)
      refine aw_bipush (q := 90) F dM_nails_88 rfl (by decide) ?_
      refine aw_istore_4 (q := 92) F dM_nails_90 rfl trivial ?_
      refine aw_iconst (q := 93) F dM_nails_92 rfl (by decide) ?_
      refine aw_istore_5 (q := 95) F dM_nails_93 rfl trivial ?_
      rw [hy2]; exact sets hd hp hx _ 0 (Nat.zero_add _) _ _ _ (MF.rf _) h.th.q rfl (Or.inl ⟨rfl, fun d hd => absurd hd (by omega)⟩)
    | succ j ih =>
      intro d hj y z u hy hz
      have e2 : up2 V 53 0 0 55 (2 + z).toNat = (ld (psC S) (psA S) d : Int) := by rw [show (2 + z).toNat = 2 + d by omega]; exact ar_ld h55 (by omega) (show d < tDn (psT S) by omega)
      refine aw_iload_4 (q := 34) F dM_nails_32 rfl ?_
      refine aw_aload_0 (q := 35) F dM_nails_34 rfl ?_
      refine av_getaE (q := 38) F fM_281 dM_nails_35 rfl rfl (by first | exact hM.o | exact hl.o | exact hM.a55 | exact hM.a56 | exact hM.a59 | exact hM.a60 | exact hM.a61 | exact hM.a62) hM.p3 ?_
      refine av_geti (q := 41) F fM_183 dM_nails_38 rfl rfl (by first | exact hM.o | exact hl.o | exact hM.a55 | exact hM.a56 | exact hM.a59 | exact hM.a60 | exact hM.a61 | exact hM.a62) ?_
      rw [c2]
      refine aw_icmp_ge (q := 44) (t := 88) F dM_nails_41 rfl (by decide) (fun c41 => by omega) (fun c41 => ?_)
      refine aw_iload_3 (q := 45) F dM_nails_44 rfl ?_
      refine aw_aload_0 (q := 46) F dM_nails_45 rfl ?_
      refine av_getaE (q := 49) F fM_17 dM_nails_46 rfl rfl (by first | exact hM.o | exact hl.o | exact hM.a55 | exact hM.a56 | exact hM.a59 | exact hM.a60 | exact hM.a61 | exact hM.a62) hM.p15 ?_
      refine aw_iconst (q := 50) F dM_nails_49 rfl (by decide) ?_
      refine aw_iload_4 (q := 52) F dM_nails_50 rfl ?_
      refine aw_iadd (q := 53) F dM_nails_52 rfl (by constructor <;> omega) ?_
      refine av_iaload (q := 54) F dM_nails_53 rfl (by first | exact hM.o | exact hl.o | exact hM.a55 | exact hM.a56 | exact hM.a59 | exact hM.a60 | exact hM.a61 | exact hM.a62) (by omega) (by omega) ?_
      rw [e2]
      refine aw_if_ne (q := 57) (t := 79) F dM_nails_54 rfl (by decide) (fun c54 => ?_) (fun c54 => ?_)
      · refine aw_iconst (q := 80) F dM_nails_79 rfl (by decide) ?_
        refine aw_ior (q := 81) F dM_nails_80 rfl ?_
        refine aw_istore_3 (q := 82) F dM_nails_81 rfl trivial ?_
        refine aw_iinc_4 (q := 85) F dM_nails_82 rfl trivial (by constructor <;> omega) ?_
        refine aw_goto (t := 32) F dM_nails_85 (by decide) ?_
        refine ih (d + 1) (by omega) _ _ _ ?_ (by omega)
        first
        | (have hq1 : (ld (psC S) (psA S) d == 0 && !(psS S).2.1.testBit d) = true := by rw [c66, show ld (psC S) (psA S) d = 0 by omega]; rfl
           exact bs1 (f := fun d => ld (psC S) (psA S) d == 0 && !(psS S).2.1.testBit d) hz hy (by omega) hq1)
        | (have hq1 : (ld (psC S) (psA S) d == 0 && !(psS S).2.1.testBit d) = false := by rw [c66, show ld (psC S) (psA S) d = 0 by omega]; rfl
           exact bs0 (f := fun d => ld (psC S) (psA S) d == 0 && !(psS S).2.1.testBit d) hz hy (by omega) hq1)
        | (have hq1 : (ld (psC S) (psA S) d == 0 && !(psS S).2.1.testBit d) = false := by rw [show (ld (psC S) (psA S) d == 0) = false from beq_eq_false_iff_ne.mpr (by omega)]; rfl
           exact bs0 (f := fun d => ld (psC S) (psA S) d == 0 && !(psS S).2.1.testBit d) hz hy (by omega) hq1)
      · refine aw_aload_0 (q := 58) F dM_nails_57 rfl ?_
        refine av_getaE (q := 61) F fM_17 dM_nails_58 rfl rfl (by first | exact hM.o | exact hl.o | exact hM.a55 | exact hM.a56 | exact hM.a59 | exact hM.a60 | exact hM.a61 | exact hM.a62) hM.p15 ?_
        refine aw_bipush (q := 63) F dM_nails_61 rfl (by decide) ?_
        refine av_iaload (q := 64) F dM_nails_63 rfl (by first | exact hM.o | exact hl.o | exact hM.a55 | exact hM.a56 | exact hM.a59 | exact hM.a60 | exact hM.a61 | exact hM.a62) (by omega) (by omega) ?_
        rw [show (11 : Int).toNat = 11 from rfl, e11]
        refine aw_iload_4 (q := 66) F dM_nails_64 rfl ?_
        refine av_callS2 (q := 69) F hm mM_bit_i mM_bit_n lM_241 dM_nails_66 rfl (by decide) (Nat.le_refl _) (Nat.le_refl _) (Nat.le_of_ble_eq_true rfl) (wM_bit (m := (psS S).2.1) (d := d) rfl (by omega) hz (by omega) (fun c66 => ?_) (fun c66 => ?_))
        · refine aw_if_ne (q := 72) (t := 79) F dM_nails_69 rfl (by decide) (fun c69 => ?_) (fun c69 => absurd c69 (by decide))
          refine aw_iconst (q := 80) F dM_nails_79 rfl (by decide) ?_
          refine aw_ior (q := 81) F dM_nails_80 rfl ?_
          refine aw_istore_3 (q := 82) F dM_nails_81 rfl trivial ?_
          refine aw_iinc_4 (q := 85) F dM_nails_82 rfl trivial (by constructor <;> omega) ?_
          refine aw_goto (t := 32) F dM_nails_85 (by decide) ?_
          refine ih (d + 1) (by omega) _ _ _ ?_ (by omega)
          first
          | (have hq1 : (ld (psC S) (psA S) d == 0 && !(psS S).2.1.testBit d) = true := by rw [c66, show ld (psC S) (psA S) d = 0 by omega]; rfl
             exact bs1 (f := fun d => ld (psC S) (psA S) d == 0 && !(psS S).2.1.testBit d) hz hy (by omega) hq1)
          | (have hq1 : (ld (psC S) (psA S) d == 0 && !(psS S).2.1.testBit d) = false := by rw [c66, show ld (psC S) (psA S) d = 0 by omega]; rfl
             exact bs0 (f := fun d => ld (psC S) (psA S) d == 0 && !(psS S).2.1.testBit d) hz hy (by omega) hq1)
          | (have hq1 : (ld (psC S) (psA S) d == 0 && !(psS S).2.1.testBit d) = false := by rw [show (ld (psC S) (psA S) d == 0) = false from beq_eq_false_iff_ne.mpr (by omega)]; rfl
             exact bs0 (f := fun d => ld (psC S) (psA S) d == 0 && !(psS S).2.1.testBit d) hz hy (by omega) hq1)
        · refine aw_if_ne (q := 72) (t := 79) F dM_nails_69 rfl (by decide) (fun c69 => absurd c69 (by decide)) (fun c69 => ?_)
          refine aw_iconst (q := 73) F dM_nails_72 rfl (by decide) ?_
          refine aw_iload_4 (q := 75) F dM_nails_73 rfl ?_
          refine aw_ishl (q := 76) F dM_nails_75 rfl ?_
          refine aw_goto (t := 80) F dM_nails_76 (by decide) ?_
          refine aw_ior (q := 81) F dM_nails_80 rfl ?_
          refine aw_istore_3 (q := 82) F dM_nails_81 rfl trivial ?_
          refine aw_iinc_4 (q := 85) F dM_nails_82 rfl trivial (by constructor <;> omega) ?_
          refine aw_goto (t := 32) F dM_nails_85 (by decide) ?_
          refine ih (d + 1) (by omega) _ _ _ ?_ (by omega)
          first
          | (have hq1 : (ld (psC S) (psA S) d == 0 && !(psS S).2.1.testBit d) = true := by rw [c66, show ld (psC S) (psA S) d = 0 by omega]; rfl
             exact bs1 (f := fun d => ld (psC S) (psA S) d == 0 && !(psS S).2.1.testBit d) hz hy (by omega) hq1)
          | (have hq1 : (ld (psC S) (psA S) d == 0 && !(psS S).2.1.testBit d) = false := by rw [c66, show ld (psC S) (psA S) d = 0 by omega]; rfl
             exact bs0 (f := fun d => ld (psC S) (psA S) d == 0 && !(psS S).2.1.testBit d) hz hy (by omega) hq1)
          | (have hq1 : (ld (psC S) (psA S) d == 0 && !(psS S).2.1.testBit d) = false := by rw [show (ld (psC S) (psA S) d == 0) = false from beq_eq_false_iff_ne.mpr (by omega)]; rfl
             exact bs0 (f := fun d => ld (psC S) (psA S) d == 0 && !(psS S).2.1.testBit d) hz hy (by omega) hq1)
  refine aw_aload_0 (q := 1) F dM_nails_0 rfl ?_
  refine aw_iconst (q := 2) F dM_nails_1 rfl (by decide) ?_
  refine av_puti (q := 5) F fM_46 dM_nails_2 rfl rfl (wr_9_0 _) (by first | exact hM.o | exact hl.o | exact hM.a55 | exact hM.a56 | exact hM.a59 | exact hM.a60 | exact hM.a61 | exact hM.a62) ?_
  refine aw_aload_0 (q := 6) F dM_nails_5 rfl ?_
  refine aw_iload_1 (q := 7) F dM_nails_6 rfl ?_
  refine av_callV1 (q := 10) (ci := 9) F hm mM_isPerson_i mM_isPerson_n lM_361 dM_nails_7 rfl rfl rfl (by first | exact hM.o | exact hl.o | exact hM.a55 | exact hM.a56 | exact hM.a59 | exact hM.a60 | exact hM.a61 | exact hM.a62) (by decide) (Nat.le_refl _) (Nat.le_refl _) (Nat.le_of_ble_eq_true rfl) (wM_isPerson (D := tPn (psT S)) hM h.pz h.th.pr (fun c7 => ?_) (fun c7 => ?_))
  · refine aw_if_eq (q := 13) (t := 21) F dM_nails_10 rfl (by decide) (fun c10 => absurd c10 (by decide)) (fun c10 => ?_)
    refine aw_aload_0 (q := 14) F dM_nails_13 rfl ?_
    refine aw_iload_2 (q := 15) F dM_nails_14 rfl ?_
    refine av_callV1 (q := 18) (ci := 9) F hm mM_isDoor_i mM_isDoor_n lM_354 dM_nails_15 rfl rfl rfl (by first | exact hM.o | exact hl.o | exact hM.a55 | exact hM.a56 | exact hM.a59 | exact hM.a60 | exact hM.a61 | exact hM.a62) (by decide) (Nat.le_refl _) (Nat.le_refl _) (Nat.le_of_ble_eq_true rfl) (wM_isDoor (D := tDn (psT S)) hM h.zer h.th.dr (fun c15 => ?_) (fun c15 => ?_))
    · refine aw_if_ne (q := 21) (t := 27) F dM_nails_18 rfl (by decide) (fun c18 => ?_) (fun c18 => absurd c18 (by decide))
      refine aw_iconst (q := 28) F dM_nails_27 rfl (by decide) ?_
      refine aw_istore_3 (q := 29) F dM_nails_28 rfl trivial ?_
      refine aw_iconst (q := 30) F dM_nails_29 rfl (by decide) ?_
      refine aw_istore_4 (q := 32) F dM_nails_30 rfl trivial ?_
      exact shut (by omega) c7 c15 _ 0 (Nat.zero_add _) _ _ _ rfl rfl
    · refine aw_if_ne (q := 21) (t := 27) F dM_nails_18 rfl (by decide) (fun c18 => absurd c18 (by decide)) (fun c18 => ?_)
      refine aw_aload_0 (q := 22) F dM_nails_21 rfl ?_
      refine aw_iconst (q := 23) F dM_nails_22 rfl (by decide) ?_
      refine av_callV1 (q := 26) (ci := 9) F hm mM_refused_i mM_refused_n lM_52 dM_nails_23 rfl rfl rfl (by first | exact hM.o | exact hl.o | exact hM.a55 | exact hM.a56 | exact hM.a59 | exact hM.a60 | exact hM.a61 | exact hM.a62) (by decide) (Nat.le_refl _) (Nat.le_refl _) (Nat.le_of_ble_eq_true rfl) (wM_refused hM ?_)
      refine aw_iret F C dM_nails_26 rfl (Nat.le_refl _) (Nat.le_refl _) ?_
      exact MK.fin0 (r1 (by omega)) h (by decide)
  · refine aw_if_eq (q := 13) (t := 21) F dM_nails_10 rfl (by decide) (fun c10 => ?_) (fun c10 => absurd c10 (by decide))
    refine aw_aload_0 (q := 22) F dM_nails_21 rfl ?_
    refine aw_iconst (q := 23) F dM_nails_22 rfl (by decide) ?_
    refine av_callV1 (q := 26) (ci := 9) F hm mM_refused_i mM_refused_n lM_52 dM_nails_23 rfl rfl rfl (by first | exact hM.o | exact hl.o | exact hM.a55 | exact hM.a56 | exact hM.a59 | exact hM.a60 | exact hM.a61 | exact hM.a62) (by decide) (Nat.le_refl _) (Nat.le_refl _) (Nat.le_of_ble_eq_true rfl) (wM_refused hM ?_)
    refine aw_iret F C dM_nails_26 rfl (Nat.le_refl _) (Nat.le_refl _) ?_
    exact MK.fin0 (r1 (by omega)) h (by decide)
end Mod27
