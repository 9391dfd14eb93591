-- a search goes on: its list, its head, its dead ends
abbrev ST : Type := List (Nat × Nat) × Nat × Nat
def stpS (c : Cfg) (t : ST) : ST := match t.1[t.2.1]? with
  | some q => (exL c q.1 0 t.2.1 t.1 (stN c), t.2.1 + 1, t.2.2 + if cntB (okW c q.1 0) (stN c) = 0 then 1 else 0)
  | none => t
def itS (c : Cfg) (t : ST) : Nat → ST
  | 0 => t
  | k + 1 => stpS c (itS c t k)
theorem stpS_some {c : Cfg} {t : ST} {q : Nat × Nat} (h : t.1[t.2.1]? = some q) : stpS c t = (exL c q.1 0 t.2.1 t.1 (stN c), t.2.1 + 1, t.2.2 + if cntB (okW c q.1 0) (stN c) = 0 then 1 else 0) := by
  unfold stpS
  rw [h]
theorem itS_add (c : Cfg) (t : ST) (k : Nat) : ∀ j, itS c t (k + j) = itS c (itS c t k) j
  | 0 => rfl
  | j + 1 => by
    show stpS c (itS c t (k + j)) = stpS c (itS c (itS c t k) j)
    rw [itS_add c t k j]
def fitP (c : Cfg) (P : Nat) (q : Nat × Nat) : Bool := P.testBit (q.1 % wB c (pN c))
theorem metL_bit (c : Cfg) (L : List (Nat × Nat)) (b : Nat) : (metL c L).testBit b = L.any (fun q => q.1 % wB c (pN c) == b) := by
  have key : ∀ (L : List (Nat × Nat)) (m : Nat), (L.foldl (fun m q => m ||| 2 ^ (q.1 % wB c (pN c))) m).testBit b = (m.testBit b || L.any (fun q => q.1 % wB c (pN c) == b)) := by
    intro L
    induction L with
    | nil => intro m; simp
    | cons q L ih =>
      intro m
      simp only [List.foldl_cons, List.any_cons]
      rw [ih, Nat.testBit_or, Nat.testBit_two_pow, Bool.or_assoc]
      congr 1
  have := key L 0
  simpa [metL] using this
theorem met_fit (c : Cfg) (P : Nat) (L : List (Nat × Nat)) : metL c L &&& P = 0 ↔ L.any (fitP c P) = false := by
  constructor
  · intro h
    rw [List.any_eq_false]
    intro q hq hf
    have h1 : (metL c L &&& P).testBit (q.1 % wB c (pN c)) = true := by
      unfold fitP at hf; rw [Nat.testBit_and, metL_bit, hf, Bool.and_true, List.any_eq_true]
      exact ⟨q, hq, by simp⟩
    rw [h] at h1
    simp at h1
  · intro h
    apply Nat.eq_of_testBit_eq
    intro b
    rw [Nat.testBit_and, metL_bit, Nat.zero_testBit, Bool.and_eq_false_iff]
    rw [List.any_eq_false] at h
    by_cases hb : P.testBit b = true
    · left
      rw [List.any_eq_false]
      intro q hq he
      have e : q.1 % wB c (pN c) = b := by simpa using he
      exact h q hq (by unfold fitP; rw [e]; exact hb)
    · right; simpa using hb
def SQ (V : Nat → Nat → Int) (s qn kn Q : Nat) (c : Cfg) (t : ST) (n : Nat) : Prop := SE V s qn kn Q c t.1 n t.2.2 ∧ V s 4 = t.2.1 ∧ t.2.2 ≤ t.2.1
abbrev sF (V V' : Nat → Nat → Int) (s qn kn : Nat) : Prop := ∀ b, b < s ∨ s + 6 < b → b ≠ qn → b ≠ kn → V' b = V b
theorem sF_tr {V V1 V2 : Nat → Nat → Int} {s qn kn : Nat} (h : sF V V1 s qn kn) (g : sF V1 V2 s qn kn) : sF V V2 s qn kn := fun b h1 h2 h3 => (g b h1 h2 h3).trans (h b h1 h2 h3)
theorem sF_up {V V1 : Nat → Nat → Int} {s qn kn k : Nat} {x : Int} (h : sF V V1 s qn kn) : sF V (up2 V1 s k x) s qn kn := fun b h1 h2 h3 => by rw [up2_nea _ _ (by omega)]; exact h b h1 h2 h3
theorem SE.head {V : Nat → Nat → Int} {σ : Shp} {s qn kn Q M n D : Nat} {c : Cfg} {L : List (Nat × Nat)} {x : Int} (h : SE V s qn kn Q c L n D) (hs : sS0 σ s qn kn Q M) : SE (up2 V s 4 x) s qn kn Q c L n D := by
  have q1 := hs.qs; have q2 := hs.ks
  exact ⟨h.1.same (up2_nek _ _ (by decide)) (up2_nek _ _ (by decide)) (up2_nea _ _ (by omega)) (up2_nea _ _ (by omega)), h.2.1.same (fun b h1 h2 => up2_nea _ _ (by omega)), (up2_nek _ _ (by decide)).trans h.2.2⟩
theorem SQ.stp {V V' : Nat → Nat → Int} {σ : Shp} {s qn kn Q M n : Nat} {c : Cfg} {t : ST} {q : Nat × Nat} {x : Int} (h : SQ V s qn kn Q c t n) (hs : sS0 σ s qn kn Q M) (hq : t.1[t.2.1]? = some q) (hE : SE V' s qn kn Q c (exL c q.1 0 t.2.1 t.1 (stN c)) q.1 (t.2.2 + if cntB (okW c q.1 0) (stN c) = 0 then 1 else 0)) (hx : x = t.2.1 + 1) : SQ (up2 V' s 4 x) s qn kn Q c (stpS c t) q.1 := by
  rw [stpS_some hq]
  refine ⟨hE.head hs, by rw [up2_same, hx]; simp, ?_⟩
  have := h.2.2
  show t.2.2 + _ ≤ t.2.1 + 1
  split <;> omega
section Search3
variable {G : GE} {V : Nat → Nat → Int} {σ : Shp} {s qn kn Q : Nat} {K : Option AV → Mem → Prop} {c : Cfg} {t : ST} {m : Nat}
theorem wS_finish (hs : sS σ s qn kn Q) (hE0 : SQ V s qn kn Q c t m) (hK : ∀ V' k m', sF V V' s qn kn → SQ V' s qn kn Q c (itS c t k) m' → (itS c t k).1.length ≤ (itS c t k).2.1 → K none (V', σ)) : Wp G 4 mS_finish [vR s] (V, σ) 0 0 K := by
  have hQ := hs.le
  refine wp_intro mS_finish_i.1 [some (vR s), none] rfl rfl (Nat.le_of_ble_eq_true rfl) ?_
  intro X hG F C
  have hm := C.rm
  have loop : ∀ (j i : Nat), Q - i = j → ∀ (V1 : Nat → Nat → Int) (u : ST) (m1 : Nat) (z : Int), sF V V1 s qn kn → SQ V1 s qn kn Q c u m1 → u = itS c t i → i ≤ u.2.1 → z = i → AW X 2 [some (vR s), some (vI z)] [] (V1, σ) 0 0 := by
    intro j
    induction j using Nat.strongRecOn with
    | ind j ih =>
      intro i hj V1 u m1 z hF hE0 hu hi hz
      have hE1 := hE0
      obtain ⟨hE, v4, hD⟩ := hE0
      have v1 := hE.1.1
      have v2 := hE.1.2.1
      have hll := hE.1.len
      have hvs := hE.1.2.2.2.2.2.2
      have hget : u.2.1 < u.1.length → ∃ q, u.1[u.2.1]? = some q := fun h => ⟨_, List.getElem?_eq_getElem h⟩
      refine aw_iload_1 (q := 3) F dS_finish_2 rfl ?_
      refine aw_aload_0 (q := 4) F dS_finish_3 rfl ?_
      refine av_getaE (q := 7) F fS_18 dS_finish_4 rfl rfl (by first | exact hs.o | exact hs.ho | exact hs.q | exact hs.k | exact hs.h.a1) hs.p5 ?_
      refine av_alen (q := 8) F dS_finish_7 rfl (by first | exact hs.o | exact hs.ho | exact hs.q | exact hs.k | exact hs.h.a1) (by decide) (by omega) ?_
      refine aw_icmp_ge (q := 11) (t := 47) F dS_finish_8 rfl (by decide) (fun c8 => ?_) (fun c8 => ?_)
      · refine aw_vret F C dS_finish_47 rfl (Nat.le_refl _) (Nat.le_refl _) ?_
        subst hu; exact hK V1 i m1 hF hE1 (by omega)
      · refine aw_aload_0 (q := 12) F dS_finish_11 rfl ?_
        refine av_geti (q := 15) F fS_41 dS_finish_12 rfl rfl (by first | exact hs.o | exact hs.ho | exact hs.q | exact hs.k | exact hs.h.a1) ?_
        refine aw_aload_0 (q := 16) F dS_finish_15 rfl ?_
        refine av_geti (q := 19) F fS_44 dS_finish_16 rfl rfl (by first | exact hs.o | exact hs.ho | exact hs.q | exact hs.k | exact hs.h.a1) ?_
        refine aw_icmp_ge (q := 22) (t := 47) F dS_finish_19 rfl (by decide) (fun c19 => ?_) (fun c19 => ?_)
        · refine aw_vret F C dS_finish_47 rfl (Nat.le_refl _) (Nat.le_refl _) ?_
          subst hu; exact hK V1 i m1 hF hE1 (by omega)
        · refine aw_aload_0 (q := 23) F dS_finish_22 rfl ?_
          refine aw_aload_0 (q := 24) F dS_finish_23 rfl ?_
          refine av_geti (q := 27) F fS_41 dS_finish_24 rfl rfl (by first | exact hs.o | exact hs.ho | exact hs.q | exact hs.k | exact hs.h.a1) ?_
          refine aw_iconst (q := 28) F dS_finish_27 rfl (by decide) ?_
          obtain ⟨q, hq⟩ := hget (by omega)
          refine av_callV2 (q := 31) (ci := 5) F hm mS_expand_i mS_expand_n lS_72 dS_finish_28 rfl rfl rfl (by first | exact hs.o | exact hs.ho | exact hs.q | exact hs.k | exact hs.h.a1) (by decide) (Nat.le_refl _) (Nat.le_refl _) (Nat.le_of_ble_eq_true rfl) (wS_expand (i := u.2.1) (w := 0) (m := m1) (q := q) v4 rfl hq (by omega) (by omega) hs hE (fun v28 f28 g28 => ?_))
          refine aw_aload_0 (q := 32) F dS_finish_31 rfl ?_
          refine aw_dup (q := 33) F dS_finish_32 rfl trivial ?_
          refine av_geti (q := 36) F fS_41 dS_finish_33 rfl rfl (by first | exact hs.o | exact hs.ho | exact hs.q | exact hs.k | exact hs.h.a1) ?_
          rw [f28.2, v4]
          refine aw_iconst (q := 37) F dS_finish_36 rfl (by decide) ?_
          refine aw_iadd (q := 38) F dS_finish_37 rfl (by constructor <;> omega) ?_
          refine av_puti (q := 41) F fS_41 dS_finish_38 rfl rfl (wr_5_4 _) (by first | exact hs.o | exact hs.ho | exact hs.q | exact hs.k | exact hs.h.a1) ?_
          refine aw_iinc_1 (q := 44) F dS_finish_41 rfl trivial (by constructor <;> omega) ?_
          refine aw_goto (t := 2) F dS_finish_44 (by decide) ?_
          refine ih _ (by omega) (i + 1) rfl _ (stpS c u) q.1 _ (sF_up (sF_tr hF f28.1)) (hE1.stp hs hq g28 rfl) (by rw [hu]; rfl) (by rw [stpS_some hq]; show i + 1 ≤ u.2.1 + 1; omega) (by omega)
  refine aw_iconst (q := 1) F dS_finish_0 rfl (by decide) ?_
  refine aw_istore_1 (q := 2) F dS_finish_1 rfl trivial ?_
  exact loop _ 0 rfl V t m 0 (fun _ _ _ _ => rfl) hE0 rfl (by omega) rfl
def FFr (c : Cfg) (t : ST) (P : Nat) (r : Int) : Prop := (r = -1 ∧ t.1.length ≤ t.2.1 ∧ t.1.any (fitP c P) = false) ∨ ∃ i q, r = (i : Nat) ∧ t.1[i]? = some q ∧ fitP c P q = true ∧ ∀ j q', j < i → t.1[j]? = some q' → fitP c P q' = false
theorem wS_firstFit {x : Int} {P : Nat} (hx : x = P) (hP : P < 33554432) (hs : sS σ s qn kn Q) (hE0 : SQ V s qn kn Q c t m) (hK : ∀ V' k m' r, sF V V' s qn kn → SQ V' s qn kn Q c (itS c t k) m' → FFr c (itS c t k) P r → K (some (vI r)) (V', σ)) : Wp G 4 mS_firstFit [vR s, vI x] (V, σ) 0 0 K := by
  have hQ := hs.le
  have hc := hE0.1.2.1.1
  have h25 := wB_p25 hc
  refine wp_intro mS_firstFit_i.1 [some (vR s), some (vI x), none] rfl rfl (Nat.le_of_ble_eq_true rfl) ?_
  intro X hG F C
  have hm := C.rm
  have loop2 : ∀ (V1 : Nat → Nat → Int) (k : Nat) (m1 : Nat), sF V V1 s qn kn → SQ V1 s qn kn Q c (itS c t k) m1 → (itS c t k).1.any (fitP c P) = true → ∀ (j i : Nat), Q - i = j → ∀ (z : Int), (∀ j q', j < i → (itS c t k).1[j]? = some q' → fitP c P q' = false) → z = i → AW X 69 [some (vR s), some (vI x), some (vI z)] [] (V1, σ) 0 0 := by
    intro V1 k m1 hF hE0 hany j
    induction j using Nat.strongRecOn with
    | ind j ih =>
      intro i hj z hb hz
      have hE1 := hE0
      obtain ⟨hE, v4, hD⟩ := hE0
      have v1 := hE.1.1
      have v2 := hE.1.2.1
      have hll := hE.1.len
      have hvs := hE.1.2.2.2.2.2.2
      have hget : i < (itS c t k).1.length → ∃ q, (itS c t k).1[i]? = some q := fun h => ⟨_, List.getElem?_eq_getElem h⟩
      refine aw_iload_2 (q := 70) F dS_firstFit_69 rfl ?_
      refine aw_aload_0 (q := 71) F dS_firstFit_70 rfl ?_
      refine av_geti (q := 74) F fS_44 dS_firstFit_71 rfl rfl (by first | exact hs.o | exact hs.ho | exact hs.q | exact hs.k | exact hs.h.a1) ?_
      refine aw_icmp_ge (q := 77) (t := 104) F dS_firstFit_74 rfl (by decide) (fun c74 => ?_) (fun c74 => ?_)
      · refine aw_iconst (q := 105) F dS_firstFit_104 rfl (by decide) ?_
        refine aw_iret F C dS_firstFit_105 rfl (Nat.le_refl _) (Nat.le_refl _) ?_
        exfalso
        rw [List.any_eq_true] at hany
        obtain ⟨q, hq, hf⟩ := hany
        obtain ⟨j, hj⟩ := List.mem_iff_getElem?.mp hq
        have hlt := (List.getElem?_eq_some_iff.mp hj).1
        rw [hb j q (by omega) hj] at hf
        cases hf
      · refine aw_iload_1 (q := 78) F dS_firstFit_77 rfl ?_
        refine aw_aload_0 (q := 79) F dS_firstFit_78 rfl ?_
        refine av_getaE (q := 82) F fS_12 dS_firstFit_79 rfl rfl (by first | exact hs.o | exact hs.ho | exact hs.q | exact hs.k | exact hs.h.a1) hs.p0 ?_
        refine aw_aload_0 (q := 83) F dS_firstFit_82 rfl ?_
        refine aw_iload_2 (q := 84) F dS_firstFit_83 rfl ?_
        obtain ⟨q, hq⟩ := hget (by omega)
        refine av_callV1 (q := 87) (ci := 5) F hm mS_arrangementAt_i mS_arrangementAt_n lS_75 dS_firstFit_84 rfl rfl rfl (by first | exact hs.o | exact hs.ho | exact hs.q | exact hs.k | exact hs.h.a1) (by decide) (Nat.le_refl _) (Nat.le_refl _) (Nat.le_of_ble_eq_true rfl) (wS_arrangementAt (i := i) (q := q) hz hq hs hE.1 ?_)
        refine av_callV1 (q := 90) (ci := 2) F hm mH_placingOf_i mH_placingOf_n lS_67 dS_firstFit_87 rfl rfl rfl (by first | exact hs.o | exact hs.ho | exact hs.q | exact hs.k | exact hs.h.a1) (by decide) (Nat.le_refl _) (Nat.le_refl _) (Nat.le_of_ble_eq_true rfl) (wH_placingOf (c := c) (n := m1) (m := q.1) rfl hs.h hE.2.1 ?_)
        have hpm := Nat.mod_lt q.1 (wB_pos c (pN c))
        refine aw_ishr (q := 91) F dS_firstFit_90 rfl ?_
        refine aw_iconst (q := 92) F dS_firstFit_91 rfl (by decide) ?_
        refine aw_iand (q := 93) F dS_firstFit_92 rfl ?_
        rw [show zand (zshr x ((q.1 % wB c (pN c) : Nat) : Int)) 1 = if P.testBit (q.1 % wB c (pN c)) then 1 else 0 by rw [hx, bit_n (by omega) (by omega), bit_tb]; split <;> rfl]
        refine aw_if_eq (q := 96) (t := 98) F dS_firstFit_93 rfl (by decide) (fun c93 => ?_) (fun c93 => ?_)
        · refine aw_iinc_2 (q := 101) F dS_firstFit_98 rfl trivial (by constructor <;> omega) ?_
          refine aw_goto (t := 69) F dS_firstFit_101 (by decide) ?_
          refine ih _ (by omega) (i + 1) rfl (z + 1) (fun j q' h1 h2 => ?_) (by omega)
          by_cases hji : j = i
          · subst hji
            rw [hq] at h2
            cases h2
            unfold fitP
            by_cases hf : P.testBit (q.1 % wB c (pN c)) = true
            · rw [if_pos hf] at c93; simp at c93
            · simpa using hf
          · exact hb j q' (by omega) h2
        · refine aw_iload_2 (q := 97) F dS_firstFit_96 rfl ?_
          refine aw_iret F C dS_firstFit_97 rfl (Nat.le_refl _) (Nat.le_refl _) ?_
          refine hK V1 k m1 z hF hE1 (Or.inr ⟨i, q, hz, hq, ?_, hb⟩)
          unfold fitP
          by_cases hf : P.testBit (q.1 % wB c (pN c)) = true
          · exact hf
          · rw [if_neg hf] at c93; exact absurd rfl c93
  have loop1 : ∀ (j i : Nat), Q - i = j → ∀ (V1 : Nat → Nat → Int) (u : ST) (m1 : Nat) (z : Int), sF V V1 s qn kn → SQ V1 s qn kn Q c u m1 → u = itS c t i → i ≤ u.2.1 → z = i → AW X 2 [some (vR s), some (vI x), some (vI z)] [] (V1, σ) 0 0 := by
    intro j
    induction j using Nat.strongRecOn with
    | ind j ih =>
      intro i hj V1 u m1 z hF hE0 hu hi hz
      have hE1 := hE0
      obtain ⟨hE, v4, hD⟩ := hE0
      have v1 := hE.1.1
      have v2 := hE.1.2.1
      have hll := hE.1.len
      have hvs := hE.1.2.2.2.2.2.2
      have hml := metL_lt hc u.1
      have hmf := met_fit c P u.1
      have hgo : zand (V1 s 2) x = (metL c u.1 &&& P : Nat) := by rw [v2, hx]; exact zand_n (Nat.lt_of_le_of_lt Nat.and_le_left (by omega))
      have hget : u.2.1 < u.1.length → ∃ q, u.1[u.2.1]? = some q := fun h => ⟨_, List.getElem?_eq_getElem h⟩
      refine aw_iload_2 (q := 3) F dS_firstFit_2 rfl ?_
      refine aw_aload_0 (q := 4) F dS_firstFit_3 rfl ?_
      refine av_getaE (q := 7) F fS_18 dS_firstFit_4 rfl rfl (by first | exact hs.o | exact hs.ho | exact hs.q | exact hs.k | exact hs.h.a1) hs.p5 ?_
      refine av_alen (q := 8) F dS_firstFit_7 rfl (by first | exact hs.o | exact hs.ho | exact hs.q | exact hs.k | exact hs.h.a1) (by decide) (by omega) ?_
      refine aw_icmp_ge (q := 11) (t := 56) F dS_firstFit_8 rfl (by decide) (fun c8 => ?_) (fun c8 => ?_)
      · refine aw_aload_0 (q := 57) F dS_firstFit_56 rfl ?_
        refine av_geti (q := 60) F fS_47 dS_firstFit_57 rfl rfl (by first | exact hs.o | exact hs.ho | exact hs.q | exact hs.k | exact hs.h.a1) ?_
        refine aw_iload_1 (q := 61) F dS_firstFit_60 rfl ?_
        refine aw_iand (q := 62) F dS_firstFit_61 rfl ?_
        rw [hgo]
        refine aw_if_ne (q := 65) (t := 67) F dS_firstFit_62 rfl (by decide) (fun c62 => ?_) (fun c62 => ?_)
        · refine aw_iconst (q := 68) F dS_firstFit_67 rfl (by decide) ?_
          refine aw_istore_2 (q := 69) F dS_firstFit_68 rfl trivial ?_
          have hnf : (itS c t i).1.any (fitP c P) = true := by rw [← hu]; exact Decidable.byContradiction fun h => by have := hmf.mpr (by simpa using h); omega
          subst hu
          exact loop2 V1 i m1 hF hE1 hnf _ 0 rfl 0 (fun j q' h => absurd h (by omega)) rfl
        · refine aw_iconst (q := 66) F dS_firstFit_65 rfl (by decide) ?_
          refine aw_iret F C dS_firstFit_66 rfl (Nat.le_refl _) (Nat.le_refl _) ?_
          have hnf := hmf.mp (by omega)
          subst hu
          exact hK V1 i m1 _ hF hE1 (Or.inl ⟨rfl, by omega, hnf⟩)
      · refine aw_aload_0 (q := 12) F dS_firstFit_11 rfl ?_
        refine av_geti (q := 15) F fS_41 dS_firstFit_12 rfl rfl (by first | exact hs.o | exact hs.ho | exact hs.q | exact hs.k | exact hs.h.a1) ?_
        refine aw_aload_0 (q := 16) F dS_firstFit_15 rfl ?_
        refine av_geti (q := 19) F fS_44 dS_firstFit_16 rfl rfl (by first | exact hs.o | exact hs.ho | exact hs.q | exact hs.k | exact hs.h.a1) ?_
        refine aw_icmp_ge (q := 22) (t := 56) F dS_firstFit_19 rfl (by decide) (fun c19 => ?_) (fun c19 => ?_)
        · refine aw_aload_0 (q := 57) F dS_firstFit_56 rfl ?_
          refine av_geti (q := 60) F fS_47 dS_firstFit_57 rfl rfl (by first | exact hs.o | exact hs.ho | exact hs.q | exact hs.k | exact hs.h.a1) ?_
          refine aw_iload_1 (q := 61) F dS_firstFit_60 rfl ?_
          refine aw_iand (q := 62) F dS_firstFit_61 rfl ?_
          rw [hgo]
          refine aw_if_ne (q := 65) (t := 67) F dS_firstFit_62 rfl (by decide) (fun c62 => ?_) (fun c62 => ?_)
          · refine aw_iconst (q := 68) F dS_firstFit_67 rfl (by decide) ?_
            refine aw_istore_2 (q := 69) F dS_firstFit_68 rfl trivial ?_
            have hnf : (itS c t i).1.any (fitP c P) = true := by rw [← hu]; exact Decidable.byContradiction fun h => by have := hmf.mpr (by simpa using h); omega
            subst hu
            exact loop2 V1 i m1 hF hE1 hnf _ 0 rfl 0 (fun j q' h => absurd h (by omega)) rfl
          · refine aw_iconst (q := 66) F dS_firstFit_65 rfl (by decide) ?_
            refine aw_iret F C dS_firstFit_66 rfl (Nat.le_refl _) (Nat.le_refl _) ?_
            have hnf := hmf.mp (by omega)
            subst hu
            exact hK V1 i m1 _ hF hE1 (Or.inl ⟨rfl, by omega, hnf⟩)
        · refine aw_aload_0 (q := 23) F dS_firstFit_22 rfl ?_
          refine av_geti (q := 26) F fS_47 dS_firstFit_23 rfl rfl (by first | exact hs.o | exact hs.ho | exact hs.q | exact hs.k | exact hs.h.a1) ?_
          refine aw_iload_1 (q := 27) F dS_firstFit_26 rfl ?_
          refine aw_iand (q := 28) F dS_firstFit_27 rfl ?_
          rw [hgo]
          refine aw_if_ne (q := 31) (t := 56) F dS_firstFit_28 rfl (by decide) (fun c28 => ?_) (fun c28 => ?_)
          · refine aw_aload_0 (q := 57) F dS_firstFit_56 rfl ?_
            refine av_geti (q := 60) F fS_47 dS_firstFit_57 rfl rfl (by first | exact hs.o | exact hs.ho | exact hs.q | exact hs.k | exact hs.h.a1) ?_
            refine aw_iload_1 (q := 61) F dS_firstFit_60 rfl ?_
            refine aw_iand (q := 62) F dS_firstFit_61 rfl ?_
            rw [hgo]
            refine aw_if_ne (q := 65) (t := 67) F dS_firstFit_62 rfl (by decide) (fun c62 => ?_) (fun c62 => ?_)
            · refine aw_iconst (q := 68) F dS_firstFit_67 rfl (by decide) ?_
              refine aw_istore_2 (q := 69) F dS_firstFit_68 rfl trivial ?_
              have hnf : (itS c t i).1.any (fitP c P) = true := by rw [← hu]; exact Decidable.byContradiction fun h => by have := hmf.mpr (by simpa using h); omega
              subst hu
              exact loop2 V1 i m1 hF hE1 hnf _ 0 rfl 0 (fun j q' h => absurd h (by omega)) rfl
            · refine aw_iconst (q := 66) F dS_firstFit_65 rfl (by decide) ?_
              refine aw_iret F C dS_firstFit_66 rfl (Nat.le_refl _) (Nat.le_refl _) ?_
              have hnf := hmf.mp (by omega)
              subst hu
              exact hK V1 i m1 _ hF hE1 (Or.inl ⟨rfl, by omega, hnf⟩)
          · refine aw_aload_0 (q := 32) F dS_firstFit_31 rfl ?_
            refine aw_aload_0 (q := 33) F dS_firstFit_32 rfl ?_
            refine av_geti (q := 36) F fS_41 dS_firstFit_33 rfl rfl (by first | exact hs.o | exact hs.ho | exact hs.q | exact hs.k | exact hs.h.a1) ?_
            refine aw_iconst (q := 37) F dS_firstFit_36 rfl (by decide) ?_
            obtain ⟨q, hq⟩ := hget (by omega)
            refine av_callV2 (q := 40) (ci := 5) F hm mS_expand_i mS_expand_n lS_72 dS_firstFit_37 rfl rfl rfl (by first | exact hs.o | exact hs.ho | exact hs.q | exact hs.k | exact hs.h.a1) (by decide) (Nat.le_refl _) (Nat.le_refl _) (Nat.le_of_ble_eq_true rfl) (wS_expand (i := u.2.1) (w := 0) (m := m1) (q := q) v4 rfl hq (by omega) (by omega) hs hE (fun v37 f37 g37 => ?_))
            refine aw_aload_0 (q := 41) F dS_firstFit_40 rfl ?_
            refine aw_dup (q := 42) F dS_firstFit_41 rfl trivial ?_
            refine av_geti (q := 45) F fS_41 dS_firstFit_42 rfl rfl (by first | exact hs.o | exact hs.ho | exact hs.q | exact hs.k | exact hs.h.a1) ?_
            rw [f37.2, v4]
            refine aw_iconst (q := 46) F dS_firstFit_45 rfl (by decide) ?_
            refine aw_iadd (q := 47) F dS_firstFit_46 rfl (by constructor <;> omega) ?_
            refine av_puti (q := 50) F fS_41 dS_firstFit_47 rfl rfl (wr_5_4 _) (by first | exact hs.o | exact hs.ho | exact hs.q | exact hs.k | exact hs.h.a1) ?_
            refine aw_iinc_2 (q := 53) F dS_firstFit_50 rfl trivial (by constructor <;> omega) ?_
            refine aw_goto (t := 2) F dS_firstFit_53 (by decide) ?_
            refine ih _ (by omega) (i + 1) rfl _ (stpS c u) q.1 _ (sF_up (sF_tr hF f37.1)) (hE1.stp hs hq g37 rfl) (by rw [hu]; rfl) (by rw [stpS_some hq]; show i + 1 ≤ u.2.1 + 1; omega) (by omega)
  refine aw_iconst (q := 1) F dS_firstFit_0 rfl (by decide) ?_
  refine aw_istore_2 (q := 2) F dS_firstFit_1 rfl trivial ?_
  exact loop1 _ 0 rfl V t m 0 (fun _ _ _ _ => rfl) hE0 rfl (by omega) rfl
-- levels
def lvS (c : Cfg) (t : ST) : Nat → ST
  | 0 => t
  | n + 1 => itS c (lvS c t n) ((lvS c t n).1.length - (lvS c t n).2.1)
theorem addL_pre (L : List (Nat × Nat)) (n f : Nat) : ∃ M, addL L n f = L ++ M := by
  unfold addL
  split
  · exact ⟨[], by simp⟩
  · exact ⟨_, rfl⟩
theorem exL_pre (c : Cfg) (n w i : Nat) (L : List (Nat × Nat)) : ∀ k, ∃ M, exL c n w i L k = L ++ M
  | 0 => ⟨[], by simp [exL]⟩
  | k + 1 => by
    obtain ⟨M, hM⟩ := exL_pre c n w i L k
    by_cases h : okW c n w k = true
    · obtain ⟨M2, h2⟩ := addL_pre (exL c n w i L k) (aftN c n k) i
      rw [exL_1 h, h2, hM]
      exact ⟨M ++ M2, by simp⟩
    · rw [exL_0 (by simpa using h)]
      exact ⟨M, hM⟩
theorem stpS_pre (c : Cfg) (t : ST) : ∃ M, (stpS c t).1 = t.1 ++ M := by
  unfold stpS
  split
  · exact exL_pre c _ _ _ _ _
  · exact ⟨[], by simp⟩
theorem itS_pre (c : Cfg) (t : ST) : ∀ k, ∃ M, (itS c t k).1 = t.1 ++ M
  | 0 => ⟨[], by simp [itS]⟩
  | k + 1 => by
    obtain ⟨M, hM⟩ := itS_pre c t k
    obtain ⟨M2, h2⟩ := stpS_pre c (itS c t k)
    exact ⟨M ++ M2, by show (stpS c (itS c t k)).1 = _; rw [h2, hM]; simp⟩
theorem itS_len (c : Cfg) (t : ST) (k : Nat) : t.1.length ≤ (itS c t k).1.length := by
  obtain ⟨M, hM⟩ := itS_pre c t k
  rw [hM]; simp
theorem itS_head (c : Cfg) (t : ST) : ∀ k, t.2.1 + k ≤ t.1.length → (itS c t k).2.1 = t.2.1 + k
  | 0, _ => rfl
  | k + 1, h => by
    have h1 := itS_head c t k (by omega)
    have h2 := itS_len c t k
    have h3 : (itS c t k).1[(itS c t k).2.1]? = some (itS c t k).1[(itS c t k).2.1] := List.getElem?_eq_getElem (by omega)
    show (stpS c (itS c t k)).2.1 = _
    rw [stpS_some h3]
    show (itS c t k).2.1 + 1 = _
    rw [h1]
    rfl
theorem lvS_head (c : Cfg) (t : ST) (h : t.2.1 ≤ t.1.length) : ∀ n, (lvS c t n).2.1 ≤ (lvS c t n).1.length
  | 0 => h
  | n + 1 => by
    have h1 := lvS_head c t h n
    have h2 := itS_head c (lvS c t n) ((lvS c t n).1.length - (lvS c t n).2.1) (by omega)
    have h3 := itS_len c (lvS c t n) ((lvS c t n).1.length - (lvS c t n).2.1)
    show (itS c (lvS c t n) _).2.1 ≤ (itS c (lvS c t n) _).1.length
    omega
theorem wS_spread {e R : Nat} (hR : R < 1000) (ha : sA σ e 11 R) (hse : e < s ∨ s + 6 < e) (heq : e ≠ qn) (hek : e ≠ kn) (hs : sS σ s qn kn Q) (hE0 : SQ V s qn kn Q c t m) (hh0 : t.2.1 ≤ t.1.length) (hK : ∀ V' m', (∀ b, b < s ∨ s + 6 < b → b ≠ qn → b ≠ kn → b ≠ e → V' b = V b) → SQ V' s qn kn Q c (lvS c t (R - 1)) m' → (∀ n, n < R → V' e n = (lvS c t n).1.length) → K none (V', σ)) : Wp G 4 mS_spread [vR s, vR e] (V, σ) 0 0 K := by
  have hQ := hs.le
  refine wp_intro mS_spread_i.1 [some (vR s), some (vR e), none, none, none] rfl rfl (Nat.le_of_ble_eq_true rfl) ?_
  intro X hG F C
  have hm := C.rm
  have loop : ∀ (j n : Nat), R - n = j → n ≤ R → ∀ (V1 : Nat → Nat → Int) (m1 : Nat) (z : Int) (a3 a4 : Option AV), (∀ b, b < s ∨ s + 6 < b → b ≠ qn → b ≠ kn → b ≠ e → V1 b = V b) → SQ V1 s qn kn Q c (lvS c t (n - 1)) m1 → (∀ n', n' < n → V1 e n' = (lvS c t n').1.length) → z = n → AW X 2 [some (vR s), some (vR e), some (vI z), a3, a4] [] (V1, σ) 0 0 := by
    intro j
    induction j using Nat.strongRecOn with
    | ind j ih =>
      intro n hj hn V1 m1 z a3 a4 hF hE0 hen hz
      have hlv := lvS_head c t hh0 (n - 1)
      have done : ∀ (V2 : Nat → Nat → Int) (m2 : Nat) (r : Int) (a3 a4 : Option AV), n < R → (∀ b, b < s ∨ s + 6 < b → b ≠ qn → b ≠ kn → b ≠ e → V2 b = V b) → SQ V2 s qn kn Q c (lvS c t n) m2 → (∀ n', n' < n → V2 e n' = (lvS c t n').1.length) → r = z + 1 → AW X 2 [some (vR s), some (vR e), some (vI r), a3, a4] [] (up2 V2 e z.toNat (V2 s 1), σ) 0 0 := fun V2 m2 r a3 a4 hnR hF2 hE2 hen2 hr => by
        refine ih _ (by omega) (n + 1) rfl (by omega) _ m2 r a3 a4 (fun b h1 h2 h3 h4 => by rw [up2_nea _ _ h4]; exact hF2 b h1 h2 h3 h4) ?_ (fun n' hn' => ?_) (by omega)
        · rw [Nat.add_sub_cancel]
          exact ⟨⟨hE2.1.1.same (by rw [up2_nea _ _ (by omega)]) (by rw [up2_nea _ _ (by omega)]) (up2_nea _ _ (Ne.symm heq)) (up2_nea _ _ (Ne.symm hek)), hE2.1.2.1.same (fun b h1 h2 => up2_nea _ _ (by omega)), by rw [up2_nea _ _ (by omega)]; exact hE2.1.2.2⟩, by rw [up2_nea _ _ (by omega)]; exact hE2.2.1, hE2.2.2⟩
        · by_cases q : n' = n
          · rw [q, show z.toNat = n by omega, up2_same]; exact hE2.1.1.1
          · rw [up2_nek _ _ (by omega)]; exact hen2 n' (by omega)
      have inner : 0 < n → n < R → ∀ (j k : Nat), (lvS c t (n - 1)).1.length - (lvS c t (n - 1)).2.1 - k = j → (lvS c t (n - 1)).2.1 + k ≤ (lvS c t (n - 1)).1.length → ∀ (V2 : Nat → Nat → Int) (m2 : Nat) (w : Int), sF V1 V2 s qn kn → SQ V2 s qn kn Q c (itS c (lvS c t (n - 1)) k) m2 → w = ((lvS c t (n - 1)).2.1 + k : Nat) → AW X 19 [some (vR s), some (vR e), some (vI z), some (vI (lvS c t (n - 1)).1.length), some (vI w)] [] (V2, σ) 0 0 := by
        intro hn0 hnR j
        induction j using Nat.strongRecOn with
        | ind j ihk =>
          intro k hjk hk V2 m2 w hF2 hE0 hw
          have hE2 := hE0
          obtain ⟨hE, v4, hD⟩ := hE0
          have v1 := hE.1.1
          have v2 := hE.1.2.1
          have hll := hE.1.len
          have hvs := hE.1.2.2.2.2.2.2
          have h1 := itS_head c (lvS c t (n - 1)) k hk
          have h2 := itS_len c (lvS c t (n - 1)) k
          have hget : (lvS c t (n - 1)).2.1 + k < (lvS c t (n - 1)).1.length → ∃ q, (itS c (lvS c t (n - 1)) k).1[(itS c (lvS c t (n - 1)) k).2.1]? = some q := fun h => ⟨_, List.getElem?_eq_getElem (by omega)⟩
          refine aw_iload_4 (q := 21) F dS_spread_19 rfl ?_
          refine aw_iload_3 (q := 22) F dS_spread_21 rfl ?_
          refine aw_icmp_ge (q := 25) (t := 52) F dS_spread_22 rfl (by decide) (fun c22 => ?_) (fun c22 => ?_)
          · refine aw_aload_1 (q := 53) F dS_spread_52 rfl ?_
            refine aw_iload_2 (q := 54) F dS_spread_53 rfl ?_
            refine aw_aload_0 (q := 55) F dS_spread_54 rfl ?_
            refine av_geti (q := 58) F fS_44 dS_spread_55 rfl rfl (by first | exact hs.o | exact hs.ho | exact hs.q | exact hs.k | exact hs.h.a1 | exact ha) ?_
            refine av_iastore (q := 59) F dS_spread_58 rfl (by first | exact hs.o | exact hs.ho | exact hs.q | exact hs.k | exact hs.h.a1 | exact ha) (by omega) (by omega) ?_
            refine aw_iinc_2 (q := 62) F dS_spread_59 rfl trivial (by constructor <;> omega) ?_
            refine aw_goto (t := 2) F dS_spread_62 (by decide) ?_
            refine done V2 m2 _ _ _ hnR (fun b h1 h2 h3 h4 => (hF2 b h1 h2 h3).trans (hF b h1 h2 h3 h4)) ?_ (fun n' hn' => by rw [hF2 e hse heq hek]; exact hen n' hn') (by omega)
            have e1 : lvS c t n = itS c (lvS c t (n - 1)) ((lvS c t (n - 1)).1.length - (lvS c t (n - 1)).2.1) := by
              cases n with
              | zero => omega
              | succ n => rfl
            rw [e1, show (lvS c t (n - 1)).1.length - (lvS c t (n - 1)).2.1 = k by omega]
            exact hE2
          · refine aw_iload_2 (q := 26) F dS_spread_25 rfl ?_
            refine aw_if_le (q := 29) (t := 52) F dS_spread_26 rfl (by decide) (fun c26 => by omega) (fun c26 => ?_)
            refine aw_aload_0 (q := 30) F dS_spread_29 rfl ?_
            refine aw_iload_4 (q := 32) F dS_spread_30 rfl ?_
            refine aw_iconst (q := 33) F dS_spread_32 rfl (by decide) ?_
            obtain ⟨q, hq⟩ := hget (by omega)
            refine av_callV2 (q := 36) (ci := 5) F hm mS_expand_i mS_expand_n lS_72 dS_spread_33 rfl rfl rfl (by first | exact hs.o | exact hs.ho | exact hs.q | exact hs.k | exact hs.h.a1 | exact ha) (by decide) (Nat.le_refl _) (Nat.le_refl _) (Nat.le_of_ble_eq_true rfl) (wS_expand (i := (itS c (lvS c t (n - 1)) k).2.1) (w := 0) (m := m2) (q := q) (by omega) rfl hq (by omega) (by omega) hs hE (fun v33 f33 g33 => ?_))
            refine aw_aload_0 (q := 37) F dS_spread_36 rfl ?_
            refine aw_dup (q := 38) F dS_spread_37 rfl trivial ?_
            refine av_geti (q := 41) F fS_41 dS_spread_38 rfl rfl (by first | exact hs.o | exact hs.ho | exact hs.q | exact hs.k | exact hs.h.a1 | exact ha) ?_
            rw [f33.2, v4]
            refine aw_iconst (q := 42) F dS_spread_41 rfl (by decide) ?_
            refine aw_iadd (q := 43) F dS_spread_42 rfl (by constructor <;> omega) ?_
            refine av_puti (q := 46) F fS_41 dS_spread_43 rfl rfl (wr_5_4 _) (by first | exact hs.o | exact hs.ho | exact hs.q | exact hs.k | exact hs.h.a1 | exact ha) ?_
            refine aw_iinc_4 (q := 49) F dS_spread_46 rfl trivial (by constructor <;> omega) ?_
            refine aw_goto (t := 19) F dS_spread_49 (by decide) ?_
            exact ihk _ (by omega) (k + 1) rfl (by omega) _ q.1 _ (sF_up (sF_tr hF2 f33.1)) (hE2.stp hs hq g33 rfl) (by omega)
      have zero : n = 0 → n < R → ∀ x y : Int, AW X 19 [some (vR s), some (vR e), some (vI z), some (vI x), some (vI y)] [] (V1, σ) 0 0 := by
        intro h0 hnR x y
        refine aw_iload_4 (q := 21) F dS_spread_19 rfl ?_
        refine aw_iload_3 (q := 22) F dS_spread_21 rfl ?_
        refine aw_icmp_ge (q := 25) (t := 52) F dS_spread_22 rfl (by decide) (fun c22 => ?_) (fun c22 => ?_)
        · refine aw_aload_1 (q := 53) F dS_spread_52 rfl ?_
          refine aw_iload_2 (q := 54) F dS_spread_53 rfl ?_
          refine aw_aload_0 (q := 55) F dS_spread_54 rfl ?_
          refine av_geti (q := 58) F fS_44 dS_spread_55 rfl rfl (by first | exact hs.o | exact hs.ho | exact hs.q | exact hs.k | exact hs.h.a1 | exact ha) ?_
          refine av_iastore (q := 59) F dS_spread_58 rfl (by first | exact hs.o | exact hs.ho | exact hs.q | exact hs.k | exact hs.h.a1 | exact ha) (by omega) (by omega) ?_
          refine aw_iinc_2 (q := 62) F dS_spread_59 rfl trivial (by constructor <;> omega) ?_
          refine aw_goto (t := 2) F dS_spread_62 (by decide) ?_
          exact done V1 m1 _ _ _ hnR hF (by rw [h0] at hE0 ⊢; exact hE0) hen (by omega)
        · refine aw_iload_2 (q := 26) F dS_spread_25 rfl ?_
          refine aw_if_le (q := 29) (t := 52) F dS_spread_26 rfl (by decide) (fun c26 => ?_) (fun c26 => by omega)
          refine aw_aload_1 (q := 53) F dS_spread_52 rfl ?_
          refine aw_iload_2 (q := 54) F dS_spread_53 rfl ?_
          refine aw_aload_0 (q := 55) F dS_spread_54 rfl ?_
          refine av_geti (q := 58) F fS_44 dS_spread_55 rfl rfl (by first | exact hs.o | exact hs.ho | exact hs.q | exact hs.k | exact hs.h.a1 | exact ha) ?_
          refine av_iastore (q := 59) F dS_spread_58 rfl (by first | exact hs.o | exact hs.ho | exact hs.q | exact hs.k | exact hs.h.a1 | exact ha) (by omega) (by omega) ?_
          refine aw_iinc_2 (q := 62) F dS_spread_59 rfl trivial (by constructor <;> omega) ?_
          refine aw_goto (t := 2) F dS_spread_62 (by decide) ?_
          exact done V1 m1 _ _ _ hnR hF (by rw [h0] at hE0 ⊢; exact hE0) hen (by omega)
      have hE1 := hE0
      obtain ⟨hE, v4, hD⟩ := hE0
      have v1 := hE.1.1
      have v2 := hE.1.2.1
      have hll := hE.1.len
      have hvs := hE.1.2.2.2.2.2.2
      refine aw_iload_2 (q := 3) F dS_spread_2 rfl ?_
      refine aw_aload_1 (q := 4) F dS_spread_3 rfl ?_
      refine av_alen (q := 5) F dS_spread_4 rfl (by first | exact hs.o | exact hs.ho | exact hs.q | exact hs.k | exact hs.h.a1 | exact ha) (by decide) (by omega) ?_
      refine aw_icmp_ge (q := 8) (t := 65) F dS_spread_5 rfl (by decide) (fun c5 => ?_) (fun c5 => ?_)
      · refine aw_vret F C dS_spread_65 rfl (Nat.le_refl _) (Nat.le_refl _) ?_
        rw [show n = R by omega] at hE1 hen; exact hK V1 m1 hF hE1 hen
      · refine aw_aload_0 (q := 9) F dS_spread_8 rfl ?_
        refine av_geti (q := 12) F fS_44 dS_spread_9 rfl rfl (by first | exact hs.o | exact hs.ho | exact hs.q | exact hs.k | exact hs.h.a1 | exact ha) ?_
        rw [v1]
        refine aw_istore_3 (q := 13) F dS_spread_12 rfl trivial ?_
        refine aw_aload_0 (q := 14) F dS_spread_13 rfl ?_
        refine av_geti (q := 17) F fS_41 dS_spread_14 rfl rfl (by first | exact hs.o | exact hs.ho | exact hs.q | exact hs.k | exact hs.h.a1 | exact ha) ?_
        rw [v4]
        refine aw_istore_4 (q := 19) F dS_spread_17 rfl trivial ?_
        by_cases hn0 : 0 < n
        · exact inner hn0 (by omega) _ 0 rfl (by omega) V1 m1 _ (fun _ _ _ _ => rfl) hE1 rfl
        · exact zero (by omega) (by omega) _ _
  refine aw_iconst (q := 1) F dS_spread_0 rfl (by decide) ?_
  refine aw_istore_2 (q := 2) F dS_spread_1 rfl trivial ?_
  exact loop _ 0 rfl (by omega) V m 0 none none (fun _ _ _ _ _ => rfl) hE0 (fun n' h => absurd h (by omega)) rfl
end Search3
