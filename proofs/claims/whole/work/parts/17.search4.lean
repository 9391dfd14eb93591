-- whence an entry came
def parL (L : List (Nat × Nat)) (i : Nat) : Nat := match L[i]? with
  | some q => q.2
  | none => 0
theorem parL_some {L : List (Nat × Nat)} {i : Nat} {q : Nat × Nat} (h : L[i]? = some q) : parL L i = q.2 := by unfold parL; rw [h]
def upL (L : List (Nat × Nat)) : Nat → Nat → Nat
  | 0, i => i
  | k + 1, i => parL L (upL L k i)
def dpL (L : List (Nat × Nat)) : Nat → Nat → Nat
  | 0, _ => 0
  | f + 1, i => if i = 0 then 0 else dpL L f (parL L i) + 1
def okPar (L : List (Nat × Nat)) : Prop := ∀ i q, L[i]? = some q → q.2 ≤ i ∧ (0 < i → q.2 < i)
theorem dpL_le (L : List (Nat × Nat)) : ∀ f i, dpL L f i ≤ f
  | 0, _ => Nat.le_refl _
  | f + 1, i => by
    unfold dpL
    have := dpL_le L f (parL L i)
    split <;> omega
theorem parL_lt {L : List (Nat × Nat)} (h : okPar L) (i : Nat) : parL L i ≤ i := by
  unfold parL
  split
  · rename_i q hq; exact (h i q hq).1
  · omega
theorem upL_le {L : List (Nat × Nat)} (h : okPar L) : ∀ k i, upL L k i ≤ i
  | 0, _ => Nat.le_refl _
  | k + 1, i => Nat.le_trans (parL_lt h _) (upL_le h k i)
section Search4
variable {G : GE} {V : Nat → Nat → Int} {σ : Shp} {s qn kn Q : Nat} {K : Option AV → Mem → Prop} {c : Cfg} {L : List (Nat × Nat)} {m D : Nat}
theorem wS_depthOf {x : Int} (hs : sS σ s qn kn Q) (hV : SV V s qn kn Q c L) (hp : okPar L) (h1 : ∀ i, x = (i : Nat) → i < L.length → K (some (vI (dpL L L.length i))) (V, σ)) (h0 : ¬ (0 ≤ x ∧ x < L.length) → K (some (vI (-2))) (V, σ)) : Wp G 1 mS_depthOf [vR s, vI x] (V, σ) 0 0 K := by
  have hQ := hs.le
  have v1 := hV.1
  have hll := hV.len
  have hvs := hV.2.2.2.2.2.2
  refine wp_intro mS_depthOf_i.1 [some (vR s), some (vI x), none, none, none] rfl rfl (Nat.le_of_ble_eq_true rfl) ?_
  intro X hG F C
  have hm := C.rm
  have loop : ∀ i0 : Nat, x = i0 → i0 < L.length → ∀ (j k : Nat), L.length - k = j → k ≤ L.length → ∀ (a y : Nat), a < L.length → y = k → y + dpL L (L.length - k) a = dpL L L.length i0 → ∀ (ya za ka : Int), ya = y → za = a → ka = k → AW X 22 [some (vR s), some (vI x), some (vI ya), some (vI za), some (vI ka)] [] (V, σ) 0 0 := by
    intro i0 hx hi0 j
    induction j using Nat.strongRecOn with
    | ind j ih =>
      intro k hj hk a y ha hyk hdp ya za ka hya hza hka
      have hget : ∃ q, L[a]? = some q := ⟨_, List.getElem?_eq_getElem ha⟩
      obtain ⟨q, hq⟩ := hget
      have hpa := hp a q hq
      have e1 : k < L.length → a ≠ 0 → dpL L (L.length - k) a = dpL L (L.length - (k + 1)) q.2 + 1 := fun h h0 => by
        rw [show L.length - k = (L.length - (k + 1)) + 1 by omega]
        show (if a = 0 then 0 else _) = _
        rw [if_neg h0, parL_some hq]
      have e0 : L.length ≤ k ∨ a = 0 → dpL L (L.length - k) a = 0 := fun h => by
        rcases h with h | h
        · rw [show L.length - k = 0 by omega]; rfl
        · rw [h]
          cases L.length - k with
          | zero => rfl
          | succ f => rfl
      refine aw_iload_4 (q := 24) F dS_depthOf_22 rfl ?_
      refine aw_aload_0 (q := 25) F dS_depthOf_24 rfl ?_
      refine av_geti (q := 28) F fS_44 dS_depthOf_25 rfl rfl (by first | exact hs.o | exact hs.ho | exact hs.q | exact hs.k | exact hs.h.a1) ?_
      refine aw_icmp_ge (q := 31) (t := 50) F dS_depthOf_28 rfl (by decide) (fun c28 => ?_) (fun c28 => ?_)
      · refine aw_iload_2 (q := 51) F dS_depthOf_50 rfl ?_
        refine aw_iret F C dS_depthOf_51 rfl (Nat.le_refl _) (Nat.le_refl _) ?_
        have e0 := e0 (by omega); exact kI (h1 i0 hx hi0) (by omega)
      · refine aw_iload_3 (q := 32) F dS_depthOf_31 rfl ?_
        refine aw_if_le (q := 35) (t := 50) F dS_depthOf_32 rfl (by decide) (fun c32 => ?_) (fun c32 => ?_)
        · refine aw_iload_2 (q := 51) F dS_depthOf_50 rfl ?_
          refine aw_iret F C dS_depthOf_51 rfl (Nat.le_refl _) (Nat.le_refl _) ?_
          have e0 := e0 (by omega); exact kI (h1 i0 hx hi0) (by omega)
        · refine aw_aload_0 (q := 36) F dS_depthOf_35 rfl ?_
          refine aw_iload_3 (q := 37) F dS_depthOf_36 rfl ?_
          refine av_callV1 (q := 40) (ci := 5) F hm mS_cameFrom_i mS_cameFrom_n lS_117 dS_depthOf_37 rfl rfl rfl (by first | exact hs.o | exact hs.ho | exact hs.q | exact hs.k | exact hs.h.a1) (by decide) (Nat.le_refl _) (Nat.le_refl _) (Nat.le_of_ble_eq_true rfl) (wS_cameFrom (i := a) (q := q) hza hq hs hV ?_)
          refine aw_istore_3 (q := 41) F dS_depthOf_40 rfl trivial ?_
          refine aw_iinc_2 (q := 44) F dS_depthOf_41 rfl trivial (by constructor <;> omega) ?_
          refine aw_iinc_4 (q := 47) F dS_depthOf_44 rfl trivial (by constructor <;> omega) ?_
          refine aw_goto (t := 22) F dS_depthOf_47 (by decide) ?_
          have e1 := e1 (by omega) (by omega); exact ih _ (by omega) (k + 1) rfl (by omega) q.2 (y + 1) (by omega) (by omega) (by omega) _ _ _ (by omega) rfl (by omega)
  refine aw_iload_1 (q := 1) F dS_depthOf_0 rfl ?_
  refine aw_if_lt (q := 4) (t := 12) F dS_depthOf_1 rfl (by decide) (fun c1 => ?_) (fun c1 => ?_)
  · refine aw_bipush (q := 14) F dS_depthOf_12 rfl (by decide) ?_
    refine aw_iret F C dS_depthOf_14 rfl (Nat.le_refl _) (Nat.le_refl _) ?_
    exact h0 (by omega)
  · refine aw_iload_1 (q := 5) F dS_depthOf_4 rfl ?_
    refine aw_aload_0 (q := 6) F dS_depthOf_5 rfl ?_
    refine av_geti (q := 9) F fS_44 dS_depthOf_6 rfl rfl (by first | exact hs.o | exact hs.ho | exact hs.q | exact hs.k | exact hs.h.a1) ?_
    refine aw_icmp_lt (q := 12) (t := 15) F dS_depthOf_9 rfl (by decide) (fun c9 => ?_) (fun c9 => ?_)
    · refine aw_iconst (q := 16) F dS_depthOf_15 rfl (by decide) ?_
      refine aw_istore_2 (q := 17) F dS_depthOf_16 rfl trivial ?_
      refine aw_iload_1 (q := 18) F dS_depthOf_17 rfl ?_
      refine aw_istore_3 (q := 19) F dS_depthOf_18 rfl trivial ?_
      refine aw_iconst (q := 20) F dS_depthOf_19 rfl (by decide) ?_
      refine aw_istore_4 (q := 22) F dS_depthOf_20 rfl trivial ?_
      exact loop x.toNat (by omega) (by omega) _ 0 rfl (by omega) x.toNat 0 (by omega) rfl (by simp) 0 _ 0 rfl (by omega) rfl
    · refine aw_bipush (q := 14) F dS_depthOf_12 rfl (by decide) ?_
      refine aw_iret F C dS_depthOf_14 rfl (Nat.le_refl _) (Nat.le_refl _) ?_
      exact h0 (by omega)
def RS (c : Cfg) (n a : Nat) (r : Int) : Prop := (∃ k : Nat, r = k ∧ k < stN c ∧ mayN c n (allP c) k = true ∧ aftN c n k = a ∧ ∀ k', k' < k → ¬ (mayN c n (allP c) k' = true ∧ aftN c n k' = a)) ∨ (r = -1 ∧ ∀ k, k < stN c → ¬ (mayN c n (allP c) k = true ∧ aftN c n k = a))
theorem wS_stepOnTheWay {x y : Int} (hs : sS σ s qn kn Q) (hE : SE V s qn kn Q c L m D) (hp : okPar L) (h1 : ∀ V' (i k : Nat) q q1 r, x = i → i < L.length → y = k → k < dpL L L.length i → putF V V' (s + 1) → HA V' (s + 1) c q1.1 → L[upL L (dpL L L.length i - 1 - k) i]? = some q → L[q.2]? = some q1 → RS c q1.1 q.1 r → K (some (vI r)) (V', σ)) (h0 : (∀ (i k : Nat), x = i → y = k → i < L.length → dpL L L.length i ≤ k) → K (some (vI (-1))) (V, σ)) : Wp G 3 mS_stepOnTheWay [vR s, vI x, vI y] (V, σ) 0 0 K := by
  have hQ := hs.le
  obtain ⟨hV, hH, -⟩ := hE
  have hc := hH.1
  have v1 := hV.1
  have hll := hV.len
  have hvs := hV.2.2.2.2.2.2
  have hsp := spc_le hc
  have h4 := allP_lt hc
  refine wp_intro mS_stepOnTheWay_i.1 [some (vR s), some (vI x), some (vI y), none, none, none] rfl rfl (Nat.le_of_ble_eq_true rfl) ?_
  intro X hG F C
  have hm := C.rm
  have loop2 : ∀ (V1 : Nat → Nat → Int) (a : Nat) (i k : Nat) q q1 (dy za : Int), x = i → i < L.length → y = k → k < dpL L L.length i → putF V V1 (s + 1) → HA V1 (s + 1) c q1.1 → q1.1 < spc c → L[upL L (dpL L L.length i - 1 - k) i]? = some q → L[q.2]? = some q1 → za = a → L[a]? = some q → ∀ j k1, stN c - k1 = j → k1 ≤ stN c → (∀ k', k' < k1 → ¬ (mayN c q1.1 (allP c) k' = true ∧ aftN c q1.1 k' = q.1)) → ∀ w : Int, w = (k1 : Nat) → AW X 65 [some (vR s), some (vI x), some (vI y), some (vI dy), some (vI za), some (vI w)] [] (V1, σ) 0 0 := by
    intro V1 a i k q q1 dy za hx hi hy hk hF hA hlt hq hq1 hza hqa j
    induction j using Nat.strongRecOn with
    | ind j ih =>
      intro k1 hj hk1 hno w hw
      have hh1 : HH V1 (s + 1) c q1.1 := hH.put hF hA
      have v2 : V1 (s + 1) 2 = stN c := hh1.2.1.2.2.1
      have hst := stN_le hc
      have ew : w.toNat = k1 := by omega
      refine aw_iload_5 (q := 67) F dS_stepOnTheWay_65 rfl ?_
      refine aw_aload_0 (q := 68) F dS_stepOnTheWay_67 rfl ?_
      refine av_getaE (q := 71) F fS_12 dS_stepOnTheWay_68 rfl rfl (by first | exact hs.o | exact hs.ho | exact hs.q | exact hs.k | exact hs.h.a1) hs.p0 ?_
      refine av_geti (q := 74) F fS_123 dS_stepOnTheWay_71 rfl rfl (by first | exact hs.o | exact hs.ho | exact hs.q | exact hs.k | exact hs.h.a1) ?_
      refine aw_icmp_ge (q := 77) (t := 123) F dS_stepOnTheWay_74 rfl (by decide) (fun c74 => ?_) (fun c74 => ?_)
      · refine aw_iconst (q := 124) F dS_stepOnTheWay_123 rfl (by decide) ?_
        refine aw_iret F C dS_stepOnTheWay_124 rfl (Nat.le_refl _) (Nat.le_refl _) ?_
        refine h1 V1 i k q q1 _ hx hi hy hk hF hA hq hq1 (Or.inr ⟨rfl, fun k' hk' => hno k' (by omega)⟩)
      · refine aw_aload_0 (q := 78) F dS_stepOnTheWay_77 rfl ?_
        refine av_getaE (q := 81) F fS_12 dS_stepOnTheWay_78 rfl rfl (by first | exact hs.o | exact hs.ho | exact hs.q | exact hs.k | exact hs.h.a1) hs.p0 ?_
        refine aw_iload_5 (q := 83) F dS_stepOnTheWay_81 rfl ?_
        refine aw_aload_0 (q := 84) F dS_stepOnTheWay_83 rfl ?_
        refine av_getaE (q := 87) F fS_12 dS_stepOnTheWay_84 rfl rfl (by first | exact hs.o | exact hs.ho | exact hs.q | exact hs.k | exact hs.h.a1) hs.p0 ?_
        refine av_callV0 (q := 90) (ci := 2) F hm mH_everybody_i mH_everybody_n lS_81 dS_stepOnTheWay_87 rfl rfl rfl (by first | exact hs.o | exact hs.ho | exact hs.q | exact hs.k | exact hs.h.a1) (by decide) (Nat.le_refl _) (Nat.le_refl _) (Nat.le_of_ble_eq_true rfl) (wH_everybody hs.h hh1 ?_)
        refine av_callV2 (q := 93) (ci := 2) F hm mH_may_i mH_may_n lS_126 dS_stepOnTheWay_90 rfl rfl rfl (by first | exact hs.o | exact hs.ho | exact hs.q | exact hs.k | exact hs.h.a1) (by decide) (Nat.le_refl _) (Nat.le_refl _) (Nat.le_of_ble_eq_true rfl) (wH_may (c := c) (n := q1.1) (th := allP c) rfl h4 hs.h hh1 (fun a90 b90 m90 => ?_) (fun m90 => ?_))
        · refine aw_if_eq (q := 96) (t := 117) F dS_stepOnTheWay_93 rfl (by decide) (fun c93 => absurd c93 (by decide)) (fun c93 => ?_)
          refine aw_aload_0 (q := 97) F dS_stepOnTheWay_96 rfl ?_
          refine av_getaE (q := 100) F fS_12 dS_stepOnTheWay_97 rfl rfl (by first | exact hs.o | exact hs.ho | exact hs.q | exact hs.k | exact hs.h.a1) hs.p0 ?_
          refine aw_iload_5 (q := 102) F dS_stepOnTheWay_100 rfl ?_
          refine av_callV1 (q := 105) (ci := 2) F hm mH_after_i mH_after_n lS_129 dS_stepOnTheWay_102 rfl rfl rfl (by first | exact hs.o | exact hs.ho | exact hs.q | exact hs.k | exact hs.h.a1) (by decide) (Nat.le_refl _) (Nat.le_refl _) (Nat.le_of_ble_eq_true rfl) (wH_after (by omega) hlt hs.h hh1 ?_)
          refine aw_aload_0 (q := 106) F dS_stepOnTheWay_105 rfl ?_
          refine aw_iload_4 (q := 108) F dS_stepOnTheWay_106 rfl ?_
          refine av_callV1 (q := 111) (ci := 5) F hm mS_arrangementAt_i mS_arrangementAt_n lS_75 dS_stepOnTheWay_108 rfl rfl rfl (by first | exact hs.o | exact hs.ho | exact hs.q | exact hs.k | exact hs.h.a1) (by decide) (Nat.le_refl _) (Nat.le_refl _) (Nat.le_of_ble_eq_true rfl) (wS_arrangementAt (i := a) (q := q) hza hqa hs (hF.sv hs hV) ?_)
          refine aw_icmp_ne (q := 114) (t := 117) F dS_stepOnTheWay_111 rfl (by decide) (fun c111 => ?_) (fun c111 => ?_)
          · refine aw_iinc_5 (q := 120) F dS_stepOnTheWay_117 rfl trivial (by constructor <;> omega) ?_
            refine aw_goto (t := 65) F dS_stepOnTheWay_120 (by decide) ?_
            refine ih _ (by omega) (k1 + 1) rfl (by omega) (fun k' hk' hh => ?_) (w + 1) (by omega)
            by_cases e : k' = k1
            · subst e
              rw [← ew] at hh
              first
              | (have := m90 (by omega) (by omega); rw [hh.1] at this; cases this)
              | (rw [hh.2] at c111; exact c111 rfl)
            · exact hno k' (by omega) hh
          · refine aw_iload_5 (q := 116) F dS_stepOnTheWay_114 rfl ?_
            refine aw_iret F C dS_stepOnTheWay_116 rfl (Nat.le_refl _) (Nat.le_refl _) ?_
            refine h1 V1 i k q q1 w hx hi hy hk hF hA hq hq1 (Or.inl ⟨k1, hw, by omega, ?_, ?_, hno⟩)
            · rw [← ew]; exact m90
            · rw [← ew]; omega
        · refine aw_if_eq (q := 96) (t := 117) F dS_stepOnTheWay_93 rfl (by decide) (fun c93 => ?_) (fun c93 => absurd c93 (by decide))
          refine aw_iinc_5 (q := 120) F dS_stepOnTheWay_117 rfl trivial (by constructor <;> omega) ?_
          refine aw_goto (t := 65) F dS_stepOnTheWay_120 (by decide) ?_
          refine ih _ (by omega) (k1 + 1) rfl (by omega) (fun k' hk' hh => ?_) (w + 1) (by omega)
          by_cases e : k' = k1
          · subst e
            rw [← ew] at hh
            first
            | (have := m90 (by omega) (by omega); rw [hh.1] at this; cases this)
            | (rw [hh.2] at c111; exact c111 rfl)
          · exact hno k' (by omega) hh
  have loop1 : ∀ (i k : Nat), x = i → i < L.length → y = k → k < dpL L L.length i → ∀ j b, dpL L L.length i - 1 - k - b = j → b ≤ dpL L L.length i - 1 - k → ∀ za w : Int, za = (upL L b i : Nat) → w = (dpL L L.length i : Nat) - 1 - (b : Nat) → AW X 25 [some (vR s), some (vI x), some (vI y), some (vI (dpL L L.length i)), some (vI za), some (vI w)] [] (V, σ) 0 0 := by
    intro i k hx hi hy hk j
    induction j using Nat.strongRecOn with
    | ind j ih =>
      intro b hj hb za w hza hw
      have hu := upL_le hp b i
      have hdl := dpL_le L L.length i
      have hget : ∃ q, L[upL L b i]? = some q := ⟨_, List.getElem?_eq_getElem (by omega)⟩
      obtain ⟨q, hq⟩ := hget
      have hpq := hp _ q hq
      have hget1 : ∃ q1, L[q.2]? = some q1 := ⟨_, List.getElem?_eq_getElem (by omega)⟩
      obtain ⟨q1, hq1⟩ := hget1
      have hb1 := hV.2.2.2.2.2.1 q1 (List.mem_of_getElem? hq1)
      refine aw_iload_5 (q := 27) F dS_stepOnTheWay_25 rfl ?_
      refine aw_iload_2 (q := 28) F dS_stepOnTheWay_27 rfl ?_
      refine aw_icmp_le (q := 31) (t := 45) F dS_stepOnTheWay_28 rfl (by decide) (fun c28 => ?_) (fun c28 => ?_)
      · refine aw_aload_0 (q := 46) F dS_stepOnTheWay_45 rfl ?_
        refine av_getaE (q := 49) F fS_12 dS_stepOnTheWay_46 rfl rfl (by first | exact hs.o | exact hs.ho | exact hs.q | exact hs.k | exact hs.h.a1) hs.p0 ?_
        refine aw_aload_0 (q := 50) F dS_stepOnTheWay_49 rfl ?_
        refine aw_aload_0 (q := 51) F dS_stepOnTheWay_50 rfl ?_
        refine aw_iload_4 (q := 53) F dS_stepOnTheWay_51 rfl ?_
        refine av_callV1 (q := 56) (ci := 5) F hm mS_cameFrom_i mS_cameFrom_n lS_117 dS_stepOnTheWay_53 rfl rfl rfl (by first | exact hs.o | exact hs.ho | exact hs.q | exact hs.k | exact hs.h.a1) (by decide) (Nat.le_refl _) (Nat.le_refl _) (Nat.le_of_ble_eq_true rfl) (wS_cameFrom (i := upL L b i) (q := q) hza hq hs hV ?_)
        refine av_callV1 (q := 59) (ci := 5) F hm mS_arrangementAt_i mS_arrangementAt_n lS_75 dS_stepOnTheWay_56 rfl rfl rfl (by first | exact hs.o | exact hs.ho | exact hs.q | exact hs.k | exact hs.h.a1) (by decide) (Nat.le_refl _) (Nat.le_refl _) (Nat.le_of_ble_eq_true rfl) (wS_arrangementAt (i := q.2) (q := q1) rfl hq1 hs hV ?_)
        refine av_callV1 (q := 62) (ci := 2) F hm mH_put_i mH_put_n lS_78 dS_stepOnTheWay_59 rfl rfl rfl (by first | exact hs.o | exact hs.ho | exact hs.q | exact hs.k | exact hs.h.a1) (by decide) (Nat.le_refl _) (Nat.le_refl _) (Nat.le_of_ble_eq_true rfl) (wH_put (c := c) rfl (by omega) hs.h hc hH.2.1 (fun v59 f59 g59 => ?_))
        refine aw_iconst (q := 63) F dS_stepOnTheWay_62 rfl (by decide) ?_
        refine aw_istore_5 (q := 65) F dS_stepOnTheWay_63 rfl trivial ?_
        have eb : b = dpL L L.length i - 1 - k := by omega
        exact loop2 v59 (upL L b i) i k q q1 _ _ hx hi hy hk f59 g59 hb1.1 (by rw [← eb]; exact hq) hq1 hza hq _ 0 rfl (by omega) (fun k' h => absurd h (by omega)) 0 rfl
      · refine aw_aload_0 (q := 32) F dS_stepOnTheWay_31 rfl ?_
        refine aw_iload_4 (q := 34) F dS_stepOnTheWay_32 rfl ?_
        refine av_callV1 (q := 37) (ci := 5) F hm mS_cameFrom_i mS_cameFrom_n lS_117 dS_stepOnTheWay_34 rfl rfl rfl (by first | exact hs.o | exact hs.ho | exact hs.q | exact hs.k | exact hs.h.a1) (by decide) (Nat.le_refl _) (Nat.le_refl _) (Nat.le_of_ble_eq_true rfl) (wS_cameFrom (i := upL L b i) (q := q) hza hq hs hV ?_)
        refine aw_istore_4 (q := 39) F dS_stepOnTheWay_37 rfl trivial ?_
        refine aw_iinc_5 (q := 42) F dS_stepOnTheWay_39 rfl trivial (by constructor <;> omega) ?_
        refine aw_goto (t := 25) F dS_stepOnTheWay_42 (by decide) ?_
        exact ih _ (by omega) (b + 1) rfl (by omega) _ _ (by show (q.2 : Int) = (parL L (upL L b i) : Nat); rw [parL_some hq]) (by omega)
  refine aw_aload_0 (q := 1) F dS_stepOnTheWay_0 rfl ?_
  refine aw_iload_1 (q := 2) F dS_stepOnTheWay_1 rfl ?_
  refine av_callV1 (q := 5) (ci := 5) F hm mS_depthOf_i mS_depthOf_n lS_120 dS_stepOnTheWay_2 rfl rfl rfl (by first | exact hs.o | exact hs.ho | exact hs.q | exact hs.k | exact hs.h.a1) (by decide) (Nat.le_refl _) (Nat.le_refl _) (Nat.le_of_ble_eq_true rfl) (wS_depthOf hs hV hp (fun i2 h2 g2 => ?_) (fun h2 => ?_))
  · refine aw_istore_3 (q := 6) F dS_stepOnTheWay_5 rfl trivial ?_
    refine aw_iload_2 (q := 7) F dS_stepOnTheWay_6 rfl ?_
    refine aw_if_lt (q := 10) (t := 15) F dS_stepOnTheWay_7 rfl (by decide) (fun c7 => ?_) (fun c7 => ?_)
    · refine aw_iconst (q := 16) F dS_stepOnTheWay_15 rfl (by decide) ?_
      refine aw_iret F C dS_stepOnTheWay_16 rfl (Nat.le_refl _) (Nat.le_refl _) ?_
      first
      | exact h0 (fun i k h5 h6 h7 => by have : i2 = i := (by omega); subst this; omega)
      | exact h0 (fun i k h5 h6 h7 => by omega)
    · refine aw_iload_2 (q := 11) F dS_stepOnTheWay_10 rfl ?_
      refine aw_iload_3 (q := 12) F dS_stepOnTheWay_11 rfl ?_
      refine aw_icmp_lt (q := 15) (t := 17) F dS_stepOnTheWay_12 rfl (by decide) (fun c12 => ?_) (fun c12 => ?_)
      · refine aw_iload_1 (q := 18) F dS_stepOnTheWay_17 rfl ?_
        refine aw_istore_4 (q := 20) F dS_stepOnTheWay_18 rfl trivial ?_
        refine aw_iload_3 (q := 21) F dS_stepOnTheWay_20 rfl ?_
        refine aw_iconst (q := 22) F dS_stepOnTheWay_21 rfl (by decide) ?_
        first | have := dpL_le L L.length i2 | skip
        refine aw_isub (q := 23) F dS_stepOnTheWay_22 rfl (by constructor <;> omega) ?_
        refine aw_istore_5 (q := 25) F dS_stepOnTheWay_23 rfl trivial ?_
        first
        | exact loop1 i2 y.toNat h2 g2 (by omega) (by omega) _ 0 rfl (by omega) _ _ h2 (by omega)
        | (exfalso; omega)
      · refine aw_iconst (q := 16) F dS_stepOnTheWay_15 rfl (by decide) ?_
        refine aw_iret F C dS_stepOnTheWay_16 rfl (Nat.le_refl _) (Nat.le_refl _) ?_
        first
        | exact h0 (fun i k h5 h6 h7 => by have : i2 = i := (by omega); subst this; omega)
        | exact h0 (fun i k h5 h6 h7 => by omega)
  · refine aw_istore_3 (q := 6) F dS_stepOnTheWay_5 rfl trivial ?_
    refine aw_iload_2 (q := 7) F dS_stepOnTheWay_6 rfl ?_
    refine aw_if_lt (q := 10) (t := 15) F dS_stepOnTheWay_7 rfl (by decide) (fun c7 => ?_) (fun c7 => ?_)
    · refine aw_iconst (q := 16) F dS_stepOnTheWay_15 rfl (by decide) ?_
      refine aw_iret F C dS_stepOnTheWay_16 rfl (Nat.le_refl _) (Nat.le_refl _) ?_
      first
      | exact h0 (fun i k h5 h6 h7 => by have : i2 = i := (by omega); subst this; omega)
      | exact h0 (fun i k h5 h6 h7 => by omega)
    · refine aw_iload_2 (q := 11) F dS_stepOnTheWay_10 rfl ?_
      refine aw_iload_3 (q := 12) F dS_stepOnTheWay_11 rfl ?_
      refine aw_icmp_lt (q := 15) (t := 17) F dS_stepOnTheWay_12 rfl (by decide) (fun c12 => ?_) (fun c12 => ?_)
      · refine aw_iload_1 (q := 18) F dS_stepOnTheWay_17 rfl ?_
        refine aw_istore_4 (q := 20) F dS_stepOnTheWay_18 rfl trivial ?_
        refine aw_iload_3 (q := 21) F dS_stepOnTheWay_20 rfl ?_
        refine aw_iconst (q := 22) F dS_stepOnTheWay_21 rfl (by decide) ?_
        first | have := dpL_le L L.length i2 | skip
        refine aw_isub (q := 23) F dS_stepOnTheWay_22 rfl (by constructor <;> omega) ?_
        refine aw_istore_5 (q := 25) F dS_stepOnTheWay_23 rfl trivial ?_
        first
        | exact loop1 i2 y.toNat h2 g2 (by omega) (by omega) _ 0 rfl (by omega) _ _ h2 (by omega)
        | (exfalso; omega)
      · refine aw_iconst (q := 16) F dS_stepOnTheWay_15 rfl (by decide) ?_
        refine aw_iret F C dS_stepOnTheWay_16 rfl (Nat.le_refl _) (Nat.le_refl _) ?_
        first
        | exact h0 (fun i k h5 h6 h7 => by have : i2 = i := (by omega); subst this; omega)
        | exact h0 (fun i k h5 h6 h7 => by omega)
-- by shuttings: first all that needs none, then one more each time
def xpL (c : Cfg) (w : Nat) (L : List (Nat × Nat)) (i : Nat) : List (Nat × Nat) := match L[i]? with
  | some q => exL c q.1 w i L (stN c)
  | none => L
theorem xpL_some {c : Cfg} {w i : Nat} {L : List (Nat × Nat)} {q : Nat × Nat} (h : L[i]? = some q) : xpL c w L i = exL c q.1 w i L (stN c) := by unfold xpL; rw [h]
def xpN (c : Cfg) (w : Nat) (L : List (Nat × Nat)) (i : Nat) : Nat → List (Nat × Nat)
  | 0 => L
  | k + 1 => xpL c w (xpN c w L i k) (i + k)
theorem xpL_len (c : Cfg) (w : Nat) (L : List (Nat × Nat)) (i : Nat) : L.length ≤ (xpL c w L i).length := by
  unfold xpL
  split
  · rename_i q hq
    obtain ⟨M, hM⟩ := exL_pre c q.1 w i L (stN c)
    rw [hM]; simp
  · exact Nat.le_refl _
theorem xpN_len (c : Cfg) (w : Nat) (L : List (Nat × Nat)) (i : Nat) : ∀ k, L.length ≤ (xpN c w L i k).length
  | 0 => Nat.le_refl _
  | k + 1 => Nat.le_trans (xpN_len c w L i k) (xpL_len c w _ _)
/-- one after another, also those that are met on the way -/
def ph1 (c : Cfg) : Nat → List (Nat × Nat) → Nat → List (Nat × Nat)
  | 0, L, _ => L
  | f + 1, L, i => if i < L.length then ph1 c f (xpL c 1 L i) (i + 1) else L
def fsF (c : Cfg) (P : Nat) : Nat → List (Nat × Nat) → Nat → Nat → Int
  | 0, _, _, _ => -2
  | f + 1, L, fr, n => if (ph1 c (spc c - fr) L fr).any (fitP c P) then n else if (xpN c 2 (ph1 c (spc c - fr) L fr) fr ((ph1 c (spc c - fr) L fr).length - fr)).length = (ph1 c (spc c - fr) L fr).length then -2 else fsF c P f (xpN c 2 (ph1 c (spc c - fr) L fr) fr ((ph1 c (spc c - fr) L fr).length - fr)) (ph1 c (spc c - fr) L fr).length (n + 1)
theorem fsF_s {c : Cfg} {P f fr n : Nat} {L U : List (Nat × Nat)} (hU : U = ph1 c (spc c - fr) L fr) : fsF c P (f + 1) L fr n = if U.any (fitP c P) then (n : Int) else if (xpN c 2 U fr (U.length - fr)).length = U.length then -2 else fsF c P f (xpN c 2 U fr (U.length - fr)) U.length (n + 1) := by
  subst hU
  rfl
theorem wS_fewestShut {x : Int} {P : Nat} (hx : x = P) (hP : P < 33554432) (hs : sS σ s qn kn Q) (hE : SE V s qn kn Q c L m 0) (hK : ∀ V' L' m' D', sF V V' s qn kn → SE V' s qn kn Q c L' m' D' → K (some (vI (fsF c P (Q + 1) L 0 0))) (V', σ)) : Wp G 4 mS_fewestShut [vR s, vI x] (V, σ) 0 0 K := by
  have hQ := hs.le
  have hc := hE.2.1.1
  refine wp_intro mS_fewestShut_i.1 [some (vR s), some (vI x), none, none, none, none] rfl rfl (Nat.le_of_ble_eq_true rfl) ?_
  intro X hG F C
  have hm := C.rm
  have loop : ∀ (j n : Nat), Q + 1 - n = j → n ≤ Q + 1 → ∀ (V1 : Nat → Nat → Int) (L1 : List (Nat × Nat)) (m1 D1 fr : Nat) (y z : Int) (a4 a5 : Option AV), sF V V1 s qn kn → SE V1 s qn kn Q c L1 m1 D1 → D1 ≤ 2 * fr → fr ≤ L1.length → fsF c P (Q + 1 - n) L1 fr n = fsF c P (Q + 1) L 0 0 → y = fr → z = n → AW X 4 [some (vR s), some (vI x), some (vI y), some (vI z), a4, a5] [] (V1, σ) 0 0 := by
    intro j
    induction j using Nat.strongRecOn with
    | ind j ih =>
      intro n hj hn V1 L1 m1 D1 fr y z a4 a5 hF hE hD hfr hfs hy hz
      have inner2 : n ≤ Q → ∀ (U : List (Nat × Nat)), fr ≤ U.length → U.length ≤ 62500 → U = ph1 c (spc c - fr) L1 fr → U.any (fitP c P) = false → ∀ (j k : Nat), U.length - fr - k = j → fr + k ≤ U.length → ∀ (V2 : Nat → Nat → Int) (m2 D2 : Nat) (w : Int), sF V V2 s qn kn → SE V2 s qn kn Q c (xpN c 2 U fr k) m2 D2 → D2 ≤ fr + U.length + k → w = (fr + k : Nat) → AW X 68 [some (vR s), some (vI x), some (vI y), some (vI z), some (vI U.length), some (vI w)] [] (V2, σ) 0 0 := by
        intro hnQ U hU hU6 hUe hUn j
        induction j using Nat.strongRecOn with
        | ind j ihk =>
          intro k hjk hk V2 m2 D2 w hF2 hE2 hD2 hw
          have v1 := hE2.1.1
          have hll := hE2.1.len
          have hvs := hE2.1.2.2.2.2.2.2
          have hxl := xpN_len c 2 U fr k
          have hget : fr + k < U.length → ∃ q, (xpN c 2 U fr k)[fr + k]? = some q := fun h => ⟨_, List.getElem?_eq_getElem (by omega)⟩
          have efs : fr + k = U.length → fsF c P (Q + 1 - n) L1 fr n = if (xpN c 2 U fr k).length = U.length then -2 else fsF c P (Q + 1 - (n + 1)) (xpN c 2 U fr k) U.length (n + 1) := fun h => by
            rw [show Q + 1 - n = (Q + 1 - (n + 1)) + 1 by omega]
            rw [fsF_s hUe, hUn, show U.length - fr = k by omega]
            exact if_neg (by decide)
          refine aw_iload_5 (q := 70) F dS_fewestShut_68 rfl ?_
          refine aw_iload_4 (q := 72) F dS_fewestShut_70 rfl ?_
          refine aw_icmp_ge (q := 75) (t := 88) F dS_fewestShut_72 rfl (by decide) (fun c72 => ?_) (fun c72 => ?_)
          · refine aw_aload_0 (q := 89) F dS_fewestShut_88 rfl ?_
            refine av_geti (q := 92) F fS_44 dS_fewestShut_89 rfl rfl (by first | exact hs.o | exact hs.ho | exact hs.q | exact hs.k | exact hs.h.a1) ?_
            refine aw_iload_4 (q := 94) F dS_fewestShut_92 rfl ?_
            refine aw_icmp_ne (q := 97) (t := 100) F dS_fewestShut_94 rfl (by decide) (fun c94 => ?_) (fun c94 => ?_)
            · refine aw_iload_4 (q := 102) F dS_fewestShut_100 rfl ?_
              refine aw_istore_2 (q := 103) F dS_fewestShut_102 rfl trivial ?_
              refine aw_iinc_3 (q := 106) F dS_fewestShut_103 rfl trivial (by constructor <;> omega) ?_
              refine aw_goto (t := 4) F dS_fewestShut_106 (by decide) ?_
              have efs := efs (by omega)
              rw [if_neg (by omega), hfs] at efs
              exact ih _ (by omega) (n + 1) rfl (by omega) V2 _ m2 D2 U.length _ _ _ _ hF2 hE2 (by omega) hxl efs.symm rfl (by omega)
            · refine aw_bipush (q := 99) F dS_fewestShut_97 rfl (by decide) ?_
              refine aw_iret F C dS_fewestShut_99 rfl (Nat.le_refl _) (Nat.le_refl _) ?_
              have efs := efs (by omega)
              rw [if_pos (by omega), hfs] at efs
              exact kI (hK V2 _ _ _ hF2 hE2) efs
          · refine aw_aload_0 (q := 76) F dS_fewestShut_75 rfl ?_
            refine aw_iload_5 (q := 78) F dS_fewestShut_76 rfl ?_
            refine aw_iconst (q := 79) F dS_fewestShut_78 rfl (by decide) ?_
            obtain ⟨q, hq⟩ := hget (by omega)
            refine av_callV2 (q := 82) (ci := 5) F hm mS_expand_i mS_expand_n lS_72 dS_fewestShut_79 rfl rfl rfl (by first | exact hs.o | exact hs.ho | exact hs.q | exact hs.k | exact hs.h.a1) (by decide) (Nat.le_refl _) (Nat.le_refl _) (Nat.le_of_ble_eq_true rfl) (wS_expand (i := fr + k) (w := 2) (m := m2) (q := q) hw rfl hq (by omega) (by omega) hs hE2 (fun v79 f79 g79 => ?_))
            refine aw_iinc_5 (q := 85) F dS_fewestShut_82 rfl trivial (by constructor <;> omega) ?_
            refine aw_goto (t := 68) F dS_fewestShut_85 (by decide) ?_
            refine ihk _ (by omega) (k + 1) rfl (by omega) _ q.1 _ _ (sF_tr hF2 f79.1) (by show SE _ _ _ _ _ _ (xpL c 2 (xpN c 2 U fr k) (fr + k)) _ _; rw [xpL_some hq]; exact g79) (by split <;> omega) (by omega)
      have inner1 : n ≤ Q → ∀ (j k : Nat), spc c - fr - k = j → ∀ (V2 : Nat → Nat → Int) (L2 : List (Nat × Nat)) (m2 D2 : Nat) (w : Int), fr + k ≤ L2.length → sF V V2 s qn kn → SE V2 s qn kn Q c L2 m2 D2 → D2 ≤ 2 * fr + k → ph1 c (spc c - fr - k) L2 (fr + k) = ph1 c (spc c - fr) L1 fr → w = (fr + k : Nat) → AW X 16 [some (vR s), some (vI x), some (vI y), some (vI z), some (vI w), a5] [] (V2, σ) 0 0 := by
        intro hnQ j
        induction j using Nat.strongRecOn with
        | ind j ihk =>
          intro k hjk V2 L2 m2 D2 w hk hF2 hE2 hD2 hph hw
          have v1 := hE2.1.1
          have v2 := hE2.1.2.1
          have hll := hE2.1.len
          have hvs := hE2.1.2.2.2.2.2.2
          have hml := metL_lt hc L2
          have hmf := met_fit c P L2
          have hgo : zand (V2 s 2) x = (metL c L2 &&& P : Nat) := by rw [v2, hx]; exact zand_n (Nat.lt_of_le_of_lt Nat.and_le_left (by omega))
          have hget : fr + k < L2.length → ∃ q, L2[fr + k]? = some q := fun h => ⟨_, List.getElem?_eq_getElem h⟩
          have hp1 : fr + k < L2.length → ph1 c (spc c - fr - k) L2 (fr + k) = ph1 c (spc c - fr - (k + 1)) (xpL c 1 L2 (fr + k)) (fr + (k + 1)) := fun h => by
            rw [show spc c - fr - k = (spc c - fr - (k + 1)) + 1 by omega]
            show (if _ then _ else _) = _
            rw [if_pos h]
            rfl
          have hp0 : L2.length ≤ fr + k → ph1 c (spc c - fr) L1 fr = L2 := fun h => by
            rw [← hph]
            cases spc c - fr - k with
            | zero => rfl
            | succ f =>
              show (if _ then _ else _) = _
              rw [if_neg (by omega)]
          refine aw_iload_4 (q := 18) F dS_fewestShut_16 rfl ?_
          refine aw_aload_0 (q := 19) F dS_fewestShut_18 rfl ?_
          refine av_geti (q := 22) F fS_44 dS_fewestShut_19 rfl rfl (by first | exact hs.o | exact hs.ho | exact hs.q | exact hs.k | exact hs.h.a1) ?_
          refine aw_icmp_ge (q := 25) (t := 48) F dS_fewestShut_22 rfl (by decide) (fun c22 => ?_) (fun c22 => ?_)
          · refine aw_aload_0 (q := 49) F dS_fewestShut_48 rfl ?_
            refine av_geti (q := 52) F fS_47 dS_fewestShut_49 rfl rfl (by first | exact hs.o | exact hs.ho | exact hs.q | exact hs.k | exact hs.h.a1) ?_
            refine aw_iload_1 (q := 53) F dS_fewestShut_52 rfl ?_
            refine aw_iand (q := 54) F dS_fewestShut_53 rfl ?_
            rw [hgo]
            refine aw_if_eq (q := 57) (t := 59) F dS_fewestShut_54 rfl (by decide) (fun c54 => ?_) (fun c54 => ?_)
            · refine aw_aload_0 (q := 60) F dS_fewestShut_59 rfl ?_
              refine av_geti (q := 63) F fS_44 dS_fewestShut_60 rfl rfl (by first | exact hs.o | exact hs.ho | exact hs.q | exact hs.k | exact hs.h.a1) ?_
              rw [v1]
              refine aw_istore_4 (q := 65) F dS_fewestShut_63 rfl trivial ?_
              refine aw_iload_2 (q := 66) F dS_fewestShut_65 rfl ?_
              refine aw_istore_5 (q := 68) F dS_fewestShut_66 rfl trivial ?_
              exact inner2 hnQ L2 (by omega) (by omega) (hp0 (by omega)).symm (hmf.mp (by omega)) _ 0 rfl (by omega) V2 m2 D2 _ hF2 hE2 (by omega) (by omega)
            · refine aw_iload_3 (q := 58) F dS_fewestShut_57 rfl ?_
              refine aw_iret F C dS_fewestShut_58 rfl (Nat.le_refl _) (Nat.le_refl _) ?_
              have hp0 := hp0 (by omega)
              have hfit : L2.any (fitP c P) = true := Decidable.byContradiction fun h => by have := hmf.mpr (by simpa using h); omega
              have e : fsF c P (Q + 1 - n) L1 fr n = n := by
                rw [show Q + 1 - n = (Q - n) + 1 by omega]
                unfold fsF
                rw [hp0, if_pos hfit]
              exact kI (hK V2 _ _ _ hF2 hE2) (by rw [← hfs, e]; omega)
          · refine aw_iload_4 (q := 27) F dS_fewestShut_25 rfl ?_
            refine aw_aload_0 (q := 28) F dS_fewestShut_27 rfl ?_
            refine av_getaE (q := 31) F fS_18 dS_fewestShut_28 rfl rfl (by first | exact hs.o | exact hs.ho | exact hs.q | exact hs.k | exact hs.h.a1) hs.p5 ?_
            refine av_alen (q := 32) F dS_fewestShut_31 rfl (by first | exact hs.o | exact hs.ho | exact hs.q | exact hs.k | exact hs.h.a1) (by decide) (by omega) ?_
            refine aw_icmp_ge (q := 35) (t := 48) F dS_fewestShut_32 rfl (by decide) (fun c32 => by omega) (fun c32 => ?_)
            refine aw_aload_0 (q := 36) F dS_fewestShut_35 rfl ?_
            refine aw_iload_4 (q := 38) F dS_fewestShut_36 rfl ?_
            refine aw_iconst (q := 39) F dS_fewestShut_38 rfl (by decide) ?_
            obtain ⟨q, hq⟩ := hget (by omega)
            refine av_callV2 (q := 42) (ci := 5) F hm mS_expand_i mS_expand_n lS_72 dS_fewestShut_39 rfl rfl rfl (by first | exact hs.o | exact hs.ho | exact hs.q | exact hs.k | exact hs.h.a1) (by decide) (Nat.le_refl _) (Nat.le_refl _) (Nat.le_of_ble_eq_true rfl) (wS_expand (i := fr + k) (w := 1) (m := m2) (q := q) hw rfl hq (by omega) (by omega) hs hE2 (fun v39 f39 g39 => ?_))
            refine aw_iinc_4 (q := 45) F dS_fewestShut_42 rfl trivial (by constructor <;> omega) ?_
            refine aw_goto (t := 16) F dS_fewestShut_45 (by decide) ?_
            have hxl := xpL_len c 1 L2 (fr + k)
            refine ihk _ (by omega) (k + 1) rfl _ (xpL c 1 L2 (fr + k)) q.1 _ _ (by omega) (sF_tr hF2 f39.1) (by rw [xpL_some hq]; exact g39) (by split <;> omega) (by rw [← hp1 (by omega)]; exact hph) (by omega)
      have hll := hE.1.len
      refine aw_iload_3 (q := 5) F dS_fewestShut_4 rfl ?_
      refine aw_aload_0 (q := 6) F dS_fewestShut_5 rfl ?_
      refine av_getaE (q := 9) F fS_18 dS_fewestShut_6 rfl rfl (by first | exact hs.o | exact hs.ho | exact hs.q | exact hs.k | exact hs.h.a1) hs.p5 ?_
      refine av_alen (q := 10) F dS_fewestShut_9 rfl (by first | exact hs.o | exact hs.ho | exact hs.q | exact hs.k | exact hs.h.a1) (by decide) (by omega) ?_
      refine aw_icmp_gt (q := 13) (t := 109) F dS_fewestShut_10 rfl (by decide) (fun c10 => ?_) (fun c10 => ?_)
      · refine aw_bipush (q := 111) F dS_fewestShut_109 rfl (by decide) ?_
        refine aw_iret F C dS_fewestShut_111 rfl (Nat.le_refl _) (Nat.le_refl _) ?_
        refine kI (hK V1 _ _ _ hF hE) ?_
        rw [← hfs, show Q + 1 - n = 0 by omega]; rfl
      · refine aw_iload_2 (q := 14) F dS_fewestShut_13 rfl ?_
        refine aw_istore_4 (q := 16) F dS_fewestShut_14 rfl trivial ?_
        exact inner1 (by omega) _ 0 rfl V1 L1 m1 D1 _ (by omega) hF hE (by omega) rfl (by omega)
  refine aw_iconst (q := 1) F dS_fewestShut_0 rfl (by decide) ?_
  refine aw_istore_2 (q := 2) F dS_fewestShut_1 rfl trivial ?_
  refine aw_iconst (q := 3) F dS_fewestShut_2 rfl (by decide) ?_
  refine aw_istore_3 (q := 4) F dS_fewestShut_3 rfl trivial ?_
  exact loop _ 0 rfl (by omega) V L m 0 0 _ _ none none (fun _ _ _ _ => rfl) hE (by omega) (by omega) rfl rfl rfl
theorem wS_markWords {M : Nat} (hM : M < 100000) (hs : sS0 σ s qn kn Q M) (hK : K (some (vI M)) (V, σ)) : Wp G 0 mS_markWords [vR s] (V, σ) 0 0 K := by
  refine wp_intro mS_markWords_i.1 [some (vR s)] rfl rfl (Nat.le_of_ble_eq_true rfl) ?_
  intro X hG F C
  have hm := C.rm
  refine aw_aload_0 (q := 1) F dS_markWords_0 rfl ?_
  refine av_getaE (q := 4) F fS_22 dS_markWords_1 rfl rfl (by first | exact hs.o | exact hs.ho | exact hs.q | exact hs.k | exact hs.h.a1) hs.p6 ?_
  refine av_alen (q := 5) F dS_markWords_4 rfl (by first | exact hs.o | exact hs.ho | exact hs.q | exact hs.k | exact hs.h.a1) (by decide) (by omega) ?_
  refine aw_iret F C dS_markWords_5 rfl (Nat.le_refl _) (Nat.le_refl _) ?_
  exact hK
end Search4
