-- rows are filled
def rLn (c : Cfg) (m n : Nat) : Nat := (lvS c ([(m, 0)], 0, 0) n).1.length
def rLl (c : Cfg) (m : Nat) : List (Nat × Nat) := (lvS c ([(m, 0)], 0, 0) 6).1
theorem rL_get (c : Cfg) (m : Nat) : (rLl c m)[0]? = some (m, 0) := by
  obtain ⟨M, hM⟩ := lv_pre c ([(m, 0)], 0, 0) 0 6
  have e : rLl c m = [(m, 0)] ++ M := hM
  rw [e]
  rfl
theorem rL_le {c : Cfg} {m n : Nat} (h : n ≤ 6) : rLn c m n ≤ (rLl c m).length := by
  obtain ⟨M, hM⟩ := lv_pre c ([(m, 0)], 0, 0) n (6 - n)
  rw [show n + (6 - n) = 6 by omega] at hM
  unfold rLn rLl
  rw [hM, List.length_append]
  omega
theorem rL_pos (c : Cfg) (m n : Nat) : 0 < rLn c m n := by
  obtain ⟨M, hM⟩ := lv_pre c ([(m, 0)], 0, 0) 0 n
  unfold rLn
  rw [Nat.zero_add] at hM
  rw [hM, List.length_append]
  show 0 < 1 + _
  omega
theorem rL_suc {c : Cfg} {m n i k : Nat} {q : Nat × Nat} (hn : n + 1 ≤ 6) (hi : i < rLn c m n) (hq : (rLl c m)[i]? = some q) (hk : k < stN c) (hm : mayN c q.1 (allP c) k = true) : ∃ (j : Nat) (q' : Nat × Nat), j < rLn c m (n + 1) ∧ (rLl c m)[j]? = some q' ∧ q'.1 = aftN c q.1 k :=
  lv_suc (t := ([(m, 0)], 0, 0)) (Nat.zero_le _) (fun i q hi => absurd hi (Nat.not_lt_zero _)) hn hi hq hk hm
/-- what a filling leaves alone, and where its cells lie -/
def rD (r rn vn ln s qn kn : Nat) : Prop := (r + 3 < s ∨ s + 6 < r) ∧ (qn < r ∨ r + 3 < qn) ∧ (kn < r ∨ r + 3 < kn) ∧ (rn < r ∨ r + 3 < rn) ∧ (vn < r ∨ r + 3 < vn) ∧ (ln < r ∨ r + 3 < ln) ∧ (rn < s ∨ s + 6 < rn) ∧ (vn < s ∨ s + 6 < vn) ∧ (ln < s ∨ s + 6 < ln) ∧ (rn ≠ qn ∧ rn ≠ kn ∧ vn ≠ qn ∧ vn ≠ kn ∧ ln ≠ qn ∧ ln ≠ kn) ∧ rn ≠ vn ∧ rn ≠ ln ∧ vn ≠ ln
def RF (V : Nat → Nat → Int) (s qn kn Q : Nat) (c : Cfg) (m r rn A : Nat) : Prop := (∃ m' D, SE V s qn kn Q c (rLl c m) m' D) ∧ rkOK V rn A Q (rLl c m) ∧ ∀ n, n < 7 → V (r + 3) n = rLn c m n
def VL (V : Nat → Nat → Int) (vn : Nat) (c : Cfg) (m P n len : Nat) : Prop := ∀ j q, j < len → (rLl c m)[j]? = some q → V vn (rkL (rLl c m) q.1) = vlN c P n q.1
def rFr (V V' : Nat → Nat → Int) (r rn vn ln s qn kn : Nat) : Prop := ∀ b, b < r ∨ r + 3 < b → b < s ∨ s + 6 < b → b ≠ qn → b ≠ kn → b ≠ rn → b ≠ vn → b ≠ ln → V' b = V b
def fsV (c : Cfg) (P m n e : Nat) : Nat := if (1 ≤ e % 7 ∧ e % 7 < n) ∧ e / 7 < stN c ∧ mayN c m (allP c) (e / 7) = true then vlN c P (e % 7 - 1) (aftN c m (e / 7)) else 0
section Rows4
variable {V : Nat → Nat → Int} {σ : Shp} {s qn kn Q : Nat} {c : Cfg} {m P r rn vn ln A B C : Nat}
theorem rD.ra (h : rD r rn vn ln s qn kn) : r + 3 < s ∨ s + 6 < r := h.1
theorem rD.rs (h : rD r rn vn ln s qn kn) : rn < s ∨ s + 6 < rn := h.2.2.2.2.2.2.1
theorem rD.vs (h : rD r rn vn ln s qn kn) : vn < s ∨ s + 6 < vn := h.2.2.2.2.2.2.2.1
theorem rD.ls (h : rD r rn vn ln s qn kn) : ln < s ∨ s + 6 < ln := h.2.2.2.2.2.2.2.2.1
theorem rD.ne (h : rD r rn vn ln s qn kn) : rn ≠ qn ∧ rn ≠ kn ∧ vn ≠ qn ∧ vn ≠ kn ∧ ln ≠ qn ∧ ln ≠ kn := h.2.2.2.2.2.2.2.2.2.1
theorem rD.nv (h : rD r rn vn ln s qn kn) : rn ≠ vn := h.2.2.2.2.2.2.2.2.2.2.1
theorem rD.nl (h : rD r rn vn ln s qn kn) : rn ≠ ln := h.2.2.2.2.2.2.2.2.2.2.2.1
theorem rD.vl (h : rD r rn vn ln s qn kn) : vn ≠ ln := h.2.2.2.2.2.2.2.2.2.2.2.2
theorem rD.rv (h : rD r rn vn ln s qn kn) {i : Nat} (hi : i ≤ 3) : r + i ≠ vn := by have := h.2.2.2.2.1; omega
theorem rD.rl (h : rD r rn vn ln s qn kn) {i : Nat} (hi : i ≤ 3) : r + i ≠ ln := by have := h.2.2.2.2.2.1; omega
theorem rD.rr (h : rD r rn vn ln s qn kn) {i : Nat} (hi : i ≤ 3) : r + i ≠ rn := by have := h.2.2.2.1; omega
theorem rD.rq (h : rD r rn vn ln s qn kn) {i : Nat} (hi : i ≤ 3) : r + i ≠ qn ∧ r + i ≠ kn := by have := h.2.1; have := h.2.2.1; omega
theorem rD.rx (h : rD r rn vn ln s qn kn) {i : Nat} (hi : i ≤ 3) : r + i < s ∨ s + 6 < r + i := by have := h.1; omega
theorem rD.pr {V V' : Nat → Nat → Int} (h : rD r rn vn ln s qn kn) (g : putF V V' (s + 1)) {i : Nat} (hi : i ≤ 3) : V' (r + i) = V (r + i) := by
  have := h.1
  exact g.1 _ (by omega) (by omega) (by omega)
theorem RF.up {b k : Nat} {z : Int} (hs : sS σ s qn kn Q) (h : RF V s qn kn Q c m r rn A) (h1 : b < s ∨ s + 6 < b) (h2 : b ≠ qn) (h3 : b ≠ kn) (h4 : b ≠ rn) (h5 : b ≠ r + 3) : RF (up2 V b k z) s qn kn Q c m r rn A := by
  obtain ⟨⟨m', D, e1, e2, e3⟩, hk, he⟩ := h
  refine ⟨⟨m', D, e1.same ?_ ?_ ?_ ?_, e2.same (fun b' q1 q2 => up2_nea _ _ (by omega)), ?_⟩, ⟨hk.1, ?_⟩, ?_⟩
  · rw [up2_nea _ _ (by omega)]
  · rw [up2_nea _ _ (by omega)]
  · rw [up2_nea _ _ (by omega)]
  · rw [up2_nea _ _ (by omega)]
  · rw [up2_nea _ _ (by omega)]; exact e3
  · rw [up2_nea _ _ (by omega)]; exact hk.2
  · rw [up2_nea _ _ (by omega)]; exact he
theorem RF.pu {V' : Nat → Nat → Int} {x : Nat} (hs : sS σ s qn kn Q) (hd : rD r rn vn ln s qn kn) (h : RF V s qn kn Q c m r rn A) (g : putF V V' (s + 1)) (hA : HA V' (s + 1) c x) : RF V' s qn kn Q c m r rn A := by
  obtain ⟨⟨m', D, e1, e2, e3⟩, hk, he⟩ := h
  refine ⟨⟨x, D, g.sv hs e1, e2.put g hA, ?_⟩, g.rk hk hd.rs, ?_⟩
  · rw [g.1 s (by omega) (by omega) (by omega)]; exact e3
  · rw [hd.pr g (by omega)]; exact he
theorem VL.up {b k n len : Nat} {z : Int} (h : VL V vn c m P n len) (h1 : b ≠ vn) : VL (up2 V b k z) vn c m P n len := fun j q hj hq => by rw [up2_nea _ _ (Ne.symm h1)]; exact h j q hj hq
theorem VL.pu {V' : Nat → Nat → Int} {n len : Nat} (h : VL V vn c m P n len) (g : putF V V' (s + 1)) (h1 : vn < s ∨ s + 6 < vn) : VL V' vn c m P n len := fun j q hj hq => by rw [g.1 vn (by omega) (by omega) (by omega)]; exact h j q hj hq
theorem VL.snoc {n i : Nat} {q : Nat × Nat} (h : VL V vn c m P n i) (hq : (rLl c m)[i]? = some q) : VL (up2 V vn (rkL (rLl c m) q.1) (vlN c P n q.1)) vn c m P n (i + 1) := fun j q' hj hq' => by
  by_cases e : rkL (rLl c m) q'.1 = rkL (rLl c m) q.1
  · have : q'.1 = q.1 := rk_inj (List.mem_map_of_mem (List.mem_of_getElem? hq')) (List.mem_map_of_mem (List.mem_of_getElem? hq)) e
    rw [this, up2_same]
  · rw [up2_nek _ _ e]
    refine h j q' ?_ hq'
    by_cases e2 : j = i
    · subst e2; rw [hq] at hq'; cases hq'; exact absurd rfl e
    · omega
theorem VL.mono {n a b : Nat} (h : VL V vn c m P n b) (hab : a ≤ b) : VL V vn c m P n a := fun j q hj hq => h j q (by omega) hq
theorem rFr.up {V1 : Nat → Nat → Int} {b k : Nat} {z : Int} (h : rFr V V1 r rn vn ln s qn kn) (hb : (r ≤ b ∧ b ≤ r + 3) ∨ b = vn ∨ b = ln) : rFr V (up2 V1 b k z) r rn vn ln s qn kn := fun b' h1 h2 h3 h4 h5 h6 h7 => by rw [up2_nea _ _ (by omega)]; exact h b' h1 h2 h3 h4 h5 h6 h7
theorem rFr.pu {V1 V2 : Nat → Nat → Int} (h : rFr V V1 r rn vn ln s qn kn) (g : putF V1 V2 (s + 1)) : rFr V V2 r rn vn ln s qn kn := fun b' h1 h2 h3 h4 h5 h6 h7 => by rw [g.1 b' (by omega) (by omega) (by omega)]; exact h b' h1 h2 h3 h4 h5 h6 h7
theorem rFr.sw {V1 : Nat → Nat → Int} (h : rFr V V1 r rn vn ln s qn kn) : rFr V V1 r rn ln vn s qn kn := fun b' h1 h2 h3 h4 h5 h6 h7 => h b' h1 h2 h3 h4 h5 h7 h6
theorem rD.sw (h : rD r rn vn ln s qn kn) : rD r rn ln vn s qn kn := by unfold rD at h ⊢; omega
theorem wR_fill1 {X : CT} {kc nc MC MS : Nat} {x : Int} (F : Fx X mR_fill) (hm : Rm X 5 MC MS) (hkc : kc ≤ MC) (hnc : nc ≤ MS) (hx : x = P) (hP : P < 33554432) (hs : sS σ s qn kn Q) (hr : rS σ r rn vn ln A B C) (hd : rD r rn vn ln s qn kn) (hB : (rLl c m).length ≤ B ∧ B < 2147483648) (u : Option AV) (hR : RF V s qn kn Q c m r rn A)
    (kk : ∀ (V1 : Nat → Nat → Int) (z : Int), RF V1 s qn kn Q c m r rn A → rFr V V1 r rn vn ln s qn kn → V1 (r + 1) = V (r + 1) → V1 (r + 2) = V (r + 2) → VL V1 vn c m P 0 (rLl c m).length → AW X 64 [some (vR r), some (vR s), some (vI x), some (vI z), u] [] (V1, σ) kc nc) : AW X 31 [some (vR r), some (vR s), some (vI x), some (vI 0), u] [] (V, σ) kc nc := by
  have loop : ∀ (j i : Nat), (rLl c m).length - i = j → ∀ (V1 : Nat → Nat → Int) (z : Int), RF V1 s qn kn Q c m r rn A → rFr V V1 r rn vn ln s qn kn → V1 (r + 1) = V (r + 1) → V1 (r + 2) = V (r + 2) → VL V1 vn c m P 0 i → i ≤ (rLl c m).length → z = i → AW X 31 [some (vR r), some (vR s), some (vI x), some (vI z), u] [] (V1, σ) kc nc := by
    intro j
    induction j using Nat.strongRecOn with
    | ind j ih =>
      intro i hj V1 z hR hF e1 e2 hV hi hz
      have hRR := hR
      obtain ⟨⟨m', D, hE⟩, hk, he⟩ := hR
      have v1 := hE.1.1
      have hget : i < (rLl c m).length → ∃ q, (rLl c m)[i]? = some q := fun h => ⟨_, List.getElem?_eq_getElem h⟩
      refine aw_iload_3 (q := 32) F dR_fill_31 rfl ?_
      refine aw_aload_1 (q := 33) F dR_fill_32 rfl ?_
      refine av_geti (q := 36) F fR_49 dR_fill_33 rfl rfl (by first | exact hs.o | exact hr.o | exact hr.a1 | exact hr.a2 | exact hr.a3 | exact hr.a4 | exact hr.a5 | exact hr.a6) ?_
      refine aw_icmp_ge (q := 39) (t := 64) F dR_fill_36 rfl (by decide) (fun c36 => ?_) (fun c36 => ?_)
      · exact kk V1 _ hRR hF e1 e2 (hV.mono (by omega))
      · refine aw_aload_0 (q := 40) F dR_fill_39 rfl ?_
        obtain ⟨q, hq⟩ := hget (by omega)
        have hrl : rkL (rLl c m) q.1 < (rLl c m).length := rk_lt_len (List.mem_map_of_mem (List.mem_of_getElem? hq))
        refine av_getaE (q := 43) F fR_24 dR_fill_40 rfl rfl (by first | exact hs.o | exact hr.o | exact hr.a1 | exact hr.a2 | exact hr.a3 | exact hr.a4 | exact hr.a5 | exact hr.a6) hr.p5 ?_
        refine aw_aload_0 (q := 44) F dR_fill_43 rfl ?_
        refine aw_aload_1 (q := 45) F dR_fill_44 rfl ?_
        refine aw_iload_3 (q := 46) F dR_fill_45 rfl ?_
        refine av_callV2 (q := 49) (ci := 4) F hm mR_rankAt_i mR_rankAt_n lR_53 dR_fill_46 rfl rfl rfl (by first | exact hs.o | exact hr.o | exact hr.a1 | exact hr.a2 | exact hr.a3 | exact hr.a4 | exact hr.a5 | exact hr.a6) (by decide) (by omega) (by omega) (Nat.le_of_ble_eq_true rfl) (wR_rankAt (i := i) (q := q) hz hq hs hE.1 hr hk ?_)
        refine aw_aload_1 (q := 50) F dR_fill_49 rfl ?_
        refine aw_iload_3 (q := 51) F dR_fill_50 rfl ?_
        refine aw_iload_2 (q := 52) F dR_fill_51 rfl ?_
        refine av_callS3 (q := 55) F hm mR_valueOfFit_i mR_valueOfFit_n lR_57 dR_fill_52 rfl (by decide) (by omega) (by omega) (Nat.le_of_ble_eq_true rfl) (wR_valueOfFit (i := i) (q := q) hz hq hx hP hs hE (fun v52 p52 h52 => ?_))
        refine av_callS3 (q := 58) F hm mR_setValue_i mR_setValue_n lR_61 dR_fill_55 rfl (by decide) (by omega) (by omega) (Nat.le_of_ble_eq_true rfl) (wR_setValue (i := rkL (rLl c m) q.1) hr.a5 hB.2 rfl (by omega) ?_)
        refine aw_iinc_3 (q := 61) F dR_fill_58 rfl trivial (by constructor <;> omega) ?_
        refine aw_goto (t := 31) F dR_fill_61 (by decide) ?_
        refine ih _ (by omega) (i + 1) rfl _ _ ((hRR.pu hs hd p52 h52).up hs hd.vs hd.ne.2.2.1 hd.ne.2.2.2.1 (Ne.symm hd.nv) (Ne.symm (hd.rv (Nat.le_refl _)))) ((hF.pu p52).up (Or.inr (Or.inl rfl))) ?_ ?_ ((hV.pu p52 hd.vs).snoc hq) (by omega) (by omega)
        · rw [up2_nea _ _ (hd.rv (by omega)), hd.pr p52 (by omega)]; exact e1
        · rw [up2_nea _ _ (hd.rv (by omega)), hd.pr p52 (by omega)]; exact e2
  exact loop _ 0 rfl V _ hR (fun _ _ _ _ _ _ _ _ => rfl) rfl rfl (fun j q hj => absurd hj (Nat.not_lt_zero _)) (Nat.zero_le _) rfl
theorem wR_fill2 {X : CT} {kc nc MC MS n : Nat} {x y : Int} (F : Fx X mR_fill) (hm : Rm X 5 MC MS) (hkc : kc ≤ MC) (hnc : nc ≤ MS) (hy : y = (n + 1 : Nat)) (hn : n + 1 ≤ 6) (hs : sS σ s qn kn Q) (hr : rS σ r rn vn ln A B C) (hd : rD r rn vn ln s qn kn) (hB : (rLl c m).length ≤ B ∧ B < 2147483648) (hC : (rLl c m).length ≤ C ∧ C < 2147483648) (hR : RF V s qn kn Q c m r rn A) (hV : VL V vn c m P n (rLn c m (6 - n)))
    (kk : ∀ (V1 : Nat → Nat → Int) (z : Int), RF V1 s qn kn Q c m r rn A → rFr V V1 r rn vn ln s qn kn → V1 (r + 1) = V (r + 1) → V1 (r + 2) = V (r + 2) → VL V1 ln c m P (n + 1) (rLn c m (6 - (n + 1))) → AW X 138 [some (vR r), some (vR s), some (vI x), some (vI y), some (vI z)] [] (V1, σ) kc nc) : AW X 97 [some (vR r), some (vR s), some (vI x), some (vI y), some (vI 0)] [] (V, σ) kc nc := by
  have hle := rL_le (c := c) (m := m) (show 6 - (n + 1) ≤ 6 by omega)
  have hc : okC c := by obtain ⟨⟨m', D, e1, e2, e3⟩, hk, he⟩ := hR; exact e2.1
  have loop : ∀ (j i : Nat), (rLl c m).length - i = j → ∀ (V1 : Nat → Nat → Int) (z : Int), RF V1 s qn kn Q c m r rn A → rFr V V1 r rn vn ln s qn kn → V1 (r + 1) = V (r + 1) → V1 (r + 2) = V (r + 2) → VL V1 vn c m P n (rLn c m (6 - n)) → VL V1 ln c m P (n + 1) i → z = i → i ≤ rLn c m (6 - (n + 1)) → AW X 97 [some (vR r), some (vR s), some (vI x), some (vI y), some (vI z)] [] (V1, σ) kc nc := by
    intro j
    induction j using Nat.strongRecOn with
    | ind j ih =>
      intro i hj V1 z hR hF e1 e2 hV hL hz hi
      have hRR := hR
      obtain ⟨⟨m', D, hE⟩, hk, he⟩ := hR
      have v1 := hE.1.1
      have hget : i < (rLl c m).length → ∃ q, (rLl c m)[i]? = some q := fun h => ⟨_, List.getElem?_eq_getElem h⟩
      refine aw_iload_4 (q := 99) F dR_fill_97 rfl ?_
      refine aw_aload_0 (q := 100) F dR_fill_99 rfl ?_
      refine av_getaE (q := 103) F fR_18 dR_fill_100 rfl rfl (by first | exact hs.o | exact hr.o | exact hr.a1 | exact hr.a2 | exact hr.a3 | exact hr.a4 | exact hr.a5 | exact hr.a6) hr.p3 ?_
      refine aw_bipush (q := 105) F dR_fill_103 rfl (by decide) ?_
      refine aw_iload_3 (q := 106) F dR_fill_105 rfl ?_
      refine aw_isub (q := 107) F dR_fill_106 rfl (by constructor <;> omega) ?_
      refine av_iaload (q := 108) F dR_fill_107 rfl (by exact hr.a3) (by first | omega) (by first | omega) ?_
      rw [show (6 - y : Int).toNat = 6 - (n + 1) by omega, he _ (by omega)]
      refine aw_icmp_ge (q := 111) (t := 138) F dR_fill_108 rfl (by decide) (fun c108 => ?_) (fun c108 => ?_)
      · exact kk V1 _ hRR hF e1 e2 (hL.mono (by omega))
      · refine aw_aload_0 (q := 112) F dR_fill_111 rfl ?_
        obtain ⟨q, hq⟩ := hget (by omega)
        have hrl : rkL (rLl c m) q.1 < (rLl c m).length := rk_lt_len (List.mem_map_of_mem (List.mem_of_getElem? hq))
        have hg : ∀ k, k < stN c → mayN c q.1 (allP c) k = true → rkL (rLl c m) (aftN c q.1 k) < B ∧ V1 vn (rkL (rLl c m) (aftN c q.1 k)) = vlN c P n (aftN c q.1 k) ∧ vlN c P n (aftN c q.1 k) / 16 ≤ 1048576 := fun k hk hmk => by
          obtain ⟨j, q', hj, hq', he'⟩ := rL_suc (n := 6 - (n + 1)) (by omega) (by omega) hq hk hmk
          rw [show 6 - (n + 1) + 1 = 6 - n by omega] at hj
          have h1 := rk_lt_len (List.mem_map_of_mem (f := Prod.fst) (List.mem_of_getElem? hq'))
          have h2 := hV j q' hj hq'
          have h3 := vlN_le hc P n q'.1 (hE.1.2.2.2.2.2.1 q' (List.mem_of_getElem? hq')).1
          have h4 : 16 ^ n ≤ 16 ^ 5 := Nat.pow_le_pow_right (by decide) (by omega)
          rw [he'] at h1 h2 h3
          exact ⟨by omega, h2, Nat.le_trans h3 h4⟩
        refine av_getaE (q := 115) F fR_27 dR_fill_112 rfl rfl (by first | exact hs.o | exact hr.o | exact hr.a1 | exact hr.a2 | exact hr.a3 | exact hr.a4 | exact hr.a5 | exact hr.a6) hr.p6 ?_
        refine aw_aload_0 (q := 116) F dR_fill_115 rfl ?_
        refine aw_aload_1 (q := 117) F dR_fill_116 rfl ?_
        refine aw_iload_4 (q := 119) F dR_fill_117 rfl ?_
        refine av_callV2 (q := 122) (ci := 4) F hm mR_rankAt_i mR_rankAt_n lR_53 dR_fill_119 rfl rfl rfl (by first | exact hs.o | exact hr.o | exact hr.a1 | exact hr.a2 | exact hr.a3 | exact hr.a4 | exact hr.a5 | exact hr.a6) (by decide) (by omega) (by omega) (Nat.le_of_ble_eq_true rfl) (wR_rankAt (i := i) (q := q) hz hq hs hE.1 hr hk ?_)
        refine aw_aload_0 (q := 123) F dR_fill_122 rfl ?_
        refine aw_aload_1 (q := 124) F dR_fill_123 rfl ?_
        refine aw_iload_4 (q := 126) F dR_fill_124 rfl ?_
        refine av_callV2 (q := 129) (ci := 4) F hm mR_valueByOneMore_i mR_valueByOneMore_n lR_77 dR_fill_126 rfl rfl rfl (by first | exact hs.o | exact hr.o | exact hr.a1 | exact hr.a2 | exact hr.a3 | exact hr.a4 | exact hr.a5 | exact hr.a6) (by decide) (by omega) (by omega) (Nat.le_of_ble_eq_true rfl) (wR_valueByOneMore (i := i) (q := q) (g := vlN c P n) hz hq hs hE hr hk hd.rs hd.vs hB.2 hg (fun v126 p126 h126 => ?_))
        refine av_callS3 (q := 132) F hm mR_setValue_i mR_setValue_n lR_61 dR_fill_129 rfl (by decide) (by omega) (by omega) (Nat.le_of_ble_eq_true rfl) (wR_setValue (i := rkL (rLl c m) q.1) hr.a6 hC.2 rfl (by omega) ?_)
        refine aw_iinc_4 (q := 135) F dR_fill_132 rfl trivial (by constructor <;> omega) ?_
        refine aw_goto (t := 97) F dR_fill_135 (by decide) ?_
        refine ih _ (by omega) (i + 1) rfl _ _ ((hRR.pu hs hd p126 h126).up hs hd.ls hd.ne.2.2.2.2.1 hd.ne.2.2.2.2.2 (Ne.symm hd.nl) (Ne.symm (hd.rl (Nat.le_refl _)))) ((hF.pu p126).up (Or.inr (Or.inr rfl))) ?_ ?_ ((hV.pu p126 hd.vs).up (Ne.symm hd.vl)) ((hL.pu p126 hd.ls).snoc hq) (by omega) (by omega)
        · rw [up2_nea _ _ (hd.rl (by omega)), hd.pr p126 (by omega)]; exact e1
        · rw [up2_nea _ _ (hd.rl (by omega)), hd.pr p126 (by omega)]; exact e2
  exact loop _ 0 rfl V _ hR (fun _ _ _ _ _ _ _ _ => rfl) rfl rfl hV (fun j q hj => absurd hj (Nat.not_lt_zero _)) rfl (Nat.zero_le _)
end Rows4
