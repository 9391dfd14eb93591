-- the reference's numbering, both ways
theorem dg_ext {B n m : Nat} : ∀ k, (∀ j, j < k → n / B ^ j % B = m / B ^ j % B) → n % B ^ k = m % B ^ k
  | 0, _ => by rw [Nat.pow_zero, Nat.mod_one, Nat.mod_one]
  | k + 1, h => by rw [Nat.mod_pow_succ, Nat.mod_pow_succ, dg_ext k (fun j hj => h j (by omega)), h k (by omega)]
theorem mn_inj {c : Cfg} {n m : Nat} (hn : n < spc c) (hm : m < spc c) (h : mnN c n = mnN c m) : n = m := by
  obtain ⟨a, b, d⟩ := mnN_dig hn hm h
  have e : n % Bs c ^ (pN c + dN c) = m % Bs c ^ (pN c + dN c) := dg_ext _ (fun j hj => by
    by_cases q : j < pN c
    · exact d j q
    · have h1 : n / Bs c ^ (pN c + (j - pN c)) % Bs c = m / Bs c ^ (pN c + (j - pN c)) % Bs c := b (j - pN c) (by omega)
      rw [show pN c + (j - pN c) = j by omega] at h1
      exact h1)
  have a : n / Bs c ^ (pN c + dN c) = m / Bs c ^ (pN c + dN c) := a
  have h1 := Nat.div_add_mod n (Bs c ^ (pN c + dN c))
  have h2 := Nat.div_add_mod m (Bs c ^ (pN c + dN c))
  rw [a, e] at h1
  exact h1.symm.trans h2
theorem mn_sur {c : Cfg} {k : Nat} (hk : k < spc c) : ∃ n, n < spc c ∧ mnN c n = k := by
  refine Classical.byContradiction fun h => ?_
  have hnd : (k :: (List.range (spc c)).map (mnN c)).Nodup := by
    refine List.nodup_cons.mpr ⟨fun hm => ?_, ?_⟩
    · obtain ⟨n, hn, e⟩ := List.mem_map.mp hm
      exact h ⟨n, List.mem_range.mp hn, e⟩
    · refine List.pairwise_map.mpr (List.Pairwise.imp_of_mem (fun {a b} ha hb hab => ?_) List.nodup_range)
      exact fun e => hab (mn_inj (List.mem_range.mp ha) (List.mem_range.mp hb) e)
  have h1 := nodup_le (spc c) _ hnd (fun x hx => by
    rcases List.mem_cons.mp hx with q | q
    · rw [q]; exact hk
    · obtain ⟨n, hn, e⟩ := List.mem_map.mp q
      rw [← e]
      exact mnN_lt (List.mem_range.mp hn))
  rw [List.length_cons, List.length_map, List.length_range] at h1
  omega
/-- cells that the reference works on -/
def scr (b : Nat) : Bool := b == 56 || (decide (59 ≤ b) && decide (b ≤ 63))
theorem scr_hi {l : Nat} (h : 64 ≤ l) : scr l = false := by
  unfold scr
  rw [show (l == 56) = false from beq_eq_false_iff_ne.mpr (by omega), show decide (l ≤ 63) = false from decide_eq_false (by omega), Bool.and_false]
  rfl
theorem scr_lo {l : Nat} (h : l ≤ 55) : scr l = false := by
  unfold scr
  rw [show (l == 56) = false from beq_eq_false_iff_ne.mpr (by omega), show decide (59 ≤ l) = false from decide_eq_false (by omega)]
  rfl
def MF (V V' : Nat → Nat → Int) : Prop := (∀ b, b ≠ 53 → scr b = false → V' b = V b) ∧ ∀ j, j < 25 → V' 53 j = V 53 j
section MFs
variable {V V1 V2 : Nat → Nat → Int} {l : Nat} {c : Cfg} {n : Nat}
theorem MF.rf (V : Nat → Nat → Int) : MF V V := ⟨fun _ _ _ => rfl, fun _ _ => rfl⟩
theorem MF.tr (h : MF V V1) (g : MF V1 V2) : MF V V2 := ⟨fun b h1 h2 => (g.1 b h1 h2).trans (h.1 b h1 h2), fun j hj => (g.2 j hj).trans (h.2 j hj)⟩
theorem MF.up {a k : Nat} {z : Int} (h : MF V V1) (ha : scr a = true) : MF V (up2 V1 a k z) := by
  refine ⟨fun b h1 h2 => ?_, fun j hj => ?_⟩
  · rw [up2_nea _ _ (fun e => by rw [e, ha] at h2; cases h2)]; exact h.1 b h1 h2
  · rw [up2_nea _ _ (fun e => by rw [← e] at ha; cases ha)]; exact h.2 j hj
theorem MF.fl {k : Nat} {z : Int} (h : MF V V1) (hk : 25 ≤ k) : MF V (up2 V1 53 k z) := by
  refine ⟨fun b h1 h2 => ?_, fun j hj => ?_⟩
  · rw [up2_nea _ _ h1]; exact h.1 b h1 h2
  · rw [up2_nek _ _ (by omega)]; exact h.2 j hj
theorem MF.xf (h : MF V V1) (g : XF V1 V2) : MF V V2 := by
  refine ⟨fun b h1 h2 => ?_, fun j hj => ?_⟩
  · rw [g b (fun e => by rw [e] at h2; cases h2)]; exact h.1 b h1 h2
  · rw [g 53 (by decide)]; exact h.2 j hj
theorem MF.lc (h : MF V V1) (h64 : 64 ≤ l) (g : LC V l c) : LC V1 l c := by
  unfold LC
  rw [h.1 l (by omega) (scr_hi h64)]
  exact g
theorem XF.lc (h : XF V V1) (h64 : 64 ≤ l) (g : LC V l c) : LC V1 l c := by
  unfold LC
  rw [h l (by omega)]
  exact g
end MFs
-- the reference's search
def RE (V : Nat → Nat → Int) (c : Cfg) (L : List (Nat × Nat)) (i : Nat) (q : Nat × Nat) : Prop := V 61 i = mnN c q.1 ∧ (i = 0 → V 59 (mnN c q.1) = 0) ∧ (0 ≤ V 59 (mnN c q.1) ∧ V 59 (mnN c q.1) ≤ i) ∧ (0 < i → ∃ (q0 : Nat × Nat) (k : Nat), L[q.2]? = some q0 ∧ V 59 (mnN c q.1) = V 59 (mnN c q0.1) + 1 ∧ V 60 (mnN c q.1) = (stN c * mnN c q0.1 + k : Nat) ∧ k < stN c ∧ mayN c q0.1 (allP c) k = true ∧ aftN c q0.1 k = q.1 ∧ ∀ k', k' < k → ¬ (mayN c q0.1 (allP c) k' = true ∧ aftN c q0.1 k' = q.1))
def RQ (V : Nat → Nat → Int) (c : Cfg) (L : List (Nat × Nat)) : Prop := V 53 25 = L.length ∧ (∀ n, n < spc c → n ∉ L.map Prod.fst → V 59 (mnN c n) = 999999) ∧ ∀ i q, L[i]? = some q → RE V c L i q
theorem RQ.same {V V' : Nat → Nat → Int} {c : Cfg} {L : List (Nat × Nat)} (h : RQ V c L) (e1 : V' 53 25 = V 53 25) (e2 : V' 59 = V 59) (e3 : V' 60 = V 60) (e4 : V' 61 = V 61) : RQ V' c L := by
  unfold RQ RE
  rw [e1, e2, e3, e4]
  exact h
theorem RQ.xf {V V' : Nat → Nat → Int} {c : Cfg} {L : List (Nat × Nat)} (h : RQ V c L) (g : XF V V') : RQ V' c L := h.same (by rw [g 53 (by decide)]) (g 59 (by decide)) (g 60 (by decide)) (g 61 (by decide))
theorem RQ.add {V V' : Nat → Nat → Int} {c : Cfg} {L : List (Nat × Nat)} {i k a : Nat} {q0 : Nat × Nat} (h : RQ V c L) (hok : okQ c L) (hq0 : L[i]? = some q0) (hk : k < stN c) (hm : mayN c q0.1 (allP c) k = true) (ha : a = aftN c q0.1 k) (hf : ∀ k', k' < k → mayN c q0.1 (allP c) k' = true → aftN c q0.1 k' ∈ L.map Prod.fst) (hn : a < spc c) (hx : a ∉ L.map Prod.fst) (e1 : V' 53 25 = L.length + 1) (e2 : ∀ j, V' 59 j = if j = mnN c a then V 59 (mnN c q0.1) + 1 else V 59 j) (e3 : ∀ j, V' 60 j = if j = mnN c a then ((stN c * mnN c q0.1 + k : Nat) : Int) else V 60 j) (e4 : ∀ j, V' 61 j = if j = L.length then (mnN c a : Int) else V 61 j) : RQ V' c (L ++ [(a, i)]) := by
  obtain ⟨-, h2, h3⟩ := h
  have hil := (List.getElem?_eq_some_iff.mp hq0).1
  have hne : ∀ q, q ∈ L → mnN c q.1 ≠ mnN c a := fun q hq e => hx (by rw [← mn_inj (hok.2.1 q hq) hn e]; exact List.mem_map_of_mem hq)
  have hne0 := hne q0 (List.mem_of_getElem? hq0)
  refine ⟨by rw [e1, List.length_append]; rfl, fun n hn' hnx => ?_, fun j q hj => ?_⟩
  · rw [List.map_append, List.mem_append] at hnx
    have h5 : n ≠ a := fun e => hnx (Or.inr (by rw [e]; exact List.mem_singleton.mpr rfl))
    rw [e2, if_neg (fun e => h5 (mn_inj hn' hn e))]
    exact h2 n hn' (fun q => hnx (Or.inl q))
  · by_cases hl : j < L.length
    · rw [List.getElem?_append_left hl] at hj
      have hqm := List.mem_of_getElem? hj
      obtain ⟨r1, r2, r3, r4⟩ := h3 j q hj
      unfold RE
      rw [e2, if_neg (hne q hqm), e4, if_neg (by omega), e3, if_neg (hne q hqm)]
      refine ⟨r1, r2, r3, fun h0 => ?_⟩
      obtain ⟨q1, k1, s1, s2, s3⟩ := r4 h0
      have hl1 := (List.getElem?_eq_some_iff.mp s1).1
      refine ⟨q1, k1, by rw [List.getElem?_append_left hl1]; exact s1, ?_, s3⟩
      rw [e2, if_neg (hne q1 (List.mem_of_getElem? s1))]
      exact s2
    · have hlt := (List.getElem?_eq_some_iff.mp hj).1
      rw [List.length_append, List.length_singleton] at hlt
      have e : j = L.length := by omega
      subst e
      rw [List.getElem?_append_right (Nat.le_refl _), Nat.sub_self] at hj
      cases hj
      obtain ⟨-, -, r3, -⟩ := h3 i q0 hq0
      unfold RE
      show V' 61 _ = (mnN c a : Int) ∧ (_ → V' 59 (mnN c a) = 0) ∧ _ ∧ _
      rw [e4, if_pos rfl, e2, if_pos rfl, e3, if_pos rfl]
      refine ⟨rfl, fun q => by omega, ⟨by omega, by omega⟩, fun _ => ⟨q0, k, by rw [List.getElem?_append_left hil]; exact hq0, ?_, rfl, hk, hm, ha.symm, fun k' hk' hh => hx ?_⟩⟩
      · rw [e2, if_neg hne0]
      · have h6 := hf k' hk' hh.1
        rw [hh.2] at h6
        exact h6
theorem RQ.one {V V' : Nat → Nat → Int} {c : Cfg} {n : Nat} (hn : n < spc c) (hV : ∀ j, j < spc c → V 59 j = 999999) (e1 : V' 53 25 = 1) (e2 : ∀ j, V' 59 j = if j = mnN c n then 0 else V 59 j) (e4 : V' 61 0 = mnN c n) : RQ V' c [(n, 0)] := by
  refine ⟨e1, fun m hm hx => ?_, fun i q hi => ?_⟩
  · have h5 : m ≠ n := fun e => hx (by rw [e]; exact List.mem_singleton.mpr rfl)
    rw [e2, if_neg (fun e => h5 (mn_inj hm hn e))]
    exact hV _ (mnN_lt hm)
  · match i, hi with
    | 0, hi =>
      cases hi
      have e5 := e2 (mnN c n)
      rw [if_pos rfl] at e5
      exact ⟨e4, fun _ => e5, by show 0 ≤ V' 59 (mnN c n) ∧ V' 59 (mnN c n) ≤ _; rw [e5]; exact ⟨by omega, by omega⟩, fun h => absurd h (Nat.lt_irrefl _)⟩
theorem RQ.in {V : Nat → Nat → Int} {c : Cfg} {L : List (Nat × Nat)} {n : Nat} (h : RQ V c L) (hl : L.length ≤ 62500) (hn : n ∈ L.map Prod.fst) : V 59 (mnN c n) ≠ 999999 ∧ 0 ≤ V 59 (mnN c n) ∧ V 59 (mnN c n) ≤ 62500 := by
  obtain ⟨q, hq, rfl⟩ := List.mem_map.mp hn
  obtain ⟨i, hi⟩ := List.mem_iff_getElem?.mp hq
  have hil := (List.getElem?_eq_some_iff.mp hi).1
  obtain ⟨-, -, r3, -⟩ := h.2.2 i q hi
  exact ⟨by omega, r3.1, by omega⟩
section Mod12
variable {G : GE} {V : Nat → Nat → Int} {σ : Shp} {K : Option AV → Mem → Prop} {l : Nat} {c : Cfg} {n : Nat}
theorem wM_isDoor {x : Int} {D : Nat} (hM : moS σ l) (h0l : l = 0 → D = 0) (hl : l ≠ 0 → sO σ l 8 ∧ V l 1 = D) (h1 : 0 ≤ x ∧ x < D → K (some (vI 1)) (V, σ)) (h0 : ¬ (0 ≤ x ∧ x < D) → K (some (vI 0)) (V, σ)) : Wp G 0 mM_isDoor [vR 53, vI x] (V, σ) 0 0 K := by
  refine wp_intro mM_isDoor_i.1 [some (vR 53), some (vI x)] rfl rfl (Nat.le_of_ble_eq_true rfl) ?_
  intro X hG F C
  have hm := C.rm
  refine aw_aload_0 (q := 1) F dM_isDoor_0 rfl ?_
  refine av_getaE (q := 4) F fM_281 dM_isDoor_1 rfl rfl (by first | exact hM.o | exact hl.o) hM.p3 ?_
  refine aw_ifnull (q := 7) (t := 26) F dM_isDoor_4 rfl (by decide) (fun c4 => ?_) (fun c4 => ?_)
  · refine aw_iconst (q := 27) F dM_isDoor_26 rfl (by decide) ?_
    refine aw_zret F C dM_isDoor_27 rfl (by decide) (Nat.le_refl _) (Nat.le_refl _) ?_
    first | exact h0 (by have := h0l c4; omega) | exact h0 (by omega)
  · refine aw_iload_1 (q := 8) F dM_isDoor_7 rfl ?_
    refine aw_if_lt (q := 11) (t := 26) F dM_isDoor_8 rfl (by decide) (fun c8 => ?_) (fun c8 => ?_)
    · refine aw_iconst (q := 27) F dM_isDoor_26 rfl (by decide) ?_
      refine aw_zret F C dM_isDoor_27 rfl (by decide) (Nat.le_refl _) (Nat.le_refl _) ?_
      first | exact h0 (by have := h0l c4; omega) | exact h0 (by omega)
    · refine aw_iload_1 (q := 12) F dM_isDoor_11 rfl ?_
      refine aw_aload_0 (q := 13) F dM_isDoor_12 rfl ?_
      refine av_getaE (q := 16) F fM_281 dM_isDoor_13 rfl rfl (by first | exact hM.o | exact hl.o) hM.p3 ?_
      refine av_geti (q := 19) F fM_183 dM_isDoor_16 rfl rfl (hl c4).1 ?_
      rw [(hl c4).2]
      refine aw_icmp_ge (q := 22) (t := 26) F dM_isDoor_19 rfl (by decide) (fun c19 => ?_) (fun c19 => ?_)
      · refine aw_iconst (q := 27) F dM_isDoor_26 rfl (by decide) ?_
        refine aw_zret F C dM_isDoor_27 rfl (by decide) (Nat.le_refl _) (Nat.le_refl _) ?_
        first | exact h0 (by have := h0l c4; omega) | exact h0 (by omega)
      · refine aw_iconst (q := 23) F dM_isDoor_22 rfl (by decide) ?_
        refine aw_goto (t := 27) F dM_isDoor_23 (by decide) ?_
        refine aw_zret F C dM_isDoor_27 rfl (by decide) (Nat.le_refl _) (Nat.le_refl _) ?_
        exact h1 (by omega)
theorem wM_isPerson {x : Int} {D : Nat} (hM : moS σ l) (h0l : l = 0 → D = 0) (hl : l ≠ 0 → sO σ l 8 ∧ V l 2 = D) (h1 : 0 ≤ x ∧ x < D → K (some (vI 1)) (V, σ)) (h0 : ¬ (0 ≤ x ∧ x < D) → K (some (vI 0)) (V, σ)) : Wp G 0 mM_isPerson [vR 53, vI x] (V, σ) 0 0 K := by
  refine wp_intro mM_isPerson_i.1 [some (vR 53), some (vI x)] rfl rfl (Nat.le_of_ble_eq_true rfl) ?_
  intro X hG F C
  have hm := C.rm
  refine aw_aload_0 (q := 1) F dM_isPerson_0 rfl ?_
  refine av_getaE (q := 4) F fM_281 dM_isPerson_1 rfl rfl (by first | exact hM.o | exact hl.o) hM.p3 ?_
  refine aw_ifnull (q := 7) (t := 26) F dM_isPerson_4 rfl (by decide) (fun c4 => ?_) (fun c4 => ?_)
  · refine aw_iconst (q := 27) F dM_isPerson_26 rfl (by decide) ?_
    refine aw_zret F C dM_isPerson_27 rfl (by decide) (Nat.le_refl _) (Nat.le_refl _) ?_
    first | exact h0 (by have := h0l c4; omega) | exact h0 (by omega)
  · refine aw_iload_1 (q := 8) F dM_isPerson_7 rfl ?_
    refine aw_if_lt (q := 11) (t := 26) F dM_isPerson_8 rfl (by decide) (fun c8 => ?_) (fun c8 => ?_)
    · refine aw_iconst (q := 27) F dM_isPerson_26 rfl (by decide) ?_
      refine aw_zret F C dM_isPerson_27 rfl (by decide) (Nat.le_refl _) (Nat.le_refl _) ?_
      first | exact h0 (by have := h0l c4; omega) | exact h0 (by omega)
    · refine aw_iload_1 (q := 12) F dM_isPerson_11 rfl ?_
      refine aw_aload_0 (q := 13) F dM_isPerson_12 rfl ?_
      refine av_getaE (q := 16) F fM_281 dM_isPerson_13 rfl rfl (by first | exact hM.o | exact hl.o) hM.p3 ?_
      refine av_geti (q := 19) F fM_253 dM_isPerson_16 rfl rfl (hl c4).1 ?_
      rw [(hl c4).2]
      refine aw_icmp_ge (q := 22) (t := 26) F dM_isPerson_19 rfl (by decide) (fun c19 => ?_) (fun c19 => ?_)
      · refine aw_iconst (q := 27) F dM_isPerson_26 rfl (by decide) ?_
        refine aw_zret F C dM_isPerson_27 rfl (by decide) (Nat.le_refl _) (Nat.le_refl _) ?_
        first | exact h0 (by have := h0l c4; omega) | exact h0 (by omega)
      · refine aw_iconst (q := 23) F dM_isPerson_22 rfl (by decide) ?_
        refine aw_goto (t := 27) F dM_isPerson_23 (by decide) ?_
        refine aw_zret F C dM_isPerson_27 rfl (by decide) (Nat.le_refl _) (Nat.le_refl _) ?_
        exact h1 (by omega)
/-- of a step done, its answer left open -/
theorem wM_stepsD {w : Int} {s : Nat} (hw : w = s) (hs : s < stN c) (hn : n < spc c) (hm : mayN c n (allP c) s = true) (hM : moS σ l) (hl : laS σ l) (hC : LC V l c) (hA : AR (V 56) c n) (hc : okC c) (hK : ∀ (r : Int) V', XF V V' → AR (V' 56) c (aftN c n s) → K (some (vI r)) (V', σ)) : Wp G 2 mM_steps [vR 53, vI w] (V, σ) 0 0 K :=
  wM_steps hw hs hn hm hM hl hC hA hc (fun _ V' f g => hK 1 V' f g) (fun _ V' f g => hK 0 V' f g)
end Mod12
