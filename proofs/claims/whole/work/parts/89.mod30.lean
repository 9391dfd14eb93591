-- sums over a row
theorem sumN_cg {f g : Nat → Nat} : ∀ {k : Nat}, (∀ i, i < k → f i = g i) → sumN f k = sumN g k
  | 0, _ => rfl
  | k + 1, h => by rw [sumN, sumN, sumN_cg (k := k) (fun i hi => h i (by omega)), h k (by omega)]
theorem sumN_lef {f g : Nat → Nat} : ∀ {k : Nat}, (∀ i, i < k → f i ≤ g i) → sumN f k ≤ sumN g k
  | 0, _ => Nat.le_refl _
  | k + 1, h => by
    have h1 := sumN_lef (k := k) (fun i hi => h i (by omega))
    have h2 := h k (by omega)
    show sumN f k + f k ≤ sumN g k + g k
    omega
theorem sumN_at {f : Nat → Nat} {i : Nat} : ∀ {k : Nat}, i < k → f i ≤ sumN f k
  | 0, h => absurd h (by omega)
  | k + 1, h => by
    show f i ≤ sumN f k + f k
    by_cases e : i = k
    · rw [e]; omega
    · have := sumN_at (f := f) (i := i) (k := k) (by omega); omega
theorem sumN_pos {f : Nat → Nat} : ∀ {k : Nat}, 0 < sumN f k ↔ ∃ i, i < k ∧ 0 < f i
  | 0 => ⟨fun h => absurd h (by show ¬ 0 < 0; omega), fun ⟨i, h, _⟩ => absurd h (by omega)⟩
  | k + 1 => by
    show 0 < sumN f k + f k ↔ _
    constructor
    · intro h
      by_cases e : 0 < f k
      · exact ⟨k, by omega, e⟩
      · obtain ⟨i, h1, h2⟩ := (sumN_pos (k := k)).mp (show 0 < sumN f k by omega)
        exact ⟨i, by omega, h2⟩
    · rintro ⟨i, h1, h2⟩
      have := sumN_at (f := f) h1
      have e : sumN f (k + 1) = sumN f k + f k := rfl
      omega
theorem sumN_z {f : Nat → Nat} {k : Nat} (h : ∀ i, i < k → f i = 0) : sumN f k = 0 := by
  have := sumN_le (f := f) (B := 0) (k := k) (fun i hi => by rw [h i hi]; exact Nat.le_refl _)
  omega
theorem sumN_mulc {f : Nat → Nat} {B : Nat} : ∀ {k : Nat}, sumN (fun i => B * f i) k = B * sumN f k
  | 0 => rfl
  | k + 1 => by rw [sumN, sumN, sumN_mulc (k := k), Nat.mul_add]
/-- one entry more by a -/
theorem sumN_up {f g h : Nat → Nat} {j a : Nat} : ∀ {k : Nat}, j < k → (∀ i, i < k → i ≠ j → h i = f i) → h j = f j + a → sumN (fun i => h i * g i) k = sumN (fun i => f i * g i) k + a * g j
  | 0, hj, _, _ => absurd hj (by omega)
  | k + 1, hj, h1, h2 => by
    show sumN (fun i => h i * g i) k + h k * g k = sumN (fun i => f i * g i) k + f k * g k + a * g j
    by_cases e : j = k
    · subst e
      rw [sumN_cg (f := fun i => h i * g i) (g := fun i => f i * g i) (fun i hi => by show h i * g i = f i * g i; rw [h1 i (by omega) (by omega)]), h2, Nat.add_mul]
      omega
    · rw [sumN_up (k := k) (by omega) (fun i hi hn => h1 i (by omega) hn) h2, h1 k (by omega) (fun q => e q.symm)]
      omega
theorem sumN_one {g : Nat → Nat} {j k : Nat} (hj : j < k) {f : Nat → Nat} (h1 : ∀ i, i < k → i ≠ j → f i = 0) (h2 : f j = 1) : sumN (fun i => f i * g i) k = g j := by
  rw [sumN_up (f := fun _ => 0) (a := 1) hj h1 (by rw [h2]), sumN_z (fun i _ => Nat.zero_mul _), Nat.zero_add, Nat.one_mul]
-- rows forward: each arrangement's number of rows that come there
noncomputable def ivN (c : Cfg) (i : Nat) : Nat := if h : i < spc c then Classical.choose (mn_sur h) else 0
theorem ivN_sp {c : Cfg} {i : Nat} (h : i < spc c) : ivN c i < spc c ∧ mnN c (ivN c i) = i := by
  unfold ivN
  rw [dif_pos h]
  exact Classical.choose_spec (mn_sur h)
theorem ivN_mn {c : Cfg} {n : Nat} (h : n < spc c) : ivN c (mnN c n) = n := by
  obtain ⟨h1, h2⟩ := ivN_sp (c := c) (mnN_lt h)
  exact mn_inj h1 h h2
def svs (c : Cfg) (n : Nat) (g : Nat → Nat) : Nat → Nat
  | 0 => 0
  | s + 1 => svs c n g s + if mayN c n (allP c) s then g (mnN c (aftN c n s)) else 0
theorem svs_1 {c : Cfg} {n s : Nat} {g : Nat → Nat} (h : mayN c n (allP c) s = true) : svs c n g (s + 1) = svs c n g s + g (mnN c (aftN c n s)) := by rw [svs, if_pos h]
theorem svs_0 {c : Cfg} {n s : Nat} {g : Nat → Nat} (h : mayN c n (allP c) s = false) : svs c n g (s + 1) = svs c n g s := by rw [svs, if_neg (by rw [h]; exact Bool.false_ne_true), Nat.add_zero]
theorem svs_le {c : Cfg} {n : Nat} {g : Nat → Nat} (hg : ∀ i, g i ≤ 1) : ∀ s, svs c n g s ≤ s
  | 0 => Nat.le_refl _
  | s + 1 => by
    have h1 := svs_le (c := c) (n := n) hg s
    cases hm : mayN c n (allP c) s
    · rw [svs_0 hm]; omega
    · rw [svs_1 hm]; have := hg (mnN c (aftN c n s)); omega
noncomputable def stp (c : Cfg) (g : Nat → Nat) (i : Nat) : Nat := svs c (ivN c i) g (stN c)
noncomputable def gC (c : Cfg) (P r : Nat) : Nat → Nat := fun i => vlN c P r (ivN c i) / 16
noncomputable def gB (c : Cfg) (P r b : Nat) : Nat → Nat := fun i => if (vlN c P r (ivN c i)).testBit b then 1 else 0
abbrev dot (c : Cfg) (f g : Nat → Nat) : Nat := sumN (fun i => f i * g i) (spc c)
theorem svs_gC {c : Cfg} {P r n : Nat} (hn : n < spc c) : ∀ s, s ≤ stN c → svs c n (gC c P r) s = svC c n (vlN c P r) s
  | 0, _ => rfl
  | s + 1, hs => by
    have ih := svs_gC (P := P) (r := r) hn s (by omega)
    cases hm : mayN c n (allP c) s
    · rw [svs_0 hm, ih, svC, if_neg (by rw [hm]; exact Bool.false_ne_true), Nat.add_zero]
    · rw [svs_1 hm, ih, svC, if_pos hm]
      unfold gC
      rw [ivN_mn (aft_lt hn (by omega) hm)]
theorem vl_s (c : Cfg) (P r m : Nat) : vlN c P (r + 1) m = svC c m (vlN c P r) (stN c) * 16 + svO c m (vlN c P r) (stN c) := rfl
theorem vl_div (c : Cfg) (P r m : Nat) : vlN c P (r + 1) m / 16 = svC c m (vlN c P r) (stN c) := by
  have := svO_lt c m (vlN c P r) (stN c)
  rw [vl_s]
  omega
theorem vl_mod (c : Cfg) (P r m : Nat) : vlN c P (r + 1) m % 16 = svO c m (vlN c P r) (stN c) := by
  have := svO_lt c m (vlN c P r) (stN c)
  rw [vl_s]
  omega
theorem tb_mod16 (x : Nat) {b : Nat} (hb : b < 4) : (x % 16).testBit b = x.testBit b := by
  rw [show (16 : Nat) = 2 ^ 4 from rfl, Nat.testBit_mod_two_pow, decide_eq_true hb, Bool.true_and]
theorem stp_gC {c : Cfg} {P r i : Nat} (hi : i < spc c) : stp c (gC c P r) i = gC c P (r + 1) i := by
  unfold stp
  rw [svs_gC (ivN_sp hi).1 _ (Nat.le_refl _)]
  unfold gC
  rw [vl_div]
theorem svs_gB {c : Cfg} {P r n b : Nat} (hb : b < 4) (hn : n < spc c) : ∀ s, s ≤ stN c → (0 < svs c n (gB c P r b) s ↔ (svO c n (vlN c P r) s).testBit b = true)
  | 0, _ => ⟨fun h => absurd h (by show ¬ 0 < 0; omega), fun h => by rw [show svO c n (vlN c P r) 0 = 0 from rfl, Nat.zero_testBit] at h; cases h⟩
  | s + 1, hs => by
    have ih := svs_gB (P := P) (r := r) hb hn s (by omega)
    cases hm : mayN c n (allP c) s
    · rw [svs_0 hm, ih, svO, if_neg (by rw [hm]; exact Bool.false_ne_true), Nat.or_zero]
    · rw [svs_1 hm, svO, if_pos hm, Nat.testBit_or, tb_mod16 _ hb, Bool.or_eq_true, ← ih]
      unfold gB
      rw [ivN_mn (aft_lt hn (by omega) hm)]
      cases (vlN c P r (aftN c n s)).testBit b
      · rw [if_neg Bool.false_ne_true]
        exact ⟨fun h => Or.inl (by omega), fun h => by rcases h with h | h; exact h; cases h⟩
      · rw [if_pos rfl]
        exact ⟨fun _ => Or.inr rfl, fun _ => by omega⟩
theorem stp_gB {c : Cfg} {P r b i : Nat} (hb : b < 4) (hi : i < spc c) : 0 < stp c (gB c P r b) i ↔ 0 < gB c P (r + 1) b i := by
  unfold stp
  rw [svs_gB hb (ivN_sp hi).1 _ (Nat.le_refl _), ← vl_mod, tb_mod16 _ hb]
  show _ ↔ 0 < (if (vlN c P (r + 1) (ivN c i)).testBit b then 1 else 0)
  cases (vlN c P (r + 1) (ivN c i)).testBit b
  · exact ⟨fun h => absurd h Bool.false_ne_true, fun h => absurd h (by decide)⟩
  · exact ⟨fun _ => (by decide), fun _ => rfl⟩
theorem dot_pos {c : Cfg} {f g h : Nat → Nat} (e : ∀ i, i < spc c → (0 < g i ↔ 0 < h i)) : 0 < dot c f g ↔ 0 < dot c f h := by
  have key : ∀ (a b : Nat → Nat), (∀ i, i < spc c → 0 < a i → 0 < b i) → 0 < dot c f a → 0 < dot c f b := fun a b q h1 => by
    obtain ⟨i, i1, i2⟩ := sumN_pos.mp h1
    refine sumN_pos.mpr ⟨i, i1, ?_⟩
    exact Nat.mul_pos (Nat.pos_of_mul_pos_right i2) (q i i1 (Nat.pos_of_mul_pos_left i2))
  exact ⟨key g h (fun i hi => (e i hi).mp), key h g (fun i hi => (e i hi).mpr)⟩
/-- the numbers of rows of k steps from m, and what they come to -/
def RI (V : Nat → Nat → Int) (c : Cfg) (P m k : Nat) : Prop := ∃ f : Nat → Nat, (∀ i, i < spc c → V 59 i = f i) ∧ sumN f (spc c) ≤ 16 ^ k ∧ (∀ r, dot c f (gC c P r) = vlN c P (k + r) m / 16) ∧ ∀ r b, b < 4 → (0 < dot c f (gB c P r b) ↔ (vlN c P (k + r) m).testBit b = true)
theorem RI.same {V V' : Nat → Nat → Int} {c : Cfg} {P m k : Nat} (h : RI V c P m k) (e : V' 59 = V 59) : RI V' c P m k := by
  unfold RI
  rw [e]
  exact h
theorem RI.one {V : Nat → Nat → Int} {c : Cfg} {P m : Nat} (hm : m < spc c) (h1 : ∀ i, i < spc c → i ≠ mnN c m → V 59 i = 0) (h2 : V 59 (mnN c m) = 1) : RI V c P m 0 := by
  have e : ∀ g, dot c (fun i => if i = mnN c m then 1 else 0) g = g (mnN c m) := fun g => sumN_one (mnN_lt hm) (fun i _ hn => if_neg hn) (if_pos rfl)
  refine ⟨fun i => if i = mnN c m then 1 else 0, fun i hi => ?_, ?_, fun r => ?_, fun r b hb => ?_⟩
  · by_cases q : i = mnN c m
    · show V 59 i = ((if i = mnN c m then 1 else 0 : Nat) : Int)
      rw [q, h2, if_pos rfl]; rfl
    · show V 59 i = ((if i = mnN c m then 1 else 0 : Nat) : Int)
      rw [h1 i hi q, if_neg q]; rfl
  · have := e (fun _ => 1)
    rw [sumN_cg (f := fun i => (if i = mnN c m then 1 else 0)) (g := fun i => (if i = mnN c m then 1 else 0) * 1) (fun i _ => (Nat.mul_one _).symm)]
    rw [show dot c (fun i => if i = mnN c m then 1 else 0) (fun _ => 1) = sumN (fun i => (if i = mnN c m then 1 else 0) * 1) (spc c) from rfl] at this
    rw [this]
    exact Nat.le_refl _
  · rw [e, Nat.zero_add]
    unfold gC
    rw [ivN_mn hm]
  · rw [e, Nat.zero_add]
    unfold gB
    rw [ivN_mn hm]
    cases (vlN c P r m).testBit b
    · exact ⟨fun h => absurd h (by decide), fun h => by cases h⟩
    · exact ⟨fun _ => rfl, fun _ => by decide⟩
theorem RI.step {V V' : Nat → Nat → Int} {c : Cfg} {P m k : Nat} {f f' : Nat → Nat} (hst : stN c ≤ 16) (h2 : sumN f (spc c) ≤ 16 ^ k) (h3 : ∀ r, dot c f (gC c P r) = vlN c P (k + r) m / 16) (h4 : ∀ r b, b < 4 → (0 < dot c f (gB c P r b) ↔ (vlN c P (k + r) m).testBit b = true)) (g1 : ∀ i, i < spc c → V' 59 i = f' i) (g2 : ∀ g, dot c f' g = dot c f (stp c g)) : RI V' c P m (k + 1) := by
  refine ⟨f', g1, ?_, fun r => ?_, fun r b hb => ?_⟩
  · have e := g2 (fun _ => 1)
    have e1 : dot c f' (fun _ => 1) = sumN f' (spc c) := sumN_cg (fun i _ => Nat.mul_one _)
    have e2 : dot c f (stp c (fun _ => 1)) ≤ 16 * sumN f (spc c) := by
      rw [← sumN_mulc]
      refine sumN_lef (fun i _ => ?_)
      rw [Nat.mul_comm 16]
      exact Nat.mul_le_mul_left _ (Nat.le_trans (svs_le (fun _ => Nat.le_refl _) _) hst)
    rw [Nat.pow_succ]
    omega
  · have e : dot c f (stp c (gC c P r)) = dot c f (gC c P (r + 1)) := sumN_cg (fun i hi => by show f i * stp c (gC c P r) i = f i * gC c P (r + 1) i; rw [stp_gC hi])
    rw [g2, e, show k + 1 + r = k + (r + 1) by omega]
    exact h3 (r + 1)
  · rw [g2, dot_pos (h := gB c P (r + 1) b) (fun i hi => stp_gB hb hi), show k + 1 + r = k + (r + 1) by omega]
    exact h4 (r + 1) b hb
