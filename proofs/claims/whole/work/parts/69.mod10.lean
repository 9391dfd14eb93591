/-- an arrangement laid from door d and from person p on -/
def LY (f : Nat → Int) (c : Cfg) (n d p : Nat) : Prop := (∀ q, q < 2 → p ≤ q → f q = if q < pN c then (pl c n q : Int) else 0) ∧ (∀ e, e < 4 → d ≤ e → f (2 + e) = if e < dN c then (ld c n e : Int) else 0) ∧ f 6 = lst c n ∧ (∀ d, d < 4 → f (7 + d) = kdC c d) ∧ f 11 = nlC c
theorem LY.ar {f : Nat → Int} {c : Cfg} {n : Nat} (h : LY f c n 0 0) : AR f c n := ⟨fun p hp => h.1 p hp (Nat.zero_le _), fun d hd => h.2.1 d hd (Nat.zero_le _), h.2.2⟩
theorem LY.fst {f g : Nat → Int} {c : Cfg} {n m : Nat} (h : AR f c m) (hc : okC c) (e : ∀ j, g j = if j = 6 then (lst c n : Int) else f j) : LY g c n (dN c) (pN c) := by
  have hp2 : pN c ≤ 2 := hc.2.1
  refine ⟨fun q hq q2 => ?_, fun x hx x2 => ?_, ?_, fun x hx => ?_, ?_⟩
  · rw [e, if_neg (by omega), h.1 q hq, if_neg (by omega), if_neg (by omega)]
  · rw [e, if_neg (by omega), h.2.1 x hx, if_neg (by omega), if_neg (by omega)]
  · rw [e, if_pos rfl]
  · rw [e, if_neg (by omega), h.2.2.2.1 x hx]
  · rw [e, if_neg (by omega), h.2.2.2.2]
theorem LY.door {f g : Nat → Int} {c : Cfg} {n d p : Nat} (h : LY f c n (d + 1) p) (hc : okC c) (hd : d < dN c) (e : ∀ j, g j = if j = 2 + d then (ld c n d : Int) else f j) : LY g c n d p := by
  have hd4 : dN c ≤ 4 := hc.1
  refine ⟨fun q hq q2 => ?_, fun x hx x2 => ?_, ?_, fun x hx => ?_, ?_⟩
  · rw [e, if_neg (by omega), h.1 q hq q2]
  · rw [e]
    by_cases y : x = d
    · rw [if_pos (by omega), y, if_pos hd]
    · rw [if_neg (by omega), h.2.1 x hx (by omega)]
  · rw [e, if_neg (by omega), h.2.2.1]
  · rw [e, if_neg (by omega), h.2.2.2.1 x hx]
  · rw [e, if_neg (by omega), h.2.2.2.2]
theorem LY.pers {f g : Nat → Int} {c : Cfg} {n d p : Nat} (h : LY f c n d (p + 1)) (hc : okC c) (hp : p < pN c) (e : ∀ j, g j = if j = p then (pl c n p : Int) else f j) : LY g c n d p := by
  have hp2 : pN c ≤ 2 := hc.2.1
  refine ⟨fun q hq q2 => ?_, fun x hx x2 => ?_, ?_, fun x hx => ?_, ?_⟩
  · rw [e]
    by_cases y : q = p
    · rw [if_pos y, y, if_pos hp]
    · rw [if_neg y, h.1 q hq (by omega)]
  · rw [e, if_neg (by omega), h.2.1 x hx x2]
  · rw [e, if_neg (by omega), h.2.2.1]
  · rw [e, if_neg (by omega), h.2.2.2.1 x hx]
  · rw [e, if_neg (by omega), h.2.2.2.2]
theorem dig_mod {B a b : Nat} (h : b < B) : (B * a + b) % B = b ∧ (B * a + b) / B = a := by
  constructor
  · rw [Nat.mul_add_mod, Nat.mod_eq_of_lt h]
  · rw [Nat.mul_add_div (by omega), Nat.div_eq_of_lt h, Nat.add_zero]
theorem mnA_inj {c : Cfg} {n m : Nat} : ∀ k, mnA c n k = mnA c m k → ∀ p, p < k → pl c n p = pl c m p
  | 0, _, p, hp => absurd hp (by omega)
  | k + 1, h, p, hp => by
    rw [mnA, mnA] at h
    obtain ⟨a1, a2⟩ := dig_mod (a := mnA c n k) (pl_lt c n k)
    obtain ⟨b1, b2⟩ := dig_mod (a := mnA c m k) (pl_lt c m k)
    rw [h] at a1 a2
    by_cases q : p = k
    · rw [q, ← a1, b1]
    · exact mnA_inj k (by rw [← a2, b2]) p (by omega)
theorem mnB_inj {c : Cfg} {n m : Nat} : ∀ k, mnB c n k = mnB c m k → (∀ d, d < k → ld c n d = ld c m d) ∧ ∀ p, p < pN c → pl c n p = pl c m p
  | 0, h => ⟨fun d hd => absurd hd (by omega), mnA_inj _ h⟩
  | k + 1, h => by
    rw [mnB, mnB] at h
    obtain ⟨a1, a2⟩ := dig_mod (a := mnB c n k) (ld_lt c n k)
    obtain ⟨b1, b2⟩ := dig_mod (a := mnB c m k) (ld_lt c m k)
    rw [h] at a1 a2
    obtain ⟨i1, i2⟩ := mnB_inj k (show mnB c n k = mnB c m k by rw [← a2, b2])
    refine ⟨fun d hd => ?_, i2⟩
    by_cases q : d = k
    · rw [q, ← a1, b1]
    · exact i1 d (by omega)
theorem mnN_dig {c : Cfg} {n m : Nat} (hn : n < spc c) (hm : m < spc c) (h : mnN c n = mnN c m) : lst c n = lst c m ∧ (∀ d, d < dN c → ld c n d = ld c m d) ∧ ∀ p, p < pN c → pl c n p = pl c m p := by
  unfold mnN at h
  obtain ⟨a1, a2⟩ := dig_mod (a := mnB c n (dN c)) (lst_lt hn)
  obtain ⟨b1, b2⟩ := dig_mod (a := mnB c m (dN c)) (lst_lt hm)
  rw [h] at a1 a2
  exact ⟨by rw [← a1, b1], mnB_inj _ (by rw [← a2, b2])⟩
