-- a lane: doors, people, locked, keys, kinds, nails
abbrev Cfg : Type := Nat × Nat × Nat × Nat × (Nat → Nat) × Nat
abbrev dN (c : Cfg) : Nat := c.1
abbrev pN (c : Cfg) : Nat := c.2.1
abbrev lkC (c : Cfg) : Nat := c.2.2.1
abbrev kyC (c : Cfg) : Nat := c.2.2.2.1
abbrev kdC (c : Cfg) : Nat → Nat := c.2.2.2.2.1
abbrev nlC (c : Cfg) : Nat := c.2.2.2.2.2
def okC (c : Cfg) : Prop := dN c ≤ 4 ∧ pN c ≤ 2 ∧ lkC c < 16 ∧ kyC c < 4 ∧ (∀ d, kdC c d < 4) ∧ nlC c < 16
def Bs (c : Cfg) : Nat := dN c + 1
/-- the powers of the base -/
def wB (c : Cfg) (i : Nat) : Nat := Bs c ^ i
-- an arrangement is a number
def pl (c : Cfg) (n p : Nat) : Nat := n / wB c p % Bs c
def ld (c : Cfg) (n d : Nat) : Nat := n / wB c (pN c + d) % Bs c
def lst (c : Cfg) (n : Nat) : Nat := n / wB c (pN c + dN c)
def spc (c : Cfg) : Nat := dN c * wB c (pN c + dN c)
/-- people as bits, by a test -/
def bsum (f : Nat → Bool) : Nat → Nat
  | 0 => 0
  | n + 1 => bsum f n + if f n then 2 ^ n else 0
def inP (c : Cfg) (n r : Nat) : Nat := bsum (fun p => pl c n p == r) (pN c)
def mO (c : Cfg) (n h d : Nat) : Bool := ld c n d == 0 && !(nlC c).testBit d && h != 0 && (kdC c d != 2 || h == 3) && (!(lkC c).testBit d || h &&& kyC c != 0)
def mS (c : Cfg) (n th d : Nat) : Bool := ld c n d != 0 && kdC c d != 3 && ((inP c n 0 ||| inP c n (ld c n d)) &&& th != 0)
def mG (c : Cfg) (n p d : Nat) : Bool := ld c n d != 0 && (pl c n p == 0 || pl c n p == ld c n d)
def aO (c : Cfg) (n d : Nat) : Nat := n + (lst c n + 1) * wB c (pN c + d)
def aS (c : Cfg) (n d : Nat) : Nat := (n - ld c n d * wB c (pN c + d)) % wB c (pN c + dN c) + d * wB c (pN c + dN c)
def aG1 (c : Cfg) (n p d : Nat) : Nat := if pl c n p = 0 then n + ld c n d * wB c p else n - pl c n p * wB c p
def aG (c : Cfg) (n p d : Nat) : Nat := if kdC c d = 1 then aS c (aG1 c n p d) d else aG1 c n p d
theorem bsum_lt (f : Nat → Bool) : ∀ n, bsum f n < 2 ^ n
  | 0 => Nat.one_pos
  | n + 1 => by
    have := bsum_lt f n
    rw [Nat.pow_succ]
    unfold bsum
    split <;> omega
theorem bsum_or (f : Nat → Bool) (n : Nat) : bsum f n ||| (if f n then 2 ^ n else 0) = bsum f (n + 1) := by
  rw [bsum]
  split
  · have := Nat.two_pow_add_eq_or_of_lt (bsum_lt f n) 1
    rw [Nat.mul_one] at this
    rw [Nat.or_comm, ← this, Nat.add_comm]
  · simp
theorem bsum_tb (f : Nat → Bool) (i : Nat) : ∀ n, (bsum f n).testBit i = (decide (i < n) && f i)
  | 0 => by simp [bsum]
  | n + 1 => by
    rw [← bsum_or, Nat.testBit_or, bsum_tb f i n]
    by_cases h : i = n
    · subst h
      split <;> simp [*]
    · have hne : n ≠ i := Ne.symm h
      have e : decide (i < n) = decide (i < n + 1) := by by_cases h3 : i < n <;> simp [h3] <;> omega
      rw [← e]
      split <;> simp [Nat.testBit_two_pow_of_ne hne]
theorem bsum_cong {f g : Nat → Bool} : ∀ {n : Nat}, (∀ i, i < n → f i = g i) → bsum f n = bsum g n
  | 0, _ => rfl
  | n + 1, h => by rw [bsum, bsum, bsum_cong (fun i hi => h i (by omega)), h n (by omega)]
theorem wB_0 (c : Cfg) : wB c 0 = 1 := rfl
theorem wB_s (c : Cfg) (i : Nat) : wB c (i + 1) = wB c i * Bs c := Nat.pow_succ _ _
theorem wB_pos (c : Cfg) (i : Nat) : 0 < wB c i := Nat.pow_pos (show 0 < Bs c by unfold Bs; omega)
theorem wB_add (c : Cfg) (i j : Nat) : wB c (i + j) = wB c i * wB c j := Nat.pow_add _ _ _
theorem Bs_le {c : Cfg} (h : okC c) : Bs c ≤ 5 := by unfold Bs; have := h.1; omega
theorem wB_le {c : Cfg} (h : okC c) {i : Nat} (hi : i ≤ 6) : wB c i ≤ 15625 := by
  have h1 : wB c i ≤ 5 ^ i := Nat.pow_le_pow_left (Bs_le h) i
  have h2 : 5 ^ i ≤ 5 ^ 6 := Nat.pow_le_pow_right (by decide) hi
  have : (5 : Nat) ^ 6 = 15625 := rfl
  omega
theorem pl_lt (c : Cfg) (n p : Nat) : pl c n p < Bs c := Nat.mod_lt _ (by unfold Bs; omega)
theorem ld_lt (c : Cfg) (n d : Nat) : ld c n d < Bs c := Nat.mod_lt _ (by unfold Bs; omega)
theorem lst_lt {c : Cfg} {n : Nat} (h : n < spc c) : lst c n < dN c := by
  unfold lst
  exact Nat.div_lt_of_lt_mul (by unfold spc at h; rw [Nat.mul_comm]; exact h)
theorem spc_le {c : Cfg} (h : okC c) : spc c ≤ 62500 := by
  unfold spc
  have h1 := wB_le h (i := pN c + dN c) (by have := h.1; have := h.2.1; omega)
  have h2 := Nat.mul_le_mul h.1 h1
  omega
-- digits
theorem dg_add {B n v i : Nat} (h : n / B ^ i % B + v < B) (j : Nat) : (n + v * B ^ i) / B ^ j % B = if j = i then n / B ^ i % B + v else n / B ^ j % B := by
  have hB : 0 < B := by omega
  have hp : 0 < B ^ i := Nat.pow_pos hB
  by_cases hj : j = i
  · subst hj
    rw [if_pos rfl, Nat.add_mul_div_right _ _ hp, Nat.add_mod, Nat.mod_eq_of_lt (show v < B by omega), Nat.mod_eq_of_lt h]
  · rw [if_neg hj]
    rcases Nat.lt_or_ge j i with hlt | hge
    · obtain ⟨k, rfl⟩ : ∃ k, i = j + 1 + k := ⟨i - (j + 1), by omega⟩
      have hpj : 0 < B ^ j := Nat.pow_pos hB
      have e : v * B ^ (j + 1 + k) = (v * B ^ k * B) * B ^ j := by
        rw [Nat.pow_add, Nat.pow_succ]
        ac_rfl
      rw [e, Nat.add_mul_div_right _ _ hpj, Nat.add_mul_mod_self_right]
    · obtain ⟨k, rfl⟩ : ∃ k, j = i + 1 + k := ⟨j - (i + 1), by omega⟩
      rw [Nat.pow_add, Nat.pow_succ, ← Nat.div_div_eq_div_mul, ← Nat.div_div_eq_div_mul, ← Nat.div_div_eq_div_mul, ← Nat.div_div_eq_div_mul, Nat.add_mul_div_right _ _ hp]
      congr 2
      have h1 := Nat.div_add_mod (n / B ^ i) B
      have h2 : n / B ^ i + v = (n / B ^ i % B + v) + B * (n / B ^ i / B) := by omega
      rw [h2, Nat.add_mul_div_left _ _ hB, Nat.div_eq_of_lt h, Nat.zero_add]
theorem hi_add {B n v i k : Nat} (h : n / B ^ i % B + v < B) (hk : i < k) : (n + v * B ^ i) / B ^ k = n / B ^ k := by
  have hB : 0 < B := by omega
  have hp : 0 < B ^ i := Nat.pow_pos hB
  obtain ⟨j, rfl⟩ : ∃ j, k = i + 1 + j := ⟨k - (i + 1), by omega⟩
  rw [Nat.pow_add, Nat.pow_succ, ← Nat.div_div_eq_div_mul, ← Nat.div_div_eq_div_mul, ← Nat.div_div_eq_div_mul, ← Nat.div_div_eq_div_mul, Nat.add_mul_div_right _ _ hp]
  congr 1
  have h1 := Nat.div_add_mod (n / B ^ i) B
  have h2 : n / B ^ i + v = (n / B ^ i % B + v) + B * (n / B ^ i / B) := by omega
  rw [h2, Nat.add_mul_div_left _ _ hB, Nat.div_eq_of_lt h, Nat.zero_add]
theorem dg_sub {B n v i : Nat} (hB : 0 < B) (h : v ≤ n / B ^ i % B) : v * B ^ i ≤ n ∧ (n - v * B ^ i) / B ^ i % B = n / B ^ i % B - v := by
  have hp : 0 < B ^ i := Nat.pow_pos hB
  have h0 : v * B ^ i ≤ n := by
    have h1 : v ≤ n / B ^ i := Nat.le_trans h (Nat.mod_le _ _)
    exact Nat.le_trans (Nat.mul_le_mul_right _ h1) (Nat.div_mul_le_self _ _)
  refine ⟨h0, ?_⟩
  have e : (n - v * B ^ i) / B ^ i = n / B ^ i - v := by rw [Nat.mul_comm v, Nat.sub_mul_div_of_le]; rw [Nat.mul_comm]; exact h0
  rw [e]
  have h1 := Nat.div_add_mod (n / B ^ i) B
  have h3 : n / B ^ i - v = (n / B ^ i % B - v) + B * (n / B ^ i / B) := by omega
  have h4 : n / B ^ i % B < B := Nat.mod_lt _ hB
  rw [h3, Nat.add_mul_mod_self_left, Nat.mod_eq_of_lt (by omega)]
theorem dg_sub' {B n v i : Nat} (hB : 0 < B) (h : v ≤ n / B ^ i % B) (j : Nat) : (n - v * B ^ i) / B ^ j % B = if j = i then n / B ^ i % B - v else n / B ^ j % B := by
  obtain ⟨h0, h1⟩ := dg_sub hB h
  by_cases hj : j = i
  · subst hj; rw [if_pos rfl, h1]
  · rw [if_neg hj]
    have h4 : n / B ^ i % B < B := Nat.mod_lt _ hB
    have := dg_add (n := n - v * B ^ i) (v := v) (i := i) (B := B) (by omega) j
    rw [if_neg hj, Nat.sub_add_cancel h0] at this
    exact this.symm
theorem hi_sub {B n v i k : Nat} (hB : 0 < B) (h : v ≤ n / B ^ i % B) (hk : i < k) : (n - v * B ^ i) / B ^ k = n / B ^ k := by
  obtain ⟨h0, h1⟩ := dg_sub hB h
  have h4 : n / B ^ i % B < B := Nat.mod_lt _ hB
  have := hi_add (n := n - v * B ^ i) (v := v) (i := i) (B := B) (k := k) (by omega) hk
  rw [Nat.sub_add_cancel h0] at this
  exact this.symm
theorem okI_mul {x y : Int} (a b : Int) (h0 : 0 ≤ x) (h1 : x ≤ a) (h2 : 0 ≤ y) (h3 : y ≤ b) (h : a * b ≤ 2147483647) : okI (x * y) := by
  have h4 : 0 ≤ x * y := Int.mul_nonneg h0 h2
  have h5 : x * y ≤ a * b := Int.mul_le_mul h1 h3 h2 (by omega)
  exact ⟨by omega, by omega⟩
