-- sums, swapped
theorem sumN_add {f g : Nat → Nat} : ∀ {k : Nat}, sumN (fun i => f i + g i) k = sumN f k + sumN g k
  | 0 => rfl
  | k + 1 => by
    show sumN (fun i => f i + g i) k + (f k + g k) = sumN f k + f k + (sumN g k + g k)
    rw [sumN_add (k := k)]
    omega
theorem sumN_swap {f : Nat → Nat → Nat} {m : Nat} : ∀ {k : Nat}, sumN (fun i => sumN (f i) m) k = sumN (fun j => sumN (fun i => f i j) k) m
  | 0 => (sumN_z (fun _ _ => rfl)).symm
  | k + 1 => by
    show sumN (fun i => sumN (f i) m) k + sumN (f k) m = sumN (fun j => sumN (fun i => f i j) k + f k j) m
    rw [sumN_swap (k := k), sumN_add]
theorem sumN_mulr {f : Nat → Nat} {B : Nat} : ∀ {k : Nat}, sumN (fun i => f i * B) k = sumN f k * B
  | 0 => (Nat.zero_mul _).symm
  | k + 1 => by rw [sumN, sumN, sumN_mulr (k := k), Nat.add_mul]
theorem sumN_5 {h : Nat → Nat} : ∀ {m : Nat}, sumN h (5 * m) = sumN (fun q => sumN (fun g => h (5 * q + g)) 5) m
  | 0 => rfl
  | m + 1 => by
    have e : sumN h (5 * m + 5) = sumN h (5 * m) + h (5 * m + 0) + h (5 * m + 1) + h (5 * m + 2) + h (5 * m + 3) + h (5 * m + 4) := rfl
    rw [show 5 * (m + 1) = 5 * m + 5 by omega, e, sumN_5 (m := m)]
    show _ = sumN (fun q => sumN (fun g => h (5 * q + g)) 5) m + (0 + h (5 * m + 0) + h (5 * m + 1) + h (5 * m + 2) + h (5 * m + 3) + h (5 * m + 4))
    omega
theorem sumN_fl {p : Nat → Bool} {G : Nat → Nat} : ∀ {k : Nat}, sumN (fun i => if p i = true then G i else 0) k = (((List.range k).filter p).map G).sum
  | 0 => rfl
  | k + 1 => by
    rw [sumN, sumN_fl (k := k), List.range_succ, List.filter_append, List.map_append, List.sum_append]
    congr 1
    cases h : p k
    · rw [if_neg Bool.false_ne_true, List.filter_cons_of_neg (by rw [h]; exact Bool.false_ne_true)]; rfl
    · rw [if_pos rfl, List.filter_cons_of_pos h]; exact (Nat.add_zero _).symm
theorem sumN_rg {G : Nat → Nat} : ∀ {k : Nat}, sumN G k = ((List.range k).map G).sum
  | 0 => rfl
  | k + 1 => by
    rw [sumN, sumN_rg (k := k), List.range_succ, List.map_append, List.sum_append]
    exact congrArg _ (Nat.add_zero _).symm
-- drafts, as the reference reckons them
def fcR (dr o g : Nat) : Nat := if pc4 o < g then 0 else if g = 0 then (if pc4 o = 0 then 1200 else 12 * (100 - dr)) else 12 * dr / pc4 o
def dnR (i t : Nat) : Nat := 4 * clr (i / 4) (opF (i / 4) 4 t 0) + opF (i / 4) 4 t 0
def nxR (i g : Nat) : Nat := if g = 0 then i else dnR i (g - 1)
def bkN (dr : Nat) (F : Nat → Nat) : Nat → Nat → Nat
  | 0, i => F i
  | n + 1, i => sumN (fun g => fcR dr (i / 4) g * bkN dr F n (nxR i g)) 5
def bk1 (dr : Nat) (F : Nat → Nat) (i : Nat) : Nat := sumN (fun g => fcR dr (i / 4) g * F (nxR i g)) 5
theorem bk_s (dr : Nat) (F : Nat → Nat) : ∀ n i, bkN dr F (n + 1) i = bkN dr (bk1 dr F) n i
  | 0, _ => rfl
  | n + 1, i => by
    show sumN (fun g => fcR dr (i / 4) g * bkN dr F (n + 1) (nxR i g)) 5 = sumN (fun g => fcR dr (i / 4) g * bkN dr (bk1 dr F) n (nxR i g)) 5
    exact sumN_cg (fun g _ => by rw [bk_s dr F n])
def cfR (dr j i : Nat) : Nat := (if i = j then (if pc4 (j / 4) = 0 then 1200 else (100 - dr) * 12) else 0) + if (pc4 (j / 4) != 0 && shB (j / 4) 4 i) = true then dr * (12 / pc4 (j / 4)) else 0
theorem wC_cf (dr : Nat) (W : Nat → Nat) (i j : Nat) : wC dr W i j = W j * cfR dr j i := by
  unfold wC cfR
  rw [Nat.mul_add]
  congr 1
  · split
    · rfl
    · rw [Nat.mul_zero]
  · by_cases h : pc4 (j / 4) ≠ 0 ∧ shB (j / 4) 4 i = true
    · rw [if_pos h, if_pos (by rw [Bool.and_eq_true, bne_iff_ne]; exact h), Nat.mul_assoc]
    · rw [if_neg h, if_neg (by rw [Bool.and_eq_true, bne_iff_ne]; exact h), Nat.mul_zero]
theorem sh_list : ∀ o : Nat, o < 16 → (List.range 64).filter (fun i => pc4 o != 0 && shB o 4 i) = ((List.range (pc4 o)).map (fun t => 4 * clr o (opF o 4 t 0) + opF o 4 t 0)).reverse := by decide +kernel
theorem col {dr j : Nat} (hj : j < 64) (F : Nat → Nat) : sumN (fun i => cfR dr j i * F i) 64 = bk1 dr F j := by
  have ho : j / 4 < 16 := by omega
  have e1 : sumN (fun i => cfR dr j i * F i) 64 = sumN (fun i => (if i = j then (if pc4 (j / 4) = 0 then 1200 else (100 - dr) * 12) else 0) * F i) 64 + sumN (fun i => if (pc4 (j / 4) != 0 && shB (j / 4) 4 i) = true then dr * (12 / pc4 (j / 4)) * F i else 0) 64 := by
    rw [← sumN_add]
    refine sumN_cg (fun i _ => ?_)
    unfold cfR
    rw [Nat.add_mul]
    congr 1
    split
    · rfl
    · rw [Nat.zero_mul]
  have e2 : sumN (fun i => (if i = j then (if pc4 (j / 4) = 0 then 1200 else (100 - dr) * 12) else 0) * F i) 64 = (if pc4 (j / 4) = 0 then 1200 else (100 - dr) * 12) * F j := by
    rw [sumN_up (f := fun _ => 0) (j := j) (a := if pc4 (j / 4) = 0 then 1200 else (100 - dr) * 12) hj (fun i _ hn => if_neg hn) (by rw [if_pos rfl, Nat.zero_add]), sumN_z (fun i _ => Nat.zero_mul _), Nat.zero_add]
  have e3 : sumN (fun i => if (pc4 (j / 4) != 0 && shB (j / 4) 4 i) = true then dr * (12 / pc4 (j / 4)) * F i else 0) 64 = sumN (fun t => dr * (12 / pc4 (j / 4)) * F (dnR j t)) (pc4 (j / 4)) := by
    rw [sumN_fl (p := fun i => pc4 (j / 4) != 0 && shB (j / 4) 4 i), sh_list _ ho, List.map_reverse, List.sum_reverse, List.map_map, sumN_rg]
    rfl
  have h4 := pc4_le (j / 4)
  rw [e1, e2, e3]
  unfold bk1 fcR
  generalize hp : pc4 (j / 4) = p at *
  have n0 : nxR j 0 = j := rfl
  have n1 : nxR j 1 = dnR j 0 := rfl
  have n2 : nxR j 2 = dnR j 1 := rfl
  have n3 : nxR j 3 = dnR j 2 := rfl
  have n4 : nxR j 4 = dnR j 3 := rfl
  simp only [sumN, n0, n1, n2, n3, n4]
  have c12 : ∀ q, q = 1 ∨ q = 2 ∨ q = 3 ∨ q = 4 → 12 * dr / q = dr * (12 / q) := fun q hq => by rcases hq with e | e | e | e <;> subst e <;> omega
  rcases (show p = 0 ∨ p = 1 ∨ p = 2 ∨ p = 3 ∨ p = 4 by omega) with e | e | e | e | e <;> subst e
  · simp [sumN]
  · have := c12 1 (by decide); simp only [this]; simp [sumN, Nat.mul_comm, Nat.add_assoc]
  · have := c12 2 (by decide); simp only [this]; simp [sumN, Nat.mul_comm, Nat.add_assoc]
  · have := c12 3 (by decide); simp only [this]; simp [sumN, Nat.mul_comm, Nat.add_assoc]
  · have := c12 4 (by decide); simp only [this]; simp [sumN, Nat.mul_comm, Nat.add_assoc]
theorem bw_bk {dr o l : Nat} (hi : o * 4 + l < 64) : ∀ (n : Nat) (F : Nat → Nat), sumN (fun i => bwN dr o l n i * F i) 64 = bkN dr F n (o * 4 + l)
  | 0, F => sumN_one hi (fun i _ hn => if_neg hn) (if_pos rfl)
  | n + 1, F => by
    rw [bk_s, ← bw_bk hi n (bk1 dr F)]
    have e : sumN (fun i => bwN dr o l (n + 1) i * F i) 64 = sumN (fun i => sumN (fun j => bwN dr o l n j * (cfR dr j i * F i)) 64) 64 := by
      refine sumN_cg (fun i _ => ?_)
      show bwS dr (bwN dr o l n) i * F i = _
      unfold bwS
      rw [← sumN_mulr]
      exact sumN_cg (fun j _ => by rw [wC_cf, Nat.mul_assoc])
    rw [e, sumN_swap]
    refine sumN_cg (fun j hj => ?_)
    rw [sumN_mulc, col hj]
def vlR (dr : Nat) : Nat → Nat → Nat → Nat
  | 0, _, _ => 1
  | n + 1, q, i => fcR dr (i / 4) (q % 5) * vlR dr n (q / 5) (nxR i (q % 5))
def edR : Nat → Nat → Nat → Nat
  | 0, _, i => i
  | n + 1, q, i => edR n (q / 5) (nxR i (q % 5))
theorem vl_bk (dr : Nat) (F : Nat → Nat) : ∀ n i, sumN (fun q => vlR dr n q i * F (edR n q i)) (5 ^ n) = bkN dr F n i
  | 0, i => by show 0 + 1 * F i = F i; rw [Nat.zero_add, Nat.one_mul]
  | n + 1, i => by
    rw [Nat.pow_succ, Nat.mul_comm, sumN_5, sumN_swap]
    show _ = sumN (fun g => fcR dr (i / 4) g * bkN dr F n (nxR i g)) 5
    refine sumN_cg (fun g hg => ?_)
    rw [← vl_bk dr F n (nxR i g), ← sumN_mulc]
    refine sumN_cg (fun q _ => ?_)
    show fcR dr (i / 4) ((5 * q + g) % 5) * vlR dr n ((5 * q + g) / 5) (nxR i ((5 * q + g) % 5)) * F (edR n ((5 * q + g) / 5) (nxR i ((5 * q + g) % 5))) = _
    rw [show (5 * q + g) % 5 = g by omega, show (5 * q + g) / 5 = q by omega, Nat.mul_assoc]
theorem fcR_le {dr : Nat} (hd : dr ≤ 100) (o g : Nat) : fcR dr o g ≤ 1200 := by
  unfold fcR
  split
  · omega
  · split
    · split <;> omega
    · exact Nat.le_trans (Nat.div_le_self _ _) (by omega)
theorem vlR_le {dr : Nat} (hd : dr ≤ 100) : ∀ n q i, vlR dr n q i ≤ 1200 ^ n
  | 0, _, _ => Nat.le_refl _
  | n + 1, q, i => by
    rw [Nat.pow_succ, Nat.mul_comm]
    exact Nat.mul_le_mul (fcR_le hd _ _) (vlR_le hd n _ _)
