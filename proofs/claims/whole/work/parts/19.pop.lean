-- how many bits are set, as the library counts them
def rp8 (x : Nat) : Nat → Nat
  | 0 => 0
  | n + 1 => x + 256 * rp8 x n
theorem and_cut (a b x y : Nat) (hx : x < 256) (hy : y < 256) : (x + 256 * a) &&& (y + 256 * b) = (x &&& y) + 256 * (a &&& b) := by
  have h1 : ((x + 256 * a) &&& (y + 256 * b)) % 2 ^ 8 = x &&& y := by
    rw [Nat.and_mod_two_pow]
    rw [show (x + 256 * a) % 2 ^ 8 = x by omega, show (y + 256 * b) % 2 ^ 8 = y by omega]
  have h2 : ((x + 256 * a) &&& (y + 256 * b)) / 2 ^ 8 = a &&& b := by
    rw [Nat.and_div_two_pow]
    rw [show (x + 256 * a) / 2 ^ 8 = a by omega, show (y + 256 * b) / 2 ^ 8 = b by omega]
  omega
def pa1 (n m : Nat) : Nat := m - (m / 2 &&& rp8 85 n)
def pa2 (n m : Nat) : Nat := (pa1 n m &&& rp8 51 n) + (pa1 n m / 4 &&& rp8 51 n)
def pa3 (n m : Nat) : Nat := (pa2 n m + pa2 n m / 16) &&& rp8 15 n
def qb1 (x : Nat) : Nat := x - (x / 2 &&& 85)
def qb2 (x : Nat) : Nat := (qb1 x &&& 51) + (qb1 x / 4 &&& 51)
def qb3 (x : Nat) : Nat := (qb2 x + qb2 x / 16) &&& 15
theorem qb_ok : ∀ x : Nat, x < 256 → (x / 2 &&& 85 ≤ x) ∧ qb2 x < 69 ∧ qb2 x % 16 ≤ 4 ∧ qb3 x = x % 2 + x / 2 % 2 + x / 4 % 2 + x / 8 % 2 + x / 16 % 2 + x / 32 % 2 + x / 64 % 2 + x / 128 % 2 := by decide +kernel
theorem qb3_le : ∀ x : Nat, x < 256 → qb3 x ≤ 8 := by decide +kernel
theorem and85 : ∀ x : Nat, x < 128 → ∀ b : Nat, b < 2 → (x + 128 * b) &&& 85 = x &&& 85 := by decide +kernel
theorem and51 : ∀ x : Nat, x < 64 → ∀ b : Nat, b < 4 → (x + 64 * b) &&& 51 = x &&& 51 := by decide +kernel
theorem and15 : ∀ x : Nat, x < 256 → x &&& 15 = x % 16 := by decide +kernel
theorem half_le (n : Nat) : ∀ k m, m < 256 ^ k → (m / 2 &&& n) ≤ m := fun _ m _ => Nat.le_trans Nat.and_le_left (Nat.div_le_self _ _)
theorem pa_s (n lo hi : Nat) (hl : lo < 256) : pa1 (n + 1) (lo + 256 * hi) = qb1 lo + 256 * pa1 n hi := by
  obtain ⟨h1, -, -, -⟩ := qb_ok lo hl
  have h2 : hi / 2 &&& rp8 85 n ≤ hi := Nat.le_trans Nat.and_le_left (Nat.div_le_self _ _)
  have e : (lo + 256 * hi) / 2 = (lo / 2 + 128 * (hi % 2)) + 256 * (hi / 2) := by omega
  unfold pa1
  show lo + 256 * hi - ((lo + 256 * hi) / 2 &&& (85 + 256 * rp8 85 n)) = _
  rw [e, and_cut _ _ _ _ (by omega) (by decide), and85 _ (by omega) _ (by omega)]
  unfold qb1
  omega
theorem qb1_lt : ∀ x : Nat, x < 256 → qb1 x < 256 := by decide +kernel
theorem pa2_s (n lo hi : Nat) (hl : lo < 256) : pa2 (n + 1) (lo + 256 * hi) = qb2 lo + 256 * pa2 n hi := by
  have hq := qb1_lt lo hl
  unfold pa2
  rw [pa_s n lo hi hl]
  show ((qb1 lo + 256 * pa1 n hi) &&& (51 + 256 * rp8 51 n)) + ((qb1 lo + 256 * pa1 n hi) / 4 &&& (51 + 256 * rp8 51 n)) = _
  have e : (qb1 lo + 256 * pa1 n hi) / 4 = (qb1 lo / 4 + 64 * (pa1 n hi % 4)) + 256 * (pa1 n hi / 4) := by omega
  rw [e, and_cut _ _ _ _ hq (by decide), and_cut _ _ _ _ (by omega) (by decide), and51 _ (by omega) _ (by omega)]
  unfold qb2
  omega
theorem pa2_16 : ∀ n m, m < 256 ^ n → pa2 n m % 16 ≤ 4
  | 0, m, h => by
    have : m = 0 := by simpa using h
    subst this
    decide
  | n + 1, m, h => by
    have e : m = m % 256 + 256 * (m / 256) := by omega
    rw [e, pa2_s n _ _ (by omega)]
    obtain ⟨-, -, h3, -⟩ := qb_ok (m % 256) (by omega)
    omega
theorem pa3_s (n lo hi : Nat) (hl : lo < 256) (hh : hi < 256 ^ n) : pa3 (n + 1) (lo + 256 * hi) = qb3 lo + 256 * pa3 n hi := by
  obtain ⟨-, h2, h3, -⟩ := qb_ok lo hl
  have h4 := pa2_16 n hi hh
  unfold pa3
  rw [pa2_s n lo hi hl]
  show (qb2 lo + 256 * pa2 n hi + (qb2 lo + 256 * pa2 n hi) / 16) &&& (15 + 256 * rp8 15 n) = _
  have e : qb2 lo + 256 * pa2 n hi + (qb2 lo + 256 * pa2 n hi) / 16 = (qb2 lo + qb2 lo / 16 + 16 * (pa2 n hi % 16)) + 256 * (pa2 n hi + pa2 n hi / 16) := by omega
  rw [e, and_cut _ _ _ _ (by omega) (by decide), and15 _ (by omega)]
  unfold qb3
  rw [and15 _ (by omega)]
  omega
theorem cntB_add (f : Nat → Bool) (a : Nat) : ∀ b, cntB f (a + b) = cntB f a + cntB (fun i => f (a + i)) b
  | 0 => rfl
  | b + 1 => by
    show cntB f (a + b) + (if f (a + b) then 1 else 0) = cntB f a + (cntB (fun i => f (a + i)) b + if f (a + b) then 1 else 0)
    rw [cntB_add f a b, Nat.add_assoc]
theorem cntB_cg {f g : Nat → Bool} : ∀ n, (∀ i, i < n → f i = g i) → cntB f n = cntB g n
  | 0, _ => rfl
  | n + 1, h => by
    show cntB f n + _ = cntB g n + _
    rw [cntB_cg n (fun i hi => h i (by omega)), h n (by omega)]
theorem tb_dm (m i : Nat) : m.testBit i = decide (m / 2 ^ i % 2 = 1) := by
  rw [Nat.testBit_eq_decide_div_mod_eq]
theorem cnt8b : ∀ x : Nat, x < 256 → cntB (fun i => x.testBit i) 8 = qb3 x := by decide +kernel
theorem cnt8 (m : Nat) : cntB (fun i => m.testBit i) 8 = qb3 (m % 256) := by
  rw [← cnt8b (m % 256) (by omega)]
  refine cntB_cg 8 (fun i hi => ?_)
  rw [show (256 : Nat) = 2 ^ 8 from rfl, Nat.testBit_mod_two_pow]
  simp [hi]
theorem pa_un (n : Nat) {m : Nat} (h : m < 256 ^ (n + 1)) : ∃ q r, q ≤ 8 ∧ r < 256 ^ n ∧ pa3 (n + 1) m = q + 256 * pa3 n r ∧ cntB (fun i => m.testBit i) (8 * (n + 1)) = q + cntB (fun i => r.testBit i) (8 * n) := by
  have e : m = m % 256 + 256 * (m / 256) := by omega
  have hh : m / 256 < 256 ^ n := by rw [Nat.pow_succ] at h; omega
  refine ⟨qb3 (m % 256), m / 256, qb3_le _ (by omega), hh, ?_, ?_⟩
  · have := pa3_s n (m % 256) (m / 256) (by omega) hh
    rw [← e] at this
    exact this
  · rw [show 8 * (n + 1) = 8 + 8 * n by omega, cntB_add, cnt8 m]
    congr 1
    refine cntB_cg _ (fun i _ => ?_)
    rw [tb_dm, tb_dm, Nat.pow_add, ← Nat.div_div_eq_div_mul]
theorem dq {lo B : Nat} (X : Nat) (h : lo < B) : (lo + B * X) / B = X := by
  have h0 : 0 < B := by omega
  rw [Nat.add_mul_div_left _ _ h0, Nat.div_eq_of_lt h, Nat.zero_add]
theorem pa_0 {r : Nat} (h : r < 256 ^ 0) : pa3 0 r = 0 := by
  have : r = 0 := by simpa using h
  subst this
  decide
theorem pc64 {m : Nat} (h : m < 18446744073709551616) : (pa3 8 m + pa3 8 m / 256 + (pa3 8 m + pa3 8 m / 256) / 65536 + (pa3 8 m + pa3 8 m / 256 + (pa3 8 m + pa3 8 m / 256) / 65536) / 4294967296) % 128 = cntB (fun i => m.testBit i) 64 := by
  have h8 : m < 256 ^ 8 := h
  obtain ⟨q0, r0, b0, l0, a0, s0⟩ := pa_un 7 h8
  obtain ⟨q1, r1, b1, l1, a1, s1⟩ := pa_un 6 l0
  obtain ⟨q2, r2, b2, l2, a2, s2⟩ := pa_un 5 l1
  obtain ⟨q3, r3, b3, l3, a3, s3⟩ := pa_un 4 l2
  obtain ⟨q4, r4, b4, l4, a4, s4⟩ := pa_un 3 l3
  obtain ⟨q5, r5, b5, l5, a5, s5⟩ := pa_un 2 l4
  obtain ⟨q6, r6, b6, l6, a6, s6⟩ := pa_un 1 l5
  obtain ⟨q7, r7, b7, l7, a7, s7⟩ := pa_un 0 l6
  have a8 := pa_0 l7
  have s8 : cntB (fun i => r7.testBit i) (8 * 0) = 0 := rfl
  have es : cntB (fun i => m.testBit i) 64 = q0 + q1 + q2 + q3 + q4 + q5 + q6 + q7 := by
    rw [show 64 = 8 * (7 + 1) from rfl, s0, show 8 * 7 = 8 * (6 + 1) from rfl, s1, show 8 * 6 = 8 * (5 + 1) from rfl, s2, show 8 * 5 = 8 * (4 + 1) from rfl, s3, show 8 * 4 = 8 * (3 + 1) from rfl, s4, show 8 * 3 = 8 * (2 + 1) from rfl, s5, show 8 * 2 = 8 * (1 + 1) from rfl, s6, show 8 * 1 = 8 * (0 + 1) from rfl, s7, s8]
    omega
  have ea : pa3 8 m = q0 + 256 * (q1 + 256 * (q2 + 256 * (q3 + 256 * (q4 + 256 * (q5 + 256 * (q6 + 256 * q7)))))) := by rw [a0, a1, a2, a3, a4, a5, a6, a7, a8, Nat.mul_zero, Nat.add_zero]
  rw [es, ea, dq _ (by omega)]
  clear s0 s1 s2 s3 s4 s5 s6 s7 s8 a0 a1 a2 a3 a4 a5 a6 a7 a8 es ea l0 l1 l2 l3 l4 l5 l6 l7 h8 h
  have e1 : q0 + 256 * (q1 + 256 * (q2 + 256 * (q3 + 256 * (q4 + 256 * (q5 + 256 * (q6 + 256 * q7)))))) + (q1 + 256 * (q2 + 256 * (q3 + 256 * (q4 + 256 * (q5 + 256 * (q6 + 256 * q7)))))) = (q0 + q1 + 256 * (q1 + q2)) + 65536 * (q2 + q3 + 256 * (q3 + q4) + 65536 * (q4 + q5 + 256 * (q5 + q6) + 65536 * (q6 + q7 + 256 * q7))) := by omega
  rw [e1, dq _ (by omega)]
  have e2 : q0 + q1 + 256 * (q1 + q2) + 65536 * (q2 + q3 + 256 * (q3 + q4) + 65536 * (q4 + q5 + 256 * (q5 + q6) + 65536 * (q6 + q7 + 256 * q7))) + (q2 + q3 + 256 * (q3 + q4) + 65536 * (q4 + q5 + 256 * (q5 + q6) + 65536 * (q6 + q7 + 256 * q7))) = (q0 + q1 + q2 + q3 + 256 * (q1 + q2 + q3 + q4) + 65536 * (q2 + q3 + q4 + q5) + 16777216 * (q3 + q4 + q5 + q6)) + 4294967296 * (q4 + q5 + q6 + q7 + 256 * (q5 + q6 + q7) + 65536 * (q6 + q7) + 16777216 * q7) := by omega
  rw [e2, dq _ (by omega)]
  have e3 : q0 + q1 + q2 + q3 + 256 * (q1 + q2 + q3 + q4) + 65536 * (q2 + q3 + q4 + q5) + 16777216 * (q3 + q4 + q5 + q6) + 4294967296 * (q4 + q5 + q6 + q7 + 256 * (q5 + q6 + q7) + 65536 * (q6 + q7) + 16777216 * q7) + (q4 + q5 + q6 + q7 + 256 * (q5 + q6 + q7) + 65536 * (q6 + q7) + 16777216 * q7) = (q0 + q1 + q2 + q3 + q4 + q5 + q6 + q7) + 128 * (2 * (q1 + q2 + q3 + q4) + 512 * (q2 + q3 + q4 + q5) + 131072 * (q3 + q4 + q5 + q6) + 33554432 * (q4 + q5 + q6 + q7 + 256 * (q5 + q6 + q7) + 65536 * (q6 + q7) + 16777216 * q7) + 2 * (q5 + q6 + q7) + 512 * (q6 + q7) + 131072 * q7) := by omega
  rw [e3, Nat.add_mul_mod_self_left, Nat.mod_eq_of_lt (by omega)]
theorem pc32 {m : Nat} (h : m < 4294967296) : (pa3 4 m + pa3 4 m / 256 + (pa3 4 m + pa3 4 m / 256) / 65536) % 64 = cntB (fun i => m.testBit i) 32 := by
  have h8 : m < 256 ^ 4 := h
  obtain ⟨q4, r4, b4, l4, a4, s4⟩ := pa_un 3 h8
  obtain ⟨q5, r5, b5, l5, a5, s5⟩ := pa_un 2 l4
  obtain ⟨q6, r6, b6, l6, a6, s6⟩ := pa_un 1 l5
  obtain ⟨q7, r7, b7, l7, a7, s7⟩ := pa_un 0 l6
  have a8 := pa_0 l7
  have s8 : cntB (fun i => r7.testBit i) (8 * 0) = 0 := rfl
  have es : cntB (fun i => m.testBit i) 32 = q4 + q5 + q6 + q7 := by
    rw [show 32 = 8 * (3 + 1) from rfl, s4, show 8 * 3 = 8 * (2 + 1) from rfl, s5, show 8 * 2 = 8 * (1 + 1) from rfl, s6, show 8 * 1 = 8 * (0 + 1) from rfl, s7, s8]
    omega
  have ea : pa3 4 m = q4 + 256 * (q5 + 256 * (q6 + 256 * q7)) := by rw [a4, a5, a6, a7, a8, Nat.mul_zero, Nat.add_zero]
  rw [es, ea, dq _ (by omega)]
  clear s4 s5 s6 s7 s8 a4 a5 a6 a7 a8 es ea l4 l5 l6 l7 h8 h
  have e1 : q4 + 256 * (q5 + 256 * (q6 + 256 * q7)) + (q5 + 256 * (q6 + 256 * q7)) = (q4 + q5 + 256 * (q5 + q6)) + 65536 * (q6 + q7 + 256 * q7) := by omega
  rw [e1, dq _ (by omega)]
  have e3 : q4 + q5 + 256 * (q5 + q6) + 65536 * (q6 + q7 + 256 * q7) + (q6 + q7 + 256 * q7) = (q4 + q5 + q6 + q7) + 64 * (4 * (q5 + q6) + 1024 * (q6 + q7 + 256 * q7) + 4 * q7) := by omega
  rw [e3, Nat.add_mul_mod_self_left, Nat.mod_eq_of_lt (by omega)]
noncomputable def wi (z : Int) : Int := Classical.choose (⟨_, rfl⟩ : ∃ w : Int, w = (Int32.ofInt z).toInt)
theorem wi_eq (z : Int) : wi z = (Int32.ofInt z).toInt := Classical.choose_spec (⟨_, rfl⟩ : ∃ w : Int, w = (Int32.ofInt z).toInt)
theorem wi_m (z : Int) : wi z % 128 = z % 128 := by
  rw [wi_eq, Int32.toInt_ofInt, show Int32.size = 4294967296 from rfl]
  unfold Int.bmod
  simp only []
  split <;> omega
theorem sg_m (m : Nat) : sg m % 128 = ((m % 128 : Nat) : Int) := by
  rw [sg_eq]
  show (Int64.ofNat m).toInt % 128 = _
  rw [← Int64.ofInt_eq_ofNat, Int64.toInt_ofInt, show Int64.size = 18446744073709551616 from rfl]
  unfold Int.bmod
  simp only []
  split <;> omega
section PopRows
variable {X : CT} {Y : MD} {pc q : Nat} {ls : List (Option AV)} {st : List AV} {μ : Mem} {k n : Nat}
theorem aw_l2iw (F : Fx X Y) {x : Int} (hd : decode Y.2.1 pc = .ok (.l2i, 1)) (hp : pc + 1 = q) (kk : AW X q ls (vI (wi x) :: st) μ k n) : AW X pc ls (vL x :: st) μ k n :=
  aw_go kk fun _ _ _ _ R => ⟨R.pop.push (show okI (wi x) by rw [wi_eq]; exact ⟨Int32.le_toInt _, Int32.toInt_lt _⟩), fun h => by
    subst hp
    exact lv_l2i F.1 F.2.1 hd (v := Int32.ofInt (wi x)) (by rw [wi_eq, Int32.ofInt_toInt]; exact Int64.toInt32_ofInt) h⟩
end PopRows
section Pop
variable {G : GE} {V : Nat → Nat → Int} {σ : Shp} {K : Option AV → Mem → Prop}
theorem wJL_bitCount {m : Nat} (hmm : m < 18446744073709551616) (hK : K (some (vI (cntB (fun i => m.testBit i) 64))) (V, σ)) : Wp G 0 mJL_bitCount [vL (sg m)] (V, σ) 0 0 K := by
  have k5 : (6148914691236517205 : Int) = sg (rp8 85 8) := by rw [sg_small (by decide)]; decide
  have k3 : (3689348814741910323 : Int) = sg (rp8 51 8) := by rw [sg_small (by decide)]; decide
  have kf : (1085102592571150095 : Int) = sg (rp8 15 8) := by rw [sg_small (by decide)]; decide
  have sh : ∀ {a s : Nat}, a < 18446744073709551616 → s < 64 → yushr (sg a) (s : Nat) = sg (a / 2 ^ s) := fun h1 h2 => yushr_s h1 h2
  have b1 : pa1 8 m < 18446744073709551616 := Nat.lt_of_le_of_lt (Nat.sub_le _ _) hmm
  have e1 : yand (yushr (sg m) 1) 6148914691236517205 = sg (m / 2 &&& rp8 85 8) := by rw [k5, show yushr (sg m) 1 = sg (m / 2 ^ 1) from sh hmm (by decide), yand_s]
  have e2 : wl (sg m - sg (m / 2 &&& rp8 85 8)) = sg (pa1 8 m) := wl_sub (Nat.le_trans Nat.and_le_left (Nat.div_le_self _ _))
  have e3 : yand (sg (pa1 8 m)) 3689348814741910323 = sg (pa1 8 m &&& rp8 51 8) := by rw [k3, yand_s]
  have e4 : yand (yushr (sg (pa1 8 m)) 2) 3689348814741910323 = sg (pa1 8 m / 4 &&& rp8 51 8) := by rw [k3, show yushr (sg (pa1 8 m)) 2 = sg (pa1 8 m / 2 ^ 2) from sh b1 (by decide), yand_s]
  have r5 : rp8 51 8 = 3689348814741910323 := by decide
  have rf : rp8 15 8 = 1085102592571150095 := by decide
  have b2 : pa2 8 m < 18446744073709551616 := by
    have h1 : pa1 8 m &&& rp8 51 8 ≤ rp8 51 8 := Nat.and_le_right
    have h2 : pa1 8 m / 4 &&& rp8 51 8 ≤ rp8 51 8 := Nat.and_le_right
    unfold pa2
    omega
  have b3 : pa3 8 m ≤ 1085102592571150095 := by
    have h1 : (pa2 8 m + pa2 8 m / 16) &&& rp8 15 8 ≤ rp8 15 8 := Nat.and_le_right
    unfold pa3
    omega
  have e5 : wl (sg (pa1 8 m &&& rp8 51 8) + sg (pa1 8 m / 4 &&& rp8 51 8)) = sg (pa2 8 m) := wl_add _ _
  have e6 : wl (sg (pa2 8 m) + yushr (sg (pa2 8 m)) 4) = sg (pa2 8 m + pa2 8 m / 16) := by rw [show yushr (sg (pa2 8 m)) 4 = sg (pa2 8 m / 2 ^ 4) from sh b2 (by decide)]; exact wl_add _ _
  have e7 : yand (sg (pa2 8 m + pa2 8 m / 16)) 1085102592571150095 = sg (pa3 8 m) := by rw [kf, yand_s]; rfl
  have e8 : wl (sg (pa3 8 m) + yushr (sg (pa3 8 m)) 8) = sg (pa3 8 m + pa3 8 m / 256) := by rw [show yushr (sg (pa3 8 m)) 8 = sg (pa3 8 m / 2 ^ 8) from sh (by omega) (by decide)]; exact wl_add _ _
  have e9 : wl (sg (pa3 8 m + pa3 8 m / 256) + yushr (sg (pa3 8 m + pa3 8 m / 256)) 16) = sg (pa3 8 m + pa3 8 m / 256 + (pa3 8 m + pa3 8 m / 256) / 65536) := by rw [show yushr (sg (pa3 8 m + pa3 8 m / 256)) 16 = sg ((pa3 8 m + pa3 8 m / 256) / 2 ^ 16) from sh (by omega) (by decide)]; exact wl_add _ _
  have e10 : wl (sg (pa3 8 m + pa3 8 m / 256 + (pa3 8 m + pa3 8 m / 256) / 65536) + yushr (sg (pa3 8 m + pa3 8 m / 256 + (pa3 8 m + pa3 8 m / 256) / 65536)) 32) = sg (pa3 8 m + pa3 8 m / 256 + (pa3 8 m + pa3 8 m / 256) / 65536 + (pa3 8 m + pa3 8 m / 256 + (pa3 8 m + pa3 8 m / 256) / 65536) / 4294967296) := by rw [show yushr (sg (pa3 8 m + pa3 8 m / 256 + (pa3 8 m + pa3 8 m / 256) / 65536)) 32 = sg ((pa3 8 m + pa3 8 m / 256 + (pa3 8 m + pa3 8 m / 256) / 65536) / 2 ^ 32) from sh (by omega) (by decide)]; exact wl_add _ _
  have e11 : zand (wi (sg (pa3 8 m + pa3 8 m / 256 + (pa3 8 m + pa3 8 m / 256) / 65536 + (pa3 8 m + pa3 8 m / 256 + (pa3 8 m + pa3 8 m / 256) / 65536) / 4294967296))) 127 = (cntB (fun i => m.testBit i) 64 : Nat) := by
    rw [show (127 : Int) = ((127 : Nat) : Int) from rfl, zand_mask 7 (by decide) rfl, show ((2 : Int) ^ 7) = 128 from rfl, wi_m, sg_m, pc64 hmm]
  refine wp_intro mJL_bitCount_i.1 [some (vL (sg m)), none] rfl rfl (Nat.le_of_ble_eq_true rfl) ?_
  intro X hG F C
  have hm := C.rm
  refine aw_lload_0 (q := 1) F dJL_bitCount_0 rfl ?_
  refine aw_lload_0 (q := 2) F dJL_bitCount_1 rfl ?_
  refine aw_iconst (q := 3) F dJL_bitCount_2 rfl (by decide) ?_
  refine aw_lushr (q := 4) F dJL_bitCount_3 rfl ?_
  refine aw_ldc2 (q := 7) (z := 6148914691236517205) F dJL_bitCount_4 rfl kJL_314 (by decide) ?_
  refine aw_land (q := 8) F dJL_bitCount_7 rfl ?_
  rw [e1]
  refine aw_lsubw (q := 9) F dJL_bitCount_8 rfl ?_
  rw [e2]
  refine aw_lstore_0 (q := 10) F dJL_bitCount_9 rfl ?_
  refine aw_lload_0 (q := 11) F dJL_bitCount_10 rfl ?_
  refine aw_ldc2 (q := 14) (z := 3689348814741910323) F dJL_bitCount_11 rfl kJL_316 (by decide) ?_
  refine aw_land (q := 15) F dJL_bitCount_14 rfl ?_
  rw [e3]
  refine aw_lload_0 (q := 16) F dJL_bitCount_15 rfl ?_
  refine aw_iconst (q := 17) F dJL_bitCount_16 rfl (by decide) ?_
  refine aw_lushr (q := 18) F dJL_bitCount_17 rfl ?_
  refine aw_ldc2 (q := 21) (z := 3689348814741910323) F dJL_bitCount_18 rfl kJL_316 (by decide) ?_
  refine aw_land (q := 22) F dJL_bitCount_21 rfl ?_
  rw [e4]
  refine aw_laddw (q := 23) F dJL_bitCount_22 rfl ?_
  rw [e5]
  refine aw_lstore_0 (q := 24) F dJL_bitCount_23 rfl ?_
  refine aw_lload_0 (q := 25) F dJL_bitCount_24 rfl ?_
  refine aw_lload_0 (q := 26) F dJL_bitCount_25 rfl ?_
  refine aw_iconst (q := 27) F dJL_bitCount_26 rfl (by decide) ?_
  refine aw_lushr (q := 28) F dJL_bitCount_27 rfl ?_
  refine aw_laddw (q := 29) F dJL_bitCount_28 rfl ?_
  rw [e6]
  refine aw_ldc2 (q := 32) (z := 1085102592571150095) F dJL_bitCount_29 rfl kJL_318 (by decide) ?_
  refine aw_land (q := 33) F dJL_bitCount_32 rfl ?_
  rw [e7]
  refine aw_lstore_0 (q := 34) F dJL_bitCount_33 rfl ?_
  refine aw_lload_0 (q := 35) F dJL_bitCount_34 rfl ?_
  refine aw_lload_0 (q := 36) F dJL_bitCount_35 rfl ?_
  refine aw_bipush (q := 38) F dJL_bitCount_36 rfl (by decide) ?_
  refine aw_lushr (q := 39) F dJL_bitCount_38 rfl ?_
  refine aw_laddw (q := 40) F dJL_bitCount_39 rfl ?_
  rw [e8]
  refine aw_lstore_0 (q := 41) F dJL_bitCount_40 rfl ?_
  refine aw_lload_0 (q := 42) F dJL_bitCount_41 rfl ?_
  refine aw_lload_0 (q := 43) F dJL_bitCount_42 rfl ?_
  refine aw_bipush (q := 45) F dJL_bitCount_43 rfl (by decide) ?_
  refine aw_lushr (q := 46) F dJL_bitCount_45 rfl ?_
  refine aw_laddw (q := 47) F dJL_bitCount_46 rfl ?_
  rw [e9]
  refine aw_lstore_0 (q := 48) F dJL_bitCount_47 rfl ?_
  refine aw_lload_0 (q := 49) F dJL_bitCount_48 rfl ?_
  refine aw_lload_0 (q := 50) F dJL_bitCount_49 rfl ?_
  refine aw_bipush (q := 52) F dJL_bitCount_50 rfl (by decide) ?_
  refine aw_lushr (q := 53) F dJL_bitCount_52 rfl ?_
  refine aw_laddw (q := 54) F dJL_bitCount_53 rfl ?_
  rw [e10]
  refine aw_lstore_0 (q := 55) F dJL_bitCount_54 rfl ?_
  refine aw_lload_0 (q := 56) F dJL_bitCount_55 rfl ?_
  refine aw_l2iw (q := 57) F dJL_bitCount_56 rfl ?_
  refine aw_bipush (q := 59) F dJL_bitCount_57 rfl (by decide) ?_
  refine aw_iand (q := 60) F dJL_bitCount_59 rfl ?_
  rw [e11]
  refine aw_iret F C dJL_bitCount_60 rfl (Nat.le_refl _) (Nat.le_refl _) ?_
  exact hK
end Pop
