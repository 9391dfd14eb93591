/-- kinds, two bits each -/
def kp (f : Nat → Nat) : Nat → Nat
  | 0 => 0
  | i + 1 => kp f i + f i * 4 ^ i
def scN (c : Cfg) (n : Nat) : Nat := n + kp (kdC c) (dN c) * 65536 + nlC c * 16777216
theorem kp_lt {f : Nat → Nat} (hf : ∀ d, f d < 4) : ∀ i, kp f i < 4 ^ i
  | 0 => Nat.one_pos
  | i + 1 => by
    have h1 := kp_lt hf i
    have h2 : f i * 4 ^ i ≤ 3 * 4 ^ i := Nat.mul_le_mul_right _ (by have := hf i; omega)
    rw [Nat.pow_succ]
    unfold kp
    omega
theorem p42 (i : Nat) : 4 ^ i = 2 ^ (2 * i) := by rw [Nat.pow_mul]
theorem kp_or {f : Nat → Nat} (hf : ∀ d, f d < 4) (i : Nat) : kp f i ||| f i * 2 ^ (2 * i) = kp f (i + 1) := by
  have h := kp_lt hf i
  rw [p42] at h
  have := Nat.two_pow_add_eq_or_of_lt h (f i)
  rw [Nat.or_comm, Nat.mul_comm (f i), ← this]
  show _ = kp f i + f i * 4 ^ i
  rw [p42, Nat.add_comm, Nat.mul_comm]
theorem kp_dig {f : Nat → Nat} (hf : ∀ d, f d < 4) {d : Nat} : ∀ {i : Nat}, d < i → kp f i / 4 ^ d % 4 = f d
  | 0, h => absurd h (by omega)
  | i + 1, h => by
    unfold kp
    have hl := kp_lt hf i
    have hp : 0 < 4 ^ i := Nat.pow_pos (by decide)
    have h0 : kp f i / 4 ^ i % 4 + f i < 4 := by rw [Nat.div_eq_of_lt hl]; have := hf i; simpa using this
    rw [dg_add h0]
    by_cases q : d = i
    · rw [if_pos q, Nat.div_eq_of_lt hl, q]; simp
    · rw [if_neg q]; exact kp_dig hf (by omega)
theorem kp_le {c : Cfg} (hc : okC c) : kp (kdC c) (dN c) < 256 := by
  have h1 := kp_lt hc.2.2.2.2.1 (dN c)
  have h2 : 4 ^ dN c ≤ 4 ^ 4 := Nat.pow_le_pow_right (by decide) hc.1
  omega
theorem scN_lt {c : Cfg} (hc : okC c) {n : Nat} (hn : n < 65536) : scN c n < 268435456 := by
  have h1 := kp_le hc
  have h2 := hc.2.2.2.2.2
  unfold scN
  omega
theorem scN_k {c : Cfg} (hc : okC c) {n d : Nat} (hn : n < 65536) (hd : d < dN c) : scN c n / 2 ^ (16 + 2 * d) % 4 = kdC c d := by
  have h1 := kp_le hc
  have e1 : scN c n / 65536 = kp (kdC c) (dN c) + nlC c * 256 := by unfold scN; omega
  rw [Nat.pow_add, ← Nat.div_div_eq_div_mul, show (2 : Nat) ^ 16 = 65536 by rfl, e1, ← p42]
  have e2 : nlC c * 256 = (nlC c * 4 ^ (3 - d) * 4) * 4 ^ d := by
    have hd4 := hc.1
    rcases (show d = 0 ∨ d = 1 ∨ d = 2 ∨ d = 3 by omega) with q | q | q | q <;> subst q <;> simp <;> omega
  rw [e2, Nat.add_mul_div_right _ _ (Nat.pow_pos (by decide)), Nat.add_mul_mod_self_right]
  exact kp_dig hc.2.2.2.2.1 hd
theorem scN_n {c : Cfg} (hc : okC c) {n : Nat} (hn : n < 65536) : scN c n / 16777216 = nlC c ∧ scN c n % 65536 = n := by
  have h1 := kp_le hc
  unfold scN
  omega
/-- what fit lays -/
def HW0 (V : Nat → Nat → Int) (a : Nat) (c : Cfg) : Prop := V a 0 = dN c ∧ V a 1 = pN c ∧ V a 2 = (dN c * (2 + pN c) : Nat) ∧ V a 3 = Bs c ∧ V a 4 = wB c (pN c) ∧ V a 5 = spc c ∧ V a 9 = lkC c ∧ V a 10 = kyC c ∧ V a 11 = wB c (pN c + dN c) ∧ (∀ d, d < dN c → V (a + 4) d = wB c (pN c + d)) ∧ ∀ p, p < pN c → V (a + 5) p = wB c p
theorem HW0.hw {V : Nat → Nat → Int} {a : Nat} {c : Cfg} (h : HW0 V a c) (h6 : V a 6 = nlC c) (hk : ∀ d, d < dN c → V (a + 1) d = kdC c d) : HW V a c := by
  obtain ⟨g0, g1, g2, g3, g4, g5, g9, g10, g11, gd, gp⟩ := h
  exact ⟨g0, g1, g2, g3, g4, g5, h6, g9, g10, fun _ => g11, fun d hd => ⟨hk d hd, gd d hd⟩, gp⟩
def loadF (V V' : Nat → Nat → Int) (a : Nat) : Prop := (∀ b, b ≠ a → b ≠ a + 1 → b ≠ a + 2 → b ≠ a + 3 → V' b = V b) ∧ ∀ j, j ≠ 6 → j ≠ 7 → j ≠ 12 → j ≠ 13 → V' a j = V a j
def fitF (V V' : Nat → Nat → Int) (a : Nat) : Prop := (∀ b, b ≠ a → b ≠ a + 4 → b ≠ a + 5 → V' b = V b) ∧ ∀ j, j = 6 ∨ j = 7 ∨ j = 12 ∨ j = 13 → V' a j = V a j
/-- the shape of a Told at t -/
def tS (σ : Shp) (t : Nat) : Prop := sO σ t 6 ∧ (sP σ t 6 = t + 1 ∧ sP σ t 7 = t + 2 ∧ sP σ t 8 = t + 3 ∧ sP σ t 9 = t + 4 ∧ sP σ t 10 = t + 5 ∧ sP σ t 11 = t + 6) ∧ sA σ (t + 1) 11 4 ∧ sA σ (t + 2) 11 4 ∧ sA σ (t + 3) 11 2 ∧ sA σ (t + 4) 11 2 ∧ sA σ (t + 5) 11 2 ∧ sA σ (t + 6) 11 2
theorem tS.o {σ : Shp} {t : Nat} (h : tS σ t) : sO σ t 6 := h.1
theorem tS.p6 {σ : Shp} {t : Nat} (h : tS σ t) : sP σ t 6 = t + 1 := h.2.1.1
theorem tS.p7 {σ : Shp} {t : Nat} (h : tS σ t) : sP σ t 7 = t + 2 := h.2.1.2.1
theorem tS.p8 {σ : Shp} {t : Nat} (h : tS σ t) : sP σ t 8 = t + 3 := h.2.1.2.2.1
theorem tS.p9 {σ : Shp} {t : Nat} (h : tS σ t) : sP σ t 9 = t + 4 := h.2.1.2.2.2.1
theorem tS.p10 {σ : Shp} {t : Nat} (h : tS σ t) : sP σ t 10 = t + 5 := h.2.1.2.2.2.2.1
theorem tS.p11 {σ : Shp} {t : Nat} (h : tS σ t) : sP σ t 11 = t + 6 := h.2.1.2.2.2.2.2
theorem tS.a1 {σ : Shp} {t : Nat} (h : tS σ t) : sA σ (t + 1) 11 4 := h.2.2.1
theorem tS.a2 {σ : Shp} {t : Nat} (h : tS σ t) : sA σ (t + 2) 11 4 := h.2.2.2.1
theorem tS.a3 {σ : Shp} {t : Nat} (h : tS σ t) : sA σ (t + 3) 11 2 := h.2.2.2.2.1
theorem tS.a4 {σ : Shp} {t : Nat} (h : tS σ t) : sA σ (t + 4) 11 2 := h.2.2.2.2.2.1
theorem tS.a5 {σ : Shp} {t : Nat} (h : tS σ t) : sA σ (t + 5) 11 2 := h.2.2.2.2.2.2.1
theorem tS.a6 {σ : Shp} {t : Nat} (h : tS σ t) : sA σ (t + 6) 11 2 := h.2.2.2.2.2.2.2
/-- the arrangement of given digits -/
def pkN (B : Nat) (f : Nat → Nat) : Nat → Nat
  | 0 => 0
  | i + 1 => pkN B f i + f i * B ^ i
theorem pkN_lt {B : Nat} {f : Nat → Nat} : ∀ {i : Nat}, (∀ j, j < i → f j < B) → pkN B f i < B ^ i
  | 0, _ => Nat.one_pos
  | i + 1, h => by
    have h1 := pkN_lt (fun j hj => h j (Nat.lt_succ_of_lt hj))
    have h2 : f i * B ^ i ≤ (B - 1) * B ^ i := Nat.mul_le_mul_right _ (by have := h i (by omega); omega)
    have h3 : B ^ (i + 1) = (B - 1) * B ^ i + B ^ i := by
      have hB : 0 < B := by have := h i (by omega); omega
      rw [Nat.pow_succ, Nat.mul_comm, ← Nat.succ_mul]
      congr 1
      omega
    unfold pkN
    omega
theorem pkN_dig {B : Nat} {f : Nat → Nat} {j : Nat} : ∀ {i : Nat}, (∀ k, k < i → f k < B) → j < i → pkN B f i / B ^ j % B = f j
  | 0, _, h => absurd h (by omega)
  | i + 1, hf, h => by
    unfold pkN
    have hl := pkN_lt (fun k hk => hf k (Nat.lt_succ_of_lt hk))
    have h0 : pkN B f i / B ^ i % B + f i < B := by rw [Nat.div_eq_of_lt hl]; have := hf i (by omega); simpa using this
    rw [dg_add h0]
    by_cases q : j = i
    · rw [if_pos q, Nat.div_eq_of_lt hl, q]; simp
    · rw [if_neg q]; exact pkN_dig (fun k hk => hf k (Nat.lt_succ_of_lt hk)) (by omega)
def encN (c : Cfg) (f g : Nat → Nat) (la : Nat) : Nat := pkN (Bs c) f (pN c) + wB c (pN c) * pkN (Bs c) g (dN c) + wB c (pN c + dN c) * la
theorem encN_dig {c : Cfg} {f g : Nat → Nat} {la : Nat} (hf : ∀ p, p < pN c → f p < Bs c) (hg : ∀ d, d < dN c → g d < Bs c) : (∀ p, p < pN c → pl c (encN c f g la) p = f p) ∧ (∀ d, d < dN c → ld c (encN c f g la) d = g d) ∧ lst c (encN c f g la) = la := by
  have h1 := pkN_lt hf
  have h2 := pkN_lt hg
  have hw : wB c (pN c) = Bs c ^ pN c := rfl
  have hB := Bs_pos c
  have hp0 : 0 < Bs c ^ pN c := Nat.pow_pos hB
  have e0 : encN c f g la = pkN (Bs c) f (pN c) + Bs c ^ pN c * (pkN (Bs c) g (dN c) + Bs c ^ dN c * la) := by
    unfold encN
    rw [wB_add, Nat.mul_add, ← Nat.add_assoc, Nat.mul_assoc]
    rfl
  refine ⟨fun p hp => ?_, fun d hd => ?_, ?_⟩
  · unfold pl
    obtain ⟨k, hk⟩ : ∃ k, pN c = p + 1 + k := ⟨pN c - (p + 1), by omega⟩
    have e1 : Bs c ^ pN c * (pkN (Bs c) g (dN c) + Bs c ^ dN c * la) = (Bs c * (Bs c ^ k * (pkN (Bs c) g (dN c) + Bs c ^ dN c * la))) * Bs c ^ p := by
      rw [hk, Nat.pow_add, Nat.pow_succ]
      ac_rfl
    show encN c f g la / Bs c ^ p % Bs c = f p
    rw [e0, e1, Nat.add_mul_div_right _ _ (Nat.pow_pos hB), Nat.add_mul_mod_self_left]
    exact pkN_dig hf hp
  · show encN c f g la / Bs c ^ (pN c + d) % Bs c = g d
    rw [Nat.pow_add, ← Nat.div_div_eq_div_mul, e0, Nat.add_mul_div_left _ _ hp0, Nat.div_eq_of_lt h1, Nat.zero_add]
    obtain ⟨k, hk⟩ : ∃ k, dN c = d + 1 + k := ⟨dN c - (d + 1), by omega⟩
    have e1 : Bs c ^ dN c * la = (Bs c * (Bs c ^ k * la)) * Bs c ^ d := by
      rw [hk, Nat.pow_add, Nat.pow_succ]
      ac_rfl
    rw [e1, Nat.add_mul_div_right _ _ (Nat.pow_pos hB), Nat.add_mul_mod_self_left]
    exact pkN_dig hg hd
  · show encN c f g la / Bs c ^ (pN c + dN c) = la
    rw [Nat.pow_add, ← Nat.div_div_eq_div_mul, e0, Nat.add_mul_div_left _ _ hp0, Nat.div_eq_of_lt h1, Nat.zero_add, Nat.add_mul_div_left _ _ (Nat.pow_pos hB), Nat.div_eq_of_lt h2, Nat.zero_add]
section Hall4
variable {G : GE} {V : Nat → Nat → Int} {σ : Shp} {a t : Nat} {K : Option AV → Mem → Prop} {c : Cfg} {n : Nat}
theorem kp_step {y z v : Int} {i : Nat} {f : Nat → Nat} (hf : ∀ d, f d < 4) (hi : i < 8) (hy : y = kp f i) (hz : z = i) (hv : v = f i) : zor y (zshl v (2 * z)) = kp f (i + 1) := by
  have h1 := kp_lt hf (i + 1)
  have h2 : 4 ^ (i + 1) ≤ 4 ^ 8 := Nat.pow_le_pow_right (by decide) (by omega)
  have e := kp_or hf i
  have h3 : f i * 2 ^ (2 * i) < 2147483648 := by
    have : f i * 2 ^ (2 * i) ≤ kp f (i + 1) := by rw [← e]; exact Nat.right_le_or
    omega
  rw [hy, hv, show 2 * z = ((2 * i : Nat) : Int) by omega, zshl_n (by omega) h3, zor_n (by rw [e]; omega), e]
theorem wH_scene (hn : n < 65536) (hH : hS σ a) (h : HH V a c n) (hK : K (some (vI (scN c n))) (V, σ)) : Wp G 0 mH_scene [vR a] (V, σ) 0 0 K := by
  have hH := hH
  obtain ⟨hc, hW, hA⟩ := h
  have hD4 := hc.1
  have hP2 := hc.2.1
  have v0 : V a 0 = dN c := hW.1
  have v1 : V a 1 = pN c := hW.2.1
  have hf := hc.2.2.2.2.1
  have hk := kp_le hc
  have e13 : V a 13 = n := hA.1
  have e6 : V a 6 = nlC c := hW.2.2.2.2.2.2.1
  have hnl := hc.2.2.2.2.2
  have fin : zor (zor (V a 13) (zshl (kp (kdC c) (dN c)) 16)) (zshl (V a 6) 24) = scN c n := by
    rw [e13, e6]
    have f1 := zshl_n (x := kp (kdC c) (dN c)) (s := 16) (by decide) (by omega)
    have f2 := zshl_n (x := nlC c) (s := 24) (by decide) (by omega)
    have g1 := Nat.two_pow_add_eq_or_of_lt (i := 16) (b := n) hn (kp (kdC c) (dN c))
    have g2 := Nat.two_pow_add_eq_or_of_lt (i := 24) (b := 2 ^ 16 * kp (kdC c) (dN c) + n) (by omega) (nlC c)
    have f1' : zshl (kp (kdC c) (dN c) : Nat) 16 = ((2 ^ 16 * kp (kdC c) (dN c) : Nat) : Int) := by rw [show ((16 : Int)) = ((16 : Nat) : Int) from rfl, f1]; omega
    have f2' : zshl (nlC c : Nat) 24 = ((2 ^ 24 * nlC c : Nat) : Int) := by rw [show ((24 : Int)) = ((24 : Nat) : Int) from rfl, f2]; omega
    rw [f1', f2', zor_n (by rw [Nat.or_comm, ← g1]; omega), Nat.or_comm, ← g1, zor_n (by rw [Nat.or_comm, ← g2]; omega), Nat.or_comm, ← g2]
    unfold scN
    omega
  refine wp_intro mH_scene_i.1 [some (vR a), none, none] rfl rfl (Nat.le_of_ble_eq_true rfl) ?_
  intro X hG F C
  have hm := C.rm
  have loop : ∀ (j i : Nat), dN c - i = j → i ≤ dN c → ∀ y z : Int, y = kp (kdC c) i → z = i → AW X 4 [some (vR a), some (vI y), some (vI z)] [] (V, σ) 0 0 := by
    intro j
    induction j using Nat.strongRecOn with
    | ind j ih =>
      intro i hj hi y z hy hz
      have hv : i < dN c → V (a + 1) z.toNat = kdC c i := fun q => by rw [show z.toNat = i by omega]; exact (hW.2.2.2.2.2.2.2.2.2.2.1 i q).1
      refine aw_iload_2 (q := 5) F dH_scene_4 rfl ?_
      refine aw_aload_0 (q := 6) F dH_scene_5 rfl ?_
      refine av_geti (q := 9) F fH_45 dH_scene_6 rfl rfl (by first | exact hH.o | exact hH.a1 | exact hH.a2 | exact hH.a3 | exact hH.a4 | exact hH.a5 | exact hT.o | exact hT.a1 | exact hT.a2 | exact hT.a3 | exact hH) ?_
      refine aw_icmp_ge (q := 12) (t := 31) F dH_scene_9 rfl (by decide) (fun c9 => ?_) (fun c9 => ?_)
      · refine aw_aload_0 (q := 32) F dH_scene_31 rfl ?_
        refine av_geti (q := 35) F fH_73 dH_scene_32 rfl rfl (by first | exact hH.o | exact hH.a1 | exact hH.a2 | exact hH.a3 | exact hH.a4 | exact hH.a5 | exact hT.o | exact hT.a1 | exact hT.a2 | exact hT.a3 | exact hH) ?_
        refine aw_iload_1 (q := 36) F dH_scene_35 rfl ?_
        refine aw_bipush (q := 38) F dH_scene_36 rfl (by decide) ?_
        refine aw_ishl (q := 39) F dH_scene_38 rfl ?_
        refine aw_ior (q := 40) F dH_scene_39 rfl ?_
        refine aw_aload_0 (q := 41) F dH_scene_40 rfl ?_
        refine av_geti (q := 44) F fH_76 dH_scene_41 rfl rfl (by first | exact hH.o | exact hH.a1 | exact hH.a2 | exact hH.a3 | exact hH.a4 | exact hH.a5 | exact hT.o | exact hT.a1 | exact hT.a2 | exact hT.a3 | exact hH) ?_
        refine aw_bipush (q := 46) F dH_scene_44 rfl (by decide) ?_
        refine aw_ishl (q := 47) F dH_scene_46 rfl ?_
        refine aw_ior (q := 48) F dH_scene_47 rfl ?_
        refine aw_iret F C dH_scene_48 rfl (Nat.le_refl _) (Nat.le_refl _) ?_
        rw [show i = dN c by omega] at hy; rw [hy]; exact kI hK fin.symm
      · refine aw_iload_1 (q := 13) F dH_scene_12 rfl ?_
        refine aw_aload_0 (q := 14) F dH_scene_13 rfl ?_
        refine av_getaE (q := 17) F fH_18 dH_scene_14 rfl rfl (by first | exact hH.o | exact hH.a1 | exact hH.a2 | exact hH.a3 | exact hH.a4 | exact hH.a5 | exact hT.o | exact hT.a1 | exact hT.a2 | exact hT.a3 | exact hH) hH.p8 ?_
        refine aw_iload_2 (q := 18) F dH_scene_17 rfl ?_
        refine av_iaload (q := 19) F dH_scene_18 rfl (by first | exact hH.o | exact hH.a1 | exact hH.a2 | exact hH.a3 | exact hH.a4 | exact hH.a5 | exact hT.o | exact hT.a1 | exact hT.a2 | exact hT.a3 | exact hH) (by omega) (by omega) ?_
        refine aw_iconst (q := 20) F dH_scene_19 rfl (by decide) ?_
        refine aw_iload_2 (q := 21) F dH_scene_20 rfl ?_
        refine aw_imul (q := 22) F dH_scene_21 rfl (by constructor <;> omega) ?_
        refine aw_ishl (q := 23) F dH_scene_22 rfl ?_
        refine aw_ior (q := 24) F dH_scene_23 rfl ?_
        refine aw_istore_1 (q := 25) F dH_scene_24 rfl trivial ?_
        refine aw_iinc_2 (q := 28) F dH_scene_25 rfl trivial (by constructor <;> omega) ?_
        refine aw_goto (t := 4) F dH_scene_28 (by decide) ?_
        exact ih _ (by omega) (i + 1) rfl (by omega) _ _ (kp_step hf (by omega) hy hz (hv (by omega))) (by omega)
  refine aw_iconst (q := 1) F dH_scene_0 rfl (by decide) ?_
  refine aw_istore_1 (q := 2) F dH_scene_1 rfl trivial ?_
  refine aw_iconst (q := 3) F dH_scene_2 rfl (by decide) ?_
  refine aw_istore_2 (q := 4) F dH_scene_3 rfl trivial ?_
  exact loop _ 0 rfl (by omega) 0 0 rfl rfl
theorem kC79 : (65535 : Int32).toInt = 65535 := by decide
theorem wH_load {x : Int} (hx : x = scN c n) (hn : n < 65536) (hH : hS σ a) (hc : okC c) (hW : HW0 V a c) (hK : ∀ V', loadF V V' a → HH V' a c n → K none (V', σ)) : Wp G 1 mH_load [vR a, vI x] (V, σ) 0 0 K := by
  have hD4 := hc.1
  have hs := scN_lt hc hn
  have hx1 : okI x := by rw [hx]; constructor <;> omega
  obtain ⟨s1, s2⟩ := scN_n hc hn
  have e24 : zand (zshr x 24) 15 = nlC c := by
    have hnl := hc.2.2.2.2.2
    rw [show (24 : Int) = ((24 : Nat) : Int) from rfl, zshr_i hx1 (by decide), show (15 : Int) = ((15 : Nat) : Int) from rfl, zand_mask 4 (by decide) rfl, hx]
    omega
  have e16 : zand x 65535 = n := by
    rw [show (65535 : Int) = ((65535 : Nat) : Int) from rfl, zand_mask 16 (by decide) rfl, hx]
    omega
  have ek : ∀ i, i < dN c → ∀ z : Int, z = i → zand (zshr x (16 + 2 * z)) 3 = kdC c i := fun i hi z hz => by
    have h1 := scN_k hc hn hi
    rw [show 16 + 2 * z = ((16 + 2 * i : Nat) : Int) by omega, zshr_i hx1 (by omega), show (3 : Int) = ((3 : Nat) : Int) from rfl, zand_mask 2 (by decide) rfl, hx, ← h1]
    simp
  refine wp_intro mH_load_i.1 [some (vR a), some (vI x), none] rfl rfl (Nat.le_of_ble_eq_true rfl) ?_
  intro X hG F C
  have hm := C.rm
  have loop : ∀ (j i : Nat), dN c - i = j → i ≤ dN c → ∀ (V1 : Nat → Nat → Int) (z : Int), (∀ b, b ≠ a + 1 → V1 b = V b) → (∀ d, d < i → V1 (a + 1) d = kdC c d) → z = i → AW X 2 [some (vR a), some (vI x), some (vI z)] [] (V1, σ) 0 0 := by
    intro j
    induction j using Nat.strongRecOn with
    | ind j ih =>
      intro i hj hi V1 z hF hk hz
      have v0 : V1 a 0 = dN c := by rw [hF a (by omega)]; exact hW.1
      refine aw_iload_2 (q := 3) F dH_load_2 rfl ?_
      refine aw_aload_0 (q := 4) F dH_load_3 rfl ?_
      refine av_geti (q := 7) F fH_45 dH_load_4 rfl rfl (by first | exact hH.o | exact hH.a1 | exact hH.a2 | exact hH.a3 | exact hH.a4 | exact hH.a5 | exact hT.o | exact hT.a1 | exact hT.a2 | exact hT.a3 | exact hH) ?_
      refine aw_icmp_ge (q := 10) (t := 32) F dH_load_7 rfl (by decide) (fun c7 => ?_) (fun c7 => ?_)
      · refine aw_aload_0 (q := 33) F dH_load_32 rfl ?_
        refine aw_iload_1 (q := 34) F dH_load_33 rfl ?_
        refine aw_bipush (q := 36) F dH_load_34 rfl (by decide) ?_
        refine aw_ishr (q := 37) F dH_load_36 rfl ?_
        refine aw_bipush (q := 39) F dH_load_37 rfl (by decide) ?_
        refine aw_iand (q := 40) F dH_load_39 rfl ?_
        rw [e24]
        refine av_puti (q := 43) F fH_76 dH_load_40 rfl rfl (wr_2_6 _) (by first | exact hH.o | exact hH.a1 | exact hH.a2 | exact hH.a3 | exact hH.a4 | exact hH.a5 | exact hT.o | exact hT.a1 | exact hT.a2 | exact hT.a3 | exact hH) ?_
        refine aw_aload_0 (q := 44) F dH_load_43 rfl ?_
        refine aw_iload_1 (q := 45) F dH_load_44 rfl ?_
        refine aw_ldc (q := 47) (z := 65535) F dH_load_45 rfl kH_79 (by decide) ?_
        refine aw_iand (q := 48) F dH_load_47 rfl ?_
        rw [e16]
        have hWa : HW (up2 V1 a 6 (nlC c)) a c := by
          obtain ⟨g0, g1, g2, g3, g4, g5, g9, g10, g11, gd, gp⟩ := hW
          have hVa : V1 a = V a := hF a (by omega)
          refine HW0.hw ⟨?_, ?_, ?_, ?_, ?_, ?_, ?_, ?_, ?_, fun d hd => ?_, fun p hp => ?_⟩ (up2_same _ _ _ _) (fun d hd => ?_)
          · rw [up2_nek _ _ (by decide), hVa]; exact g0
          · rw [up2_nek _ _ (by decide), hVa]; exact g1
          · rw [up2_nek _ _ (by decide), hVa]; exact g2
          · rw [up2_nek _ _ (by decide), hVa]; exact g3
          · rw [up2_nek _ _ (by decide), hVa]; exact g4
          · rw [up2_nek _ _ (by decide), hVa]; exact g5
          · rw [up2_nek _ _ (by decide), hVa]; exact g9
          · rw [up2_nek _ _ (by decide), hVa]; exact g10
          · rw [up2_nek _ _ (by decide), hVa]; exact g11
          · rw [up2_nea _ _ (show a + 4 ≠ a by omega), hF _ (by omega)]; exact gd d hd
          · rw [up2_nea _ _ (show a + 5 ≠ a by omega), hF _ (by omega)]; exact gp p hp
          · rw [up2_nea _ _ (show a + 1 ≠ a by omega)]; exact hk d (by omega)
        refine av_callV1 (q := 51) (ci := 2) F hm mH_put_i mH_put_n lH_80 dH_load_48 rfl rfl rfl hH.o (by decide) (Nat.le_refl _) (Nat.le_refl _) (Nat.le_of_ble_eq_true rfl) (wH_put (c := c) rfl (by omega) hH hc hWa (fun v48 f48 g48 => ?_))
        refine aw_vret F C dH_load_51 rfl (Nat.le_refl _) (Nat.le_refl _) ?_
        exact hK v48 ⟨fun b h1 h2 h3 h4 => by rw [f48.1 b h1 h3 h4, up2_nea _ _ h1]; exact hF b h2, fun j h6 h7 h12 h13 => by rw [f48.2 j h7 h12 h13, up2_nek _ _ h6, hF a (by omega)]⟩ ⟨hc, f48.hw hWa, g48⟩
      · refine aw_aload_0 (q := 11) F dH_load_10 rfl ?_
        refine av_getaE (q := 14) F fH_18 dH_load_11 rfl rfl (by first | exact hH.o | exact hH.a1 | exact hH.a2 | exact hH.a3 | exact hH.a4 | exact hH.a5 | exact hT.o | exact hT.a1 | exact hT.a2 | exact hT.a3 | exact hH) hH.p8 ?_
        refine aw_iload_2 (q := 15) F dH_load_14 rfl ?_
        refine aw_iload_1 (q := 16) F dH_load_15 rfl ?_
        refine aw_bipush (q := 18) F dH_load_16 rfl (by decide) ?_
        refine aw_iconst (q := 19) F dH_load_18 rfl (by decide) ?_
        refine aw_iload_2 (q := 20) F dH_load_19 rfl ?_
        refine aw_imul (q := 21) F dH_load_20 rfl (by constructor <;> omega) ?_
        refine aw_iadd (q := 22) F dH_load_21 rfl (by constructor <;> omega) ?_
        refine aw_ishr (q := 23) F dH_load_22 rfl ?_
        refine aw_iconst (q := 24) F dH_load_23 rfl (by decide) ?_
        refine aw_iand (q := 25) F dH_load_24 rfl ?_
        rw [ek i (by omega) z hz]
        refine av_iastore (q := 26) F dH_load_25 rfl (by first | exact hH.o | exact hH.a1 | exact hH.a2 | exact hH.a3 | exact hH.a4 | exact hH.a5 | exact hT.o | exact hT.a1 | exact hT.a2 | exact hT.a3 | exact hH) (by omega) (by omega) ?_
        rw [show z.toNat = i by omega]
        refine aw_iinc_2 (q := 29) F dH_load_26 rfl trivial (by constructor <;> omega) ?_
        refine aw_goto (t := 2) F dH_load_29 (by decide) ?_
        refine ih _ (by omega) (i + 1) rfl (by omega) _ _ (fun b hb => by rw [up2_nea _ _ hb]; exact hF b hb) (fun d hd => ?_) (by omega)
        by_cases q : d = i
        · rw [q, up2_same]
        · rw [up2_nek _ _ q]; exact hk d (by omega)
  refine aw_iconst (q := 1) F dH_load_0 rfl (by decide) ?_
  refine aw_istore_2 (q := 2) F dH_load_1 rfl trivial ?_
  exact loop _ 0 rfl (by omega) V 0 (fun _ _ => rfl) (fun d hd => absurd hd (by omega)) rfl
theorem wH_fit (hH : hS σ a) (hT : tS σ t) (hta : t ≠ a ∧ t ≠ a + 4 ∧ t ≠ a + 5) (hc : okC c) (h1 : V t 1 = dN c) (h2 : V t 2 = pN c) (h3 : V t 3 = lkC c) (h4 : V t 4 = kyC c) (hK : ∀ V', fitF V V' a → HW0 V' a c → K none (V', σ)) : Wp G 0 mH_fit [vR a, vR t] (V, σ) 0 0 K := by
  have hD4 := hc.1
  have hP2 := hc.2.1
  have b5 := Bs_le hc
  have hst := stN_le hc
  have hsp := spc_le hc
  have est : (dN c : Int) * (2 + (pN c : Int)) = ((dN c * (2 + pN c) : Nat) : Int) := by simp
  refine wp_intro mH_fit_i.1 [some (vR a), some (vR t), none, none] rfl rfl (Nat.le_of_ble_eq_true rfl) ?_
  intro X hG F C
  have hm := C.rm
  have loop2 : ∀ (j i : Nat), dN c - i = j → i ≤ dN c → ∀ (V1 : Nat → Nat → Int) (w z : Int), fitF V V1 a → (V1 a 0 = dN c ∧ V1 a 1 = pN c ∧ V1 a 2 = (dN c * (2 + pN c) : Nat) ∧ V1 a 3 = Bs c ∧ V1 a 4 = wB c (pN c) ∧ V1 a 9 = lkC c ∧ V1 a 10 = kyC c ∧ (∀ d, d < i → V1 (a + 4) d = wB c (pN c + d)) ∧ ∀ p, p < pN c → V1 (a + 5) p = wB c p) → w = wB c (pN c + i) → z = i → AW X 104 [some (vR a), some (vR t), some (vI w), some (vI z)] [] (V1, σ) 0 0 := by
    intro j
    induction j using Nat.strongRecOn with
    | ind j ih =>
      intro i hj hi V1 w z hF hV hw hz
      obtain ⟨g0, g1, g2, g3, g4, g9, g10, gd, gp⟩ := hV
      have ez : z.toNat = i := by omega
      have hna : a ≠ a + 4 := by omega
      have wl1 := wB_le hc (i := pN c + i) (by omega)
      have m1 : (wB c (pN c + i) * Bs c : Nat) ≤ 15625 * 5 := Nat.mul_le_mul wl1 b5
      have ew : w * V1 a 3 = (wB c (pN c + (i + 1)) : Nat) := by rw [hw, g3, show pN c + (i + 1) = pN c + i + 1 by omega, wB_s]; simp
      have ew2 : w * V1 a 3 = (wB c (pN c + i) * Bs c : Nat) := by rw [hw, g3]; simp
      have es : i = dN c → w * V1 a 0 = (spc c : Nat) := fun q => by rw [hw, g0, q]; unfold spc; rw [Nat.mul_comm]; simp
      refine aw_iload_3 (q := 105) F dH_fit_104 rfl ?_
      refine aw_aload_0 (q := 106) F dH_fit_105 rfl ?_
      refine av_geti (q := 109) F fH_45 dH_fit_106 rfl rfl (by first | exact hH.o | exact hH.a1 | exact hH.a2 | exact hH.a3 | exact hH.a4 | exact hH.a5 | exact hT.o | exact hT.a1 | exact hT.a2 | exact hT.a3 | exact hH) ?_
      refine aw_icmp_ge (q := 112) (t := 132) F dH_fit_109 rfl (by decide) (fun c109 => ?_) (fun c109 => ?_)
      · refine aw_aload_0 (q := 133) F dH_fit_132 rfl ?_
        refine aw_iload_2 (q := 134) F dH_fit_133 rfl ?_
        refine av_puti (q := 137) F fH_61 dH_fit_134 rfl rfl (wr_2_11 _) (by first | exact hH.o | exact hH.a1 | exact hH.a2 | exact hH.a3 | exact hH.a4 | exact hH.a5 | exact hT.o | exact hT.a1 | exact hT.a2 | exact hT.a3 | exact hH) ?_
        refine aw_aload_0 (q := 138) F dH_fit_137 rfl ?_
        refine aw_iload_2 (q := 139) F dH_fit_138 rfl ?_
        refine aw_aload_0 (q := 140) F dH_fit_139 rfl ?_
        refine av_geti (q := 143) F fH_45 dH_fit_140 rfl rfl (by first | exact hH.o | exact hH.a1 | exact hH.a2 | exact hH.a3 | exact hH.a4 | exact hH.a5 | exact hT.o | exact hT.a1 | exact hT.a2 | exact hT.a3 | exact hH) ?_
        rw [up2_nek _ _ (show (0 : Nat) ≠ 11 by decide)]
        refine aw_imul (q := 144) F dH_fit_143 rfl (by rw [es (by omega)]; constructor <;> omega) ?_
        rw [es (by omega)]
        refine av_puti (q := 147) F fH_64 dH_fit_144 rfl rfl (wr_2_5 _) (by first | exact hH.o | exact hH.a1 | exact hH.a2 | exact hH.a3 | exact hH.a4 | exact hH.a5 | exact hT.o | exact hT.a1 | exact hT.a2 | exact hT.a3 | exact hH) ?_
        refine aw_vret F C dH_fit_147 rfl (Nat.le_refl _) (Nat.le_refl _) ?_
        have ei : i = dN c := by omega
        rw [ei] at hw gd
        refine hK _ ⟨fun b q1 q2 q3 => by rw [up2_nea _ _ q1, up2_nea _ _ q1]; exact hF.1 b q1 q2 q3, fun k q => by rw [up2_nek _ _ (by omega), up2_nek _ _ (by omega)]; exact hF.2 k q⟩ ⟨by rw [up2_nek _ _ (by decide), up2_nek _ _ (by decide)]; exact g0, by rw [up2_nek _ _ (by decide), up2_nek _ _ (by decide)]; exact g1, by rw [up2_nek _ _ (by decide), up2_nek _ _ (by decide)]; exact g2, by rw [up2_nek _ _ (by decide), up2_nek _ _ (by decide)]; exact g3, by rw [up2_nek _ _ (by decide), up2_nek _ _ (by decide)]; exact g4, by rw [up2_same], by rw [up2_nek _ _ (by decide), up2_nek _ _ (by decide)]; exact g9, by rw [up2_nek _ _ (by decide), up2_nek _ _ (by decide)]; exact g10, by rw [up2_nek _ _ (by decide), up2_same]; exact hw, fun d hd => by rw [up2_nea _ _ (show a + 4 ≠ a by omega), up2_nea _ _ (show a + 4 ≠ a by omega)]; exact gd d hd, fun p hp => by rw [up2_nea _ _ (show a + 5 ≠ a by omega), up2_nea _ _ (show a + 5 ≠ a by omega)]; exact gp p hp⟩
      · refine aw_aload_0 (q := 113) F dH_fit_112 rfl ?_
        refine av_getaE (q := 116) F fH_28 dH_fit_113 rfl rfl (by first | exact hH.o | exact hH.a1 | exact hH.a2 | exact hH.a3 | exact hH.a4 | exact hH.a5 | exact hT.o | exact hT.a1 | exact hT.a2 | exact hT.a3 | exact hH) hH.p16 ?_
        refine aw_iload_3 (q := 117) F dH_fit_116 rfl ?_
        refine aw_iload_2 (q := 118) F dH_fit_117 rfl ?_
        refine av_iastore (q := 119) F dH_fit_118 rfl (by first | exact hH.o | exact hH.a1 | exact hH.a2 | exact hH.a3 | exact hH.a4 | exact hH.a5 | exact hT.o | exact hT.a1 | exact hT.a2 | exact hT.a3 | exact hH) (by omega) (by omega) ?_
        rw [ez]
        refine aw_iload_2 (q := 120) F dH_fit_119 rfl ?_
        refine aw_aload_0 (q := 121) F dH_fit_120 rfl ?_
        refine av_geti (q := 124) F fH_11 dH_fit_121 rfl rfl (by first | exact hH.o | exact hH.a1 | exact hH.a2 | exact hH.a3 | exact hH.a4 | exact hH.a5 | exact hT.o | exact hT.a1 | exact hT.a2 | exact hT.a3 | exact hH) ?_
        rw [up2_nea _ _ hna]
        refine aw_imul (q := 125) F dH_fit_124 rfl (by rw [ew2]; constructor <;> omega) ?_
        rw [ew]
        refine aw_istore_2 (q := 126) F dH_fit_125 rfl trivial ?_
        refine aw_iinc_3 (q := 129) F dH_fit_126 rfl trivial (by constructor <;> omega) ?_
        refine aw_goto (t := 104) F dH_fit_129 (by decide) ?_
        refine ih _ (by omega) (i + 1) rfl (by omega) _ _ _ ⟨fun b q1 q2 q3 => by rw [up2_nea _ _ q2]; exact hF.1 b q1 q2 q3, fun k q => by rw [up2_nea _ _ hna]; exact hF.2 k q⟩ ⟨by rw [up2_nea _ _ hna]; exact g0, by rw [up2_nea _ _ hna]; exact g1, by rw [up2_nea _ _ hna]; exact g2, by rw [up2_nea _ _ hna]; exact g3, by rw [up2_nea _ _ hna]; exact g4, by rw [up2_nea _ _ hna]; exact g9, by rw [up2_nea _ _ hna]; exact g10, fun d hd => ?_, fun p hp => by rw [up2_nea _ _ (show a + 5 ≠ a + 4 by omega)]; exact gp p hp⟩ rfl (by omega)
        by_cases q : d = i
        · rw [q, up2_same]; exact hw
        · rw [up2_nek _ _ q]; exact gd d (by omega)
  have loop1 : ∀ (j i : Nat), pN c - i = j → i ≤ pN c → ∀ (V1 : Nat → Nat → Int) (w z : Int), fitF V V1 a → (V1 a 0 = dN c ∧ V1 a 1 = pN c ∧ V1 a 2 = (dN c * (2 + pN c) : Nat) ∧ V1 a 3 = Bs c ∧ V1 a 9 = lkC c ∧ V1 a 10 = kyC c ∧ ∀ p, p < i → V1 (a + 5) p = wB c p) → w = wB c i → z = i → AW X 69 [some (vR a), some (vR t), some (vI w), some (vI z)] [] (V1, σ) 0 0 := by
    intro j
    induction j using Nat.strongRecOn with
    | ind j ih =>
      intro i hj hi V1 w z hF hV hw hz
      obtain ⟨g0, g1, g2, g3, g9, g10, gp⟩ := hV
      have ez : z.toNat = i := by omega
      have hna : a ≠ a + 5 := by omega
      have wl1 := wB_le hc (i := i) (by omega)
      have m1 : (wB c i * Bs c : Nat) ≤ 15625 * 5 := Nat.mul_le_mul wl1 b5
      have ew : w * V1 a 3 = (wB c (i + 1) : Nat) := by rw [hw, g3, wB_s]; simp
      have ew2 : w * V1 a 3 = (wB c i * Bs c : Nat) := by rw [hw, g3]; simp
      refine aw_iload_3 (q := 70) F dH_fit_69 rfl ?_
      refine aw_aload_0 (q := 71) F dH_fit_70 rfl ?_
      refine av_geti (q := 74) F fH_49 dH_fit_71 rfl rfl (by first | exact hH.o | exact hH.a1 | exact hH.a2 | exact hH.a3 | exact hH.a4 | exact hH.a5 | exact hT.o | exact hT.a1 | exact hT.a2 | exact hT.a3 | exact hH) ?_
      refine aw_icmp_ge (q := 77) (t := 97) F dH_fit_74 rfl (by decide) (fun c74 => ?_) (fun c74 => ?_)
      · refine aw_aload_0 (q := 98) F dH_fit_97 rfl ?_
        refine aw_iload_2 (q := 99) F dH_fit_98 rfl ?_
        refine av_puti (q := 102) F fH_15 dH_fit_99 rfl rfl (wr_2_4 _) (by first | exact hH.o | exact hH.a1 | exact hH.a2 | exact hH.a3 | exact hH.a4 | exact hH.a5 | exact hT.o | exact hT.a1 | exact hT.a2 | exact hT.a3 | exact hH) ?_
        refine aw_iconst (q := 103) F dH_fit_102 rfl (by decide) ?_
        refine aw_istore_3 (q := 104) F dH_fit_103 rfl trivial ?_
        have ei : i = pN c := by omega
        rw [ei] at hw gp
        refine loop2 _ 0 rfl (by omega) _ _ _ ⟨fun b q1 q2 q3 => by rw [up2_nea _ _ q1]; exact hF.1 b q1 q2 q3, fun k q => by rw [up2_nek _ _ (by omega)]; exact hF.2 k q⟩ ⟨by rw [up2_nek _ _ (by decide)]; exact g0, by rw [up2_nek _ _ (by decide)]; exact g1, by rw [up2_nek _ _ (by decide)]; exact g2, by rw [up2_nek _ _ (by decide)]; exact g3, by rw [up2_same]; exact hw, by rw [up2_nek _ _ (by decide)]; exact g9, by rw [up2_nek _ _ (by decide)]; exact g10, fun d hd => absurd hd (by omega), fun p hp => by rw [up2_nea _ _ (show a + 5 ≠ a by omega)]; exact gp p hp⟩ hw rfl
      · refine aw_aload_0 (q := 78) F dH_fit_77 rfl ?_
        refine av_getaE (q := 81) F fH_31 dH_fit_78 rfl rfl (by first | exact hH.o | exact hH.a1 | exact hH.a2 | exact hH.a3 | exact hH.a4 | exact hH.a5 | exact hT.o | exact hT.a1 | exact hT.a2 | exact hT.a3 | exact hH) hH.p17 ?_
        refine aw_iload_3 (q := 82) F dH_fit_81 rfl ?_
        refine aw_iload_2 (q := 83) F dH_fit_82 rfl ?_
        refine av_iastore (q := 84) F dH_fit_83 rfl (by first | exact hH.o | exact hH.a1 | exact hH.a2 | exact hH.a3 | exact hH.a4 | exact hH.a5 | exact hT.o | exact hT.a1 | exact hT.a2 | exact hT.a3 | exact hH) (by omega) (by omega) ?_
        rw [ez]
        refine aw_iload_2 (q := 85) F dH_fit_84 rfl ?_
        refine aw_aload_0 (q := 86) F dH_fit_85 rfl ?_
        refine av_geti (q := 89) F fH_11 dH_fit_86 rfl rfl (by first | exact hH.o | exact hH.a1 | exact hH.a2 | exact hH.a3 | exact hH.a4 | exact hH.a5 | exact hT.o | exact hT.a1 | exact hT.a2 | exact hT.a3 | exact hH) ?_
        rw [up2_nea _ _ hna]
        refine aw_imul (q := 90) F dH_fit_89 rfl (by rw [ew2]; constructor <;> omega) ?_
        rw [ew]
        refine aw_istore_2 (q := 91) F dH_fit_90 rfl trivial ?_
        refine aw_iinc_3 (q := 94) F dH_fit_91 rfl trivial (by constructor <;> omega) ?_
        refine aw_goto (t := 69) F dH_fit_94 (by decide) ?_
        refine ih _ (by omega) (i + 1) rfl (by omega) _ _ _ ⟨fun b q1 q2 q3 => by rw [up2_nea _ _ q3]; exact hF.1 b q1 q2 q3, fun k q => by rw [up2_nea _ _ hna]; exact hF.2 k q⟩ ⟨by rw [up2_nea _ _ hna]; exact g0, by rw [up2_nea _ _ hna]; exact g1, by rw [up2_nea _ _ hna]; exact g2, by rw [up2_nea _ _ hna]; exact g3, by rw [up2_nea _ _ hna]; exact g9, by rw [up2_nea _ _ hna]; exact g10, fun p hp => ?_⟩ rfl (by omega)
        by_cases q : p = i
        · rw [q, up2_same]; exact hw
        · rw [up2_nek _ _ q]; exact gp p (by omega)
  have n1 : min (V t 1) 4 = dN c := by rw [h1]; omega
  have n2 : min (V t 2) 2 = pN c := by rw [h2]; omega
  have ta := hta.1
  refine aw_aload_0 (q := 1) F dH_fit_0 rfl ?_
  refine aw_aload_1 (q := 2) F dH_fit_1 rfl ?_
  refine av_geti (q := 5) F fH_34 dH_fit_2 rfl rfl (by first | exact hH.o | exact hH.a1 | exact hH.a2 | exact hH.a3 | exact hH.a4 | exact hH.a5 | exact hT.o | exact hT.a1 | exact hT.a2 | exact hT.a3 | exact hH) ?_
  refine aw_iconst (q := 6) F dH_fit_5 rfl (by decide) ?_
  refine aw_mmin (q := 9) F hm mm_H dH_fit_6 rfl (Nat.le_of_ble_eq_true rfl) (Nat.zero_le _) (Nat.zero_le _) ?_
  rw [n1]
  refine av_puti (q := 12) F fH_45 dH_fit_9 rfl rfl (wr_2_0 _) (by first | exact hH.o | exact hH.a1 | exact hH.a2 | exact hH.a3 | exact hH.a4 | exact hH.a5 | exact hT.o | exact hT.a1 | exact hT.a2 | exact hT.a3 | exact hH) ?_
  refine aw_aload_0 (q := 13) F dH_fit_12 rfl ?_
  refine aw_aload_1 (q := 14) F dH_fit_13 rfl ?_
  refine av_geti (q := 17) F fH_46 dH_fit_14 rfl rfl (by first | exact hH.o | exact hH.a1 | exact hH.a2 | exact hH.a3 | exact hH.a4 | exact hH.a5 | exact hT.o | exact hT.a1 | exact hT.a2 | exact hT.a3 | exact hH) ?_
  rw [up2_nea _ _ ta]
  refine aw_iconst (q := 18) F dH_fit_17 rfl (by decide) ?_
  refine aw_mmin (q := 21) F hm mm_H dH_fit_18 rfl (Nat.le_of_ble_eq_true rfl) (Nat.zero_le _) (Nat.zero_le _) ?_
  rw [n2]
  refine av_puti (q := 24) F fH_49 dH_fit_21 rfl rfl (wr_2_1 _) (by first | exact hH.o | exact hH.a1 | exact hH.a2 | exact hH.a3 | exact hH.a4 | exact hH.a5 | exact hT.o | exact hT.a1 | exact hT.a2 | exact hT.a3 | exact hH) ?_
  refine aw_aload_0 (q := 25) F dH_fit_24 rfl ?_
  refine aw_aload_1 (q := 26) F dH_fit_25 rfl ?_
  refine av_geti (q := 29) F fH_50 dH_fit_26 rfl rfl (by first | exact hH.o | exact hH.a1 | exact hH.a2 | exact hH.a3 | exact hH.a4 | exact hH.a5 | exact hT.o | exact hT.a1 | exact hT.a2 | exact hT.a3 | exact hH) ?_
  rw [up2_nea _ _ ta, up2_nea _ _ ta, h3]
  refine av_puti (q := 32) F fH_53 dH_fit_29 rfl rfl (wr_2_9 _) (by first | exact hH.o | exact hH.a1 | exact hH.a2 | exact hH.a3 | exact hH.a4 | exact hH.a5 | exact hT.o | exact hT.a1 | exact hT.a2 | exact hT.a3 | exact hH) ?_
  refine aw_aload_0 (q := 33) F dH_fit_32 rfl ?_
  refine aw_aload_1 (q := 34) F dH_fit_33 rfl ?_
  refine av_geti (q := 37) F fH_54 dH_fit_34 rfl rfl (by first | exact hH.o | exact hH.a1 | exact hH.a2 | exact hH.a3 | exact hH.a4 | exact hH.a5 | exact hT.o | exact hT.a1 | exact hT.a2 | exact hT.a3 | exact hH) ?_
  rw [up2_nea _ _ ta, up2_nea _ _ ta, up2_nea _ _ ta, h4]
  refine av_puti (q := 40) F fH_57 dH_fit_37 rfl rfl (wr_2_10 _) (by first | exact hH.o | exact hH.a1 | exact hH.a2 | exact hH.a3 | exact hH.a4 | exact hH.a5 | exact hT.o | exact hT.a1 | exact hT.a2 | exact hT.a3 | exact hH) ?_
  refine aw_aload_0 (q := 41) F dH_fit_40 rfl ?_
  refine aw_aload_0 (q := 42) F dH_fit_41 rfl ?_
  refine av_geti (q := 45) F fH_45 dH_fit_42 rfl rfl (by first | exact hH.o | exact hH.a1 | exact hH.a2 | exact hH.a3 | exact hH.a4 | exact hH.a5 | exact hT.o | exact hT.a1 | exact hT.a2 | exact hT.a3 | exact hH) ?_
  rw [up2_nek _ _ (show (0 : Nat) ≠ 10 by decide), up2_nek _ _ (show (0 : Nat) ≠ 9 by decide), up2_nek _ _ (show (0 : Nat) ≠ 1 by decide), up2_same]
  refine aw_iconst (q := 46) F dH_fit_45 rfl (by decide) ?_
  refine aw_iadd (q := 47) F dH_fit_46 rfl (by constructor <;> omega) ?_
  refine av_puti (q := 50) F fH_11 dH_fit_47 rfl rfl (wr_2_3 _) (by first | exact hH.o | exact hH.a1 | exact hH.a2 | exact hH.a3 | exact hH.a4 | exact hH.a5 | exact hT.o | exact hT.a1 | exact hT.a2 | exact hT.a3 | exact hH) ?_
  refine aw_aload_0 (q := 51) F dH_fit_50 rfl ?_
  refine aw_aload_0 (q := 52) F dH_fit_51 rfl ?_
  refine av_geti (q := 55) F fH_45 dH_fit_52 rfl rfl (by first | exact hH.o | exact hH.a1 | exact hH.a2 | exact hH.a3 | exact hH.a4 | exact hH.a5 | exact hT.o | exact hT.a1 | exact hT.a2 | exact hT.a3 | exact hH) ?_
  rw [up2_nek _ _ (show (0 : Nat) ≠ 3 by decide), up2_nek _ _ (show (0 : Nat) ≠ 10 by decide), up2_nek _ _ (show (0 : Nat) ≠ 9 by decide), up2_nek _ _ (show (0 : Nat) ≠ 1 by decide), up2_same]
  refine aw_iconst (q := 56) F dH_fit_55 rfl (by decide) ?_
  refine aw_aload_0 (q := 57) F dH_fit_56 rfl ?_
  refine av_geti (q := 60) F fH_49 dH_fit_57 rfl rfl (by first | exact hH.o | exact hH.a1 | exact hH.a2 | exact hH.a3 | exact hH.a4 | exact hH.a5 | exact hT.o | exact hT.a1 | exact hT.a2 | exact hT.a3 | exact hH) ?_
  rw [up2_nek _ _ (show (1 : Nat) ≠ 3 by decide), up2_nek _ _ (show (1 : Nat) ≠ 10 by decide), up2_nek _ _ (show (1 : Nat) ≠ 9 by decide), up2_same]
  refine aw_iadd (q := 61) F dH_fit_60 rfl (by constructor <;> omega) ?_
  refine aw_imul (q := 62) F dH_fit_61 rfl (by rw [est]; constructor <;> (unfold stN at hst; omega)) ?_
  rw [est]
  refine av_puti (q := 65) F fH_58 dH_fit_62 rfl rfl (wr_2_2 _) (by first | exact hH.o | exact hH.a1 | exact hH.a2 | exact hH.a3 | exact hH.a4 | exact hH.a5 | exact hT.o | exact hT.a1 | exact hT.a2 | exact hT.a3 | exact hH) ?_
  refine aw_iconst (q := 66) F dH_fit_65 rfl (by decide) ?_
  refine aw_istore_2 (q := 67) F dH_fit_66 rfl trivial ?_
  refine aw_iconst (q := 68) F dH_fit_67 rfl (by decide) ?_
  refine aw_istore_3 (q := 69) F dH_fit_68 rfl trivial ?_
  refine loop1 _ 0 rfl (by omega) _ _ _ ⟨fun b q1 q2 q3 => ?_, fun k q => ?_⟩ ⟨?_, ?_, ?_, ?_, ?_, ?_, fun p hp => absurd hp (by omega)⟩ (by rw [wB_0]; rfl) rfl
  · simp only [up2_nea _ _ q1]
  · rcases q with q | q | q | q <;> subst q <;> simp [up2]
  · simp [up2]
  · simp [up2]
  · simp [up2]
  · simp [up2, Bs]
  · simp [up2]
  · simp [up2]
theorem wH_firstScene {f g : Nat → Nat} {la : Nat} (hH : hS σ a) (hT : tS σ t) (hc : okC c) (hnl : nlC c = 0) (hW : HW0 V a c) (h5 : V t 5 = la) (hla : la < dN c) (hk : ∀ d, d < dN c → V (t + 1) d = kdC c d) (hg : ∀ d, d < dN c → V (t + 2) d = g d ∧ g d < Bs c) (hf : ∀ p, p < pN c → V (t + 3) p = f p ∧ f p < Bs c) (hK : K (some (vI (scN c (encN c f g la)))) (V, σ)) : Wp G 0 mH_firstScene [vR a, vR t] (V, σ) 0 0 K := by
  have hD4 := hc.1
  have hP2 := hc.2.1
  have b5 := Bs_le hc
  obtain ⟨g0, g1, g2, g3, g4, g5, g9, g10, g11, gd, gp⟩ := hW
  have hkf := hc.2.2.2.2.1
  have wD := wB_le hc (i := pN c + dN c) (by omega)
  have mla : (wB c (pN c + dN c) * la : Nat) ≤ 15625 * 3 := Nat.mul_le_mul wD (by omega)
  have e0 : V t 5 * V a 11 = (wB c (pN c + dN c) * la : Nat) := by rw [h5, g11, Nat.mul_comm]; simp
  have fl := pkN_lt (B := Bs c) (f := f) (i := pN c) (fun j hj => (hf j hj).2)
  have gl := pkN_lt (B := Bs c) (f := g) (i := dN c) (fun j hj => (hg j hj).2)
  have hen : encN c f g la < 65536 := by
    have h1 := (encN_dig (la := la) (fun p hp => (hf p hp).2) (fun d hd => (hg d hd).2)).2.2
    have h2 := lt_spc (c := c) (n := encN c f g la) (by rw [h1]; exact hla)
    have h3 := spc_le hc
    omega
  have hkk := kp_le hc
  refine wp_intro mH_firstScene_i.1 [some (vR a), some (vR t), none, none, none] rfl rfl (Nat.le_of_ble_eq_true rfl) ?_
  intro X hG F C
  have hm := C.rm
  have loop2 : ∀ (j i : Nat), dN c - i = j → i ≤ dN c → ∀ y k z : Int, y = (wB c (pN c + dN c) * la + pkN (Bs c) f (pN c) + wB c (pN c) * pkN (Bs c) g i : Nat) → k = kp (kdC c) i → z = i → AW X 51 [some (vR a), some (vR t), some (vI y), some (vI k), some (vI z)] [] (V, σ) 0 0 := by
    intro j
    induction j using Nat.strongRecOn with
    | ind j ih =>
      intro i hj hi y k z hy hkz hz
      have ez : z.toNat = i := by omega
      have wl := wB_le hc (i := pN c + i) (by omega)
      have wp := wB_le hc (i := pN c) (by omega)
      have fb : pkN (Bs c) f (pN c) ≤ 15625 := Nat.le_of_lt (Nat.lt_of_lt_of_le fl (wB_le hc (i := pN c) (by omega)))
      have gb : wB c (pN c) * pkN (Bs c) g i ≤ 15625 := by
        have h1 := pkN_lt (B := Bs c) (f := g) (i := i) (fun j hj => (hg j (by omega)).2)
        have h2 : wB c (pN c) * pkN (Bs c) g i ≤ wB c (pN c) * wB c i := Nat.mul_le_mul_left _ (Nat.le_of_lt h1)
        rw [← wB_add] at h2
        omega
      have m1 : i < dN c → (g i * wB c (pN c + i) : Nat) ≤ 4 * 15625 := fun q => Nat.mul_le_mul (by have := (hg i q).2; omega) wl
      have em : i < dN c → V (t + 2) i * V (a + 4) i = (g i * wB c (pN c + i) : Nat) := fun q => by rw [(hg i q).1, gd i q]; simp
      have es : wB c (pN c) * pkN (Bs c) g (i + 1) = wB c (pN c) * pkN (Bs c) g i + g i * wB c (pN c + i) := by
        show wB c (pN c) * (pkN (Bs c) g i + g i * Bs c ^ i) = _
        rw [Nat.mul_add, wB_add]
        congr 1
        show wB c (pN c) * (g i * wB c i) = _
        ac_rfl
      refine aw_iload_4 (q := 53) F dH_firstScene_51 rfl ?_
      refine aw_aload_0 (q := 54) F dH_firstScene_53 rfl ?_
      refine av_geti (q := 57) F fH_45 dH_firstScene_54 rfl rfl (by first | exact hH.o | exact hH.a1 | exact hH.a2 | exact hH.a3 | exact hH.a4 | exact hH.a5 | exact hT.o | exact hT.a1 | exact hT.a2 | exact hT.a3 | exact hH) ?_
      refine aw_icmp_ge (q := 60) (t := 99) F dH_firstScene_57 rfl (by decide) (fun c57 => ?_) (fun c57 => ?_)
      · have ei : i = dN c := by omega
        rw [ei] at hy hkz
        have f1 := zshl_n (x := kp (kdC c) (dN c)) (s := 16) (by decide) (by omega)
        have f1' : zshl k 16 = ((2 ^ 16 * kp (kdC c) (dN c) : Nat) : Int) := by rw [hkz, show ((16 : Int)) = ((16 : Nat) : Int) from rfl, f1]; omega
        have hye : y = (encN c f g la : Nat) := by rw [hy]; unfold encN; omega
        have g1 := Nat.two_pow_add_eq_or_of_lt (i := 16) (b := encN c f g la) hen (kp (kdC c) (dN c))
        have fin : zor y (zshl k 16) = scN c (encN c f g la) := by
          rw [f1', hye, zor_n (by rw [Nat.or_comm, ← g1]; omega), Nat.or_comm, ← g1]
          unfold scN
          rw [hnl]
          omega
        refine aw_iload_2 (q := 100) F dH_firstScene_99 rfl ?_
        refine aw_iload_3 (q := 101) F dH_firstScene_100 rfl ?_
        refine aw_bipush (q := 103) F dH_firstScene_101 rfl (by decide) ?_
        refine aw_ishl (q := 104) F dH_firstScene_103 rfl ?_
        refine aw_ior (q := 105) F dH_firstScene_104 rfl ?_
        refine aw_iret F C dH_firstScene_105 rfl (Nat.le_refl _) (Nat.le_refl _) ?_
        exact kI hK fin.symm
      · refine aw_iload_2 (q := 61) F dH_firstScene_60 rfl ?_
        refine aw_aload_1 (q := 62) F dH_firstScene_61 rfl ?_
        refine av_getaE (q := 65) F fH_71 dH_firstScene_62 rfl rfl (by first | exact hH.o | exact hH.a1 | exact hH.a2 | exact hH.a3 | exact hH.a4 | exact hH.a5 | exact hT.o | exact hT.a1 | exact hT.a2 | exact hT.a3 | exact hH) hT.p7 ?_
        refine aw_iload_4 (q := 67) F dH_firstScene_65 rfl ?_
        refine av_iaload (q := 68) F dH_firstScene_67 rfl (by first | exact hH.o | exact hH.a1 | exact hH.a2 | exact hH.a3 | exact hH.a4 | exact hH.a5 | exact hT.o | exact hT.a1 | exact hT.a2 | exact hT.a3 | exact hH) (by omega) (by omega) ?_
        refine aw_aload_0 (q := 69) F dH_firstScene_68 rfl ?_
        refine av_getaE (q := 72) F fH_28 dH_firstScene_69 rfl rfl (by first | exact hH.o | exact hH.a1 | exact hH.a2 | exact hH.a3 | exact hH.a4 | exact hH.a5 | exact hT.o | exact hT.a1 | exact hT.a2 | exact hT.a3 | exact hH) hH.p16 ?_
        refine aw_iload_4 (q := 74) F dH_firstScene_72 rfl ?_
        refine av_iaload (q := 75) F dH_firstScene_74 rfl (by first | exact hH.o | exact hH.a1 | exact hH.a2 | exact hH.a3 | exact hH.a4 | exact hH.a5 | exact hT.o | exact hT.a1 | exact hT.a2 | exact hT.a3 | exact hH) (by omega) (by omega) ?_
        rw [ez]
        refine aw_imul (q := 76) F dH_firstScene_75 rfl (by have := m1 (by omega); rw [em (by omega)]; constructor <;> omega) ?_
        rw [em (by omega)]
        refine aw_iadd (q := 77) F dH_firstScene_76 rfl (by have := m1 (by omega); constructor <;> omega) ?_
        refine aw_istore_2 (q := 78) F dH_firstScene_77 rfl trivial ?_
        refine aw_iload_3 (q := 79) F dH_firstScene_78 rfl ?_
        refine aw_aload_1 (q := 80) F dH_firstScene_79 rfl ?_
        refine av_getaE (q := 83) F fH_72 dH_firstScene_80 rfl rfl (by first | exact hH.o | exact hH.a1 | exact hH.a2 | exact hH.a3 | exact hH.a4 | exact hH.a5 | exact hT.o | exact hT.a1 | exact hT.a2 | exact hT.a3 | exact hH) hT.p6 ?_
        refine aw_iload_4 (q := 85) F dH_firstScene_83 rfl ?_
        refine av_iaload (q := 86) F dH_firstScene_85 rfl (by first | exact hH.o | exact hH.a1 | exact hH.a2 | exact hH.a3 | exact hH.a4 | exact hH.a5 | exact hT.o | exact hT.a1 | exact hT.a2 | exact hT.a3 | exact hH) (by omega) (by omega) ?_
        refine aw_iconst (q := 87) F dH_firstScene_86 rfl (by decide) ?_
        refine aw_iload_4 (q := 89) F dH_firstScene_87 rfl ?_
        refine aw_imul (q := 90) F dH_firstScene_89 rfl (by constructor <;> omega) ?_
        refine aw_ishl (q := 91) F dH_firstScene_90 rfl ?_
        refine aw_ior (q := 92) F dH_firstScene_91 rfl ?_
        refine aw_istore_3 (q := 93) F dH_firstScene_92 rfl trivial ?_
        refine aw_iinc_4 (q := 96) F dH_firstScene_93 rfl trivial (by constructor <;> omega) ?_
        refine aw_goto (t := 51) F dH_firstScene_96 (by decide) ?_
        refine ih _ (by omega) (i + 1) rfl (by omega) _ _ _ (by rw [hy, es]; omega) (kp_step hkf (by omega) hkz hz (by rw [ez]; exact hk i (by omega))) (by omega)
  have loop1 : ∀ (j i : Nat), pN c - i = j → i ≤ pN c → ∀ y z : Int, y = (wB c (pN c + dN c) * la + pkN (Bs c) f i : Nat) → z = i → AW X 15 [some (vR a), some (vR t), some (vI y), some (vI 0), some (vI z)] [] (V, σ) 0 0 := by
    intro j
    induction j using Nat.strongRecOn with
    | ind j ih =>
      intro i hj hi y z hy hz
      have ez : z.toNat = i := by omega
      have wl := wB_le hc (i := i) (by omega)
      have fb : pkN (Bs c) f i ≤ 15625 := Nat.le_of_lt (Nat.lt_of_lt_of_le (pkN_lt (fun j hj => (hf j (by omega)).2)) wl)
      have m1 : i < pN c → (f i * wB c i : Nat) ≤ 4 * 15625 := fun q => Nat.mul_le_mul (by have := (hf i q).2; omega) wl
      have em : i < pN c → V (t + 3) i * V (a + 5) i = (f i * wB c i : Nat) := fun q => by rw [(hf i q).1, gp i q]; simp
      have es : pkN (Bs c) f (i + 1) = pkN (Bs c) f i + f i * wB c i := rfl
      refine aw_iload_4 (q := 17) F dH_firstScene_15 rfl ?_
      refine aw_aload_0 (q := 18) F dH_firstScene_17 rfl ?_
      refine av_geti (q := 21) F fH_49 dH_firstScene_18 rfl rfl (by first | exact hH.o | exact hH.a1 | exact hH.a2 | exact hH.a3 | exact hH.a4 | exact hH.a5 | exact hT.o | exact hT.a1 | exact hT.a2 | exact hT.a3 | exact hH) ?_
      refine aw_icmp_ge (q := 24) (t := 48) F dH_firstScene_21 rfl (by decide) (fun c21 => ?_) (fun c21 => ?_)
      · refine aw_iconst (q := 49) F dH_firstScene_48 rfl (by decide) ?_
        refine aw_istore_4 (q := 51) F dH_firstScene_49 rfl trivial ?_
        rw [show i = pN c by omega] at hy; refine loop2 _ 0 rfl (by omega) _ _ _ (by rw [hy]; show _ = ((_ + wB c (pN c) * 0 : Nat) : Int); omega) rfl rfl
      · refine aw_iload_2 (q := 25) F dH_firstScene_24 rfl ?_
        refine aw_aload_1 (q := 26) F dH_firstScene_25 rfl ?_
        refine av_getaE (q := 29) F fH_70 dH_firstScene_26 rfl rfl (by first | exact hH.o | exact hH.a1 | exact hH.a2 | exact hH.a3 | exact hH.a4 | exact hH.a5 | exact hT.o | exact hT.a1 | exact hT.a2 | exact hT.a3 | exact hH) hT.p8 ?_
        refine aw_iload_4 (q := 31) F dH_firstScene_29 rfl ?_
        refine av_iaload (q := 32) F dH_firstScene_31 rfl (by first | exact hH.o | exact hH.a1 | exact hH.a2 | exact hH.a3 | exact hH.a4 | exact hH.a5 | exact hT.o | exact hT.a1 | exact hT.a2 | exact hT.a3 | exact hH) (by omega) (by omega) ?_
        refine aw_aload_0 (q := 33) F dH_firstScene_32 rfl ?_
        refine av_getaE (q := 36) F fH_31 dH_firstScene_33 rfl rfl (by first | exact hH.o | exact hH.a1 | exact hH.a2 | exact hH.a3 | exact hH.a4 | exact hH.a5 | exact hT.o | exact hT.a1 | exact hT.a2 | exact hT.a3 | exact hH) hH.p17 ?_
        refine aw_iload_4 (q := 38) F dH_firstScene_36 rfl ?_
        refine av_iaload (q := 39) F dH_firstScene_38 rfl (by first | exact hH.o | exact hH.a1 | exact hH.a2 | exact hH.a3 | exact hH.a4 | exact hH.a5 | exact hT.o | exact hT.a1 | exact hT.a2 | exact hT.a3 | exact hH) (by omega) (by omega) ?_
        rw [ez]
        refine aw_imul (q := 40) F dH_firstScene_39 rfl (by have := m1 (by omega); rw [em (by omega)]; constructor <;> omega) ?_
        rw [em (by omega)]
        refine aw_iadd (q := 41) F dH_firstScene_40 rfl (by have := m1 (by omega); constructor <;> omega) ?_
        refine aw_istore_2 (q := 42) F dH_firstScene_41 rfl trivial ?_
        refine aw_iinc_4 (q := 45) F dH_firstScene_42 rfl trivial (by constructor <;> omega) ?_
        refine aw_goto (t := 15) F dH_firstScene_45 (by decide) ?_
        refine ih _ (by omega) (i + 1) rfl (by omega) _ _ (by rw [hy, es]; omega) (by omega)
  refine aw_aload_1 (q := 1) F dH_firstScene_0 rfl ?_
  refine av_geti (q := 4) F fH_67 dH_firstScene_1 rfl rfl (by first | exact hH.o | exact hH.a1 | exact hH.a2 | exact hH.a3 | exact hH.a4 | exact hH.a5 | exact hT.o | exact hT.a1 | exact hT.a2 | exact hT.a3 | exact hH) ?_
  refine aw_aload_0 (q := 5) F dH_firstScene_4 rfl ?_
  refine av_geti (q := 8) F fH_61 dH_firstScene_5 rfl rfl (by first | exact hH.o | exact hH.a1 | exact hH.a2 | exact hH.a3 | exact hH.a4 | exact hH.a5 | exact hT.o | exact hT.a1 | exact hT.a2 | exact hT.a3 | exact hH) ?_
  refine aw_imul (q := 9) F dH_firstScene_8 rfl (by rw [e0]; constructor <;> omega) ?_
  rw [e0]
  refine aw_istore_2 (q := 10) F dH_firstScene_9 rfl trivial ?_
  refine aw_iconst (q := 11) F dH_firstScene_10 rfl (by decide) ?_
  refine aw_istore_3 (q := 12) F dH_firstScene_11 rfl trivial ?_
  refine aw_iconst (q := 13) F dH_firstScene_12 rfl (by decide) ?_
  refine aw_istore_4 (q := 15) F dH_firstScene_13 rfl trivial ?_
  exact loop1 _ 0 rfl (by omega) _ _ (by show _ = ((_ + 0 : Nat) : Int); omega) rfl
end Hall4
