theorem ld_le_mod {c : Cfg} {n d : Nat} (hd : d < dN c) : ld c n d * wB c (pN c + d) ≤ n % wB c (pN c + dN c) := by
  obtain ⟨j, hj⟩ : ∃ j, dN c = d + 1 + j := ⟨dN c - (d + 1), by omega⟩
  have e : wB c (pN c + dN c) = wB c (pN c + d) * (Bs c * wB c j) := by
    rw [hj, show pN c + (d + 1 + j) = pN c + d + (1 + j) by omega, wB_add, wB_add]
    unfold wB
    rw [Nat.pow_add (Bs c) 1 j, Nat.pow_one]
  have h1 : n % wB c (pN c + dN c) / wB c (pN c + d) = (n / wB c (pN c + d)) % (Bs c * wB c j) := by rw [e, Nat.mod_mul_right_div_self]
  have h2 : (n / wB c (pN c + d)) % (Bs c * wB c j) % Bs c = ld c n d := Nat.mod_mul_right_mod _ _ _
  have h3 : ld c n d ≤ n % wB c (pN c + dN c) / wB c (pN c + d) := by rw [h1, ← h2]; exact Nat.mod_le _ _
  exact Nat.le_trans (Nat.mul_le_mul_right _ h3) (Nat.div_mul_le_self _ _)
theorem aS_int {c : Cfg} {n d : Nat} (hd : d < dN c) : (n : Int) + shI c n d = aS c n d := by
  have h1 := ld_le_mod (n := n) hd
  have h2 := Nat.div_add_mod n (wB c (pN c + dN c))
  have e0 : n / wB c (pN c + dN c) = lst c n := rfl
  rw [e0, Nat.mul_comm] at h2
  have hp := wB_pos c (pN c + dN c)
  have hm := Nat.mod_lt n hp
  have e1 : (n - ld c n d * wB c (pN c + d)) % wB c (pN c + dN c) = n % wB c (pN c + dN c) - ld c n d * wB c (pN c + d) := by
    have e2 : n - ld c n d * wB c (pN c + d) = (n % wB c (pN c + dN c) - ld c n d * wB c (pN c + d)) + wB c (pN c + dN c) * lst c n := by
      rw [Nat.mul_comm (wB c (pN c + dN c))]; omega
    rw [e2, Nat.add_mul_mod_self_left, Nat.mod_eq_of_lt (by omega)]
  unfold aS shI
  rw [e1, Int.sub_mul]
  have f1 : (d : Int) * wB c (pN c + dN c) = (d * wB c (pN c + dN c) : Nat) := by simp
  have f2 : (lst c n : Int) * wB c (pN c + dN c) = (lst c n * wB c (pN c + dN c) : Nat) := by simp
  have f3 : (ld c n d : Int) * wB c (pN c + d) = (ld c n d * wB c (pN c + d) : Nat) := by simp
  rw [f1, f2, f3]
  omega
theorem Bs_pos (c : Cfg) : 0 < Bs c := by unfold Bs; omega
theorem dgP {c : Cfg} {n p : Nat} : pl c n p = n / Bs c ^ p % Bs c := rfl
theorem dgL {c : Cfg} {n d : Nat} : ld c n d = n / Bs c ^ (pN c + d) % Bs c := rfl
/-- a person's going changes his place alone -/
theorem aG1_dig {c : Cfg} {n p d : Nat} (hp : p < pN c) : (∀ j, pl c (aG1 c n p d) j = if j = p then (if pl c n p = 0 then ld c n d else 0) else pl c n j) ∧ (∀ e, ld c (aG1 c n p d) e = ld c n e) ∧ lst c (aG1 c n p d) = lst c n := by
  unfold aG1
  have hl := ld_lt c n d
  by_cases h : pl c n p = 0
  · rw [if_pos h]
    have hs : n / Bs c ^ p % Bs c + ld c n d < Bs c := by rw [← dgP, h, Nat.zero_add]; exact hl
    refine ⟨fun j => ?_, fun e => ?_, ?_⟩
    · show (n + ld c n d * Bs c ^ p) / Bs c ^ j % Bs c = _
      rw [dg_add hs, if_pos h]
      by_cases hj : j = p
      · rw [if_pos hj, if_pos hj, ← dgP, h, Nat.zero_add]
      · rw [if_neg hj, if_neg hj]; rfl
    · show (n + ld c n d * Bs c ^ p) / Bs c ^ (pN c + e) % Bs c = _
      rw [dg_add hs, if_neg (by omega)]; rfl
    · show (n + ld c n d * Bs c ^ p) / Bs c ^ (pN c + dN c) = _
      rw [hi_add hs (by omega)]; rfl
  · rw [if_neg h]
    have hs : pl c n p ≤ n / Bs c ^ p % Bs c := Nat.le_refl _
    refine ⟨fun j => ?_, fun e => ?_, ?_⟩
    · show (n - pl c n p * Bs c ^ p) / Bs c ^ j % Bs c = _
      rw [dg_sub' (Bs_pos c) hs, if_neg h]
      by_cases hj : j = p
      · rw [if_pos hj, if_pos hj, ← dgP, Nat.sub_self]
      · rw [if_neg hj, if_neg hj]; rfl
    · show (n - pl c n p * Bs c ^ p) / Bs c ^ (pN c + e) % Bs c = _
      rw [dg_sub' (Bs_pos c) hs, if_neg (by omega)]; rfl
    · show (n - pl c n p * Bs c ^ p) / Bs c ^ (pN c + dN c) = _
      rw [hi_sub (Bs_pos c) hs (by omega)]; rfl
theorem lt_spc {c : Cfg} {n : Nat} (h : lst c n < dN c) : n < spc c := by
  unfold lst at h
  unfold spc
  have hp := wB_pos c (pN c + dN c)
  exact (Nat.div_lt_iff_lt_mul hp).mp h
theorem aG_int {c : Cfg} {n p d : Nat} (hp : p < pN c) (hd : d < dN c) : (n : Int) + (if pl c n p = 0 then (ld c n d : Int) else -(pl c n p : Int)) * wB c p = aG1 c n p d ∧ (kdC c d = 1 → (aG1 c n p d : Int) + shI c n d = aG c n p d) ∧ (kdC c d ≠ 1 → aG c n p d = aG1 c n p d) := by
  obtain ⟨h1, h2, h3⟩ := aG1_dig (n := n) (d := d) hp
  refine ⟨?_, fun hk => ?_, fun hk => ?_⟩
  · unfold aG1
    split
    · simp
    · have := (dg_sub (n := n) (i := p) (v := pl c n p) (Bs_pos c) (Nat.le_refl _)).1
      have e : pl c n p * Bs c ^ p = pl c n p * wB c p := rfl
      rw [e] at this
      have f : -(pl c n p : Int) * wB c p = -((pl c n p * wB c p : Nat) : Int) := by simp [Int.neg_mul]
      rw [f]
      omega
  · unfold aG
    rw [if_pos hk, ← aS_int hd]
    unfold shI
    rw [h2, h3]
  · unfold aG
    rw [if_neg hk]
theorem aO_lt {c : Cfg} {n d : Nat} (hn : n < spc c) (hd : d < dN c) (h0 : ld c n d = 0) : aO c n d < spc c := by
  have hl := lst_lt hn
  refine lt_spc ?_
  have hs : n / Bs c ^ (pN c + d) % Bs c + (lst c n + 1) < Bs c := by rw [← dgL, h0]; unfold Bs; omega
  show (n + (lst c n + 1) * Bs c ^ (pN c + d)) / Bs c ^ (pN c + dN c) < dN c
  rw [hi_add hs (by omega)]
  exact hl
theorem aS_lst {c : Cfg} {n d : Nat} : lst c (aS c n d) = d := by
  unfold lst aS
  have hp := wB_pos c (pN c + dN c)
  rw [Nat.add_mul_div_right _ _ hp, Nat.div_eq_of_lt (Nat.mod_lt _ hp), Nat.zero_add]
theorem aS_lt {c : Cfg} {n d : Nat} (hd : d < dN c) : aS c n d < spc c := lt_spc (by rw [aS_lst]; exact hd)
theorem aG1_lt {c : Cfg} {n p d : Nat} (hn : n < spc c) (hp : p < pN c) : aG1 c n p d < spc c := lt_spc (by rw [(aG1_dig hp).2.2]; exact lst_lt hn)
theorem aG_lt {c : Cfg} {n p d : Nat} (hn : n < spc c) (hp : p < pN c) (hd : d < dN c) : aG c n p d < spc c := by
  unfold aG
  split
  · exact aS_lt hd
  · exact aG1_lt hn hp
section Hall2
variable {G : GE} {V : Nat → Nat → Int} {σ : Shp} {a : Nat} {K : Option AV → Mem → Prop} {c : Cfg} {n : Nat}
theorem wH_afterOpen {d : Int} (hd : 0 ≤ d ∧ d < dN c) (hn : n < spc c) (hH : hS σ a) (h : HH V a c n) (hK : K (some (vI (aO c n d.toNat))) (V, σ)) : Wp G 1 mH_afterOpen [vR a, vI d] (V, σ) 0 0 K := by
  have hH := hH
  obtain ⟨hc, hW, hA⟩ := h
  have hD4 := hc.1
  have hP2 := hc.2.1
  have v0 : V a 0 = dN c := hW.1
  have v1 : V a 1 = pN c := hW.2.1
  have e13 : V a 13 = n := hA.1
  have e7 : V a 7 = lst c n := hA.2.2.1
  have e4 : V (a + 4) d.toNat = wB c (pN c + d.toNat) := (hW.2.2.2.2.2.2.2.2.2.2.1 _ (by omega)).2
  have hl := lst_lt hn
  have hs := spc_le hc
  have w1 := wB_le hc (i := pN c + d.toNat) (by omega)
  have m1 : ((lst c n + 1) * wB c (pN c + d.toNat) : Nat) ≤ 4 * 15625 := Nat.mul_le_mul (by omega) w1
  have e : (V a 7 + 1) * V (a + 4) d.toNat = ((lst c n + 1) * wB c (pN c + d.toNat) : Nat) := by rw [e7, e4]; simp
  refine wp_intro mH_afterOpen_i.1 [some (vR a), some (vI d)] rfl rfl (Nat.le_of_ble_eq_true rfl) ?_
  intro X hG F C
  have hm := C.rm
  refine aw_aload_0 (q := 1) F dH_afterOpen_0 rfl ?_
  refine aw_iload_1 (q := 2) F dH_afterOpen_1 rfl ?_
  refine av_callV1 (q := 5) (ci := 2) F hm mH_isDoor_i mH_isDoor_n lH_88 dH_afterOpen_2 rfl rfl rfl (by first | exact hH.o | exact hH.a1 | exact hH.a2 | exact hH.a3 | exact hH.a4 | exact hH.a5 | exact hH) (by decide) (Nat.le_refl _) (Nat.le_refl _) (Nat.le_of_ble_eq_true rfl) (wH_isDoor hH (fun c2 => ?_) (fun c2 => ?_))
  · refine aw_if_eq (q := 8) (t := 29) F dH_afterOpen_5 rfl (by decide) (fun c5 => absurd c5 (by decide)) (fun c5 => ?_)
    refine aw_aload_0 (q := 9) F dH_afterOpen_8 rfl ?_
    refine av_geti (q := 12) F fH_73 dH_afterOpen_9 rfl rfl (by first | exact hH.o | exact hH.a1 | exact hH.a2 | exact hH.a3 | exact hH.a4 | exact hH.a5 | exact hH) ?_
    refine aw_aload_0 (q := 13) F dH_afterOpen_12 rfl ?_
    refine av_geti (q := 16) F fH_87 dH_afterOpen_13 rfl rfl (by first | exact hH.o | exact hH.a1 | exact hH.a2 | exact hH.a3 | exact hH.a4 | exact hH.a5 | exact hH) ?_
    refine aw_iconst (q := 17) F dH_afterOpen_16 rfl (by decide) ?_
    refine aw_iadd (q := 18) F dH_afterOpen_17 rfl (by constructor <;> omega) ?_
    refine aw_aload_0 (q := 19) F dH_afterOpen_18 rfl ?_
    refine av_getaE (q := 22) F fH_28 dH_afterOpen_19 rfl rfl (by first | exact hH.o | exact hH.a1 | exact hH.a2 | exact hH.a3 | exact hH.a4 | exact hH.a5 | exact hH) hH.p16 ?_
    refine aw_iload_1 (q := 23) F dH_afterOpen_22 rfl ?_
    refine av_iaload (q := 24) F dH_afterOpen_23 rfl (by first | exact hH.o | exact hH.a1 | exact hH.a2 | exact hH.a3 | exact hH.a4 | exact hH.a5 | exact hH) (by omega) (by omega) ?_
    refine aw_imul (q := 25) F dH_afterOpen_24 rfl (by rw [e]; constructor <;> omega) ?_
    refine aw_iadd (q := 26) F dH_afterOpen_25 rfl (by rw [e]; constructor <;> omega) ?_
    refine aw_goto (t := 33) F dH_afterOpen_26 (by decide) ?_
    refine aw_iret F C dH_afterOpen_33 rfl (Nat.le_refl _) (Nat.le_refl _) ?_
    first | omega | (refine kI hK ?_; rw [e, e13]; unfold aO; omega)
  · refine aw_if_eq (q := 8) (t := 29) F dH_afterOpen_5 rfl (by decide) (fun c5 => ?_) (fun c5 => absurd c5 (by decide))
    refine aw_aload_0 (q := 30) F dH_afterOpen_29 rfl ?_
    refine av_geti (q := 33) F fH_73 dH_afterOpen_30 rfl rfl (by first | exact hH.o | exact hH.a1 | exact hH.a2 | exact hH.a3 | exact hH.a4 | exact hH.a5 | exact hH) ?_
    refine aw_iret F C dH_afterOpen_33 rfl (Nat.le_refl _) (Nat.le_refl _) ?_
    first | omega | (refine kI hK ?_; rw [e, e13]; unfold aO; omega)
theorem wH_afterShut {d : Int} (hd : 0 ≤ d ∧ d < dN c) (hn : n < spc c) (hH : hS σ a) (h : HH V a c n) (hK : K (some (vI (aS c n d.toNat))) (V, σ)) : Wp G 1 mH_afterShut [vR a, vI d] (V, σ) 0 0 K := by
  have hh := h
  have hH := hH
  obtain ⟨hc, hW, hA⟩ := h
  have hD4 := hc.1
  have hP2 := hc.2.1
  have v0 : V a 0 = dN c := hW.1
  have v1 : V a 1 = pN c := hW.2.1
  have e13 : V a 13 = n := hA.1
  have hl := lst_lt hn
  have hs := spc_le hc
  obtain ⟨-, -, o3, o4⟩ := shI_bd (n := n) (d := d.toNat) hc (by omega) hl
  have e := aS_int (n := n) (d := d.toNat) (c := c) (by omega)
  refine wp_intro mH_afterShut_i.1 [some (vR a), some (vI d)] rfl rfl (Nat.le_of_ble_eq_true rfl) ?_
  intro X hG F C
  have hm := C.rm
  refine aw_aload_0 (q := 1) F dH_afterShut_0 rfl ?_
  refine aw_iload_1 (q := 2) F dH_afterShut_1 rfl ?_
  refine av_callV1 (q := 5) (ci := 2) F hm mH_isDoor_i mH_isDoor_n lH_88 dH_afterShut_2 rfl rfl rfl (by first | exact hH.o | exact hH.a1 | exact hH.a2 | exact hH.a3 | exact hH.a4 | exact hH.a5 | exact hH) (by decide) (Nat.le_refl _) (Nat.le_refl _) (Nat.le_of_ble_eq_true rfl) (wH_isDoor hH (fun c2 => ?_) (fun c2 => ?_))
  · refine aw_if_eq (q := 8) (t := 21) F dH_afterShut_5 rfl (by decide) (fun c5 => absurd c5 (by decide)) (fun c5 => ?_)
    refine aw_aload_0 (q := 9) F dH_afterShut_8 rfl ?_
    refine av_geti (q := 12) F fH_73 dH_afterShut_9 rfl rfl (by first | exact hH.o | exact hH.a1 | exact hH.a2 | exact hH.a3 | exact hH.a4 | exact hH.a5 | exact hH) ?_
    refine aw_aload_0 (q := 13) F dH_afterShut_12 rfl ?_
    refine aw_iload_1 (q := 14) F dH_afterShut_13 rfl ?_
    refine av_callV1 (q := 17) (ci := 2) F hm mH_shutting_i mH_shutting_n lH_139 dH_afterShut_14 rfl rfl rfl (by first | exact hH.o | exact hH.a1 | exact hH.a2 | exact hH.a3 | exact hH.a4 | exact hH.a5 | exact hH) (by decide) (Nat.le_refl _) (Nat.le_refl _) (Nat.le_of_ble_eq_true rfl) (wH_shutting hd hl hH hh ?_)
    refine aw_iadd (q := 18) F dH_afterShut_17 rfl (by constructor <;> omega) ?_
    refine aw_goto (t := 25) F dH_afterShut_18 (by decide) ?_
    refine aw_iret F C dH_afterShut_25 rfl (Nat.le_refl _) (Nat.le_refl _) ?_
    first | omega | (refine kI hK ?_; rw [e13, e])
  · refine aw_if_eq (q := 8) (t := 21) F dH_afterShut_5 rfl (by decide) (fun c5 => ?_) (fun c5 => absurd c5 (by decide))
    refine aw_aload_0 (q := 22) F dH_afterShut_21 rfl ?_
    refine av_geti (q := 25) F fH_73 dH_afterShut_22 rfl rfl (by first | exact hH.o | exact hH.a1 | exact hH.a2 | exact hH.a3 | exact hH.a4 | exact hH.a5 | exact hH) ?_
    refine aw_iret F C dH_afterShut_25 rfl (Nat.le_refl _) (Nat.le_refl _) ?_
    first | omega | (refine kI hK ?_; rw [e13, e])
theorem wH_afterGo {p d : Int} (hp : 0 ≤ p ∧ p < pN c) (hd : 0 ≤ d ∧ d < dN c) (hn : n < spc c) (hH : hS σ a) (h : HH V a c n) (hK : K (some (vI (aG c n p.toNat d.toNat))) (V, σ)) : Wp G 1 mH_afterGo [vR a, vI p, vI d] (V, σ) 0 0 K := by
  have hh := h
  have hH := hH
  obtain ⟨hc, hW, hA⟩ := h
  have hD4 := hc.1
  have hP2 := hc.2.1
  have v0 : V a 0 = dN c := hW.1
  have v1 : V a 1 = pN c := hW.2.1
  have e13 : V a 13 = n := hA.1
  have hl := lst_lt hn
  have hs := spc_le hc
  obtain ⟨-, -, o3, o4⟩ := shI_bd (n := n) (d := d.toNat) hc (by omega) hl
  obtain ⟨g1, g2, g3⟩ := aG_int (n := n) (p := p.toNat) (d := d.toNat) (c := c) (by omega) (by omega)
  have e3 : V (a + 3) p.toNat = pl c n p.toNat := hA.2.2.2.2 _ (by omega)
  have e2 : V (a + 2) d.toNat = ld c n d.toNat := hA.2.2.2.1 _ (by omega)
  have e1 : V (a + 1) d.toNat = kdC c d.toNat := (hW.2.2.2.2.2.2.2.2.2.2.1 _ (by omega)).1
  have e5 : V (a + 5) p.toNat = wB c p.toNat := hW.2.2.2.2.2.2.2.2.2.2.2 _ (by omega)
  have w1 := wB_le hc (i := p.toNat) (by omega)
  have l1 := ld_lt c n d.toNat
  have l2 := pl_lt c n p.toNat
  have b5 := Bs_le hc
  have glt := aG1_lt (d := d.toNat) hn (show p.toNat < pN c by omega)
  have m1 : (ld c n d.toNat * wB c p.toNat : Nat) ≤ 4 * 15625 := Nat.mul_le_mul (by omega) w1
  have m2 : (pl c n p.toNat * wB c p.toNat : Nat) ≤ 4 * 15625 := Nat.mul_le_mul (by omega) w1
  have f1 : V (a + 2) d.toNat * V (a + 5) p.toNat = (ld c n d.toNat * wB c p.toNat : Nat) := by rw [e2, e5]; simp
  have f2 : -V (a + 3) p.toNat * V (a + 5) p.toNat = -((pl c n p.toNat * wB c p.toNat : Nat) : Int) := by rw [e3, e5]; simp [Int.neg_mul]
  have k1 : pl c n p.toNat = 0 → V a 13 + V (a + 2) d.toNat * V (a + 5) p.toNat = aG1 c n p.toNat d.toNat := fun q => by rw [if_pos q] at g1; rw [e13, e2, e5]; exact g1
  have k2 : pl c n p.toNat ≠ 0 → V a 13 + -V (a + 3) p.toNat * V (a + 5) p.toNat = aG1 c n p.toNat d.toNat := fun q => by rw [if_neg q] at g1; rw [e13, e3, e5]; exact g1
  refine wp_intro mH_afterGo_i.1 [some (vR a), some (vI p), some (vI d), none] rfl rfl (Nat.le_of_ble_eq_true rfl) ?_
  intro X hG F C
  have hm := C.rm
  refine aw_aload_0 (q := 1) F dH_afterGo_0 rfl ?_
  refine aw_iload_1 (q := 2) F dH_afterGo_1 rfl ?_
  refine av_callV1 (q := 5) (ci := 2) F hm mH_isPerson_i mH_isPerson_n lH_92 dH_afterGo_2 rfl rfl rfl (by first | exact hH.o | exact hH.a1 | exact hH.a2 | exact hH.a3 | exact hH.a4 | exact hH.a5 | exact hH) (by decide) (Nat.le_refl _) (Nat.le_refl _) (Nat.le_of_ble_eq_true rfl) (wH_isPerson hH (fun c2 => ?_) (fun c2 => ?_))
  · refine aw_if_eq (q := 8) (t := 16) F dH_afterGo_5 rfl (by decide) (fun c5 => absurd c5 (by decide)) (fun c5 => ?_)
    refine aw_aload_0 (q := 9) F dH_afterGo_8 rfl ?_
    refine aw_iload_2 (q := 10) F dH_afterGo_9 rfl ?_
    refine av_callV1 (q := 13) (ci := 2) F hm mH_isDoor_i mH_isDoor_n lH_88 dH_afterGo_10 rfl rfl rfl (by first | exact hH.o | exact hH.a1 | exact hH.a2 | exact hH.a3 | exact hH.a4 | exact hH.a5 | exact hH) (by decide) (Nat.le_refl _) (Nat.le_refl _) (Nat.le_of_ble_eq_true rfl) (wH_isDoor hH (fun c10 => ?_) (fun c10 => ?_))
    · refine aw_if_ne (q := 16) (t := 21) F dH_afterGo_13 rfl (by decide) (fun c13 => ?_) (fun c13 => absurd c13 (by decide))
      refine aw_aload_0 (q := 22) F dH_afterGo_21 rfl ?_
      refine av_getaE (q := 25) F fH_25 dH_afterGo_22 rfl rfl (by first | exact hH.o | exact hH.a1 | exact hH.a2 | exact hH.a3 | exact hH.a4 | exact hH.a5 | exact hH) hH.p15 ?_
      refine aw_iload_1 (q := 26) F dH_afterGo_25 rfl ?_
      refine av_iaload (q := 27) F dH_afterGo_26 rfl (by first | exact hH.o | exact hH.a1 | exact hH.a2 | exact hH.a3 | exact hH.a4 | exact hH.a5 | exact hH) (by omega) (by omega) ?_
      refine aw_if_ne (q := 30) (t := 39) F dH_afterGo_27 rfl (by decide) (fun c27 => ?_) (fun c27 => ?_)
      · refine aw_aload_0 (q := 40) F dH_afterGo_39 rfl ?_
        refine av_getaE (q := 43) F fH_25 dH_afterGo_40 rfl rfl (by first | exact hH.o | exact hH.a1 | exact hH.a2 | exact hH.a3 | exact hH.a4 | exact hH.a5 | exact hH) hH.p15 ?_
        refine aw_iload_1 (q := 44) F dH_afterGo_43 rfl ?_
        refine av_iaload (q := 45) F dH_afterGo_44 rfl (by first | exact hH.o | exact hH.a1 | exact hH.a2 | exact hH.a3 | exact hH.a4 | exact hH.a5 | exact hH) (by omega) (by omega) ?_
        refine aw_ineg (q := 46) F dH_afterGo_45 rfl (by constructor <;> omega) ?_
        refine aw_aload_0 (q := 47) F dH_afterGo_46 rfl ?_
        refine av_getaE (q := 50) F fH_31 dH_afterGo_47 rfl rfl (by first | exact hH.o | exact hH.a1 | exact hH.a2 | exact hH.a3 | exact hH.a4 | exact hH.a5 | exact hH) hH.p17 ?_
        refine aw_iload_1 (q := 51) F dH_afterGo_50 rfl ?_
        refine av_iaload (q := 52) F dH_afterGo_51 rfl (by first | exact hH.o | exact hH.a1 | exact hH.a2 | exact hH.a3 | exact hH.a4 | exact hH.a5 | exact hH) (by omega) (by omega) ?_
        refine aw_imul (q := 53) F dH_afterGo_52 rfl (by first | (rw [f1]; constructor <;> omega) | (rw [f2]; constructor <;> omega)) ?_
        refine aw_istore_3 (q := 54) F dH_afterGo_53 rfl trivial ?_
        refine aw_aload_0 (q := 55) F dH_afterGo_54 rfl ?_
        refine av_geti (q := 58) F fH_73 dH_afterGo_55 rfl rfl (by first | exact hH.o | exact hH.a1 | exact hH.a2 | exact hH.a3 | exact hH.a4 | exact hH.a5 | exact hH) ?_
        refine aw_iload_3 (q := 59) F dH_afterGo_58 rfl ?_
        refine aw_iadd (q := 60) F dH_afterGo_59 rfl (by first | (rw [f1]; constructor <;> omega) | (rw [f2]; constructor <;> omega)) ?_
        refine aw_aload_0 (q := 61) F dH_afterGo_60 rfl ?_
        refine av_getaE (q := 64) F fH_18 dH_afterGo_61 rfl rfl (by first | exact hH.o | exact hH.a1 | exact hH.a2 | exact hH.a3 | exact hH.a4 | exact hH.a5 | exact hH) hH.p8 ?_
        refine aw_iload_2 (q := 65) F dH_afterGo_64 rfl ?_
        refine av_iaload (q := 66) F dH_afterGo_65 rfl (by first | exact hH.o | exact hH.a1 | exact hH.a2 | exact hH.a3 | exact hH.a4 | exact hH.a5 | exact hH) (by omega) (by omega) ?_
        refine aw_iconst (q := 67) F dH_afterGo_66 rfl (by decide) ?_
        refine aw_icmp_ne (q := 70) (t := 78) F dH_afterGo_67 rfl (by decide) (fun c67 => ?_) (fun c67 => ?_)
        · refine aw_iconst (q := 79) F dH_afterGo_78 rfl (by decide) ?_
          refine aw_iadd (q := 80) F dH_afterGo_79 rfl (by first | (rw [k1 (by omega)]; constructor <;> omega) | (rw [k2 (by omega)]; constructor <;> omega)) ?_
          refine aw_iret F C dH_afterGo_80 rfl (Nat.le_refl _) (Nat.le_refl _) ?_
          refine kI hK ?_
          first | rw [k1 (by omega)] | rw [k2 (by omega)]
          first | (have := g2 (by omega); omega) | (have := g3 (by omega); omega)
        · refine aw_aload_0 (q := 71) F dH_afterGo_70 rfl ?_
          refine aw_iload_2 (q := 72) F dH_afterGo_71 rfl ?_
          refine av_callV1 (q := 75) (ci := 2) F hm mH_shutting_i mH_shutting_n lH_139 dH_afterGo_72 rfl rfl rfl (by first | exact hH.o | exact hH.a1 | exact hH.a2 | exact hH.a3 | exact hH.a4 | exact hH.a5 | exact hH) (by decide) (Nat.le_refl _) (Nat.le_refl _) (Nat.le_of_ble_eq_true rfl) (wH_shutting hd hl hH hh ?_)
          refine aw_goto (t := 79) F dH_afterGo_75 (by decide) ?_
          refine aw_iadd (q := 80) F dH_afterGo_79 rfl (by first | (rw [k1 (by omega)]; constructor <;> omega) | (rw [k2 (by omega)]; constructor <;> omega)) ?_
          refine aw_iret F C dH_afterGo_80 rfl (Nat.le_refl _) (Nat.le_refl _) ?_
          refine kI hK ?_
          first | rw [k1 (by omega)] | rw [k2 (by omega)]
          first | (have := g2 (by omega); omega) | (have := g3 (by omega); omega)
      · refine aw_aload_0 (q := 31) F dH_afterGo_30 rfl ?_
        refine av_getaE (q := 34) F fH_22 dH_afterGo_31 rfl rfl (by first | exact hH.o | exact hH.a1 | exact hH.a2 | exact hH.a3 | exact hH.a4 | exact hH.a5 | exact hH) hH.p14 ?_
        refine aw_iload_2 (q := 35) F dH_afterGo_34 rfl ?_
        refine av_iaload (q := 36) F dH_afterGo_35 rfl (by first | exact hH.o | exact hH.a1 | exact hH.a2 | exact hH.a3 | exact hH.a4 | exact hH.a5 | exact hH) (by omega) (by omega) ?_
        refine aw_goto (t := 46) F dH_afterGo_36 (by decide) ?_
        refine aw_aload_0 (q := 47) F dH_afterGo_46 rfl ?_
        refine av_getaE (q := 50) F fH_31 dH_afterGo_47 rfl rfl (by first | exact hH.o | exact hH.a1 | exact hH.a2 | exact hH.a3 | exact hH.a4 | exact hH.a5 | exact hH) hH.p17 ?_
        refine aw_iload_1 (q := 51) F dH_afterGo_50 rfl ?_
        refine av_iaload (q := 52) F dH_afterGo_51 rfl (by first | exact hH.o | exact hH.a1 | exact hH.a2 | exact hH.a3 | exact hH.a4 | exact hH.a5 | exact hH) (by omega) (by omega) ?_
        refine aw_imul (q := 53) F dH_afterGo_52 rfl (by first | (rw [f1]; constructor <;> omega) | (rw [f2]; constructor <;> omega)) ?_
        refine aw_istore_3 (q := 54) F dH_afterGo_53 rfl trivial ?_
        refine aw_aload_0 (q := 55) F dH_afterGo_54 rfl ?_
        refine av_geti (q := 58) F fH_73 dH_afterGo_55 rfl rfl (by first | exact hH.o | exact hH.a1 | exact hH.a2 | exact hH.a3 | exact hH.a4 | exact hH.a5 | exact hH) ?_
        refine aw_iload_3 (q := 59) F dH_afterGo_58 rfl ?_
        refine aw_iadd (q := 60) F dH_afterGo_59 rfl (by first | (rw [f1]; constructor <;> omega) | (rw [f2]; constructor <;> omega)) ?_
        refine aw_aload_0 (q := 61) F dH_afterGo_60 rfl ?_
        refine av_getaE (q := 64) F fH_18 dH_afterGo_61 rfl rfl (by first | exact hH.o | exact hH.a1 | exact hH.a2 | exact hH.a3 | exact hH.a4 | exact hH.a5 | exact hH) hH.p8 ?_
        refine aw_iload_2 (q := 65) F dH_afterGo_64 rfl ?_
        refine av_iaload (q := 66) F dH_afterGo_65 rfl (by first | exact hH.o | exact hH.a1 | exact hH.a2 | exact hH.a3 | exact hH.a4 | exact hH.a5 | exact hH) (by omega) (by omega) ?_
        refine aw_iconst (q := 67) F dH_afterGo_66 rfl (by decide) ?_
        refine aw_icmp_ne (q := 70) (t := 78) F dH_afterGo_67 rfl (by decide) (fun c67 => ?_) (fun c67 => ?_)
        · refine aw_iconst (q := 79) F dH_afterGo_78 rfl (by decide) ?_
          refine aw_iadd (q := 80) F dH_afterGo_79 rfl (by first | (rw [k1 (by omega)]; constructor <;> omega) | (rw [k2 (by omega)]; constructor <;> omega)) ?_
          refine aw_iret F C dH_afterGo_80 rfl (Nat.le_refl _) (Nat.le_refl _) ?_
          refine kI hK ?_
          first | rw [k1 (by omega)] | rw [k2 (by omega)]
          first | (have := g2 (by omega); omega) | (have := g3 (by omega); omega)
        · refine aw_aload_0 (q := 71) F dH_afterGo_70 rfl ?_
          refine aw_iload_2 (q := 72) F dH_afterGo_71 rfl ?_
          refine av_callV1 (q := 75) (ci := 2) F hm mH_shutting_i mH_shutting_n lH_139 dH_afterGo_72 rfl rfl rfl (by first | exact hH.o | exact hH.a1 | exact hH.a2 | exact hH.a3 | exact hH.a4 | exact hH.a5 | exact hH) (by decide) (Nat.le_refl _) (Nat.le_refl _) (Nat.le_of_ble_eq_true rfl) (wH_shutting hd hl hH hh ?_)
          refine aw_goto (t := 79) F dH_afterGo_75 (by decide) ?_
          refine aw_iadd (q := 80) F dH_afterGo_79 rfl (by first | (rw [k1 (by omega)]; constructor <;> omega) | (rw [k2 (by omega)]; constructor <;> omega)) ?_
          refine aw_iret F C dH_afterGo_80 rfl (Nat.le_refl _) (Nat.le_refl _) ?_
          refine kI hK ?_
          first | rw [k1 (by omega)] | rw [k2 (by omega)]
          first | (have := g2 (by omega); omega) | (have := g3 (by omega); omega)
    · refine aw_if_ne (q := 16) (t := 21) F dH_afterGo_13 rfl (by decide) (fun c13 => absurd c13 (by decide)) (fun c13 => ?_)
      refine aw_aload_0 (q := 17) F dH_afterGo_16 rfl ?_
      refine av_geti (q := 20) F fH_73 dH_afterGo_17 rfl rfl (by first | exact hH.o | exact hH.a1 | exact hH.a2 | exact hH.a3 | exact hH.a4 | exact hH.a5 | exact hH) ?_
      refine aw_iret F C dH_afterGo_20 rfl (Nat.le_refl _) (Nat.le_refl _) ?_
      omega
  · refine aw_if_eq (q := 8) (t := 16) F dH_afterGo_5 rfl (by decide) (fun c5 => ?_) (fun c5 => absurd c5 (by decide))
    refine aw_aload_0 (q := 17) F dH_afterGo_16 rfl ?_
    refine av_geti (q := 20) F fH_73 dH_afterGo_17 rfl rfl (by first | exact hH.o | exact hH.a1 | exact hH.a2 | exact hH.a3 | exact hH.a4 | exact hH.a5 | exact hH) ?_
    refine aw_iret F C dH_afterGo_20 rfl (Nat.le_refl _) (Nat.le_refl _) ?_
    omega
theorem divmod_lt {s D R : Nat} (h : s < D * R) : 0 < D ∧ s % D < D ∧ s / D < R := by
  have hD : 0 < D := by rcases Nat.eq_zero_or_pos D with q | q; rw [q, Nat.zero_mul] at h; omega; exact q
  exact ⟨hD, Nat.mod_lt _ hD, Nat.div_lt_of_lt_mul h⟩
theorem tdm {s : Int} {D : Nat} (h0 : 0 ≤ s) : s / (D : Int) = (s.toNat / D : Nat) ∧ s % (D : Int) = (s.toNat % D : Nat) := by
  obtain ⟨n, rfl⟩ := Int.eq_ofNat_of_zero_le h0
  simp
theorem wH_may {s t : Int} {th : Nat} (ht : t = th) (ht4 : th < 4) (hH : hS σ a) (h : HH V a c n) (h1 : 0 ≤ s → s < stN c → mayN c n th s.toNat = true → K (some (vI 1)) (V, σ)) (h0 : (0 ≤ s → s < stN c → mayN c n th s.toNat = false) → K (some (vI 0)) (V, σ)) : Wp G 2 mH_may [vR a, vI s, vI t] (V, σ) 0 0 K := by
  have hh := h
  have hH := hH
  obtain ⟨hc, hW, hA⟩ := h
  have hD4 := hc.1
  have hP2 := hc.2.1
  have v0 : V a 0 = dN c := hW.1
  have v1 : V a 1 = pN c := hW.2.1
  have v2 : V a 2 = stN c := hW.2.2.1
  by_cases hr : 0 ≤ s ∧ s < stN c
  · obtain ⟨hD, hm1, hm2⟩ := divmod_lt (s := s.toNat) (D := dN c) (R := 2 + pN c) (by have : stN c = dN c * (2 + pN c) := rfl; omega)
    obtain ⟨q1, q2⟩ := tdm (D := dN c) hr.1
    have hN1 : (0 ≤ s → s < stN c → mayN c n th s.toNat = false) = (mayN c n th s.toNat = false) := by simp [hr.1, hr.2]
    rw [hN1] at h0
    have h1 := h1 hr.1 hr.2
    unfold mayN at h1 h0
    generalize s.toNat / dN c = row at *
    generalize s.toNat % dN c = dd at *
    have hb : 2 ≤ row → zand (zshr t ((row : Int) - 2)) 1 = if th.testBit (row - 2) then 1 else 0 := fun q => by
      rw [ht, bit_z (by omega) (by omega) (by omega), show ((row : Int) - 2).toNat = row - 2 by omega]
    have hg : ∀ x : Int, x = row → 2 ≤ row → (x - 2).toNat = row - 2 := fun x q1 q2 => by omega
    refine wp_intro mH_may_i.1 [some (vR a), some (vI s), some (vI t), none, none, none] rfl rfl (Nat.le_of_ble_eq_true rfl) ?_
    intro X hG F C
    have hm := C.rm
    refine aw_aload_0 (q := 1) F dH_may_0 rfl ?_
    refine aw_iload_1 (q := 2) F dH_may_1 rfl ?_
    refine av_callV1 (q := 5) (ci := 2) F hm mH_isStep_i mH_isStep_n lH_109 dH_may_2 rfl rfl rfl (by first | exact hH.o | exact hH.a1 | exact hH.a2 | exact hH.a3 | exact hH.a4 | exact hH.a5 | exact hH) (by decide) (Nat.le_refl _) (Nat.le_refl _) (Nat.le_of_ble_eq_true rfl) (wH_isStep hH (fun c2 => ?_) (fun c2 => ?_))
    · refine aw_if_eq (q := 8) (t := 15) F dH_may_5 rfl (by decide) (fun c5 => absurd c5 (by decide)) (fun c5 => ?_)
      refine aw_aload_0 (q := 9) F dH_may_8 rfl ?_
      refine av_geti (q := 12) F fH_45 dH_may_9 rfl rfl (by first | exact hH.o | exact hH.a1 | exact hH.a2 | exact hH.a3 | exact hH.a4 | exact hH.a5 | exact hH) ?_
      refine aw_if_gt (q := 15) (t := 17) F dH_may_12 rfl (by decide) (fun c12 => ?_) (fun c12 => by omega)
      refine aw_iload_1 (q := 18) F dH_may_17 rfl ?_
      refine aw_aload_0 (q := 19) F dH_may_18 rfl ?_
      refine av_geti (q := 22) F fH_45 dH_may_19 rfl rfl (by first | exact hH.o | exact hH.a1 | exact hH.a2 | exact hH.a3 | exact hH.a4 | exact hH.a5 | exact hH) ?_
      refine aw_idiv (q := 23) F dH_may_22 rfl (by omega) (by omega) ?_
      rw [v0, q1]
      refine aw_istore_3 (q := 24) F dH_may_23 rfl trivial ?_
      refine aw_iload_1 (q := 25) F dH_may_24 rfl ?_
      refine aw_aload_0 (q := 26) F dH_may_25 rfl ?_
      refine av_geti (q := 29) F fH_45 dH_may_26 rfl rfl (by first | exact hH.o | exact hH.a1 | exact hH.a2 | exact hH.a3 | exact hH.a4 | exact hH.a5 | exact hH) ?_
      refine aw_irem (q := 30) F dH_may_29 rfl (by omega) (by omega) ?_
      rw [v0, q2]
      refine aw_istore_4 (q := 32) F dH_may_30 rfl trivial ?_
      refine aw_iload_3 (q := 33) F dH_may_32 rfl ?_
      refine aw_if_ne (q := 36) (t := 44) F dH_may_33 rfl (by decide) (fun c33 => ?_) (fun c33 => ?_)
      · refine aw_iload_3 (q := 45) F dH_may_44 rfl ?_
        refine aw_iconst (q := 46) F dH_may_45 rfl (by decide) ?_
        refine aw_icmp_ne (q := 49) (t := 57) F dH_may_46 rfl (by decide) (fun c46 => ?_) (fun c46 => ?_)
        · refine aw_iload_3 (q := 58) F dH_may_57 rfl ?_
          refine aw_iconst (q := 59) F dH_may_58 rfl (by decide) ?_
          refine aw_isub (q := 60) F dH_may_59 rfl (by constructor <;> omega) ?_
          refine aw_istore_5 (q := 62) F dH_may_60 rfl trivial ?_
          refine aw_iload_2 (q := 63) F dH_may_62 rfl ?_
          refine aw_iload_5 (q := 65) F dH_may_63 rfl ?_
          refine aw_ishr (q := 66) F dH_may_65 rfl ?_
          refine aw_iconst (q := 67) F dH_may_66 rfl (by decide) ?_
          refine aw_iand (q := 68) F dH_may_67 rfl ?_
          refine aw_if_eq (q := 71) (t := 86) F dH_may_68 rfl (by decide) (fun c68 => ?_) (fun c68 => ?_)
          · refine aw_iconst (q := 87) F dH_may_86 rfl (by decide) ?_
            refine aw_zret F C dH_may_87 rfl (by decide) (Nat.le_refl _) (Nat.le_refl _) ?_
            refine h0 ?_; rw [if_neg (by omega), if_neg (by omega)]; have hb := hb (by omega); cases hbb : th.testBit (row - 2) <;> rw [hbb] at hb <;> simp at hb <;> first | rfl | omega | (have := z76 (by omega) (by omega) (by omega) (by omega); rw [hg _ rfl (by omega), Int.toNat_natCast] at this; rw [this]; rfl)
          · refine aw_aload_0 (q := 72) F dH_may_71 rfl ?_
            refine aw_iload_5 (q := 74) F dH_may_72 rfl ?_
            refine aw_iload_4 (q := 76) F dH_may_74 rfl ?_
            refine av_callV2 (q := 79) (ci := 2) F hm mH_mayGo_i mH_mayGo_n lH_118 dH_may_76 rfl rfl rfl (by first | exact hH.o | exact hH.a1 | exact hH.a2 | exact hH.a3 | exact hH.a4 | exact hH.a5 | exact hH) (by decide) (Nat.le_refl _) (Nat.le_refl _) (Nat.le_of_ble_eq_true rfl) (wH_mayGo hH hh (fun x76 y76 u76 v76 z76 => ?_) (fun z76 => ?_))
            · refine aw_if_eq (q := 82) (t := 86) F dH_may_79 rfl (by decide) (fun c79 => absurd c79 (by decide)) (fun c79 => ?_)
              refine aw_iconst (q := 83) F dH_may_82 rfl (by decide) ?_
              refine aw_goto (t := 87) F dH_may_83 (by decide) ?_
              refine aw_zret F C dH_may_87 rfl (by decide) (Nat.le_refl _) (Nat.le_refl _) ?_
              refine h1 ?_; rw [if_neg (by omega), if_neg (by omega)]; have hb := hb (by omega); rw [hg _ rfl (by omega), Int.toNat_natCast] at z76; rw [z76]; cases hbb : th.testBit (row - 2) <;> rw [hbb] at hb <;> simp at hb <;> first | rfl | omega
            · refine aw_if_eq (q := 82) (t := 86) F dH_may_79 rfl (by decide) (fun c79 => ?_) (fun c79 => absurd c79 (by decide))
              refine aw_iconst (q := 87) F dH_may_86 rfl (by decide) ?_
              refine aw_zret F C dH_may_87 rfl (by decide) (Nat.le_refl _) (Nat.le_refl _) ?_
              refine h0 ?_; rw [if_neg (by omega), if_neg (by omega)]; have hb := hb (by omega); cases hbb : th.testBit (row - 2) <;> rw [hbb] at hb <;> simp at hb <;> first | rfl | omega | (have := z76 (by omega) (by omega) (by omega) (by omega); rw [hg _ rfl (by omega), Int.toNat_natCast] at this; rw [this]; rfl)
        · refine aw_aload_0 (q := 50) F dH_may_49 rfl ?_
          refine aw_iload_4 (q := 52) F dH_may_50 rfl ?_
          refine aw_iload_2 (q := 53) F dH_may_52 rfl ?_
          refine av_callV2 (q := 56) (ci := 2) F hm mH_mayShut_i mH_mayShut_n lH_115 dH_may_53 rfl rfl rfl (by first | exact hH.o | exact hH.a1 | exact hH.a2 | exact hH.a3 | exact hH.a4 | exact hH.a5 | exact hH) (by decide) (Nat.le_refl _) (Nat.le_refl _) (Nat.le_of_ble_eq_true rfl) (wH_mayShut ht ht4 hH hh (fun x53 y53 z53 => ?_) (fun z53 => ?_))
          · refine aw_zret F C dH_may_56 rfl (by decide) (Nat.le_refl _) (Nat.le_refl _) ?_
            refine h1 ?_; rw [if_neg (by omega), if_pos (by omega)]; exact z53
          · refine aw_zret F C dH_may_56 rfl (by decide) (Nat.le_refl _) (Nat.le_refl _) ?_
            refine h0 ?_; rw [if_neg (by omega), if_pos (by omega)]; exact z53 (by omega) (by omega)
      · refine aw_aload_0 (q := 37) F dH_may_36 rfl ?_
        refine aw_iload_4 (q := 39) F dH_may_37 rfl ?_
        refine aw_iload_2 (q := 40) F dH_may_39 rfl ?_
        refine av_callV2 (q := 43) (ci := 2) F hm mH_mayOpen_i mH_mayOpen_n lH_112 dH_may_40 rfl rfl rfl (by first | exact hH.o | exact hH.a1 | exact hH.a2 | exact hH.a3 | exact hH.a4 | exact hH.a5 | exact hH) (by decide) (Nat.le_refl _) (Nat.le_refl _) (Nat.le_of_ble_eq_true rfl) (wH_mayOpen ht ht4 hH hh (fun x40 y40 z40 => ?_) (fun z40 => ?_))
        · refine aw_zret F C dH_may_43 rfl (by decide) (Nat.le_refl _) (Nat.le_refl _) ?_
          refine h1 ?_; rw [if_pos (by omega)]; exact z40
        · refine aw_zret F C dH_may_43 rfl (by decide) (Nat.le_refl _) (Nat.le_refl _) ?_
          refine h0 ?_; rw [if_pos (by omega)]; exact z40 (by omega) (by omega)
    · refine aw_if_eq (q := 8) (t := 15) F dH_may_5 rfl (by decide) (fun c5 => ?_) (fun c5 => absurd c5 (by decide))
      refine aw_iconst (q := 16) F dH_may_15 rfl (by decide) ?_
      refine aw_zret F C dH_may_16 rfl (by decide) (Nat.le_refl _) (Nat.le_refl _) ?_
      omega
  · refine wp_intro mH_may_i.1 [some (vR a), some (vI s), some (vI t), none, none, none] rfl rfl (Nat.le_of_ble_eq_true rfl) ?_
    intro X hG F C
    have hm := C.rm
    refine aw_aload_0 (q := 1) F dH_may_0 rfl ?_
    refine aw_iload_1 (q := 2) F dH_may_1 rfl ?_
    refine av_callV1 (q := 5) (ci := 2) F hm mH_isStep_i mH_isStep_n lH_109 dH_may_2 rfl rfl rfl hH.o (by decide) (Nat.le_refl _) (Nat.le_refl _) (Nat.le_of_ble_eq_true rfl) (wH_isStep hH (fun c2 => absurd c2 (by omega)) (fun c2 => ?_))
    refine aw_if_eq (q := 8) (t := 15) F dH_may_5 rfl (by decide) (fun c5 => ?_) (fun c5 => absurd rfl c5)
    refine aw_iconst (q := 16) F dH_may_15 rfl (by decide) ?_
    refine aw_zret F C dH_may_16 rfl (by decide) (Nat.le_refl _) (Nat.le_refl _) ?_
    exact h0 (fun x y => absurd ⟨x, y⟩ hr)
end Hall2
