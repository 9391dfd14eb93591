theorem dM_opens_0 : decode mM_opens.2.1 0 = .ok (.aload_n 0, 1) := by decide +kernel
theorem dM_opens_1 : decode mM_opens.2.1 1 = .ok (.getfield 21, 3) := by decide +kernel
theorem dM_opens_4 : decode mM_opens.2.1 4 = .ok (.iconst 2, 1) := by decide +kernel
theorem dM_opens_5 : decode mM_opens.2.1 5 = .ok (.iload_n 1, 1) := by decide +kernel
theorem dM_opens_6 : decode mM_opens.2.1 6 = .ok (.iadd, 1) := by decide +kernel
theorem dM_opens_7 : decode mM_opens.2.1 7 = .ok (.aload_n 0, 1) := by decide +kernel
theorem dM_opens_8 : decode mM_opens.2.1 8 = .ok (.getfield 21, 3) := by decide +kernel
theorem dM_opens_11 : decode mM_opens.2.1 11 = .ok (.bipush 6, 2) := by decide +kernel
theorem dM_opens_13 : decode mM_opens.2.1 13 = .ok (.iaload, 1) := by decide +kernel
theorem dM_opens_14 : decode mM_opens.2.1 14 = .ok (.iconst 1, 1) := by decide +kernel
theorem dM_opens_15 : decode mM_opens.2.1 15 = .ok (.iadd, 1) := by decide +kernel
theorem dM_opens_16 : decode mM_opens.2.1 16 = .ok (.iastore, 1) := by decide +kernel
theorem dM_opens_17 : decode mM_opens.2.1 17 = .ok (.return_, 1) := by decide +kernel
theorem dM_shuts_0 : decode mM_shuts.2.1 0 = .ok (.aload_n 0, 1) := by decide +kernel
theorem dM_shuts_1 : decode mM_shuts.2.1 1 = .ok (.getfield 21, 3) := by decide +kernel
theorem dM_shuts_4 : decode mM_shuts.2.1 4 = .ok (.iconst 2, 1) := by decide +kernel
theorem dM_shuts_5 : decode mM_shuts.2.1 5 = .ok (.iload_n 1, 1) := by decide +kernel
theorem dM_shuts_6 : decode mM_shuts.2.1 6 = .ok (.iadd, 1) := by decide +kernel
theorem dM_shuts_7 : decode mM_shuts.2.1 7 = .ok (.iconst 0, 1) := by decide +kernel
theorem dM_shuts_8 : decode mM_shuts.2.1 8 = .ok (.iastore, 1) := by decide +kernel
theorem dM_shuts_9 : decode mM_shuts.2.1 9 = .ok (.aload_n 0, 1) := by decide +kernel
theorem dM_shuts_10 : decode mM_shuts.2.1 10 = .ok (.getfield 21, 3) := by decide +kernel
theorem dM_shuts_13 : decode mM_shuts.2.1 13 = .ok (.bipush 6, 2) := by decide +kernel
theorem dM_shuts_15 : decode mM_shuts.2.1 15 = .ok (.iload_n 1, 1) := by decide +kernel
theorem dM_shuts_16 : decode mM_shuts.2.1 16 = .ok (.iastore, 1) := by decide +kernel
theorem dM_shuts_17 : decode mM_shuts.2.1 17 = .ok (.return_, 1) := by decide +kernel
theorem dM_goes_0 : decode mM_goes.2.1 0 = .ok (.aload_n 0, 1) := by decide +kernel
theorem dM_goes_1 : decode mM_goes.2.1 1 = .ok (.getfield 21, 3) := by decide +kernel
theorem dM_goes_4 : decode mM_goes.2.1 4 = .ok (.iload_n 1, 1) := by decide +kernel
theorem dM_goes_5 : decode mM_goes.2.1 5 = .ok (.aload_n 0, 1) := by decide +kernel
theorem dM_goes_6 : decode mM_goes.2.1 6 = .ok (.getfield 21, 3) := by decide +kernel
theorem dM_goes_9 : decode mM_goes.2.1 9 = .ok (.iload_n 1, 1) := by decide +kernel
theorem dM_goes_10 : decode mM_goes.2.1 10 = .ok (.iaload, 1) := by decide +kernel
theorem dM_goes_11 : decode mM_goes.2.1 11 = .ok (.ifCond .ne 14, 3) := by decide +kernel
theorem dM_goes_14 : decode mM_goes.2.1 14 = .ok (.aload_n 0, 1) := by decide +kernel
theorem dM_goes_15 : decode mM_goes.2.1 15 = .ok (.getfield 21, 3) := by decide +kernel
theorem dM_goes_18 : decode mM_goes.2.1 18 = .ok (.iconst 2, 1) := by decide +kernel
theorem dM_goes_19 : decode mM_goes.2.1 19 = .ok (.iload_n 2, 1) := by decide +kernel
theorem dM_goes_20 : decode mM_goes.2.1 20 = .ok (.iadd, 1) := by decide +kernel
theorem dM_goes_21 : decode mM_goes.2.1 21 = .ok (.iaload, 1) := by decide +kernel
theorem dM_goes_22 : decode mM_goes.2.1 22 = .ok (.goto 4, 3) := by decide +kernel
theorem dM_goes_25 : decode mM_goes.2.1 25 = .ok (.iconst 0, 1) := by decide +kernel
theorem dM_goes_26 : decode mM_goes.2.1 26 = .ok (.iastore, 1) := by decide +kernel
theorem dM_goes_27 : decode mM_goes.2.1 27 = .ok (.aload_n 0, 1) := by decide +kernel
theorem dM_goes_28 : decode mM_goes.2.1 28 = .ok (.getfield 21, 3) := by decide +kernel
theorem dM_goes_31 : decode mM_goes.2.1 31 = .ok (.bipush 7, 2) := by decide +kernel
theorem dM_goes_33 : decode mM_goes.2.1 33 = .ok (.iload_n 2, 1) := by decide +kernel
theorem dM_goes_34 : decode mM_goes.2.1 34 = .ok (.iadd, 1) := by decide +kernel
theorem dM_goes_35 : decode mM_goes.2.1 35 = .ok (.iaload, 1) := by decide +kernel
theorem dM_goes_36 : decode mM_goes.2.1 36 = .ok (.iconst 1, 1) := by decide +kernel
theorem dM_goes_37 : decode mM_goes.2.1 37 = .ok (.if_icmp .ne 8, 3) := by decide +kernel
theorem dM_goes_40 : decode mM_goes.2.1 40 = .ok (.aload_n 0, 1) := by decide +kernel
theorem dM_goes_41 : decode mM_goes.2.1 41 = .ok (.iload_n 2, 1) := by decide +kernel
theorem dM_goes_42 : decode mM_goes.2.1 42 = .ok (.invokevirtual 317, 3) := by decide +kernel
theorem dM_goes_45 : decode mM_goes.2.1 45 = .ok (.return_, 1) := by decide +kernel
theorem dM_steps_0 : decode mM_steps.2.1 0 = .ok (.iload_n 1, 1) := by decide +kernel
theorem dM_steps_1 : decode mM_steps.2.1 1 = .ok (.aload_n 0, 1) := by decide +kernel
theorem dM_steps_2 : decode mM_steps.2.1 2 = .ok (.getfield 281, 3) := by decide +kernel
theorem dM_steps_5 : decode mM_steps.2.1 5 = .ok (.getfield 183, 3) := by decide +kernel
theorem dM_steps_8 : decode mM_steps.2.1 8 = .ok (.irem, 1) := by decide +kernel
theorem dM_steps_9 : decode mM_steps.2.1 9 = .ok (.istore_n 2, 1) := by decide +kernel
theorem dM_steps_10 : decode mM_steps.2.1 10 = .ok (.iload_n 1, 1) := by decide +kernel
theorem dM_steps_11 : decode mM_steps.2.1 11 = .ok (.aload_n 0, 1) := by decide +kernel
theorem dM_steps_12 : decode mM_steps.2.1 12 = .ok (.getfield 281, 3) := by decide +kernel
theorem dM_steps_15 : decode mM_steps.2.1 15 = .ok (.getfield 183, 3) := by decide +kernel
theorem dM_steps_18 : decode mM_steps.2.1 18 = .ok (.idiv, 1) := by decide +kernel
theorem dM_steps_19 : decode mM_steps.2.1 19 = .ok (.istore_n 3, 1) := by decide +kernel
theorem dM_steps_20 : decode mM_steps.2.1 20 = .ok (.aload_n 0, 1) := by decide +kernel
theorem dM_steps_21 : decode mM_steps.2.1 21 = .ok (.getfield 21, 3) := by decide +kernel
theorem dM_steps_24 : decode mM_steps.2.1 24 = .ok (.iconst 2, 1) := by decide +kernel
theorem dM_steps_25 : decode mM_steps.2.1 25 = .ok (.iload_n 2, 1) := by decide +kernel
theorem dM_steps_26 : decode mM_steps.2.1 26 = .ok (.iadd, 1) := by decide +kernel
theorem dM_steps_27 : decode mM_steps.2.1 27 = .ok (.iaload, 1) := by decide +kernel
theorem dM_steps_28 : decode mM_steps.2.1 28 = .ok (.ifCond .le 7, 3) := by decide +kernel
theorem dM_steps_31 : decode mM_steps.2.1 31 = .ok (.iconst 1, 1) := by decide +kernel
theorem dM_steps_32 : decode mM_steps.2.1 32 = .ok (.goto 4, 3) := by decide +kernel
theorem dM_steps_35 : decode mM_steps.2.1 35 = .ok (.iconst 0, 1) := by decide +kernel
theorem dM_steps_36 : decode mM_steps.2.1 36 = .ok (.istore 4, 2) := by decide +kernel
theorem dM_steps_38 : decode mM_steps.2.1 38 = .ok (.iload_n 3, 1) := by decide +kernel
theorem dM_steps_39 : decode mM_steps.2.1 39 = .ok (.ifCond .ne 11, 3) := by decide +kernel
theorem dM_steps_42 : decode mM_steps.2.1 42 = .ok (.aload_n 0, 1) := by decide +kernel
theorem dM_steps_43 : decode mM_steps.2.1 43 = .ok (.iload_n 2, 1) := by decide +kernel
theorem dM_steps_44 : decode mM_steps.2.1 44 = .ok (.invokevirtual 320, 3) := by decide +kernel
theorem dM_steps_47 : decode mM_steps.2.1 47 = .ok (.goto 24, 3) := by decide +kernel
theorem dM_steps_50 : decode mM_steps.2.1 50 = .ok (.iload_n 3, 1) := by decide +kernel
theorem dM_steps_51 : decode mM_steps.2.1 51 = .ok (.iconst 1, 1) := by decide +kernel
theorem dM_steps_52 : decode mM_steps.2.1 52 = .ok (.if_icmp .ne 11, 3) := by decide +kernel
theorem dM_steps_55 : decode mM_steps.2.1 55 = .ok (.aload_n 0, 1) := by decide +kernel
theorem dM_steps_56 : decode mM_steps.2.1 56 = .ok (.iload_n 2, 1) := by decide +kernel
theorem dM_steps_57 : decode mM_steps.2.1 57 = .ok (.invokevirtual 317, 3) := by decide +kernel
theorem dM_steps_60 : decode mM_steps.2.1 60 = .ok (.goto 11, 3) := by decide +kernel
theorem dM_steps_63 : decode mM_steps.2.1 63 = .ok (.aload_n 0, 1) := by decide +kernel
theorem dM_steps_64 : decode mM_steps.2.1 64 = .ok (.iload_n 3, 1) := by decide +kernel
theorem dM_steps_65 : decode mM_steps.2.1 65 = .ok (.iconst 2, 1) := by decide +kernel
theorem dM_steps_66 : decode mM_steps.2.1 66 = .ok (.isub, 1) := by decide +kernel
theorem dM_steps_67 : decode mM_steps.2.1 67 = .ok (.iload_n 2, 1) := by decide +kernel
theorem dM_steps_68 : decode mM_steps.2.1 68 = .ok (.invokevirtual 323, 3) := by decide +kernel
theorem dM_steps_71 : decode mM_steps.2.1 71 = .ok (.iload 4, 2) := by decide +kernel
theorem dM_steps_73 : decode mM_steps.2.1 73 = .ok (.ifCond .eq 18, 3) := by decide +kernel
theorem dM_steps_76 : decode mM_steps.2.1 76 = .ok (.aload_n 0, 1) := by decide +kernel
theorem dM_steps_77 : decode mM_steps.2.1 77 = .ok (.getfield 21, 3) := by decide +kernel
theorem dM_steps_80 : decode mM_steps.2.1 80 = .ok (.iconst 2, 1) := by decide +kernel
theorem dM_steps_81 : decode mM_steps.2.1 81 = .ok (.iload_n 2, 1) := by decide +kernel
theorem dM_steps_82 : decode mM_steps.2.1 82 = .ok (.iadd, 1) := by decide +kernel
theorem dM_steps_83 : decode mM_steps.2.1 83 = .ok (.iaload, 1) := by decide +kernel
theorem dM_steps_84 : decode mM_steps.2.1 84 = .ok (.ifCond .ne 7, 3) := by decide +kernel
theorem dM_steps_87 : decode mM_steps.2.1 87 = .ok (.iconst 1, 1) := by decide +kernel
theorem dM_steps_88 : decode mM_steps.2.1 88 = .ok (.goto 4, 3) := by decide +kernel
theorem dM_steps_91 : decode mM_steps.2.1 91 = .ok (.iconst 0, 1) := by decide +kernel
theorem dM_steps_92 : decode mM_steps.2.1 92 = .ok (.ireturn, 1) := by decide +kernel
theorem dg_hi {B x v j k : Nat} (hB : 0 < B) (hj : j < k) : (x + v * B ^ k) / B ^ j % B = x / B ^ j % B := by
  obtain ⟨i, rfl⟩ : ∃ i, k = j + 1 + i := ⟨k - (j + 1), by omega⟩
  have hpj : 0 < B ^ j := Nat.pow_pos hB
  have e : v * B ^ (j + 1 + i) = (v * B ^ i * B) * B ^ j := by
    rw [Nat.pow_add, Nat.pow_succ]
    ac_rfl
  rw [e, Nat.add_mul_div_right _ _ hpj, Nat.add_mul_mod_self_right]
theorem aO_dig {c : Cfg} {n d : Nat} (hn : n < spc c) (hd : d < dN c) (h0 : ld c n d = 0) : (∀ j, j < pN c → pl c (aO c n d) j = pl c n j) ∧ (∀ e, ld c (aO c n d) e = if e = d then lst c n + 1 else ld c n e) ∧ lst c (aO c n d) = lst c n := by
  have hl := lst_lt hn
  have hs : n / Bs c ^ (pN c + d) % Bs c + (lst c n + 1) < Bs c := by rw [← dgL, h0]; unfold Bs; omega
  refine ⟨fun j hj => ?_, fun e => ?_, ?_⟩
  · show (n + (lst c n + 1) * Bs c ^ (pN c + d)) / Bs c ^ j % Bs c = n / Bs c ^ j % Bs c
    rw [dg_add hs, if_neg (by omega)]
  · show (n + (lst c n + 1) * Bs c ^ (pN c + d)) / Bs c ^ (pN c + e) % Bs c = _
    rw [dg_add hs]
    by_cases h : e = d
    · rw [if_pos (by omega), if_pos h, ← dgL, h0, Nat.zero_add]
    · rw [if_neg (by omega), if_neg h]; rfl
  · show (n + (lst c n + 1) * Bs c ^ (pN c + d)) / Bs c ^ (pN c + dN c) = _
    rw [hi_add hs (by omega)]
    rfl
theorem aS_dig {c : Cfg} {n d : Nat} (hd : d < dN c) : (∀ j, j < pN c → pl c (aS c n d) j = pl c n j) ∧ (∀ e, e < dN c → ld c (aS c n d) e = if e = d then 0 else ld c n e) := by
  have hB := Bs_pos c
  have key : ∀ j, j < pN c + dN c → aS c n d / Bs c ^ j % Bs c = if j = pN c + d then 0 else n / Bs c ^ j % Bs c := fun j hj => by
    have e1 := dg_sub' (n := n) (v := ld c n d) (i := pN c + d) hB (Nat.le_refl _) j
    have e0 : n / Bs c ^ (pN c + d) % Bs c - ld c n d = 0 := Nat.sub_self _
    rw [e0] at e1
    rw [← e1]
    show ((n - ld c n d * Bs c ^ (pN c + d)) % Bs c ^ (pN c + dN c) + d * Bs c ^ (pN c + dN c)) / Bs c ^ j % Bs c = _
    rw [dg_hi hB hj]
    generalize n - ld c n d * Bs c ^ (pN c + d) = m
    have e2 := dg_hi (x := m % Bs c ^ (pN c + dN c)) (v := m / Bs c ^ (pN c + dN c)) hB hj
    rw [Nat.mod_add_div'] at e2
    exact e2.symm
  refine ⟨fun j hj => ?_, fun e he => ?_⟩
  · have := key j (by omega)
    rw [if_neg (by omega)] at this
    exact this
  · have := key (pN c + e) (by omega)
    by_cases h : e = d
    · rw [if_pos (by omega)] at this
      rw [if_pos h]
      exact this
    · rw [if_neg (by omega)] at this
      rw [if_neg h]
      exact this
theorem AR.opn {c : Cfg} {n d : Nat} {f g : Nat → Int} (h : AR f c n) (hc : okC c) (hn : n < spc c) (hd : d < dN c) (h0 : ld c n d = 0) (e : ∀ j, g j = if j = 2 + d then ((lst c n + 1 : Nat) : Int) else f j) : AR g c (aO c n d) := by
  have hd4 : dN c ≤ 4 := hc.1
  obtain ⟨a1, a2, a3⟩ := aO_dig hn hd h0
  obtain ⟨b1, b2, b3, b4, b5⟩ := h
  refine ⟨fun p hp => ?_, fun x hx => ?_, ?_, fun x hx => ?_, ?_⟩
  · rw [e, if_neg (by omega), b1 p hp]
    by_cases q : p < pN c
    · rw [if_pos q, if_pos q, a1 p q]
    · rw [if_neg q, if_neg q]
  · rw [e, a2]
    by_cases q : x = d
    · rw [if_pos (by omega), if_pos q, if_pos (by omega)]
    · rw [if_neg (by omega), if_neg q, b2 x hx]
  · rw [e, if_neg (by omega), b3, a3]
  · rw [e, if_neg (by omega), b4 x hx]
  · rw [e, if_neg (by omega), b5]
theorem AR.sht {c : Cfg} {n d : Nat} {f g : Nat → Int} (h : AR f c n) (hc : okC c) (hd : d < dN c) (e : ∀ j, g j = if j = 6 then (d : Int) else if j = 2 + d then 0 else f j) : AR g c (aS c n d) := by
  have hd4 : dN c ≤ 4 := hc.1
  obtain ⟨a1, a2⟩ := aS_dig (n := n) hd
  obtain ⟨b1, b2, b3, b4, b5⟩ := h
  refine ⟨fun p hp => ?_, fun x hx => ?_, ?_, fun x hx => ?_, ?_⟩
  · rw [e, if_neg (by omega), if_neg (by omega), b1 p hp]
    by_cases q : p < pN c
    · rw [if_pos q, if_pos q, a1 p q]
    · rw [if_neg q, if_neg q]
  · rw [e, if_neg (by omega)]
    by_cases q : x < dN c
    · rw [a2 x q]
      by_cases q2 : x = d
      · rw [if_pos (by omega), if_pos q2, if_pos q]; rfl
      · rw [if_neg (by omega), if_neg q2, b2 x hx]
    · rw [if_neg (by omega), b2 x hx, if_neg q, if_neg q]
  · rw [e, if_pos rfl, aS_lst]
  · rw [e, if_neg (by omega), if_neg (by omega), b4 x hx]
  · rw [e, if_neg (by omega), if_neg (by omega), b5]
theorem AR.gon {c : Cfg} {n p d : Nat} {f g : Nat → Int} (h : AR f c n) (hc : okC c) (hp : p < pN c) (e : ∀ j, g j = if j = p then ((if pl c n p = 0 then ld c n d else 0 : Nat) : Int) else f j) : AR g c (aG1 c n p d) := by
  have hp2 : pN c ≤ 2 := hc.2.1
  obtain ⟨a1, a2, a3⟩ := aG1_dig (n := n) (d := d) hp
  obtain ⟨b1, b2, b3, b4, b5⟩ := h
  refine ⟨fun x hx => ?_, fun x hx => ?_, ?_, fun x hx => ?_, ?_⟩
  · rw [e, a1]
    by_cases q : x = p
    · have hq : x < pN c := by omega
      rw [if_pos q, if_pos q, if_pos hq]
    · rw [if_neg q, if_neg q, b1 x hx]
  · rw [e, if_neg (by omega), b2 x hx, a2]
  · rw [e, if_neg (by omega), b3, a3]
  · rw [e, if_neg (by omega), b4 x hx]
  · rw [e, if_neg (by omega), b5]
section Mod5
variable {G : GE} {V : Nat → Nat → Int} {σ : Shp} {K : Option AV → Mem → Prop} {l : Nat} {c : Cfg} {n : Nat}
/-- only the arrangement's numbers change -/
def XF (V V' : Nat → Nat → Int) : Prop := ∀ a, a ≠ 56 → V' a = V a
theorem XF.up {V V1 : Nat → Nat → Int} {i : Nat} {z : Int} (h : XF V V1) : XF V (up2 V1 56 i z) := fun a ha => by rw [up2_nea _ _ ha, h a ha]
theorem wM_opens {x : Int} {d : Nat} (hx : x = d) (hd : d < dN c) (h0 : ld c n d = 0) (hn : n < spc c) (hM : moS σ l) (hA : AR (V 56) c n) (hc : okC c) (hK : ∀ V', XF V V' → AR (V' 56) c (aO c n d) → K none (V', σ)) : Wp G 0 mM_opens [vR 53, vI x] (V, σ) 0 0 K := by
  have hd4 : dN c ≤ 4 := hc.1
  have hl := lst_lt hn
  have e6 : V 56 6 = lst c n := hA.2.2.1
  refine wp_intro mM_opens_i.1 [some (vR 53), some (vI x)] rfl rfl (Nat.le_of_ble_eq_true rfl) ?_
  intro X hG F C
  have hm := C.rm
  refine aw_aload_0 (q := 1) F dM_opens_0 rfl ?_
  refine av_getaE (q := 4) F fM_21 dM_opens_1 rfl rfl (by first | exact hM.o | exact hl.o | exact hM.a55 | exact hM.a56) hM.p16 ?_
  refine aw_iconst (q := 5) F dM_opens_4 rfl (by decide) ?_
  refine aw_iload_1 (q := 6) F dM_opens_5 rfl ?_
  refine aw_iadd (q := 7) F dM_opens_6 rfl (by constructor <;> omega) ?_
  refine aw_aload_0 (q := 8) F dM_opens_7 rfl ?_
  refine av_getaE (q := 11) F fM_21 dM_opens_8 rfl rfl (by first | exact hM.o | exact hl.o | exact hM.a55 | exact hM.a56) hM.p16 ?_
  refine aw_bipush (q := 13) F dM_opens_11 rfl (by decide) ?_
  refine av_iaload (q := 14) F dM_opens_13 rfl (by first | exact hM.o | exact hl.o | exact hM.a55 | exact hM.a56) (by omega) (by omega) ?_
  rw [show (6 : Int).toNat = 6 from rfl, e6]
  refine aw_iconst (q := 15) F dM_opens_14 rfl (by decide) ?_
  refine aw_iadd (q := 16) F dM_opens_15 rfl (by constructor <;> omega) ?_
  refine av_iastore (q := 17) F dM_opens_16 rfl (by first | exact hM.o | exact hl.o | exact hM.a55 | exact hM.a56) (by omega) (by omega) ?_
  refine aw_vret F C dM_opens_17 rfl (Nat.le_refl _) (Nat.le_refl _) ?_
  refine hK _ (XF.up fun _ _ => rfl) (hA.opn hc hn hd h0 fun j => ?_)
  rw [up2_at, show (2 + x).toNat = 2 + d by omega]
  rfl
theorem wM_shuts {x : Int} {d : Nat} (hx : x = d) (hd : d < dN c) (hM : moS σ l) (hA : AR (V 56) c n) (hc : okC c) (hK : ∀ V', XF V V' → AR (V' 56) c (aS c n d) → K none (V', σ)) : Wp G 0 mM_shuts [vR 53, vI x] (V, σ) 0 0 K := by
  have hd4 : dN c ≤ 4 := hc.1
  refine wp_intro mM_shuts_i.1 [some (vR 53), some (vI x)] rfl rfl (Nat.le_of_ble_eq_true rfl) ?_
  intro X hG F C
  have hm := C.rm
  refine aw_aload_0 (q := 1) F dM_shuts_0 rfl ?_
  refine av_getaE (q := 4) F fM_21 dM_shuts_1 rfl rfl (by first | exact hM.o | exact hl.o | exact hM.a55 | exact hM.a56) hM.p16 ?_
  refine aw_iconst (q := 5) F dM_shuts_4 rfl (by decide) ?_
  refine aw_iload_1 (q := 6) F dM_shuts_5 rfl ?_
  refine aw_iadd (q := 7) F dM_shuts_6 rfl (by constructor <;> omega) ?_
  refine aw_iconst (q := 8) F dM_shuts_7 rfl (by decide) ?_
  refine av_iastore (q := 9) F dM_shuts_8 rfl (by first | exact hM.o | exact hl.o | exact hM.a55 | exact hM.a56) (by omega) (by omega) ?_
  refine aw_aload_0 (q := 10) F dM_shuts_9 rfl ?_
  refine av_getaE (q := 13) F fM_21 dM_shuts_10 rfl rfl (by first | exact hM.o | exact hl.o | exact hM.a55 | exact hM.a56) hM.p16 ?_
  refine aw_bipush (q := 15) F dM_shuts_13 rfl (by decide) ?_
  refine aw_iload_1 (q := 16) F dM_shuts_15 rfl ?_
  refine av_iastore (q := 17) F dM_shuts_16 rfl (by first | exact hM.o | exact hl.o | exact hM.a55 | exact hM.a56) (by omega) (by omega) ?_
  refine aw_vret F C dM_shuts_17 rfl (Nat.le_refl _) (Nat.le_refl _) ?_
  refine hK _ (XF.up (XF.up fun _ _ => rfl)) (hA.sht hc hd fun j => ?_)
  rw [up2_at, up2_at, show (2 + x).toNat = 2 + d by omega, hx]
  rfl
end Mod5
