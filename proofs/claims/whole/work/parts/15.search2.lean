-- which STEPS a search goes on by
def shS (c : Cfg) (k : Nat) : Bool := k / dN c == 1 || (decide (2 ≤ k / dN c) && kdC c (k % dN c) == 1)
def okW (c : Cfg) (n w k : Nat) : Bool := mayN c n (allP c) k && (w == 0 || w == (if shS c k then 2 else 1))
def exL (c : Cfg) (n w i : Nat) (L : List (Nat × Nat)) : Nat → List (Nat × Nat)
  | 0 => L
  | k + 1 => if okW c n w k then addL (exL c n w i L k) (aftN c n k) i else exL c n w i L k
theorem exL_1 {c : Cfg} {n w i k : Nat} {L : List (Nat × Nat)} (h : okW c n w k = true) : exL c n w i L (k + 1) = addL (exL c n w i L k) (aftN c n k) i := by
  show (if okW c n w k then _ else _) = _
  rw [if_pos h]
theorem exL_0 {c : Cfg} {n w i k : Nat} {L : List (Nat × Nat)} (h : okW c n w k = false) : exL c n w i L (k + 1) = exL c n w i L k := by
  show (if okW c n w k then _ else _) = _
  rw [if_neg (by rw [h]; decide)]
theorem cntB_1 {f : Nat → Bool} {k : Nat} (h : f k = true) : cntB f (k + 1) = cntB f k + 1 := by
  show cntB f k + (if f k then 1 else 0) = _
  rw [if_pos h]
theorem cntB_0 {f : Nat → Bool} {k : Nat} (h : f k = false) : cntB f (k + 1) = cntB f k := by
  show cntB f k + (if f k then 1 else 0) = _
  rw [if_neg (by rw [h]; decide), Nat.add_zero]
theorem exL_skip {c : Cfg} {n w i a : Nat} {L : List (Nat × Nat)} : ∀ b, (∀ k, a ≤ k → k < a + b → okW c n w k = false) → exL c n w i L (a + b) = exL c n w i L a
  | 0, _ => rfl
  | b + 1, h => by rw [← Nat.add_assoc, exL_0 (h _ (by omega) (by omega))]; exact exL_skip b (fun k h1 h2 => h k h1 (by omega))
theorem cntB_skip {f : Nat → Bool} {a : Nat} : ∀ b, (∀ k, a ≤ k → k < a + b → f k = false) → cntB f (a + b) = cntB f a
  | 0, _ => rfl
  | b + 1, h => by rw [← Nat.add_assoc, cntB_0 (h _ (by omega) (by omega))]; exact cntB_skip b (fun k h1 h2 => h k h1 (by omega))
section Kinds
variable {c : Cfg} {n w d p : Nat}
theorem dm_at (q : Nat) (hd : d < dN c) : (dN c * q + d) / dN c = q ∧ (dN c * q + d) % dN c = d := by
  have h0 : 0 < dN c := by omega
  constructor
  · rw [Nat.mul_add_div h0, Nat.div_eq_of_lt hd]; omega
  · rw [Nat.mul_add_mod, Nat.mod_eq_of_lt hd]
theorem okW_open (hd : d < dN c) : okW c n w d = (mO c n (inP c n 0 &&& allP c) d && decide (w ≠ 2)) ∨ 2 < w := by
  have := dm_at (c := c) 0 hd
  rw [Nat.mul_zero, Nat.zero_add] at this
  by_cases hw : 2 < w
  · exact Or.inr hw
  · left
    unfold okW mayN shS
    rw [this.1, this.2]
    rcases (show w = 0 ∨ w = 1 ∨ w = 2 by omega) with h | h | h <;> subst h <;> simp
theorem okW_shut (hd : d < dN c) : okW c n w (dN c + d) = (mS c n (allP c) d && decide (w ≠ 1)) ∨ 2 < w := by
  have := dm_at (c := c) 1 hd
  rw [Nat.mul_one] at this
  by_cases hw : 2 < w
  · exact Or.inr hw
  · left
    unfold okW mayN shS
    rw [this.1, this.2]
    rcases (show w = 0 ∨ w = 1 ∨ w = 2 by omega) with h | h | h <;> subst h <;> simp
theorem allP_bit (hp : p < pN c) : (allP c).testBit p = true := by
  unfold allP
  rw [Nat.testBit_two_pow_sub_one]
  simpa using hp
theorem okW_go (hd : d < dN c) (hp : p < pN c) : okW c n w (dN c * (2 + p) + d) = (mG c n p d && (w == 0 || w == (if kdC c d = 1 then 2 else 1))) := by
  have := dm_at (c := c) (2 + p) hd
  unfold okW mayN shS
  rw [this.1, this.2, if_neg (by omega), if_neg (by omega), show 2 + p - 2 = p by omega, allP_bit hp]
  have h1 : ((2 + p == 1) = false) := by simp; omega
  have h2 : decide (2 ≤ 2 + p) = true := by simp
  rw [h1, h2]
  simp
theorem aft_open (hd : d < dN c) : aftN c n d = aO c n d := by
  have := dm_at (c := c) 0 hd
  rw [Nat.mul_zero, Nat.zero_add] at this
  unfold aftN
  rw [this.1, this.2, if_pos rfl]
theorem aft_shut (hd : d < dN c) : aftN c n (dN c + d) = aS c n d := by
  have := dm_at (c := c) 1 hd
  rw [Nat.mul_one] at this
  unfold aftN
  rw [this.1, this.2, if_neg (by decide), if_pos rfl]
theorem aft_go (hd : d < dN c) : aftN c n (dN c * (2 + p) + d) = aG c n p d := by
  have := dm_at (c := c) (2 + p) hd
  unfold aftN
  rw [this.1, this.2, if_neg (by omega), if_neg (by omega), show 2 + p - 2 = p by omega]
end Kinds
theorem HH.same {V V' : Nat → Nat → Int} {a : Nat} {c : Cfg} {n : Nat} (h : HH V a c n) (e : ∀ b, a ≤ b → b ≤ a + 5 → V' b = V b) : HH V' a c n := by
  unfold HH HW HA
  rw [e a (by omega) (by omega), e (a + 1) (by omega) (by omega), e (a + 2) (by omega) (by omega), e (a + 3) (by omega) (by omega), e (a + 4) (by omega) (by omega), e (a + 5) (by omega) (by omega)]
  exact h
theorem addF.hh {V V' : Nat → Nat → Int} {σ : Shp} {s qn kn Q M n : Nat} {c : Cfg} (g : addF V V' s qn kn) (hs : sS0 σ s qn kn Q M) (h : HH V (s + 1) c n) : HH V' (s + 1) c n := by
  have q1 := hs.qs; have q2 := hs.ks
  exact h.same fun b h1 h2 => g.1 b (by omega) (by omega) (by omega)
def expF (V V' : Nat → Nat → Int) (s qn kn : Nat) : Prop := (∀ b, b < s ∨ s + 6 < b → b ≠ qn → b ≠ kn → V' b = V b) ∧ V' s 4 = V s 4
theorem expF.rf (V : Nat → Nat → Int) (s qn kn : Nat) : expF V V s qn kn := ⟨fun _ _ _ _ => rfl, rfl⟩
theorem expF.tr {V V1 V2 : Nat → Nat → Int} {s qn kn : Nat} (h : expF V V1 s qn kn) (g : expF V1 V2 s qn kn) : expF V V2 s qn kn := ⟨fun b h1 h2 h3 => (g.1 b h1 h2 h3).trans (h.1 b h1 h2 h3), g.2.trans h.2⟩
theorem addF.ex {V V' : Nat → Nat → Int} {s qn kn : Nat} (g : addF V V' s qn kn) : expF V V' s qn kn := ⟨fun b h1 h2 h3 => g.1 b (by omega) h2 h3, g.2 4 (by decide) (by decide)⟩
theorem putF.ex {V V' : Nat → Nat → Int} {s : Nat} (qn kn : Nat) (g : putF V V' (s + 1)) : expF V V' s qn kn := ⟨fun b h1 h2 h3 => g.1 b (by omega) (by omega) (by omega), by rw [g.1 s (by omega) (by omega) (by omega)]⟩
theorem SV.same {V V' : Nat → Nat → Int} {s qn kn Q : Nat} {c : Cfg} {L : List (Nat × Nat)} (h : SV V s qn kn Q c L) (e1 : V' s 1 = V s 1) (e2 : V' s 2 = V s 2) (e3 : V' qn = V qn) (e4 : V' kn = V kn) : SV V' s qn kn Q c L := by
  unfold SV mkR
  rw [e1, e2, e3, e4]
  exact h
theorem putF.sv {V V' : Nat → Nat → Int} {σ : Shp} {s qn kn Q M : Nat} {c : Cfg} {L : List (Nat × Nat)} (g : putF V V' (s + 1)) (hs : sS0 σ s qn kn Q M) (h : SV V s qn kn Q c L) : SV V' s qn kn Q c L := by
  have q1 := hs.qs; have q2 := hs.ks
  exact h.same (by rw [g.1 s (by omega) (by omega) (by omega)]) (by rw [g.1 s (by omega) (by omega) (by omega)]) (g.1 _ (by omega) (by omega) (by omega)) (g.1 _ (by omega) (by omega) (by omega))
/-- a search under way: what it met, where its hall stands, how many dead ends it saw -/
def SE (V : Nat → Nat → Int) (s qn kn Q : Nat) (c : Cfg) (L : List (Nat × Nat)) (n D : Nat) : Prop := SV V s qn kn Q c L ∧ HH V (s + 1) c n ∧ V s 3 = D
theorem SE.add {V V' : Nat → Nat → Int} {σ : Shp} {s qn kn Q M n D : Nat} {c : Cfg} {L L' : List (Nat × Nat)} (h : SE V s qn kn Q c L n D) (hs : sS0 σ s qn kn Q M) (g : addF V V' s qn kn) (hS : SV V' s qn kn Q c L') : SE V' s qn kn Q c L' n D := ⟨hS, g.hh hs h.2.1, (g.2 3 (by decide) (by decide)).trans h.2.2⟩
section Search2
variable {G : GE} {V : Nat → Nat → Int} {σ : Shp} {s qn kn Q : Nat} {K : Option AV → Mem → Prop} {c : Cfg} {L : List (Nat × Nat)}
theorem wS_expandGoing {xp xi xw : Int} {p i w n : Nat} (hxp : xp = p) (hxi : xi = i) (hxw : xw = w) (hp : p < pN c) (hi : i < 65536) (hw : w ≤ 2) (hn : n < spc c) (hs : sS σ s qn kn Q) (hH : HH V (s + 1) c n) (hV : SV V s qn kn Q c (exL c n w i L (dN c * (2 + p)))) (hK : ∀ V' (y : Int), addF V V' s qn kn → SV V' s qn kn Q c (exL c n w i L (dN c * (2 + p) + dN c)) → y + cntB (okW c n w) (dN c * (2 + p)) = cntB (okW c n w) (dN c * (2 + p) + dN c) → K (some (vI y)) (V', σ)) : Wp G 2 mS_expandGoing [vR s, vI xp, vI xi, vI xw] (V, σ) 0 0 K := by
  have hc := hH.1
  have hD4 := hc.1
  have hP2 := hc.2.1
  refine wp_intro mS_expandGoing_i.1 [some (vR s), some (vI xp), some (vI xi), some (vI xw), none, none, none] rfl rfl (Nat.le_of_ble_eq_true rfl) ?_
  intro X hG F C
  have hm := C.rm
  have loop : ∀ (j d : Nat), dN c - d = j → d ≤ dN c → ∀ (V1 : Nat → Nat → Int) (y z : Int) (u : Option AV), addF V V1 s qn kn → SV V1 s qn kn Q c (exL c n w i L (dN c * (2 + p) + d)) → y + cntB (okW c n w) (dN c * (2 + p)) = cntB (okW c n w) (dN c * (2 + p) + d) → z = d → AW X 6 [some (vR s), some (vI xp), some (vI xi), some (vI xw), some (vI y), some (vI z), u] [] (V1, σ) 0 0 := by
    intro j
    induction j using Nat.strongRecOn with
    | ind j ih =>
      intro d hj hd V1 y z u hF hS hy hz
      have hh1 := hF.hh hs hH
      have v0 : V1 (s + 1) 0 = dN c := hh1.2.1.1
      have hk : d < dN c → V1 (s + 1 + 1) z.toNat = kdC c d := fun q => by rw [show z.toNat = d by omega]; exact (hh1.2.1.2.2.2.2.2.2.2.2.2.2.1 d q).1
      have ez : z.toNat = d := by omega
      have ep : xp.toNat = p := by omega
      have hw1 := fun q : d < dN c => okW_go (n := n) (w := w) q hp
      have hcl := cntB_le (okW c n w) (dN c * (2 + p) + d)
      have hcl2 := cntB_le (okW c n w) (dN c * (2 + p))
      have hcm : dN c * (2 + p) ≤ 16 := by have := stN_le hc; have : dN c * (2 + p) ≤ dN c * (2 + pN c) := Nat.mul_le_mul_left _ (by omega); unfold stN at *; omega
      have go1 : ∀ (V2 : Nat → Nat → Int) (q r : Int) (u : Option AV), mG c n p d = true → (w = 0 ∨ w = if kdC c d = 1 then 2 else 1) → d < dN c → addF V1 V2 s qn kn → SV V2 s qn kn Q c (addL (exL c n w i L (dN c * (2 + p) + d)) (aG c n p d) i) → y + 1 = q → z + 1 = r → AW X 6 [some (vR s), some (vI xp), some (vI xi), some (vI xw), some (vI q), some (vI r), u] [] (V2, σ) 0 0 := fun V2 q r u hm hwk hdd hF2 hS2 hq hr => by
        have hok : okW c n w (dN c * (2 + p) + d) = true := by rw [hw1 hdd, hm]; simpa using hwk
        refine ih _ (by omega) (d + 1) rfl (by omega) V2 q r u (hF.tr hF2) (by rw [← Nat.add_assoc, exL_1 hok, aft_go hdd]; exact hS2) (by rw [← Nat.add_assoc, cntB_1 hok]; omega) (by omega)
      have go0 : ∀ (q r : Int) (u : Option AV), (mG c n p d = false ∨ ¬ (w = 0 ∨ w = if kdC c d = 1 then 2 else 1)) → d < dN c → y = q → z + 1 = r → AW X 6 [some (vR s), some (vI xp), some (vI xi), some (vI xw), some (vI q), some (vI r), u] [] (V1, σ) 0 0 := fun q r u hm hdd hq hr => by
        have hok : okW c n w (dN c * (2 + p) + d) = false := by
          rw [hw1 hdd]
          rcases hm with hm | hm
          · rw [hm]; rfl
          · rw [Bool.and_eq_false_iff]; right; simpa using hm
        refine ih _ (by omega) (d + 1) rfl (by omega) V1 q r u hF (by rw [← Nat.add_assoc, exL_0 hok]; exact hS) (by rw [← Nat.add_assoc, cntB_0 hok]; omega) (by omega)
      refine aw_iload_5 (q := 8) F dS_expandGoing_6 rfl ?_
      refine aw_aload_0 (q := 9) F dS_expandGoing_8 rfl ?_
      refine av_getaE (q := 12) F fS_12 dS_expandGoing_9 rfl rfl (by first | exact hs.o | exact hs.ho | exact hs.q | exact hs.k | exact hs.h.a1) hs.p0 ?_
      refine av_geti (q := 15) F fS_84 dS_expandGoing_12 rfl rfl (by first | exact hs.o | exact hs.ho | exact hs.q | exact hs.k | exact hs.h.a1) ?_
      refine aw_icmp_ge (q := 18) (t := 86) F dS_expandGoing_15 rfl (by decide) (fun c15 => ?_) (fun c15 => ?_)
      · refine aw_iload_4 (q := 88) F dS_expandGoing_86 rfl ?_
        refine aw_iret F C dS_expandGoing_88 rfl (Nat.le_refl _) (Nat.le_refl _) ?_
        rw [show d = dN c by omega] at hS hy; exact hK V1 y hF hS hy
      · refine aw_aload_0 (q := 19) F dS_expandGoing_18 rfl ?_
        refine av_getaE (q := 22) F fS_12 dS_expandGoing_19 rfl rfl (by first | exact hs.o | exact hs.ho | exact hs.q | exact hs.k | exact hs.h.a1) hs.p0 ?_
        refine av_getaE (q := 25) F fS_107 dS_expandGoing_22 rfl rfl (by first | exact hs.o | exact hs.ho | exact hs.q | exact hs.k | exact hs.h.a1) hs.h.p8 ?_
        refine aw_iload_5 (q := 27) F dS_expandGoing_25 rfl ?_
        refine av_iaload (q := 28) F dS_expandGoing_27 rfl (by first | exact hs.o | exact hs.ho | exact hs.q | exact hs.k | exact hs.h.a1) (by omega) (by omega) ?_
        have hkd := hk (by omega)
        refine aw_iconst (q := 29) F dS_expandGoing_28 rfl (by decide) ?_
        refine aw_icmp_ne (q := 32) (t := 36) F dS_expandGoing_29 rfl (by decide) (fun c29 => ?_) (fun c29 => ?_)
        · refine aw_iconst (q := 37) F dS_expandGoing_36 rfl (by decide) ?_
          refine aw_istore_6 (q := 39) F dS_expandGoing_37 rfl trivial ?_
          refine aw_iload_3 (q := 40) F dS_expandGoing_39 rfl ?_
          refine aw_if_eq (q := 43) (t := 49) F dS_expandGoing_40 rfl (by decide) (fun c40 => ?_) (fun c40 => ?_)
          · refine aw_aload_0 (q := 50) F dS_expandGoing_49 rfl ?_
            refine av_getaE (q := 53) F fS_12 dS_expandGoing_50 rfl rfl (by first | exact hs.o | exact hs.ho | exact hs.q | exact hs.k | exact hs.h.a1) hs.p0 ?_
            refine aw_iload_1 (q := 54) F dS_expandGoing_53 rfl ?_
            refine aw_iload_5 (q := 56) F dS_expandGoing_54 rfl ?_
            refine av_callV2 (q := 59) (ci := 2) F hm mH_mayGo_i mH_mayGo_n lS_110 dS_expandGoing_56 rfl rfl rfl (by first | exact hs.o | exact hs.ho | exact hs.q | exact hs.k | exact hs.h.a1) (by decide) (Nat.le_refl _) (Nat.le_refl _) (Nat.le_of_ble_eq_true rfl) (wH_mayGo hs.h hh1 (fun a56 b56 e56 f56 m56 => ?_) (fun m56 => ?_))
            · refine aw_if_eq (q := 62) (t := 80) F dS_expandGoing_59 rfl (by decide) (fun c59 => absurd c59 (by decide)) (fun c59 => ?_)
              refine aw_aload_0 (q := 63) F dS_expandGoing_62 rfl ?_
              refine aw_aload_0 (q := 64) F dS_expandGoing_63 rfl ?_
              refine av_getaE (q := 67) F fS_12 dS_expandGoing_64 rfl rfl (by first | exact hs.o | exact hs.ho | exact hs.q | exact hs.k | exact hs.h.a1) hs.p0 ?_
              refine aw_iload_1 (q := 68) F dS_expandGoing_67 rfl ?_
              refine aw_iload_5 (q := 70) F dS_expandGoing_68 rfl ?_
              refine av_callV2 (q := 73) (ci := 2) F hm mH_afterGo_i mH_afterGo_n lS_113 dS_expandGoing_70 rfl rfl rfl (by first | exact hs.o | exact hs.ho | exact hs.q | exact hs.k | exact hs.h.a1) (by decide) (Nat.le_refl _) (Nat.le_refl _) (Nat.le_of_ble_eq_true rfl) (wH_afterGo (by omega) (by omega) hn hs.h hh1 ?_)
              refine aw_iload_2 (q := 74) F dS_expandGoing_73 rfl ?_
              refine av_callV2 (q := 77) (ci := 5) F hm mS_add_i mS_add_n lS_57 dS_expandGoing_74 rfl rfl rfl (by first | exact hs.o | exact hs.ho | exact hs.q | exact hs.k | exact hs.h.a1) (by decide) (Nat.le_refl _) (Nat.le_refl _) (Nat.le_of_ble_eq_true rfl) (wS_add (n := aG c n p d) (f := i) (by rw [ep, ez]) hxi (aG_lt hn hp (by omega)) hi hs hh1 hS (fun v74 f74 g74 => ?_))
              refine aw_iinc_4 (q := 80) F dS_expandGoing_77 rfl trivial (by constructor <;> omega) ?_
              refine aw_iinc_5 (q := 83) F dS_expandGoing_80 rfl trivial (by constructor <;> omega) ?_
              refine aw_goto (t := 6) F dS_expandGoing_83 (by decide) ?_
              first
              | exact go1 _ _ _ _ (by rw [ep, ez] at m56; exact m56) (by first | (left; omega) | (right; rw [if_pos (by omega)]; omega) | (right; rw [if_neg (by omega)]; omega)) (by omega) f74 g74 rfl rfl
              | exact go0 _ _ _ (Or.inl (by rw [ep, ez] at m56; exact m56 (by omega) (by omega) (by omega) (by omega))) (by omega) rfl rfl
              | exact go0 _ _ _ (Or.inr (by intro h; rcases h with h | h; omega; split at h <;> omega)) (by omega) rfl rfl
            · refine aw_if_eq (q := 62) (t := 80) F dS_expandGoing_59 rfl (by decide) (fun c59 => ?_) (fun c59 => absurd c59 (by decide))
              refine aw_iinc_5 (q := 83) F dS_expandGoing_80 rfl trivial (by constructor <;> omega) ?_
              refine aw_goto (t := 6) F dS_expandGoing_83 (by decide) ?_
              first
              | exact go1 _ _ _ _ (by rw [ep, ez] at m56; exact m56) (by first | (left; omega) | (right; rw [if_pos (by omega)]; omega) | (right; rw [if_neg (by omega)]; omega)) (by omega) f74 g74 rfl rfl
              | exact go0 _ _ _ (Or.inl (by rw [ep, ez] at m56; exact m56 (by omega) (by omega) (by omega) (by omega))) (by omega) rfl rfl
              | exact go0 _ _ _ (Or.inr (by intro h; rcases h with h | h; omega; split at h <;> omega)) (by omega) rfl rfl
          · refine aw_iload_3 (q := 44) F dS_expandGoing_43 rfl ?_
            refine aw_iload_6 (q := 46) F dS_expandGoing_44 rfl ?_
            refine aw_icmp_ne (q := 49) (t := 80) F dS_expandGoing_46 rfl (by decide) (fun c46 => ?_) (fun c46 => ?_)
            · refine aw_iinc_5 (q := 83) F dS_expandGoing_80 rfl trivial (by constructor <;> omega) ?_
              refine aw_goto (t := 6) F dS_expandGoing_83 (by decide) ?_
              first
              | exact go1 _ _ _ _ (by rw [ep, ez] at m56; exact m56) (by first | (left; omega) | (right; rw [if_pos (by omega)]; omega) | (right; rw [if_neg (by omega)]; omega)) (by omega) f74 g74 rfl rfl
              | exact go0 _ _ _ (Or.inl (by rw [ep, ez] at m56; exact m56 (by omega) (by omega) (by omega) (by omega))) (by omega) rfl rfl
              | exact go0 _ _ _ (Or.inr (by intro h; rcases h with h | h; omega; split at h <;> omega)) (by omega) rfl rfl
            · refine aw_aload_0 (q := 50) F dS_expandGoing_49 rfl ?_
              refine av_getaE (q := 53) F fS_12 dS_expandGoing_50 rfl rfl (by first | exact hs.o | exact hs.ho | exact hs.q | exact hs.k | exact hs.h.a1) hs.p0 ?_
              refine aw_iload_1 (q := 54) F dS_expandGoing_53 rfl ?_
              refine aw_iload_5 (q := 56) F dS_expandGoing_54 rfl ?_
              refine av_callV2 (q := 59) (ci := 2) F hm mH_mayGo_i mH_mayGo_n lS_110 dS_expandGoing_56 rfl rfl rfl (by first | exact hs.o | exact hs.ho | exact hs.q | exact hs.k | exact hs.h.a1) (by decide) (Nat.le_refl _) (Nat.le_refl _) (Nat.le_of_ble_eq_true rfl) (wH_mayGo hs.h hh1 (fun a56 b56 e56 f56 m56 => ?_) (fun m56 => ?_))
              · refine aw_if_eq (q := 62) (t := 80) F dS_expandGoing_59 rfl (by decide) (fun c59 => absurd c59 (by decide)) (fun c59 => ?_)
                refine aw_aload_0 (q := 63) F dS_expandGoing_62 rfl ?_
                refine aw_aload_0 (q := 64) F dS_expandGoing_63 rfl ?_
                refine av_getaE (q := 67) F fS_12 dS_expandGoing_64 rfl rfl (by first | exact hs.o | exact hs.ho | exact hs.q | exact hs.k | exact hs.h.a1) hs.p0 ?_
                refine aw_iload_1 (q := 68) F dS_expandGoing_67 rfl ?_
                refine aw_iload_5 (q := 70) F dS_expandGoing_68 rfl ?_
                refine av_callV2 (q := 73) (ci := 2) F hm mH_afterGo_i mH_afterGo_n lS_113 dS_expandGoing_70 rfl rfl rfl (by first | exact hs.o | exact hs.ho | exact hs.q | exact hs.k | exact hs.h.a1) (by decide) (Nat.le_refl _) (Nat.le_refl _) (Nat.le_of_ble_eq_true rfl) (wH_afterGo (by omega) (by omega) hn hs.h hh1 ?_)
                refine aw_iload_2 (q := 74) F dS_expandGoing_73 rfl ?_
                refine av_callV2 (q := 77) (ci := 5) F hm mS_add_i mS_add_n lS_57 dS_expandGoing_74 rfl rfl rfl (by first | exact hs.o | exact hs.ho | exact hs.q | exact hs.k | exact hs.h.a1) (by decide) (Nat.le_refl _) (Nat.le_refl _) (Nat.le_of_ble_eq_true rfl) (wS_add (n := aG c n p d) (f := i) (by rw [ep, ez]) hxi (aG_lt hn hp (by omega)) hi hs hh1 hS (fun v74 f74 g74 => ?_))
                refine aw_iinc_4 (q := 80) F dS_expandGoing_77 rfl trivial (by constructor <;> omega) ?_
                refine aw_iinc_5 (q := 83) F dS_expandGoing_80 rfl trivial (by constructor <;> omega) ?_
                refine aw_goto (t := 6) F dS_expandGoing_83 (by decide) ?_
                first
                | exact go1 _ _ _ _ (by rw [ep, ez] at m56; exact m56) (by first | (left; omega) | (right; rw [if_pos (by omega)]; omega) | (right; rw [if_neg (by omega)]; omega)) (by omega) f74 g74 rfl rfl
                | exact go0 _ _ _ (Or.inl (by rw [ep, ez] at m56; exact m56 (by omega) (by omega) (by omega) (by omega))) (by omega) rfl rfl
                | exact go0 _ _ _ (Or.inr (by intro h; rcases h with h | h; omega; split at h <;> omega)) (by omega) rfl rfl
              · refine aw_if_eq (q := 62) (t := 80) F dS_expandGoing_59 rfl (by decide) (fun c59 => ?_) (fun c59 => absurd c59 (by decide))
                refine aw_iinc_5 (q := 83) F dS_expandGoing_80 rfl trivial (by constructor <;> omega) ?_
                refine aw_goto (t := 6) F dS_expandGoing_83 (by decide) ?_
                first
                | exact go1 _ _ _ _ (by rw [ep, ez] at m56; exact m56) (by first | (left; omega) | (right; rw [if_pos (by omega)]; omega) | (right; rw [if_neg (by omega)]; omega)) (by omega) f74 g74 rfl rfl
                | exact go0 _ _ _ (Or.inl (by rw [ep, ez] at m56; exact m56 (by omega) (by omega) (by omega) (by omega))) (by omega) rfl rfl
                | exact go0 _ _ _ (Or.inr (by intro h; rcases h with h | h; omega; split at h <;> omega)) (by omega) rfl rfl
        · refine aw_iconst (q := 33) F dS_expandGoing_32 rfl (by decide) ?_
          refine aw_goto (t := 37) F dS_expandGoing_33 (by decide) ?_
          refine aw_istore_6 (q := 39) F dS_expandGoing_37 rfl trivial ?_
          refine aw_iload_3 (q := 40) F dS_expandGoing_39 rfl ?_
          refine aw_if_eq (q := 43) (t := 49) F dS_expandGoing_40 rfl (by decide) (fun c40 => ?_) (fun c40 => ?_)
          · refine aw_aload_0 (q := 50) F dS_expandGoing_49 rfl ?_
            refine av_getaE (q := 53) F fS_12 dS_expandGoing_50 rfl rfl (by first | exact hs.o | exact hs.ho | exact hs.q | exact hs.k | exact hs.h.a1) hs.p0 ?_
            refine aw_iload_1 (q := 54) F dS_expandGoing_53 rfl ?_
            refine aw_iload_5 (q := 56) F dS_expandGoing_54 rfl ?_
            refine av_callV2 (q := 59) (ci := 2) F hm mH_mayGo_i mH_mayGo_n lS_110 dS_expandGoing_56 rfl rfl rfl (by first | exact hs.o | exact hs.ho | exact hs.q | exact hs.k | exact hs.h.a1) (by decide) (Nat.le_refl _) (Nat.le_refl _) (Nat.le_of_ble_eq_true rfl) (wH_mayGo hs.h hh1 (fun a56 b56 e56 f56 m56 => ?_) (fun m56 => ?_))
            · refine aw_if_eq (q := 62) (t := 80) F dS_expandGoing_59 rfl (by decide) (fun c59 => absurd c59 (by decide)) (fun c59 => ?_)
              refine aw_aload_0 (q := 63) F dS_expandGoing_62 rfl ?_
              refine aw_aload_0 (q := 64) F dS_expandGoing_63 rfl ?_
              refine av_getaE (q := 67) F fS_12 dS_expandGoing_64 rfl rfl (by first | exact hs.o | exact hs.ho | exact hs.q | exact hs.k | exact hs.h.a1) hs.p0 ?_
              refine aw_iload_1 (q := 68) F dS_expandGoing_67 rfl ?_
              refine aw_iload_5 (q := 70) F dS_expandGoing_68 rfl ?_
              refine av_callV2 (q := 73) (ci := 2) F hm mH_afterGo_i mH_afterGo_n lS_113 dS_expandGoing_70 rfl rfl rfl (by first | exact hs.o | exact hs.ho | exact hs.q | exact hs.k | exact hs.h.a1) (by decide) (Nat.le_refl _) (Nat.le_refl _) (Nat.le_of_ble_eq_true rfl) (wH_afterGo (by omega) (by omega) hn hs.h hh1 ?_)
              refine aw_iload_2 (q := 74) F dS_expandGoing_73 rfl ?_
              refine av_callV2 (q := 77) (ci := 5) F hm mS_add_i mS_add_n lS_57 dS_expandGoing_74 rfl rfl rfl (by first | exact hs.o | exact hs.ho | exact hs.q | exact hs.k | exact hs.h.a1) (by decide) (Nat.le_refl _) (Nat.le_refl _) (Nat.le_of_ble_eq_true rfl) (wS_add (n := aG c n p d) (f := i) (by rw [ep, ez]) hxi (aG_lt hn hp (by omega)) hi hs hh1 hS (fun v74 f74 g74 => ?_))
              refine aw_iinc_4 (q := 80) F dS_expandGoing_77 rfl trivial (by constructor <;> omega) ?_
              refine aw_iinc_5 (q := 83) F dS_expandGoing_80 rfl trivial (by constructor <;> omega) ?_
              refine aw_goto (t := 6) F dS_expandGoing_83 (by decide) ?_
              first
              | exact go1 _ _ _ _ (by rw [ep, ez] at m56; exact m56) (by first | (left; omega) | (right; rw [if_pos (by omega)]; omega) | (right; rw [if_neg (by omega)]; omega)) (by omega) f74 g74 rfl rfl
              | exact go0 _ _ _ (Or.inl (by rw [ep, ez] at m56; exact m56 (by omega) (by omega) (by omega) (by omega))) (by omega) rfl rfl
              | exact go0 _ _ _ (Or.inr (by intro h; rcases h with h | h; omega; split at h <;> omega)) (by omega) rfl rfl
            · refine aw_if_eq (q := 62) (t := 80) F dS_expandGoing_59 rfl (by decide) (fun c59 => ?_) (fun c59 => absurd c59 (by decide))
              refine aw_iinc_5 (q := 83) F dS_expandGoing_80 rfl trivial (by constructor <;> omega) ?_
              refine aw_goto (t := 6) F dS_expandGoing_83 (by decide) ?_
              first
              | exact go1 _ _ _ _ (by rw [ep, ez] at m56; exact m56) (by first | (left; omega) | (right; rw [if_pos (by omega)]; omega) | (right; rw [if_neg (by omega)]; omega)) (by omega) f74 g74 rfl rfl
              | exact go0 _ _ _ (Or.inl (by rw [ep, ez] at m56; exact m56 (by omega) (by omega) (by omega) (by omega))) (by omega) rfl rfl
              | exact go0 _ _ _ (Or.inr (by intro h; rcases h with h | h; omega; split at h <;> omega)) (by omega) rfl rfl
          · refine aw_iload_3 (q := 44) F dS_expandGoing_43 rfl ?_
            refine aw_iload_6 (q := 46) F dS_expandGoing_44 rfl ?_
            refine aw_icmp_ne (q := 49) (t := 80) F dS_expandGoing_46 rfl (by decide) (fun c46 => ?_) (fun c46 => ?_)
            · refine aw_iinc_5 (q := 83) F dS_expandGoing_80 rfl trivial (by constructor <;> omega) ?_
              refine aw_goto (t := 6) F dS_expandGoing_83 (by decide) ?_
              first
              | exact go1 _ _ _ _ (by rw [ep, ez] at m56; exact m56) (by first | (left; omega) | (right; rw [if_pos (by omega)]; omega) | (right; rw [if_neg (by omega)]; omega)) (by omega) f74 g74 rfl rfl
              | exact go0 _ _ _ (Or.inl (by rw [ep, ez] at m56; exact m56 (by omega) (by omega) (by omega) (by omega))) (by omega) rfl rfl
              | exact go0 _ _ _ (Or.inr (by intro h; rcases h with h | h; omega; split at h <;> omega)) (by omega) rfl rfl
            · refine aw_aload_0 (q := 50) F dS_expandGoing_49 rfl ?_
              refine av_getaE (q := 53) F fS_12 dS_expandGoing_50 rfl rfl (by first | exact hs.o | exact hs.ho | exact hs.q | exact hs.k | exact hs.h.a1) hs.p0 ?_
              refine aw_iload_1 (q := 54) F dS_expandGoing_53 rfl ?_
              refine aw_iload_5 (q := 56) F dS_expandGoing_54 rfl ?_
              refine av_callV2 (q := 59) (ci := 2) F hm mH_mayGo_i mH_mayGo_n lS_110 dS_expandGoing_56 rfl rfl rfl (by first | exact hs.o | exact hs.ho | exact hs.q | exact hs.k | exact hs.h.a1) (by decide) (Nat.le_refl _) (Nat.le_refl _) (Nat.le_of_ble_eq_true rfl) (wH_mayGo hs.h hh1 (fun a56 b56 e56 f56 m56 => ?_) (fun m56 => ?_))
              · refine aw_if_eq (q := 62) (t := 80) F dS_expandGoing_59 rfl (by decide) (fun c59 => absurd c59 (by decide)) (fun c59 => ?_)
                refine aw_aload_0 (q := 63) F dS_expandGoing_62 rfl ?_
                refine aw_aload_0 (q := 64) F dS_expandGoing_63 rfl ?_
                refine av_getaE (q := 67) F fS_12 dS_expandGoing_64 rfl rfl (by first | exact hs.o | exact hs.ho | exact hs.q | exact hs.k | exact hs.h.a1) hs.p0 ?_
                refine aw_iload_1 (q := 68) F dS_expandGoing_67 rfl ?_
                refine aw_iload_5 (q := 70) F dS_expandGoing_68 rfl ?_
                refine av_callV2 (q := 73) (ci := 2) F hm mH_afterGo_i mH_afterGo_n lS_113 dS_expandGoing_70 rfl rfl rfl (by first | exact hs.o | exact hs.ho | exact hs.q | exact hs.k | exact hs.h.a1) (by decide) (Nat.le_refl _) (Nat.le_refl _) (Nat.le_of_ble_eq_true rfl) (wH_afterGo (by omega) (by omega) hn hs.h hh1 ?_)
                refine aw_iload_2 (q := 74) F dS_expandGoing_73 rfl ?_
                refine av_callV2 (q := 77) (ci := 5) F hm mS_add_i mS_add_n lS_57 dS_expandGoing_74 rfl rfl rfl (by first | exact hs.o | exact hs.ho | exact hs.q | exact hs.k | exact hs.h.a1) (by decide) (Nat.le_refl _) (Nat.le_refl _) (Nat.le_of_ble_eq_true rfl) (wS_add (n := aG c n p d) (f := i) (by rw [ep, ez]) hxi (aG_lt hn hp (by omega)) hi hs hh1 hS (fun v74 f74 g74 => ?_))
                refine aw_iinc_4 (q := 80) F dS_expandGoing_77 rfl trivial (by constructor <;> omega) ?_
                refine aw_iinc_5 (q := 83) F dS_expandGoing_80 rfl trivial (by constructor <;> omega) ?_
                refine aw_goto (t := 6) F dS_expandGoing_83 (by decide) ?_
                first
                | exact go1 _ _ _ _ (by rw [ep, ez] at m56; exact m56) (by first | (left; omega) | (right; rw [if_pos (by omega)]; omega) | (right; rw [if_neg (by omega)]; omega)) (by omega) f74 g74 rfl rfl
                | exact go0 _ _ _ (Or.inl (by rw [ep, ez] at m56; exact m56 (by omega) (by omega) (by omega) (by omega))) (by omega) rfl rfl
                | exact go0 _ _ _ (Or.inr (by intro h; rcases h with h | h; omega; split at h <;> omega)) (by omega) rfl rfl
              · refine aw_if_eq (q := 62) (t := 80) F dS_expandGoing_59 rfl (by decide) (fun c59 => ?_) (fun c59 => absurd c59 (by decide))
                refine aw_iinc_5 (q := 83) F dS_expandGoing_80 rfl trivial (by constructor <;> omega) ?_
                refine aw_goto (t := 6) F dS_expandGoing_83 (by decide) ?_
                first
                | exact go1 _ _ _ _ (by rw [ep, ez] at m56; exact m56) (by first | (left; omega) | (right; rw [if_pos (by omega)]; omega) | (right; rw [if_neg (by omega)]; omega)) (by omega) f74 g74 rfl rfl
                | exact go0 _ _ _ (Or.inl (by rw [ep, ez] at m56; exact m56 (by omega) (by omega) (by omega) (by omega))) (by omega) rfl rfl
                | exact go0 _ _ _ (Or.inr (by intro h; rcases h with h | h; omega; split at h <;> omega)) (by omega) rfl rfl
  refine aw_iconst (q := 1) F dS_expandGoing_0 rfl (by decide) ?_
  refine aw_istore_4 (q := 3) F dS_expandGoing_1 rfl trivial ?_
  refine aw_iconst (q := 4) F dS_expandGoing_3 rfl (by decide) ?_
  refine aw_istore_5 (q := 6) F dS_expandGoing_4 rfl trivial ?_
  exact loop _ 0 rfl (by omega) V 0 0 none (addF.rf V s qn kn) hV (by simp) rfl
theorem wS_expand {xi xw : Int} {i w m D : Nat} {q : Nat × Nat} (hxi : xi = i) (hxw : xw = w) (hq : L[i]? = some q) (hw : w ≤ 2) (hD : D < 1000000) (hs : sS σ s qn kn Q) (hE : SE V s qn kn Q c L m D) (hK : ∀ V', expF V V' s qn kn → SE V' s qn kn Q c (exL c q.1 w i L (stN c)) q.1 (D + if cntB (okW c q.1 w) (stN c) = 0 then 1 else 0) → K none (V', σ)) : Wp G 3 mS_expand [vR s, vI xi, vI xw] (V, σ) 0 0 K := by
  have hc := hE.2.1.1
  have hD4 := hc.1
  have hP2 := hc.2.1
  have hsp := spc_le hc
  have hn := hE.1.2.2.2.2.2.1 q (List.mem_of_getElem? hq)
  have hi : i < L.length := (List.getElem?_eq_some_iff.mp hq).1
  have hl := hE.1.len
  have h4 := allP_lt hc
  have hst := stN_le hc
  have hcl := cntB_le (okW c q.1 w)
  have est : stN c = dN c * (2 + pN c) := rfl
  have hqs := hs.qs
  have hks := hs.ks
  refine wp_intro mS_expand_i.1 [some (vR s), some (vI xi), some (vI xw), none, none, none] rfl rfl (Nat.le_of_ble_eq_true rfl) ?_
  intro X hG F C
  have hm := C.rm
  have loop3 : ∀ (j p : Nat), pN c - p = j → p ≤ pN c → ∀ (V1 : Nat → Nat → Int) (y z : Int), expF V V1 s qn kn → SE V1 s qn kn Q c (exL c q.1 w i L (dN c * (2 + p))) q.1 D → y = cntB (okW c q.1 w) (dN c * (2 + p)) → z = p → AW X 140 [some (vR s), some (vI xi), some (vI xw), some (vI y), some (vI (allP c)), some (vI z)] [] (V1, σ) 0 0 := by
    intro j
    induction j using Nat.strongRecOn with
    | ind j ih =>
      intro p hj hp V1 y z hF hS hy hz
      have v1 : V1 (s + 1) 1 = pN c := hS.2.1.2.1.2.1
      have v3 : V1 s 3 = D := hS.2.2
      have hcp := hcl (dN c * (2 + p))
      have hmm : dN c * (2 + p) ≤ stN c := Nat.mul_le_mul_left _ (by omega)
      have hmn : p < pN c → dN c * (2 + p) + dN c ≤ stN c := fun h => by rw [← Nat.mul_succ]; exact Nat.mul_le_mul_left _ (by omega)
      have hcq := hcl (dN c * (2 + p) + dN c)
      refine aw_iload_5 (q := 142) F dS_expand_140 rfl ?_
      refine aw_aload_0 (q := 143) F dS_expand_142 rfl ?_
      refine av_getaE (q := 146) F fS_12 dS_expand_143 rfl rfl (by first | exact hs.o | exact hs.ho | exact hs.q | exact hs.k | exact hs.h.a1) hs.p0 ?_
      refine av_geti (q := 149) F fS_100 dS_expand_146 rfl rfl (by first | exact hs.o | exact hs.ho | exact hs.q | exact hs.k | exact hs.h.a1) ?_
      refine aw_icmp_ge (q := 152) (t := 169) F dS_expand_149 rfl (by decide) (fun c149 => ?_) (fun c149 => ?_)
      · refine aw_aload_0 (q := 170) F dS_expand_169 rfl ?_
        refine aw_dup (q := 171) F dS_expand_170 rfl trivial ?_
        refine av_geti (q := 174) F fS_50 dS_expand_171 rfl rfl (by first | exact hs.o | exact hs.ho | exact hs.q | exact hs.k | exact hs.h.a1) ?_
        refine aw_iload_3 (q := 175) F dS_expand_174 rfl ?_
        refine aw_if_ne (q := 178) (t := 182) F dS_expand_175 rfl (by decide) (fun c175 => ?_) (fun c175 => ?_)
        · refine aw_iconst (q := 183) F dS_expand_182 rfl (by decide) ?_
          refine aw_iadd (q := 184) F dS_expand_183 rfl (by constructor <;> omega) ?_
          refine av_puti (q := 187) F fS_50 dS_expand_184 rfl rfl (wr_5_3 _) (by first | exact hs.o | exact hs.ho | exact hs.q | exact hs.k | exact hs.h.a1) ?_
          refine aw_vret F C dS_expand_187 rfl (Nat.le_refl _) (Nat.le_refl _) ?_
          rw [show p = pN c by omega, ← est] at hS hy
          have q3 : ∀ x : Int, (x = V1 s 3 + (if cntB (okW c q.1 w) (stN c) = 0 then 1 else 0)) → K none (up2 V1 s 3 x, σ) := fun x hx => by
            refine hK _ ⟨fun b h1 h2 h3 => by rw [up2_nea _ _ (by omega)]; exact hF.1 b h1 h2 h3, by rw [up2_nek _ _ (by decide)]; exact hF.2⟩ ⟨hS.1.same (up2_nek _ _ (by decide)) (up2_nek _ _ (by decide)) (up2_nea _ _ (by omega)) (up2_nea _ _ (by omega)), hS.2.1.same (fun b h1 h2 => up2_nea _ _ (by omega)), ?_⟩
            rw [up2_same, hx, v3]
            split <;> simp
          refine q3 _ ?_
          first
          | (rw [if_pos (by omega)])
          | (rw [if_neg (by omega)])
        · refine aw_iconst (q := 179) F dS_expand_178 rfl (by decide) ?_
          refine aw_goto (t := 183) F dS_expand_179 (by decide) ?_
          refine aw_iadd (q := 184) F dS_expand_183 rfl (by constructor <;> omega) ?_
          refine av_puti (q := 187) F fS_50 dS_expand_184 rfl rfl (wr_5_3 _) (by first | exact hs.o | exact hs.ho | exact hs.q | exact hs.k | exact hs.h.a1) ?_
          refine aw_vret F C dS_expand_187 rfl (Nat.le_refl _) (Nat.le_refl _) ?_
          rw [show p = pN c by omega, ← est] at hS hy
          have q3 : ∀ x : Int, (x = V1 s 3 + (if cntB (okW c q.1 w) (stN c) = 0 then 1 else 0)) → K none (up2 V1 s 3 x, σ) := fun x hx => by
            refine hK _ ⟨fun b h1 h2 h3 => by rw [up2_nea _ _ (by omega)]; exact hF.1 b h1 h2 h3, by rw [up2_nek _ _ (by decide)]; exact hF.2⟩ ⟨hS.1.same (up2_nek _ _ (by decide)) (up2_nek _ _ (by decide)) (up2_nea _ _ (by omega)) (up2_nea _ _ (by omega)), hS.2.1.same (fun b h1 h2 => up2_nea _ _ (by omega)), ?_⟩
            rw [up2_same, hx, v3]
            split <;> simp
          refine q3 _ ?_
          first
          | (rw [if_pos (by omega)])
          | (rw [if_neg (by omega)])
      · refine aw_iload_3 (q := 153) F dS_expand_152 rfl ?_
        refine aw_aload_0 (q := 154) F dS_expand_153 rfl ?_
        refine aw_iload_5 (q := 156) F dS_expand_154 rfl ?_
        refine aw_iload_1 (q := 157) F dS_expand_156 rfl ?_
        refine aw_iload_2 (q := 158) F dS_expand_157 rfl ?_
        refine av_callV3 (q := 161) (ci := 5) F hm mS_expandGoing_i mS_expandGoing_n lS_103 dS_expand_158 rfl rfl rfl (by first | exact hs.o | exact hs.ho | exact hs.q | exact hs.k | exact hs.h.a1) (by decide) (Nat.le_refl _) (Nat.le_refl _) (Nat.le_of_ble_eq_true rfl) (wS_expandGoing (L := L) (p := p) (i := i) (w := w) hz hxi hxw (by omega) (by omega) hw hn.1 hs hS.2.1 hS.1 (fun v158 y158 f158 g158 h158 => ?_))
        have := hmn (by omega)
        refine aw_iadd (q := 162) F dS_expand_161 rfl (by constructor <;> omega) ?_
        refine aw_istore_3 (q := 163) F dS_expand_162 rfl trivial ?_
        refine aw_iinc_5 (q := 166) F dS_expand_163 rfl trivial (by constructor <;> omega) ?_
        refine aw_goto (t := 140) F dS_expand_166 (by decide) ?_
        refine ih _ (by omega) (p + 1) rfl (by omega) v158 _ _ (hF.tr f158.ex) (hS.add hs f158 (by rw [← Nat.add_assoc, Nat.mul_succ]; exact g158)) (by rw [← Nat.add_assoc, Nat.mul_succ, ← h158]; omega) (by omega)
  have loop2 : ∀ (j d : Nat), dN c - d = j → d ≤ dN c → ∀ (V1 : Nat → Nat → Int) (y z : Int), expF V V1 s qn kn → SE V1 s qn kn Q c (exL c q.1 w i L (dN c + d)) q.1 D → y = cntB (okW c q.1 w) (dN c + d) → z = d → AW X 83 [some (vR s), some (vI xi), some (vI xw), some (vI y), some (vI (allP c)), some (vI z)] [] (V1, σ) 0 0 := by
    intro j
    induction j using Nat.strongRecOn with
    | ind j ih =>
      intro d hj hd V1 y z hF hS hy hz
      have v0 : V1 (s + 1) 0 = dN c := hS.2.1.2.1.1
      have ez : z.toNat = d := by omega
      have hcp := hcl (dN c + d)
      have hok := fun h : d < dN c => (okW_shut (n := q.1) (w := w) h).resolve_right (by omega)
      have hsk : (d = dN c ∨ w = 1) → exL c q.1 w i L (dN c + d) = exL c q.1 w i L (dN c * (2 + 0)) ∧ cntB (okW c q.1 w) (dN c + d) = cntB (okW c q.1 w) (dN c * (2 + 0)) := fun h => by
        have e : dN c * (2 + 0) = dN c + d + (dN c - d) := by omega
        have hf : ∀ k, dN c + d ≤ k → k < dN c + d + (dN c - d) → okW c q.1 w k = false := fun k h1 h2 => by
          have := (okW_shut (c := c) (n := q.1) (w := w) (d := k - dN c) (by omega)).resolve_right (by omega)
          rw [show dN c + (k - dN c) = k by omega] at this
          rw [this, show w = 1 by omega]
          simp
        rw [e]
        exact ⟨(exL_skip _ hf).symm, (cntB_skip _ hf).symm⟩
      refine aw_iload_5 (q := 85) F dS_expand_83 rfl ?_
      refine aw_aload_0 (q := 86) F dS_expand_85 rfl ?_
      refine av_getaE (q := 89) F fS_12 dS_expand_86 rfl rfl (by first | exact hs.o | exact hs.ho | exact hs.q | exact hs.k | exact hs.h.a1) hs.p0 ?_
      refine av_geti (q := 92) F fS_84 dS_expand_89 rfl rfl (by first | exact hs.o | exact hs.ho | exact hs.q | exact hs.k | exact hs.h.a1) ?_
      refine aw_icmp_ge (q := 95) (t := 137) F dS_expand_92 rfl (by decide) (fun c92 => ?_) (fun c92 => ?_)
      · refine aw_iconst (q := 138) F dS_expand_137 rfl (by decide) ?_
        refine aw_istore_5 (q := 140) F dS_expand_138 rfl trivial ?_
        have hsk := hsk (by omega); exact loop3 _ 0 rfl (by omega) V1 _ _ hF (by rw [← hsk.1]; exact hS) (by rw [← hsk.2]; exact hy) rfl
      · refine aw_iload_2 (q := 96) F dS_expand_95 rfl ?_
        refine aw_iconst (q := 97) F dS_expand_96 rfl (by decide) ?_
        refine aw_icmp_eq (q := 100) (t := 137) F dS_expand_97 rfl (by decide) (fun c97 => ?_) (fun c97 => ?_)
        · refine aw_iconst (q := 138) F dS_expand_137 rfl (by decide) ?_
          refine aw_istore_5 (q := 140) F dS_expand_138 rfl trivial ?_
          have hsk := hsk (by omega); exact loop3 _ 0 rfl (by omega) V1 _ _ hF (by rw [← hsk.1]; exact hS) (by rw [← hsk.2]; exact hy) rfl
        · refine aw_aload_0 (q := 101) F dS_expand_100 rfl ?_
          refine av_getaE (q := 104) F fS_12 dS_expand_101 rfl rfl (by first | exact hs.o | exact hs.ho | exact hs.q | exact hs.k | exact hs.h.a1) hs.p0 ?_
          refine aw_iload_5 (q := 106) F dS_expand_104 rfl ?_
          refine aw_iload_4 (q := 108) F dS_expand_106 rfl ?_
          refine av_callV2 (q := 111) (ci := 2) F hm mH_mayShut_i mH_mayShut_n lS_94 dS_expand_108 rfl rfl rfl (by first | exact hs.o | exact hs.ho | exact hs.q | exact hs.k | exact hs.h.a1) (by decide) (Nat.le_refl _) (Nat.le_refl _) (Nat.le_of_ble_eq_true rfl) (wH_mayShut (c := c) (n := q.1) (th := allP c) rfl h4 hs.h hS.2.1 (fun a108 b108 m108 => ?_) (fun m108 => ?_))
          · refine aw_if_eq (q := 114) (t := 131) F dS_expand_111 rfl (by decide) (fun c111 => absurd c111 (by decide)) (fun c111 => ?_)
            refine aw_aload_0 (q := 115) F dS_expand_114 rfl ?_
            refine aw_aload_0 (q := 116) F dS_expand_115 rfl ?_
            refine av_getaE (q := 119) F fS_12 dS_expand_116 rfl rfl (by first | exact hs.o | exact hs.ho | exact hs.q | exact hs.k | exact hs.h.a1) hs.p0 ?_
            refine aw_iload_5 (q := 121) F dS_expand_119 rfl ?_
            refine av_callV1 (q := 124) (ci := 2) F hm mH_afterShut_i mH_afterShut_n lS_97 dS_expand_121 rfl rfl rfl (by first | exact hs.o | exact hs.ho | exact hs.q | exact hs.k | exact hs.h.a1) (by decide) (Nat.le_refl _) (Nat.le_refl _) (Nat.le_of_ble_eq_true rfl) (wH_afterShut (by omega) hn.1 hs.h hS.2.1 ?_)
            refine aw_iload_1 (q := 125) F dS_expand_124 rfl ?_
            refine av_callV2 (q := 128) (ci := 5) F hm mS_add_i mS_add_n lS_57 dS_expand_125 rfl rfl rfl (by first | exact hs.o | exact hs.ho | exact hs.q | exact hs.k | exact hs.h.a1) (by decide) (Nat.le_refl _) (Nat.le_refl _) (Nat.le_of_ble_eq_true rfl) (wS_add (n := aS c q.1 d) (f := i) (by rw [ez]) hxi (aS_lt (by omega)) (by omega) hs hS.2.1 hS.1 (fun v125 f125 g125 => ?_))
            refine aw_iinc_3 (q := 131) F dS_expand_128 rfl trivial (by constructor <;> omega) ?_
            refine aw_iinc_5 (q := 134) F dS_expand_131 rfl trivial (by constructor <;> omega) ?_
            refine aw_goto (t := 83) F dS_expand_134 (by decide) ?_
            first
            | (have hk : okW c q.1 w (dN c + d) = true := by rw [ez] at m108; rw [hok (by omega), m108]; simp; omega
               exact ih _ (by omega) (d + 1) rfl (by omega) v125 _ _ (hF.tr f125.ex) (hS.add hs f125 (by rw [← Nat.add_assoc, exL_1 hk, aft_shut (by omega)]; exact g125)) (by rw [← Nat.add_assoc, cntB_1 hk]; omega) (by omega))
            | (have hk : okW c q.1 w (dN c + d) = false := by rw [ez] at m108; rw [hok (by omega), m108 (by omega) (by omega)]; simp
               exact ih _ (by omega) (d + 1) rfl (by omega) V1 _ _ hF (by rw [← Nat.add_assoc, exL_0 hk]; exact hS) (by rw [← Nat.add_assoc, cntB_0 hk]; omega) (by omega))
          · refine aw_if_eq (q := 114) (t := 131) F dS_expand_111 rfl (by decide) (fun c111 => ?_) (fun c111 => absurd c111 (by decide))
            refine aw_iinc_5 (q := 134) F dS_expand_131 rfl trivial (by constructor <;> omega) ?_
            refine aw_goto (t := 83) F dS_expand_134 (by decide) ?_
            first
            | (have hk : okW c q.1 w (dN c + d) = true := by rw [ez] at m108; rw [hok (by omega), m108]; simp; omega
               exact ih _ (by omega) (d + 1) rfl (by omega) v125 _ _ (hF.tr f125.ex) (hS.add hs f125 (by rw [← Nat.add_assoc, exL_1 hk, aft_shut (by omega)]; exact g125)) (by rw [← Nat.add_assoc, cntB_1 hk]; omega) (by omega))
            | (have hk : okW c q.1 w (dN c + d) = false := by rw [ez] at m108; rw [hok (by omega), m108 (by omega) (by omega)]; simp
               exact ih _ (by omega) (d + 1) rfl (by omega) V1 _ _ hF (by rw [← Nat.add_assoc, exL_0 hk]; exact hS) (by rw [← Nat.add_assoc, cntB_0 hk]; omega) (by omega))
  have loop1 : ∀ (j d : Nat), dN c - d = j → d ≤ dN c → ∀ (V1 : Nat → Nat → Int) (y z : Int), expF V V1 s qn kn → SE V1 s qn kn Q c (exL c q.1 w i L d) q.1 D → y = cntB (okW c q.1 w) d → z = d → AW X 26 [some (vR s), some (vI xi), some (vI xw), some (vI y), some (vI (allP c)), some (vI z)] [] (V1, σ) 0 0 := by
    intro j
    induction j using Nat.strongRecOn with
    | ind j ih =>
      intro d hj hd V1 y z hF hS hy hz
      have v0 : V1 (s + 1) 0 = dN c := hS.2.1.2.1.1
      have ez : z.toNat = d := by omega
      have hcp := hcl d
      have hok := fun h : d < dN c => (okW_open (n := q.1) (w := w) h).resolve_right (by omega)
      have hsk : (d = dN c ∨ w = 2) → exL c q.1 w i L d = exL c q.1 w i L (dN c + 0) ∧ cntB (okW c q.1 w) d = cntB (okW c q.1 w) (dN c + 0) := fun h => by
        have e : dN c + 0 = d + (dN c - d) := by omega
        have hf : ∀ k, d ≤ k → k < d + (dN c - d) → okW c q.1 w k = false := fun k h1 h2 => by
          have := (okW_open (c := c) (n := q.1) (w := w) (d := k) (by omega)).resolve_right (by omega)
          rw [this, show w = 2 by omega]
          simp
        rw [e]
        exact ⟨(exL_skip _ hf).symm, (cntB_skip _ hf).symm⟩
      refine aw_iload_5 (q := 28) F dS_expand_26 rfl ?_
      refine aw_aload_0 (q := 29) F dS_expand_28 rfl ?_
      refine av_getaE (q := 32) F fS_12 dS_expand_29 rfl rfl (by first | exact hs.o | exact hs.ho | exact hs.q | exact hs.k | exact hs.h.a1) hs.p0 ?_
      refine av_geti (q := 35) F fS_84 dS_expand_32 rfl rfl (by first | exact hs.o | exact hs.ho | exact hs.q | exact hs.k | exact hs.h.a1) ?_
      refine aw_icmp_ge (q := 38) (t := 80) F dS_expand_35 rfl (by decide) (fun c35 => ?_) (fun c35 => ?_)
      · refine aw_iconst (q := 81) F dS_expand_80 rfl (by decide) ?_
        refine aw_istore_5 (q := 83) F dS_expand_81 rfl trivial ?_
        have hsk := hsk (by omega); exact loop2 _ 0 rfl (by omega) V1 _ _ hF (by rw [← hsk.1]; exact hS) (by rw [← hsk.2]; exact hy) rfl
      · refine aw_iload_2 (q := 39) F dS_expand_38 rfl ?_
        refine aw_iconst (q := 40) F dS_expand_39 rfl (by decide) ?_
        refine aw_icmp_eq (q := 43) (t := 80) F dS_expand_40 rfl (by decide) (fun c40 => ?_) (fun c40 => ?_)
        · refine aw_iconst (q := 81) F dS_expand_80 rfl (by decide) ?_
          refine aw_istore_5 (q := 83) F dS_expand_81 rfl trivial ?_
          have hsk := hsk (by omega); exact loop2 _ 0 rfl (by omega) V1 _ _ hF (by rw [← hsk.1]; exact hS) (by rw [← hsk.2]; exact hy) rfl
        · refine aw_aload_0 (q := 44) F dS_expand_43 rfl ?_
          refine av_getaE (q := 47) F fS_12 dS_expand_44 rfl rfl (by first | exact hs.o | exact hs.ho | exact hs.q | exact hs.k | exact hs.h.a1) hs.p0 ?_
          refine aw_iload_5 (q := 49) F dS_expand_47 rfl ?_
          refine aw_iload_4 (q := 51) F dS_expand_49 rfl ?_
          refine av_callV2 (q := 54) (ci := 2) F hm mH_mayOpen_i mH_mayOpen_n lS_87 dS_expand_51 rfl rfl rfl (by first | exact hs.o | exact hs.ho | exact hs.q | exact hs.k | exact hs.h.a1) (by decide) (Nat.le_refl _) (Nat.le_refl _) (Nat.le_of_ble_eq_true rfl) (wH_mayOpen (c := c) (n := q.1) (th := allP c) rfl h4 hs.h hS.2.1 (fun a51 b51 m51 => ?_) (fun m51 => ?_))
          · refine aw_if_eq (q := 57) (t := 74) F dS_expand_54 rfl (by decide) (fun c54 => absurd c54 (by decide)) (fun c54 => ?_)
            refine aw_aload_0 (q := 58) F dS_expand_57 rfl ?_
            refine aw_aload_0 (q := 59) F dS_expand_58 rfl ?_
            refine av_getaE (q := 62) F fS_12 dS_expand_59 rfl rfl (by first | exact hs.o | exact hs.ho | exact hs.q | exact hs.k | exact hs.h.a1) hs.p0 ?_
            refine aw_iload_5 (q := 64) F dS_expand_62 rfl ?_
            refine av_callV1 (q := 67) (ci := 2) F hm mH_afterOpen_i mH_afterOpen_n lS_91 dS_expand_64 rfl rfl rfl (by first | exact hs.o | exact hs.ho | exact hs.q | exact hs.k | exact hs.h.a1) (by decide) (Nat.le_refl _) (Nat.le_refl _) (Nat.le_of_ble_eq_true rfl) (wH_afterOpen (by omega) hn.1 hs.h hS.2.1 ?_)
            refine aw_iload_1 (q := 68) F dS_expand_67 rfl ?_
            refine av_callV2 (q := 71) (ci := 5) F hm mS_add_i mS_add_n lS_57 dS_expand_68 rfl rfl rfl (by first | exact hs.o | exact hs.ho | exact hs.q | exact hs.k | exact hs.h.a1) (by decide) (Nat.le_refl _) (Nat.le_refl _) (Nat.le_of_ble_eq_true rfl) (wS_add (n := aO c q.1 d) (f := i) (by rw [ez]) hxi (by rw [ez] at m51; exact aO_lt hn.1 (by omega) (mO_iff.mp m51).1) (by omega) hs hS.2.1 hS.1 (fun v68 f68 g68 => ?_))
            refine aw_iinc_3 (q := 74) F dS_expand_71 rfl trivial (by constructor <;> omega) ?_
            refine aw_iinc_5 (q := 77) F dS_expand_74 rfl trivial (by constructor <;> omega) ?_
            refine aw_goto (t := 26) F dS_expand_77 (by decide) ?_
            first
            | (have hk : okW c q.1 w d = true := by rw [ez] at m51; rw [hok (by omega), m51]; simp; omega
               exact ih _ (by omega) (d + 1) rfl (by omega) v68 _ _ (hF.tr f68.ex) (hS.add hs f68 (by rw [exL_1 hk, aft_open (by omega)]; exact g68)) (by rw [cntB_1 hk]; omega) (by omega))
            | (have hk : okW c q.1 w d = false := by rw [ez] at m51; rw [hok (by omega), m51 (by omega) (by omega)]; simp
               exact ih _ (by omega) (d + 1) rfl (by omega) V1 _ _ hF (by rw [exL_0 hk]; exact hS) (by rw [cntB_0 hk]; omega) (by omega))
          · refine aw_if_eq (q := 57) (t := 74) F dS_expand_54 rfl (by decide) (fun c54 => ?_) (fun c54 => absurd c54 (by decide))
            refine aw_iinc_5 (q := 77) F dS_expand_74 rfl trivial (by constructor <;> omega) ?_
            refine aw_goto (t := 26) F dS_expand_77 (by decide) ?_
            first
            | (have hk : okW c q.1 w d = true := by rw [ez] at m51; rw [hok (by omega), m51]; simp; omega
               exact ih _ (by omega) (d + 1) rfl (by omega) v68 _ _ (hF.tr f68.ex) (hS.add hs f68 (by rw [exL_1 hk, aft_open (by omega)]; exact g68)) (by rw [cntB_1 hk]; omega) (by omega))
            | (have hk : okW c q.1 w d = false := by rw [ez] at m51; rw [hok (by omega), m51 (by omega) (by omega)]; simp
               exact ih _ (by omega) (d + 1) rfl (by omega) V1 _ _ hF (by rw [exL_0 hk]; exact hS) (by rw [cntB_0 hk]; omega) (by omega))
  refine aw_aload_0 (q := 1) F dS_expand_0 rfl ?_
  refine av_getaE (q := 4) F fS_12 dS_expand_1 rfl rfl (by first | exact hs.o | exact hs.ho | exact hs.q | exact hs.k | exact hs.h.a1) hs.p0 ?_
  refine aw_aload_0 (q := 5) F dS_expand_4 rfl ?_
  refine aw_iload_1 (q := 6) F dS_expand_5 rfl ?_
  refine av_callV1 (q := 9) (ci := 5) F hm mS_arrangementAt_i mS_arrangementAt_n lS_75 dS_expand_6 rfl rfl rfl (by first | exact hs.o | exact hs.ho | exact hs.q | exact hs.k | exact hs.h.a1) (by decide) (Nat.le_refl _) (Nat.le_refl _) (Nat.le_of_ble_eq_true rfl) (wS_arrangementAt (i := i) (q := q) hxi hq hs hE.1 ?_)
  refine av_callV1 (q := 12) (ci := 2) F hm mH_put_i mH_put_n lS_78 dS_expand_9 rfl rfl rfl (by first | exact hs.o | exact hs.ho | exact hs.q | exact hs.k | exact hs.h.a1) (by decide) (Nat.le_refl _) (Nat.le_refl _) (Nat.le_of_ble_eq_true rfl) (wH_put (c := c) rfl (by omega) hs.h hc hE.2.1.2.1 (fun v9 f9 g9 => ?_))
  refine aw_iconst (q := 13) F dS_expand_12 rfl (by decide) ?_
  refine aw_istore_3 (q := 14) F dS_expand_13 rfl trivial ?_
  refine aw_aload_0 (q := 15) F dS_expand_14 rfl ?_
  refine av_getaE (q := 18) F fS_12 dS_expand_15 rfl rfl (by first | exact hs.o | exact hs.ho | exact hs.q | exact hs.k | exact hs.h.a1) hs.p0 ?_
  refine av_callV0 (q := 21) (ci := 2) F hm mH_everybody_i mH_everybody_n lS_81 dS_expand_18 rfl rfl rfl (by first | exact hs.o | exact hs.ho | exact hs.q | exact hs.k | exact hs.h.a1) (by decide) (Nat.le_refl _) (Nat.le_refl _) (Nat.le_of_ble_eq_true rfl) (wH_everybody hs.h (hE.2.1.put f9 g9) ?_)
  refine aw_istore_4 (q := 23) F dS_expand_21 rfl trivial ?_
  refine aw_iconst (q := 24) F dS_expand_23 rfl (by decide) ?_
  refine aw_istore_5 (q := 26) F dS_expand_24 rfl trivial ?_
  exact loop1 _ 0 rfl (by omega) v9 _ _ (f9.ex qn kn) ⟨f9.sv hs hE.1, hE.2.1.put f9 g9, by rw [f9.1 s (by omega) (by omega) (by omega)]; exact hE.2.2⟩ rfl rfl
end Search2
