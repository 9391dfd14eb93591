theorem dM_lane_0 : decode mM_lane.2.1 0 = .ok (.aload_n 0, 1) := by decide +kernel
theorem dM_lane_1 : decode mM_lane.2.1 1 = .ok (.iconst 0, 1) := by decide +kernel
theorem dM_lane_2 : decode mM_lane.2.1 2 = .ok (.putfield 46, 3) := by decide +kernel
theorem dM_lane_5 : decode mM_lane.2.1 5 = .ok (.iload_n 1, 1) := by decide +kernel
theorem dM_lane_6 : decode mM_lane.2.1 6 = .ok (.ifCond .lt 11, 3) := by decide +kernel
theorem dM_lane_9 : decode mM_lane.2.1 9 = .ok (.iload_n 1, 1) := by decide +kernel
theorem dM_lane_10 : decode mM_lane.2.1 10 = .ok (.aload_n 0, 1) := by decide +kernel
theorem dM_lane_11 : decode mM_lane.2.1 11 = .ok (.getfield 274, 3) := by decide +kernel
theorem dM_lane_14 : decode mM_lane.2.1 14 = .ok (.if_icmp .le 9, 3) := by decide +kernel
theorem dM_lane_17 : decode mM_lane.2.1 17 = .ok (.aload_n 0, 1) := by decide +kernel
theorem dM_lane_18 : decode mM_lane.2.1 18 = .ok (.iconst 2, 1) := by decide +kernel
theorem dM_lane_19 : decode mM_lane.2.1 19 = .ok (.invokevirtual 52, 3) := by decide +kernel
theorem dM_lane_22 : decode mM_lane.2.1 22 = .ok (.ireturn, 1) := by decide +kernel
theorem dM_lane_23 : decode mM_lane.2.1 23 = .ok (.aload_n 0, 1) := by decide +kernel
theorem dM_lane_24 : decode mM_lane.2.1 24 = .ok (.iload_n 1, 1) := by decide +kernel
theorem dM_lane_25 : decode mM_lane.2.1 25 = .ok (.putfield 63, 3) := by decide +kernel
theorem dM_lane_28 : decode mM_lane.2.1 28 = .ok (.aload_n 0, 1) := by decide +kernel
theorem dM_lane_29 : decode mM_lane.2.1 29 = .ok (.iconst 0, 1) := by decide +kernel
theorem dM_lane_30 : decode mM_lane.2.1 30 = .ok (.putfield 274, 3) := by decide +kernel
theorem dM_lane_33 : decode mM_lane.2.1 33 = .ok (.aload_n 0, 1) := by decide +kernel
theorem dM_lane_34 : decode mM_lane.2.1 34 = .ok (.iconst 0, 1) := by decide +kernel
theorem dM_lane_35 : decode mM_lane.2.1 35 = .ok (.putfield 81, 3) := by decide +kernel
theorem dM_lane_38 : decode mM_lane.2.1 38 = .ok (.aload_n 0, 1) := by decide +kernel
theorem dM_lane_39 : decode mM_lane.2.1 39 = .ok (.iconst 0, 1) := by decide +kernel
theorem dM_lane_40 : decode mM_lane.2.1 40 = .ok (.putfield 104, 3) := by decide +kernel
theorem dM_lane_43 : decode mM_lane.2.1 43 = .ok (.aload_n 0, 1) := by decide +kernel
theorem dM_lane_44 : decode mM_lane.2.1 44 = .ok (.new 152, 3) := by decide +kernel
theorem dM_lane_47 : decode mM_lane.2.1 47 = .ok (.dup, 1) := by decide +kernel
theorem dM_lane_48 : decode mM_lane.2.1 48 = .ok (.invokespecial 277, 3) := by decide +kernel
theorem dM_lane_51 : decode mM_lane.2.1 51 = .ok (.putfield 147, 3) := by decide +kernel
theorem dM_lane_54 : decode mM_lane.2.1 54 = .ok (.aload_n 0, 1) := by decide +kernel
theorem dM_lane_55 : decode mM_lane.2.1 55 = .ok (.iconst 0, 1) := by decide +kernel
theorem dM_lane_56 : decode mM_lane.2.1 56 = .ok (.putfield 78, 3) := by decide +kernel
theorem dM_lane_59 : decode mM_lane.2.1 59 = .ok (.aload_n 0, 1) := by decide +kernel
theorem dM_lane_60 : decode mM_lane.2.1 60 = .ok (.invokevirtual 114, 3) := by decide +kernel
theorem dM_lane_63 : decode mM_lane.2.1 63 = .ok (.aload_n 0, 1) := by decide +kernel
theorem dM_lane_64 : decode mM_lane.2.1 64 = .ok (.invokevirtual 278, 3) := by decide +kernel
theorem dM_lane_67 : decode mM_lane.2.1 67 = .ok (.aload_n 0, 1) := by decide +kernel
theorem dM_lane_68 : decode mM_lane.2.1 68 = .ok (.getfield 104, 3) := by decide +kernel
theorem dM_lane_71 : decode mM_lane.2.1 71 = .ok (.ifCond .le 18, 3) := by decide +kernel
theorem dM_lane_74 : decode mM_lane.2.1 74 = .ok (.aload_n 0, 1) := by decide +kernel
theorem dM_lane_75 : decode mM_lane.2.1 75 = .ok (.iconst 4, 1) := by decide +kernel
theorem dM_lane_76 : decode mM_lane.2.1 76 = .ok (.putfield 49, 3) := by decide +kernel
theorem dM_lane_79 : decode mM_lane.2.1 79 = .ok (.aload_n 0, 1) := by decide +kernel
theorem dM_lane_80 : decode mM_lane.2.1 80 = .ok (.aload_n 0, 1) := by decide +kernel
theorem dM_lane_81 : decode mM_lane.2.1 81 = .ok (.getfield 107, 3) := by decide +kernel
theorem dM_lane_84 : decode mM_lane.2.1 84 = .ok (.putfield 9, 3) := by decide +kernel
theorem dM_lane_87 : decode mM_lane.2.1 87 = .ok (.iconst (-1), 1) := by decide +kernel
theorem dM_lane_88 : decode mM_lane.2.1 88 = .ok (.ireturn, 1) := by decide +kernel
theorem dM_lane_89 : decode mM_lane.2.1 89 = .ok (.aload_n 0, 1) := by decide +kernel
theorem dM_lane_90 : decode mM_lane.2.1 90 = .ok (.aload_n 0, 1) := by decide +kernel
theorem dM_lane_91 : decode mM_lane.2.1 91 = .ok (.getfield 147, 3) := by decide +kernel
theorem dM_lane_94 : decode mM_lane.2.1 94 = .ok (.putfield 281, 3) := by decide +kernel
theorem dM_lane_97 : decode mM_lane.2.1 97 = .ok (.aload_n 0, 1) := by decide +kernel
theorem dM_lane_98 : decode mM_lane.2.1 98 = .ok (.invokevirtual 283, 3) := by decide +kernel
theorem dM_lane_101 : decode mM_lane.2.1 101 = .ok (.iconst 0, 1) := by decide +kernel
theorem dM_lane_102 : decode mM_lane.2.1 102 = .ok (.istore_n 2, 1) := by decide +kernel
theorem dM_lane_103 : decode mM_lane.2.1 103 = .ok (.iload_n 2, 1) := by decide +kernel
theorem dM_lane_104 : decode mM_lane.2.1 104 = .ok (.bipush 12, 2) := by decide +kernel
theorem dM_lane_106 : decode mM_lane.2.1 106 = .ok (.if_icmp .ge 21, 3) := by decide +kernel
theorem dM_lane_109 : decode mM_lane.2.1 109 = .ok (.aload_n 0, 1) := by decide +kernel
theorem dM_lane_110 : decode mM_lane.2.1 110 = .ok (.getfield 17, 3) := by decide +kernel
theorem dM_lane_113 : decode mM_lane.2.1 113 = .ok (.iload_n 2, 1) := by decide +kernel
theorem dM_lane_114 : decode mM_lane.2.1 114 = .ok (.aload_n 0, 1) := by decide +kernel
theorem dM_lane_115 : decode mM_lane.2.1 115 = .ok (.getfield 21, 3) := by decide +kernel
theorem dM_lane_118 : decode mM_lane.2.1 118 = .ok (.iload_n 2, 1) := by decide +kernel
theorem dM_lane_119 : decode mM_lane.2.1 119 = .ok (.iaload, 1) := by decide +kernel
theorem dM_lane_120 : decode mM_lane.2.1 120 = .ok (.iastore, 1) := by decide +kernel
theorem dM_lane_121 : decode mM_lane.2.1 121 = .ok (.iinc 2 1, 3) := by decide +kernel
theorem dM_lane_124 : decode mM_lane.2.1 124 = .ok (.goto (-21), 3) := by decide +kernel
theorem dM_lane_127 : decode mM_lane.2.1 127 = .ok (.aload_n 0, 1) := by decide +kernel
theorem dM_lane_128 : decode mM_lane.2.1 128 = .ok (.iconst 0, 1) := by decide +kernel
theorem dM_lane_129 : decode mM_lane.2.1 129 = .ok (.putfield 286, 3) := by decide +kernel
theorem dM_lane_132 : decode mM_lane.2.1 132 = .ok (.aload_n 0, 1) := by decide +kernel
theorem dM_lane_133 : decode mM_lane.2.1 133 = .ok (.iconst 0, 1) := by decide +kernel
theorem dM_lane_134 : decode mM_lane.2.1 134 = .ok (.putfield 290, 3) := by decide +kernel
theorem dM_lane_137 : decode mM_lane.2.1 137 = .ok (.aload_n 0, 1) := by decide +kernel
theorem dM_lane_138 : decode mM_lane.2.1 138 = .ok (.iconst 0, 1) := by decide +kernel
theorem dM_lane_139 : decode mM_lane.2.1 139 = .ok (.putfield 293, 3) := by decide +kernel
theorem dM_lane_142 : decode mM_lane.2.1 142 = .ok (.aload_n 0, 1) := by decide +kernel
theorem dM_lane_143 : decode mM_lane.2.1 143 = .ok (.aload_n 0, 1) := by decide +kernel
theorem dM_lane_144 : decode mM_lane.2.1 144 = .ok (.getfield 281, 3) := by decide +kernel
theorem dM_lane_147 : decode mM_lane.2.1 147 = .ok (.getfield 183, 3) := by decide +kernel
theorem dM_lane_150 : decode mM_lane.2.1 150 = .ok (.invokevirtual 56, 3) := by decide +kernel
theorem dM_lane_153 : decode mM_lane.2.1 153 = .ok (.ireturn, 1) := by decide +kernel
def MR2 (V V' : Nat → Nat → Int) (σ σ' : Shp) : Prop := eS σ σ' (fun b _ => b = 53) ∧ sX σ' = sX σ + 9 ∧ ∀ b, b < sX σ → b < 53 ∨ 63 < b → V' b = V b
section Mod51
variable {G : GE} {V V' V1 V2 : Nat → Nat → Int} {σ σ' : Shp} {K : Option AV → Mem → Prop} {l e n : Nat} {S : PS} {B : Nat → Int} {r : PR} {t : TK} {T : TL}
theorem moS.gr {Z : Nat → Nat → Prop} (h : moS σ l) (he : eS σ σ' Z) (hZ : ∀ j, j ≠ 4 → ¬ Z 53 j) : moS σ' l := by
  obtain ⟨o, p3, ⟨p5, p15, p16, p17, p18, p21, p22, p23, p24, p28⟩, a54, a55, a56, a57, a58, a59, a60, a61, a62, a63⟩ := h
  have q : ∀ j, j ≠ 4 → sP σ' 53 j = sP σ 53 j := fun j hj => he.p o (hZ j hj)
  exact ⟨he.o o, (q 3 (by decide)).trans p3, ⟨(q 5 (by decide)).trans p5, (q 15 (by decide)).trans p15, (q 16 (by decide)).trans p16, (q 17 (by decide)).trans p17, (q 18 (by decide)).trans p18, (q 21 (by decide)).trans p21, (q 22 (by decide)).trans p22, (q 23 (by decide)).trans p23, (q 24 (by decide)).trans p24, (q 28 (by decide)).trans p28⟩, he.a a54, he.a a55, he.a a56, he.a a57, he.a a58, he.a a59, he.a a60, he.a a61, he.a a62, he.a a63⟩
theorem laS.gr {Z : Nat → Nat → Prop} (h : laS σ l) (he : eS σ σ' Z) (hZ : ∀ j, ¬ Z l j) : laS σ' l := by
  obtain ⟨o, ⟨p9, p10, p11, p12, p13, p15, p16, p17⟩, a1, a2, a3, a4, a5, a6, a7, a8⟩ := h
  have q : ∀ j, sP σ' l j = sP σ l j := fun j => he.p o (hZ j)
  exact ⟨he.o o, ⟨(q 9).trans p9, (q 10).trans p10, (q 11).trans p11, (q 12).trans p12, (q 13).trans p13, (q 15).trans p15, (q 16).trans p16, (q 17).trans p17⟩, he.a a1, he.a a2, he.a a3, he.a a4, he.a a5, he.a a6, he.a a7, he.a a8⟩
theorem laS.lt (h : laS σ l) : l + 8 < sX σ := h.a8.2.2.2
/-- another lane -/
theorem moS.ln (h : moS σ l) : moS (pS σ 53 3 e) e := by
  obtain ⟨o, p3, ⟨p5, p15, p16, p17, p18, p21, p22, p23, p24, p28⟩, ha⟩ := h
  have q : ∀ j, j ≠ 3 → sP (pS σ 53 3 e) 53 j = sP σ 53 j := fun j hj => up2_nek _ _ hj
  exact ⟨o, (by show up2 (sP σ) 53 3 e 53 3 = e; exact up2_same _ _ _ _), ⟨(q 5 (by decide)).trans p5, (q 15 (by decide)).trans p15, (q 16 (by decide)).trans p16, (q 17 (by decide)).trans p17, (q 18 (by decide)).trans p18, (q 21 (by decide)).trans p21, (q 22 (by decide)).trans p22, (q 23 (by decide)).trans p23, (q 24 (by decide)).trans p24, (q 28 (by decide)).trans p28⟩, ha⟩
theorem LR.lv (h : LR V e r) (hr : okRd r) (hd : 0 < tDn r.1) : LV V e r.1 := by
  obtain ⟨⟨x0, x1, x2, x3, x4, x5, x6, x7, x8, x14⟩, ⟨y1, y2, y3, y4⟩, -⟩ := h
  have ht : r.2.1 = true := by
    cases hq : r.2.1
    · have := (hr.1 hq).1; omega
    · rfl
  refine ⟨⟨by rw [x0, if_pos ht], x1, x2, x3, x4, x5, x6, ?_⟩, y1, y2, y3, y4⟩
  cases hq : r.2.2.1
  · rw [hq, if_neg Bool.false_ne_true] at x7; exact Or.inl ⟨x7, hr.2.1 hq⟩
  · rw [hq, if_pos rfl] at x7; exact Or.inr x7
theorem r0_rd : okRd r0 := ⟨fun _ => ⟨rfl, rfl, rfl⟩, fun _ => rfl, fun i j _ _ _ h => absurd h (by show ¬ 0 < 0; omega)⟩
def lfS (S : PS) (f a : Nat) : PS := (psB S, 0, 4, f, a, S.2.2.2.2.2)
/-- the memory as the reading begins -/
def lnV (V : Nat → Nat → Int) (x : Int) : Nat → Nat → Int := up2 (up2 (up2 (up2 (up2 V 53 0 0) 53 7 x) 53 6 0) 53 8 0) 53 12 0
theorem lnV_b {x : Int} {b : Nat} (hb : b ≠ 53) : lnV V x b = V b := by
  unfold lnV
  rw [up2_nea _ _ hb, up2_nea _ _ hb, up2_nea _ _ hb, up2_nea _ _ hb, up2_nea _ _ hb]
theorem lnV_j {x : Int} {j : Nat} (hj : j ≠ 0) (h6 : j ≠ 6) (h7 : j ≠ 7) (h8 : j ≠ 8) (h12 : j ≠ 12) : lnV V x 53 j = V 53 j := by
  unfold lnV
  rw [up2_nek _ _ h12, up2_nek _ _ h8, up2_nek _ _ h6, up2_nek _ _ h7, up2_nek _ _ hj]
theorem lnV_6 {x : Int} : lnV V x 53 6 = 0 ∧ lnV V x 53 7 = x ∧ lnV V x 53 8 = 0 ∧ lnV V x 53 12 = 0 := by
  unfold lnV
  refine ⟨?_, ?_, ?_, up2_same _ _ _ _⟩
  · rw [up2_nek _ _ (by decide), up2_nek _ _ (by decide), up2_same]
  · rw [up2_nek _ _ (by decide), up2_nek _ _ (by decide), up2_nek _ _ (by decide), up2_same]
  · rw [up2_nek _ _ (by decide), up2_same]
/-- a fault was told -/
theorem MW.lf {f a : Nat} (h : MW V σ l S) (he : eS σ σ' (fun b j => b = 53 ∧ j = 4)) (hv : ∀ b, b ≠ 53 → b < sX σ → V' b = V b) (hj : ∀ j, 14 < j → V' 53 j = V 53 j) (h1 : V' 53 1 = 4) (h2 : V' 53 2 = a) (h6 : V' 53 6 = 0) (h12 : V' 53 12 = f) : MW V' σ' l (lfS S f a) := by
  have hM := h.mo
  have hX : 63 < sX σ := hM.a63.2.2.2
  obtain ⟨o1, o2, o3⟩ := h.ok
  refine ⟨⟨Nat.zero_le _, o2, o3⟩, hM.gr he (fun j q1 q2 => q1 q2.2), h.2.2.1, fun hd => ?_, fun i hi => absurd hi (by show ¬ i < 0; omega), ⟨h1, ?_, h6, h12, (hj 19 (by decide)).trans h.f.2.2.2.2.1, (hj 20 (by decide)).trans h.f.2.2.2.2.2⟩, MWq.fl (S := S) h.q (hj 26 (by decide)) (hj 25 (by decide)) (hv 59 (by decide) (by omega)) (hv 60 (by decide) (by omega)) (hv 61 (by decide) (by omega))⟩
  · obtain ⟨a1, a2, a3⟩ := h.2.2.2.1 hd
    have hlt := a1.lt
    exact ⟨a1.gr he (fun j q => by have q1 : l = 53 := q.1; omega), a2, MWa.same (S := S) a3 (hv 55 (by decide) (by omega)) (hv 57 (by decide) (by omega)) (hv 58 (by decide) (by omega)) (fun i hi => hv _ (by omega) (by omega))⟩
  · rw [h2]; exact (if_pos rfl).symm
/-- a lane was told -/
theorem MW.lg {S0 : PS} (h : MW V σ l S) (hS : S0 = (psB S, 0, 0, 0, 0, S.2.2.2.2.2)) (hM : moS σ' e) (hl : laS σ' e) (he : 64 ≤ e) (hU : okU T) (hd : 0 < tDn T) (hLV : LV V' e T) (hA : AR (V' 55) (c0T T) (sc0 T).2.2) (h1 : V' 53 1 = 0) (h2 : V' 53 2 = -1) (h6 : V' 53 6 = 0) (h12 : V' 53 12 = 0) (h19 : V' 53 19 = 0) (h20 : V' 53 20 = 0) (h26 : V' 53 26 = 0) : MW V' σ' e (nwS S0 T) := by
  subst hS
  have hT' := hU.okT hd
  have hnil : ∀ s : Sc, s ∈ ([] : List Sc) → okS T s := fun s hs => absurd hs List.not_mem_nil
  refine ⟨⟨Nat.zero_le _, h.ok.2.1, hT', sc0_ok hT' hd, Nat.zero_le _, hnil, Nat.zero_le _, hnil, fun _ => ⟨rfl, rfl⟩⟩, hM, fun q => absurd (show tDn T = 0 from q) (by omega), fun _ => ⟨hl, he, hA, hLV, fun i s hi => (by have hi : ([] : List Sc)[i]? = some s := hi; simp at hi), fun i s hi => (by have hi : ([] : List Sc)[i]? = some s := hi; simp at hi)⟩, fun i hi => absurd hi (by show ¬ i < 0; omega), ⟨h1, by rw [h2]; exact (if_neg (by show ¬ (0 : Int) = 4; decide)).symm, h6, h12, h19, h20⟩, Or.inl h26⟩
theorem wM_lane {x : Int} (hB : sX σ + 30 < BG) (h64 : 64 ≤ sX σ) (h : MW V σ l S) (hK2 : ¬ (0 ≤ x ∧ x ≤ psN S) → MK K V σ l (setR S 2) (some (vI (-1)))) (hKf : ∀ f a : Nat, 0 ≤ x ∧ x ≤ psN S → lnP S x.toNat = .inr (f, a) → ∀ V' σ', MW V' σ' l (lfS S f a) → MR2 V V' σ σ' → K (some (vI (-1))) (V', σ')) (hKg : ∀ T : TL, 0 ≤ x ∧ x ≤ psN S → lnP S x.toNat = .inl T → ∀ V' σ', MW V' σ' (sX σ) (nwS (psB S, 0, 0, 0, 0, S.2.2.2.2.2) T) → laS σ' (sX σ) → MR2 V V' σ σ' → K (some (vI (tDn T))) (V', σ')) : Wp G 11 mM_lane [vR 53, vI x] (V, σ) 9 80 K := by
  have hM := h.mo
  have h6 : V 53 6 = psN S := h.f.2.2.1
  have hle := h.ok.1
  have hx0 : 0 < sX σ := by omega
  have e6 : ∀ z : Int, up2 V 53 0 z 53 6 = psN S := fun z => by rw [up2_nek _ _ (by decide)]; exact h6
  refine wp_intro mM_lane_i.1 [some (vR 53), some (vI x), none] rfl rfl (Nat.le_of_ble_eq_true rfl) ?_
  intro X hG F C
  have hm := C.rm
  -- the end
  have fin : ∀ (T : TL) (V3 : Nat → Nat → Int) (σ3 : Shp) (k n : Nat), k ≤ 9 → n ≤ 80 → 0 ≤ x ∧ x ≤ psN S → lnP S x.toNat = .inl T → moS σ3 (sX σ) → laS σ3 (sX σ) → MR2 V V3 σ σ3 → okU T → 0 < tDn T → LV V3 (sX σ) T → AR (V3 56) (c0T T) (sc0 T).2.2 → V3 53 6 = 0 → V3 53 12 = 0 → ∀ (j i : Nat), i + j = 12 → ∀ (V4 : Nat → Nat → Int) (w : Int), w = i → (∀ b, b ≠ 55 → V4 b = V3 b) → (∀ k, k < i → V4 55 k = V3 56 k) → AW X 103 [some (vR 53), some (vI x), some (vI w)] [] (V4, σ3) k n := by
    intro T V3 σ3 k n hk hn hx hP hM3 hl3 hR hU hd hLV hA f6 f12 j
    induction j with
    | zero =>
      intro i hi V4 w hw hF hI
      have e1 : up2 (up2 (up2 V4 53 26 0) 53 19 0) 53 20 0 (sX σ) 1 = tDn T := by
        rw [up2_nea _ _ (by omega), up2_nea _ _ (by omega), up2_nea _ _ (by omega), hF _ (by omega)]
        exact hLV.1.2.1
      refine aw_iload_2 (q := 104) F dM_lane_103 rfl ?_
      refine aw_bipush (q := 106) F dM_lane_104 rfl (by decide) ?_
      refine aw_icmp_ge (q := 109) (t := 127) F dM_lane_106 rfl (by decide) (fun c106 => ?_) (fun c106 => by omega)
      refine aw_aload_0 (q := 128) F dM_lane_127 rfl ?_
      refine aw_iconst (q := 129) F dM_lane_128 rfl (by decide) ?_
      refine av_putz (q := 132) F fM_286 dM_lane_129 rfl rfl (wr_9_26 _) (by first | exact hM.o | exact hM2.o | exact hM3.o | exact hl3.o | exact hM3.a55 | exact hM3.a56) (by first | exact Or.inl rfl | exact Or.inr rfl | omega) ?_
      refine aw_aload_0 (q := 133) F dM_lane_132 rfl ?_
      refine aw_iconst (q := 134) F dM_lane_133 rfl (by decide) ?_
      refine av_puti (q := 137) F fM_290 dM_lane_134 rfl rfl (wr_9_19 _) (by first | exact hM.o | exact hM2.o | exact hM3.o | exact hl3.o | exact hM3.a55 | exact hM3.a56) ?_
      refine aw_aload_0 (q := 138) F dM_lane_137 rfl ?_
      refine aw_iconst (q := 139) F dM_lane_138 rfl (by decide) ?_
      refine av_puti (q := 142) F fM_293 dM_lane_139 rfl rfl (wr_9_20 _) (by first | exact hM.o | exact hM2.o | exact hM3.o | exact hl3.o | exact hM3.a55 | exact hM3.a56) ?_
      refine aw_aload_0 (q := 143) F dM_lane_142 rfl ?_
      refine aw_aload_0 (q := 144) F dM_lane_143 rfl ?_
      refine av_getaE (q := 147) F fM_281 dM_lane_144 rfl rfl (by first | exact hM.o | exact hM2.o | exact hM3.o | exact hl3.o | exact hM3.a55 | exact hM3.a56) hM3.p3 ?_
      refine av_geti (q := 150) F fM_183 dM_lane_147 rfl rfl (by first | exact hM.o | exact hM2.o | exact hM3.o | exact hl3.o | exact hM3.a55 | exact hM3.a56) ?_
      rw [e1]
      refine av_callV1 (q := 153) (ci := 9) F hm mM_good_i mM_good_n lM_56 dM_lane_150 rfl rfl rfl (by first | exact hM.o | exact hM2.o | exact hM3.o | exact hl3.o | exact hM3.a55 | exact hM3.a56) (by decide) hk hn (Nat.le_of_ble_eq_true rfl) (wM_good hM3 ?_)
      refine aw_iret F C dM_lane_153 rfl hk hn ?_
      have e5 : ∀ b, b ≠ 53 → up2 (up2 (up2 (up2 (up2 V4 53 26 0) 53 19 0) 53 20 0) 53 1 0) 53 2 (-1) b = V4 b := fun b hb => by rw [up2_nea _ _ hb, up2_nea _ _ hb, up2_nea _ _ hb, up2_nea _ _ hb, up2_nea _ _ hb]
      have ej : ∀ j, j ≠ 26 → j ≠ 19 → j ≠ 20 → j ≠ 1 → j ≠ 2 → up2 (up2 (up2 (up2 (up2 V4 53 26 0) 53 19 0) 53 20 0) 53 1 0) 53 2 (-1) 53 j = V3 53 j := fun j j1 j2 j3 j4 j5 => by rw [up2_nek _ _ j5, up2_nek _ _ j4, up2_nek _ _ j3, up2_nek _ _ j2, up2_nek _ _ j1, hF 53 (by decide)]
      refine hKg T hx hP _ _ (h.lg rfl hM3 hl3 h64 hU hd (hLV.same (fun i hi => ?_)) ?_ ?_ ?_ ?_ ?_ ?_ ?_ ?_) hl3 ⟨hR.1, hR.2.1, fun b b1 b2 => ?_⟩
      · rw [e5 _ (by omega), hF _ (by omega)]
      · rw [e5 55 (by decide)]; exact hA.same (fun k hk => hI k (by omega))
      · rw [up2_nek _ _ (by decide), up2_same]
      · exact up2_same _ _ _ _
      · rw [ej 6 (by decide) (by decide) (by decide) (by decide) (by decide)]; exact f6
      · rw [ej 12 (by decide) (by decide) (by decide) (by decide) (by decide)]; exact f12
      · rw [up2_nek _ _ (by decide), up2_nek _ _ (by decide), up2_nek _ _ (by decide), up2_same]
      · rw [up2_nek _ _ (by decide), up2_nek _ _ (by decide), up2_same]
      · rw [up2_nek _ _ (by decide), up2_nek _ _ (by decide), up2_nek _ _ (by decide), up2_nek _ _ (by decide), up2_same]
      · rw [e5 b (by omega), hF b (by omega)]; exact hR.2.2 b b1 b2
    | succ j ih =>
      intro i hi V4 w hw hF hI
      have ev : V4 56 w.toNat = V3 56 i := by rw [show w.toNat = i by omega, hF 56 (by decide)]
      refine aw_iload_2 (q := 104) F dM_lane_103 rfl ?_
      refine aw_bipush (q := 106) F dM_lane_104 rfl (by decide) ?_
      refine aw_icmp_ge (q := 109) (t := 127) F dM_lane_106 rfl (by decide) (fun c106 => by omega) (fun c106 => ?_)
      refine aw_aload_0 (q := 110) F dM_lane_109 rfl ?_
      refine av_getaE (q := 113) F fM_17 dM_lane_110 rfl rfl (by first | exact hM.o | exact hM2.o | exact hM3.o | exact hl3.o | exact hM3.a55 | exact hM3.a56) hM3.p15 ?_
      refine aw_iload_2 (q := 114) F dM_lane_113 rfl ?_
      refine aw_aload_0 (q := 115) F dM_lane_114 rfl ?_
      refine av_getaE (q := 118) F fM_21 dM_lane_115 rfl rfl (by first | exact hM.o | exact hM2.o | exact hM3.o | exact hl3.o | exact hM3.a55 | exact hM3.a56) hM3.p16 ?_
      refine aw_iload_2 (q := 119) F dM_lane_118 rfl ?_
      refine av_iaload (q := 120) F dM_lane_119 rfl (by first | exact hM.o | exact hM2.o | exact hM3.o | exact hl3.o | exact hM3.a55 | exact hM3.a56) (by omega) (by omega) ?_
      rw [ev]
      refine av_iastore (q := 121) F dM_lane_120 rfl (by first | exact hM.o | exact hM2.o | exact hM3.o | exact hl3.o | exact hM3.a55 | exact hM3.a56) (by omega) (by omega) ?_
      refine aw_iinc_2 (q := 124) F dM_lane_121 rfl trivial (by constructor <;> omega) ?_
      refine aw_goto (t := 103) F dM_lane_124 (by decide) ?_
      refine ih (i + 1) (by omega) _ _ (by omega) (fun b hb => ?_) (fun k hk => ?_)
      · rw [up2_nea _ _ hb]; exact hF b hb
      · rw [show w.toNat = i by omega]
        by_cases q : k = i
        · rw [q, up2_same]
        · rw [up2_nek _ _ q]; exact hI k (by omega)
  refine aw_aload_0 (q := 1) F dM_lane_0 rfl ?_
  refine aw_iconst (q := 2) F dM_lane_1 rfl (by decide) ?_
  refine av_puti (q := 5) F fM_46 dM_lane_2 rfl rfl (wr_9_0 _) (by first | exact hM.o | exact hM2.o | exact hM3.o | exact hl3.o | exact hM3.a55 | exact hM3.a56) ?_
  refine aw_iload_1 (q := 6) F dM_lane_5 rfl ?_
  refine aw_if_lt (q := 9) (t := 17) F dM_lane_6 rfl (by decide) (fun c6 => ?_) (fun c6 => ?_)
  · refine aw_aload_0 (q := 18) F dM_lane_17 rfl ?_
    refine aw_iconst (q := 19) F dM_lane_18 rfl (by decide) ?_
    refine av_callV1 (q := 22) (ci := 9) F hm mM_refused_i mM_refused_n lM_52 dM_lane_19 rfl rfl rfl (by first | exact hM.o | exact hM2.o | exact hM3.o | exact hl3.o | exact hM3.a55 | exact hM3.a56) (by decide) (by decide) (by decide) (Nat.le_of_ble_eq_true rfl) (wM_refused hM ?_)
    refine aw_iret F C dM_lane_22 rfl (by decide) (by decide) ?_
    exact (hK2 (by omega)).fin0 h (by decide)
  · refine aw_iload_1 (q := 10) F dM_lane_9 rfl ?_
    refine aw_aload_0 (q := 11) F dM_lane_10 rfl ?_
    refine av_geti (q := 14) F fM_274 dM_lane_11 rfl rfl (by first | exact hM.o | exact hM2.o | exact hM3.o | exact hl3.o | exact hM3.a55 | exact hM3.a56) ?_
    rw [e6]
    refine aw_icmp_le (q := 17) (t := 23) F dM_lane_14 rfl (by decide) (fun c14 => ?_) (fun c14 => ?_)
    · refine aw_aload_0 (q := 24) F dM_lane_23 rfl ?_
      refine aw_iload_1 (q := 25) F dM_lane_24 rfl ?_
      refine av_puti (q := 28) F fM_63 dM_lane_25 rfl rfl (wr_9_7 _) (by first | exact hM.o | exact hM2.o | exact hM3.o | exact hl3.o | exact hM3.a55 | exact hM3.a56) ?_
      refine aw_aload_0 (q := 29) F dM_lane_28 rfl ?_
      refine aw_iconst (q := 30) F dM_lane_29 rfl (by decide) ?_
      refine av_puti (q := 33) F fM_274 dM_lane_30 rfl rfl (wr_9_6 _) (by first | exact hM.o | exact hM2.o | exact hM3.o | exact hl3.o | exact hM3.a55 | exact hM3.a56) ?_
      refine aw_aload_0 (q := 34) F dM_lane_33 rfl ?_
      refine aw_iconst (q := 35) F dM_lane_34 rfl (by decide) ?_
      refine av_puti (q := 38) F fM_81 dM_lane_35 rfl rfl (wr_9_8 _) (by first | exact hM.o | exact hM2.o | exact hM3.o | exact hl3.o | exact hM3.a55 | exact hM3.a56) ?_
      refine aw_aload_0 (q := 39) F dM_lane_38 rfl ?_
      refine aw_iconst (q := 40) F dM_lane_39 rfl (by decide) ?_
      refine av_puti (q := 43) F fM_104 dM_lane_40 rfl rfl (wr_9_12 _) (by first | exact hM.o | exact hM2.o | exact hM3.o | exact hl3.o | exact hM3.a55 | exact hM3.a56) ?_
      have hx : 0 ≤ x ∧ x ≤ psN S := by omega
      refine aw_aload_0 (q := 44) F dM_lane_43 rfl ?_
      refine av_new (q := 47) (ci := 8) F hm rfl cM_152 dM_lane_44 rfl (by show sX σ < BG; omega) (by first | omega | decide) (by first | decide | omega) ?_
      refine aw_dup (q := 48) F dM_lane_47 rfl trivial ?_
      refine av_callI0 (q := 51) F hm mN_init_i mN_init_n lM_277 dM_lane_48 rfl (by omega) (by decide) (by decide) (by decide) (Nat.le_of_ble_eq_true rfl) (wN_init (e := sX σ) (V := newV (lnV V x) (sX σ)) (sO_new σ 8 0 hx0) rfl (fun j => if_pos rfl) (by omega) (fun V1 f48 g48 => ?_))
      have eV : ∀ b, b < sX σ → V1 b = lnV V x b := fun b hb => (f48 b hb).trans (funext fun j => if_neg (by omega))
      have eE : eS σ (pS (niS (newS σ 8 0) (sX σ)) 53 4 (sX σ)) (fun b j => b = 53 ∧ j = 4) := ⟨by show sX σ ≤ sX σ + 1 + 8; omega, fun b hb => by
        have q1 := (eS_new σ 8 0 (fun _ _ => False)).2 b hb
        have q2 := (eS_ni (σ := newS σ 8 0) (a := sX σ)).2 b (by show b < sX σ + 1; omega)
        refine ⟨q2.1.trans q1.1, q2.2.1.trans q1.2.1, fun j hj => ?_⟩
        rw [show sP (pS (niS (newS σ 8 0) (sX σ)) 53 4 (sX σ)) b j = sP (niS (newS σ 8 0) (sX σ)) b j from up2_ne _ _ hj]
        exact (q2.2.2 j (by omega)).trans (q1.2.2 j (fun f => f))⟩
      have hM1 : sO (niS (newS σ 8 0) (sX σ)) 53 9 := eS_ni.o (sO_n hM.o)
      have hM2 : moS (pS (niS (newS σ 8 0) (sX σ)) 53 4 (sX σ)) l := hM.gr eE (fun j q1 q2 => q1 q2.2)
      have hl2 : laS (pS (niS (newS σ 8 0) (sX σ)) 53 4 (sX σ)) (sX σ) := (ni_laS (sO_new σ 8 0 hx0) rfl).gr (eS_put _ 53 4 (sX σ) (Z := fun b _ => b = 53) rfl) (fun j q => by omega)
      have h4p : sP (pS (niS (newS σ 8 0) (sX σ)) 53 4 (sX σ)) 53 4 = sX σ := by show up2 (sP (niS (newS σ 8 0) (sX σ))) 53 4 (sX σ) 53 4 = sX σ; exact up2_same _ _ _ _
      have e54 : V1 54 = V 54 := by rw [eV 54 (by omega), lnV_b (by decide)]
      have hTX : MTX (up2 V1 53 9 0) x.toNat (psB S) := ⟨by rw [up2_nek _ _ (by decide), eV 53 (by omega), lnV_6.2.1]; omega, by omega, fun i hi => by rw [up2_nea _ _ (by decide), e54]; exact h.2.2.2.2.1 i (by omega), h.ok.2.1⟩
      refine av_puta (q := 54) F fM_147 dM_lane_51 rfl rfl (wr_9_4 _) (by exact hM1) ?_
      refine aw_aload_0 (q := 55) F dM_lane_54 rfl ?_
      refine aw_iconst (q := 56) F dM_lane_55 rfl (by decide) ?_
      refine av_puti (q := 59) F fM_78 dM_lane_56 rfl rfl (wr_9_9 _) (by first | exact hM.o | exact hM2.o | exact hM3.o | exact hl3.o | exact hM3.a55 | exact hM3.a56) ?_
      refine aw_aload_0 (q := 60) F dM_lane_59 rfl ?_
      refine av_callV0 (q := 63) (ci := 9) F hm mM_goesOn_i mM_goesOn_n lM_114 dM_lane_60 rfl rfl rfl (by first | exact hM.o | exact hM2.o | exact hM3.o | exact hl3.o | exact hM3.a55 | exact hM3.a56) (by decide) (by decide) (by decide) (Nat.le_of_ble_eq_true rfl) (wM_goesOn (p := 0) (n := x.toNat) (B := psB S) (by rw [up2_same]; decide) (by rw [up2_nek _ _ (by decide), eV 53 (by omega), lnV_6.2.2.1]; try rfl) (Nat.zero_le _) hTX hM2 (fun V2 f60 g60 => ?_))
      have hG : GS V2 (sX σ) x.toNat (psB S) r0 (lexT (psB S) x.toNat 0) := ⟨g60, LR.gf (by unfold LR LRf LRa NMr at g48 ⊢; rw [up2_nea _ _ (by omega), up2_nea _ _ (by omega), up2_nea _ _ (by omega), up2_nea _ _ (by omega), up2_nea _ _ (by omega), up2_nea _ _ (by omega), up2_nea _ _ (by omega), up2_nea _ _ (by omega), up2_nea _ _ (by omega)]; exact g48) f60 h64, hTX.gf f60, r0_ok, r0_rd, lex_ok (Nat.zero_le _), by rw [f60.2 12 (by omega), up2_nek _ _ (by decide), eV 53 (by omega)]; exact lnV_6.2.2.2⟩
      refine aw_aload_0 (q := 64) F dM_lane_63 rfl ?_
      refine av_callV0 (q := 67) (ci := 9) F hm mM_readAll_i mM_readAll_n lM_278 dM_lane_64 rfl rfl rfl (by first | exact hM.o | exact hM2.o | exact hM3.o | exact hl3.o | exact hM3.a55 | exact hM3.a56) (by decide) (by decide) (by decide) (Nat.le_of_ble_eq_true rfl) (wM_readAll hM2 hl2 h4p h64 hG (f := x.toNat + 1) (by omega) ⟨(fun V3 r64 a64 b64 d64 u64 v64 w64 z64 => ?_), (fun V3 f64 p64 a64 b64 d64 => ?_)⟩)
      · have eW : ∀ b, b ≠ 53 → b < sX σ → V3 b = V b := fun b b1 b2 => by rw [b64.1 b b1 (by omega), f60.1 b b1, up2_nea _ _ b1, eV b b2, lnV_b b1]
        have eJ : ∀ j, j < 8 ∨ 14 < j → V3 53 j = lnV V x 53 j := fun j hj => by rw [b64.2 j hj, f60.2 j (by omega), up2_nek _ _ (by omega), eV 53 (by omega)]
        refine aw_aload_0 (q := 68) F dM_lane_67 rfl ?_
        refine av_geti (q := 71) F fM_104 dM_lane_68 rfl rfl (by first | exact hM.o | exact hM2.o | exact hM3.o | exact hl3.o | exact hM3.a55 | exact hM3.a56) ?_
        rw [z64]
        refine aw_if_le (q := 74) (t := 89) F dM_lane_71 rfl (by decide) (fun c71 => ?_) (fun c71 => by omega)
        refine aw_aload_0 (q := 90) F dM_lane_89 rfl ?_
        refine aw_aload_0 (q := 91) F dM_lane_90 rfl ?_
        refine av_getaE (q := 94) F fM_147 dM_lane_91 rfl rfl (by first | exact hM.o | exact hM2.o | exact hM3.o | exact hl3.o | exact hM3.a55 | exact hM3.a56) h4p ?_
        refine av_puta (q := 97) F fM_281 dM_lane_94 rfl rfl (wr_9_3 _) (by first | exact hM.o | exact hM2.o | exact hM3.o | exact hl3.o | exact hM3.a55 | exact hM3.a56) ?_
        have hM3 : moS (pS (pS (niS (newS σ 8 0) (sX σ)) 53 4 (sX σ)) 53 3 (sX σ)) (sX σ) := hM2.ln
        have hl3 : laS (pS (pS (niS (newS σ 8 0) (sX σ)) 53 4 (sX σ)) 53 3 (sX σ)) (sX σ) := hl2.gr (eS_put _ 53 3 (sX σ) (Z := fun b _ => b = 53) rfl) (fun j q => by omega)
        have hLV := d64.lv v64 w64
        refine aw_aload_0 (q := 98) F dM_lane_97 rfl ?_
        refine av_callV0 (q := 101) (ci := 9) F hm mM_asTold_i mM_asTold_n lM_283 dM_lane_98 rfl rfl rfl (by first | exact hM.o | exact hM2.o | exact hM3.o | exact hl3.o | exact hM3.a55 | exact hM3.a56) (by decide) (by decide) (by decide) (Nat.le_of_ble_eq_true rfl) (wM_asTold (u64.1.okT w64) w64 hM3 hl3 h64 hLV (fun V5 f98 g98 => ?_))
        refine aw_iconst (q := 102) F dM_lane_101 rfl (by decide) ?_
        refine aw_istore_2 (q := 103) F dM_lane_102 rfl trivial ?_
        refine fin r64.1 V5 _ _ _ (by decide) (by decide) hx a64 hM3 hl3 ⟨(eE.mono (fun b j q => q.1)).tr (eS_put _ 53 3 (sX σ) rfl), rfl, fun b b1 b2 => ?_⟩ u64.1 w64 (hLV.same (fun i hi => f98 _ (by omega))) g98 ?_ ?_ 12 0 rfl V5 _ rfl (fun _ _ => rfl) (fun k hk => absurd hk (by omega))
        · rw [f98 b (by omega)]; exact eW b (by omega) b1
        · rw [f98 53 (by decide), eJ 6 (by omega)]; exact lnV_6.1
        · rw [f98 53 (by decide)]; exact z64
      · have eW : ∀ b, b ≠ 53 → b < sX σ → V3 b = V b := fun b b1 b2 => by rw [b64.1 b b1 (by omega), f60.1 b b1, up2_nea _ _ b1, eV b b2, lnV_b b1]
        have eJ : ∀ j, j < 8 ∨ 14 < j → V3 53 j = lnV V x 53 j := fun j hj => by rw [b64.2 j hj, f60.2 j (by omega), up2_nek _ _ (by omega), eV 53 (by omega)]
        refine aw_aload_0 (q := 68) F dM_lane_67 rfl ?_
        refine av_geti (q := 71) F fM_104 dM_lane_68 rfl rfl (by first | exact hM.o | exact hM2.o | exact hM3.o | exact hl3.o | exact hM3.a55 | exact hM3.a56) ?_
        rw [d64.2.1]
        refine aw_if_le (q := 74) (t := 89) F dM_lane_71 rfl (by decide) (fun c71 => by have := d64.2.2.2; omega) (fun c71 => ?_)
        refine aw_aload_0 (q := 75) F dM_lane_74 rfl ?_
        refine aw_iconst (q := 76) F dM_lane_75 rfl (by decide) ?_
        refine av_puti (q := 79) F fM_49 dM_lane_76 rfl rfl (wr_9_1 _) (by first | exact hM.o | exact hM2.o | exact hM3.o | exact hl3.o | exact hM3.a55 | exact hM3.a56) ?_
        refine aw_aload_0 (q := 80) F dM_lane_79 rfl ?_
        refine aw_aload_0 (q := 81) F dM_lane_80 rfl ?_
        refine av_geti (q := 84) F fM_107 dM_lane_81 rfl rfl (by first | exact hM.o | exact hM2.o | exact hM3.o | exact hl3.o | exact hM3.a55 | exact hM3.a56) ?_
        refine av_puti (q := 87) F fM_9 dM_lane_84 rfl rfl (wr_9_2 _) (by first | exact hM.o | exact hM2.o | exact hM3.o | exact hl3.o | exact hM3.a55 | exact hM3.a56) ?_
        refine aw_iconst (q := 88) F dM_lane_87 rfl (by decide) ?_
        refine aw_iret F C dM_lane_88 rfl (by decide) (by decide) ?_
        refine hKf f64 p64 hx a64 _ _ (h.lf eE (fun b b1 b2 => ?_) (fun j hj => ?_) ?_ ?_ ?_ ?_) ⟨eE.mono (fun b j q => q.1), rfl, fun b b1 b2 => ?_⟩
        · rw [up2_nea _ _ b1, up2_nea _ _ b1]; exact eW b b1 b2
        · rw [up2_nek _ _ (by omega), up2_nek _ _ (by omega), eJ j (Or.inr hj), lnV_j (by omega) (by omega) (by omega) (by omega) (by omega)]
        · rw [up2_nek _ _ (by decide), up2_same]
        · rw [up2_same, up2_nek _ _ (by decide)]; exact d64.2.2.1
        · rw [up2_nek _ _ (by decide), up2_nek _ _ (by decide), eJ 6 (by omega)]; exact lnV_6.1
        · rw [up2_nek _ _ (by decide), up2_nek _ _ (by decide)]; exact d64.2.1
        · rw [up2_nea _ _ (by omega), up2_nea _ _ (by omega)]; exact eW b (by omega) b1
    · refine aw_aload_0 (q := 18) F dM_lane_17 rfl ?_
      refine aw_iconst (q := 19) F dM_lane_18 rfl (by decide) ?_
      refine av_callV1 (q := 22) (ci := 9) F hm mM_refused_i mM_refused_n lM_52 dM_lane_19 rfl rfl rfl (by first | exact hM.o | exact hM2.o | exact hM3.o | exact hl3.o | exact hM3.a55 | exact hM3.a56) (by decide) (by decide) (by decide) (Nat.le_of_ble_eq_true rfl) (wM_refused hM ?_)
      refine aw_iret F C dM_lane_22 rfl (by decide) (by decide) ?_
      exact (hK2 (by omega)).fin0 h (by decide)
end Mod51
