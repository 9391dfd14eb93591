theorem zbc_p {n : Nat} (h : n < 16) : zbc n = (pc4 n : Nat) := zbc_16 n h
def nxS (s : Nat) : Nat := (75 * s + 74) % 65537
theorem nxS_lt (s : Nat) : nxS s < 65537 := Nat.mod_lt _ (by decide)
theorem opF_lt (o : Nat) : ∀ (f l d : Nat), d + f ≤ 4 → opF o f l d < 4
  | 0, _, _, _ => by show 0 < 4; omega
  | f + 1, l, d, h => by
    show (if o.testBit d then (if l = 0 then d else opF o f (l - 1) (d + 1)) else opF o f l (d + 1)) < 4
    split
    · split
      · omega
      · exact opF_lt o f _ _ (by omega)
    · exact opF_lt o f _ _ (by omega)
abbrev DW : Type := Nat × Nat × Nat × Int
/-- one time of drafts by draws: the seed, open doors, the last one, since when all are shut -/
def dw1 (dr t : Nat) (q : DW) : DW := if nxS q.1 % 100 < dr ∧ 0 < pc4 q.2.1 then (nxS (nxS q.1), clr q.2.1 (opF q.2.1 4 (nxS (nxS q.1) % pc4 q.2.1) 0), opF q.2.1 4 (nxS (nxS q.1) % pc4 q.2.1) 0, if clr q.2.1 (opF q.2.1 4 (nxS (nxS q.1) % pc4 q.2.1) 0) = 0 then (t : Int) else -2) else (nxS q.1, q.2)
def dwS (dr : Nat) (q : DW) : Nat → DW
  | 0 => q
  | t + 1 => dw1 dr (t + 1) (dwS dr q t)
theorem gS.eS' {σ σ' : Shp} {g wn nn : Nat} {Z : Nat → Nat → Prop} (e : eS σ σ' Z) (h : gS σ g wn nn) (h3 : ¬ Z g 3) (h4 : ¬ Z g 4) : gS σ' g wn nn := ⟨e.o h.o, (e.p h.o h3).trans h.p3, (e.p h.o h4).trans h.p4, e.a h.w, e.a h.n, h.ne, h.gw, h.gn⟩
theorem wC_0 {dr i j : Nat} {W : Nat → Nat} (h : pc4 (j / 4) = 0) : wC dr W i j = if i = j then W j * 1200 else 0 := by
  unfold wC
  simp [h]
theorem wC_1 {dr i j : Nat} {W : Nat → Nat} (h : pc4 (j / 4) ≠ 0) : wC dr W i j = (if i = j then W j * (100 - dr) * 12 else 0) + if shB (j / 4) 4 i = true then W j * dr * (12 / pc4 (j / 4)) else 0 := by
  unfold wC
  simp [h, Nat.mul_assoc]
section Gusts3
variable {G : GE} {V : Nat → Nat → Int} {σ : Shp} {K : Option AV → Mem → Prop} {g wn nn : Nat}
theorem wU_draw {xo xl xd xs xn : Int} {o l dr s n : Nat} (hs : sO σ g 1) (ho : xo = o) (ho2 : o < 16) (hl : xl = l) (hl2 : l < 4) (hd : xd = dr) (hd2 : dr ≤ 100) (hsd : xs = s) (hs2 : s < 65537) (hn : xn = n) (hn2 : n ≤ 60) (hK : ∀ V' : Nat → Nat → Int, (∀ b, b ≠ g → V' b = V b) → (∀ j, j ≠ 0 → j ≠ 1 → V' g j = V g j) → V' g 0 = (dwS dr (s, o, l, if o = 0 then 0 else -2) n).2.2.1 → V' g 1 = (dwS dr (s, o, l, if o = 0 then 0 else -2) n).2.2.2 → K none (V', σ)) : Wp G 1 mU_draw [vR g, vI xo, vI xl, vI xd, vI xs, vI xn] (V, σ) 0 0 K := by
  refine wp_intro mU_draw_i.1 [some (vR g), some (vI xo), some (vI xl), some (vI xd), some (vI xs), some (vI xn), none, none, none, none] rfl rfl (Nat.le_of_ble_eq_true rfl) ?_
  intro X hG F C
  have hm := C.rm
  have loop : ∀ (j k : Nat), n - k = j → k ≤ n → ∀ (V1 : Nat → Nat → Int) (q : DW) (z1 z2 z3 : Int) (u : Option AV), (∀ b, b ≠ g → V1 b = V b) → (∀ j, j ≠ 0 → j ≠ 1 → V1 g j = V g j) → q = dwS dr (s, o, l, if o = 0 then 0 else -2) k → q.1 < 65537 → q.2.1 < 16 → V1 g 0 = q.2.2.1 → V1 g 1 = q.2.2.2 → z1 = q.2.1 → z2 = q.1 → z3 = (k + 1 : Nat) → AW X 30 [some (vR g), some (vI xo), some (vI xl), some (vI xd), some (vI xs), some (vI xn), some (vI z1), some (vI z2), some (vI z3), u] [] (V1, σ) 0 0 := by
    intro j
    induction j using Nat.strongRecOn with
    | ind j ih =>
      intro k hj hk V1 q z1 z2 z3 u hF1 hF2 hq hq1 hq2 hv0 hv1 hz1 hz2 hz3
      have hp4 := pc4_le q.2.1
      have hn1 := nxS_lt q.1
      have hn3 := nxS_lt (nxS q.1)
      have hop := opF_lt q.2.1 4 (nxS (nxS q.1) % pc4 q.2.1) 0 (by omega)
      have hcl := clr_le q.2.1 (opF q.2.1 4 (nxS (nxS q.1) % pc4 q.2.1) 0)
      have hst : dwS dr (s, o, l, if o = 0 then 0 else -2) (k + 1) = dw1 dr (k + 1) q := by rw [hq]; rfl
      have hno : ¬ (nxS q.1 % 100 < dr ∧ 0 < pc4 q.2.1) → dwS dr (s, o, l, if o = 0 then 0 else -2) (k + 1) = (nxS q.1, q.2) := fun h => by rw [hst]; unfold dw1; rw [if_neg h]
      have hye : (nxS q.1 % 100 < dr ∧ 0 < pc4 q.2.1) → dwS dr (s, o, l, if o = 0 then 0 else -2) (k + 1) = (nxS (nxS q.1), clr q.2.1 (opF q.2.1 4 (nxS (nxS q.1) % pc4 q.2.1) 0), opF q.2.1 4 (nxS (nxS q.1) % pc4 q.2.1) 0, if clr q.2.1 (opF q.2.1 4 (nxS (nxS q.1) % pc4 q.2.1) 0) = 0 then ((k + 1 : Nat) : Int) else -2) := fun h => by rw [hst]; unfold dw1; rw [if_pos h]
      refine aw_iload_8 (q := 32) F dU_draw_30 rfl ?_
      refine aw_iload_5 (q := 34) F dU_draw_32 rfl ?_
      refine aw_icmp_gt (q := 37) (t := 121) F dU_draw_34 rfl (by decide) (fun c34 => ?_) (fun c34 => ?_)
      · refine aw_vret F C dU_draw_121 rfl (Nat.le_refl _) (Nat.le_refl _) ?_
        have hkn : k = n := by omega
        subst hkn
        exact hK V1 hF1 hF2 (by rw [hv0, hq]) (by rw [hv1, hq])
      · refine aw_iload_7 (q := 39) F dU_draw_37 rfl ?_
        refine av_callS1 (q := 42) F hm mU_nextSeed_i mU_nextSeed_n lU_59 dU_draw_39 rfl (by decide) (Nat.le_refl _) (Nat.le_refl _) (Nat.le_of_ble_eq_true rfl) (wU_nextSeed (n := q.1) hz2 hq1 ?_)
        change AW X 42 _ (vI ((nxS q.1 : Nat) : Int) :: _) _ _ _
        refine aw_istore_7 (q := 44) F dU_draw_42 rfl trivial ?_
        refine aw_iload_6 (q := 46) F dU_draw_44 rfl ?_
        refine av_callS1 (q := 49) F hm mJI_bitCount_i mJI_bitCount_n lU_34 dU_draw_46 rfl (by decide) (Nat.le_refl _) (Nat.le_refl _) (Nat.le_of_ble_eq_true rfl) (wJI_bitCount (by omega) (by omega) ?_)
        rw [hz1, zbc_p hq2]
        refine aw_istore_9 (q := 51) F dU_draw_49 rfl trivial ?_
        refine aw_iload_7 (q := 53) F dU_draw_51 rfl ?_
        refine aw_bipush (q := 55) F dU_draw_53 rfl (by decide) ?_
        refine aw_irem (q := 56) F dU_draw_55 rfl (by omega) (by omega) ?_
        refine aw_iload_3 (q := 57) F dU_draw_56 rfl ?_
        refine aw_icmp_ge (q := 60) (t := 115) F dU_draw_57 rfl (by decide) (fun c57 => ?_) (fun c57 => ?_)
        · refine aw_iinc_8 (q := 118) F dU_draw_115 rfl trivial (by constructor <;> omega) ?_
          refine aw_goto (t := 30) F dU_draw_118 (by decide) ?_
          first
          | (exact ih _ (by omega) (k + 1) rfl (by omega) V1 (nxS q.1, q.2) _ _ _ _ hF1 hF2 (hno (by omega)).symm hn1 hq2 hv0 hv1 rfl rfl (by omega))
          | (refine ih _ (by omega) (k + 1) rfl (by omega) _ _ _ _ _ _ (fun b hb => by rw [up2_nea _ _ hb, up2_nea _ _ hb]; exact hF1 b hb) (fun j h0 h1 => by rw [up2_nek _ _ h1, up2_nek _ _ h0]; exact hF2 j h0 h1) (hye (by omega)).symm hn3 (by show clr _ _ < 16; omega) (by rw [up2_nek _ _ (by decide), up2_same]) (by rw [up2_same]; show _ = if _ then _ else _; first | (rw [if_pos (by omega)]; omega) | (rw [if_neg (by omega)])) rfl rfl (by omega))
        · refine aw_iload_9 (q := 62) F dU_draw_60 rfl ?_
          refine aw_if_le (q := 65) (t := 115) F dU_draw_62 rfl (by decide) (fun c62 => ?_) (fun c62 => ?_)
          · refine aw_iinc_8 (q := 118) F dU_draw_115 rfl trivial (by constructor <;> omega) ?_
            refine aw_goto (t := 30) F dU_draw_118 (by decide) ?_
            first
            | (exact ih _ (by omega) (k + 1) rfl (by omega) V1 (nxS q.1, q.2) _ _ _ _ hF1 hF2 (hno (by omega)).symm hn1 hq2 hv0 hv1 rfl rfl (by omega))
            | (refine ih _ (by omega) (k + 1) rfl (by omega) _ _ _ _ _ _ (fun b hb => by rw [up2_nea _ _ hb, up2_nea _ _ hb]; exact hF1 b hb) (fun j h0 h1 => by rw [up2_nek _ _ h1, up2_nek _ _ h0]; exact hF2 j h0 h1) (hye (by omega)).symm hn3 (by show clr _ _ < 16; omega) (by rw [up2_nek _ _ (by decide), up2_same]) (by rw [up2_same]; show _ = if _ then _ else _; first | (rw [if_pos (by omega)]; omega) | (rw [if_neg (by omega)])) rfl rfl (by omega))
          · refine aw_iload_7 (q := 67) F dU_draw_65 rfl ?_
            refine av_callS1 (q := 70) F hm mU_nextSeed_i mU_nextSeed_n lU_59 dU_draw_67 rfl (by decide) (Nat.le_refl _) (Nat.le_refl _) (Nat.le_of_ble_eq_true rfl) (wU_nextSeed (n := nxS q.1) rfl hn1 ?_)
            change AW X 70 _ (vI ((nxS (nxS q.1) : Nat) : Int) :: _) _ _ _
            refine aw_istore_7 (q := 72) F dU_draw_70 rfl trivial ?_
            refine aw_aload_0 (q := 73) F dU_draw_72 rfl ?_
            refine aw_iload_6 (q := 75) F dU_draw_73 rfl ?_
            refine aw_iload_7 (q := 77) F dU_draw_75 rfl ?_
            refine aw_iload_9 (q := 79) F dU_draw_77 rfl ?_
            refine aw_irem (q := 80) F dU_draw_79 rfl (by omega) (by omega) ?_
            refine av_callS2 (q := 83) F hm mU_openDoor_i mU_openDoor_n lU_62 dU_draw_80 rfl (by decide) (Nat.le_refl _) (Nat.le_refl _) (Nat.le_of_ble_eq_true rfl) (wU_openDoor (o := q.2.1) (n := nxS (nxS q.1) % pc4 q.2.1) rfl (by norm_cast) hq2 (by have := Nat.mod_lt (nxS (nxS q.1)) (show 0 < pc4 q.2.1 by omega); omega) ?_)
            refine av_puti (q := 86) F fU_52 dU_draw_83 rfl rfl (wr_1_0 _) hs ?_
            refine aw_iload_6 (q := 88) F dU_draw_86 rfl ?_
            refine aw_iconst (q := 89) F dU_draw_88 rfl (by decide) ?_
            refine aw_aload_0 (q := 90) F dU_draw_89 rfl ?_
            refine av_geti (q := 93) F fU_52 dU_draw_90 rfl rfl hs ?_
            rw [up2_same]
            refine aw_ishl (q := 94) F dU_draw_93 rfl ?_
            refine aw_iconst (q := 95) F dU_draw_94 rfl (by decide) ?_
            refine aw_ixor (q := 96) F dU_draw_95 rfl ?_
            refine aw_iand (q := 97) F dU_draw_96 rfl ?_
            rw [clr_z hq2 hop]
            refine aw_istore_6 (q := 99) F dU_draw_97 rfl trivial ?_
            refine aw_aload_0 (q := 100) F dU_draw_99 rfl ?_
            refine aw_iload_6 (q := 102) F dU_draw_100 rfl ?_
            refine aw_if_ne (q := 105) (t := 110) F dU_draw_102 rfl (by decide) (fun c102 => ?_) (fun c102 => ?_)
            · refine aw_bipush (q := 112) F dU_draw_110 rfl (by decide) ?_
              refine av_puti (q := 115) F fU_56 dU_draw_112 rfl rfl (wr_1_1 _) hs ?_
              refine aw_iinc_8 (q := 118) F dU_draw_115 rfl trivial (by constructor <;> omega) ?_
              refine aw_goto (t := 30) F dU_draw_118 (by decide) ?_
              first
              | (exact ih _ (by omega) (k + 1) rfl (by omega) V1 (nxS q.1, q.2) _ _ _ _ hF1 hF2 (hno (by omega)).symm hn1 hq2 hv0 hv1 rfl rfl (by omega))
              | (refine ih _ (by omega) (k + 1) rfl (by omega) _ _ _ _ _ _ (fun b hb => by rw [up2_nea _ _ hb, up2_nea _ _ hb]; exact hF1 b hb) (fun j h0 h1 => by rw [up2_nek _ _ h1, up2_nek _ _ h0]; exact hF2 j h0 h1) (hye (by omega)).symm hn3 (by show clr _ _ < 16; omega) (by rw [up2_nek _ _ (by decide), up2_same]) (by rw [up2_same]; show _ = if _ then _ else _; first | (rw [if_pos (by omega)]; omega) | (rw [if_neg (by omega)])) rfl rfl (by omega))
            · refine aw_iload_8 (q := 107) F dU_draw_105 rfl ?_
              refine aw_goto (t := 112) F dU_draw_107 (by decide) ?_
              refine av_puti (q := 115) F fU_56 dU_draw_112 rfl rfl (wr_1_1 _) hs ?_
              refine aw_iinc_8 (q := 118) F dU_draw_115 rfl trivial (by constructor <;> omega) ?_
              refine aw_goto (t := 30) F dU_draw_118 (by decide) ?_
              first
              | (exact ih _ (by omega) (k + 1) rfl (by omega) V1 (nxS q.1, q.2) _ _ _ _ hF1 hF2 (hno (by omega)).symm hn1 hq2 hv0 hv1 rfl rfl (by omega))
              | (refine ih _ (by omega) (k + 1) rfl (by omega) _ _ _ _ _ _ (fun b hb => by rw [up2_nea _ _ hb, up2_nea _ _ hb]; exact hF1 b hb) (fun j h0 h1 => by rw [up2_nek _ _ h1, up2_nek _ _ h0]; exact hF2 j h0 h1) (hye (by omega)).symm hn3 (by show clr _ _ < 16; omega) (by rw [up2_nek _ _ (by decide), up2_same]) (by rw [up2_same]; show _ = if _ then _ else _; first | (rw [if_pos (by omega)]; omega) | (rw [if_neg (by omega)])) rfl rfl (by omega))
  have h0 : ∀ (V1 : Nat → Nat → Int) (u : Option AV), (∀ b, b ≠ g → V1 b = V b) → (∀ j, j ≠ 0 → j ≠ 1 → V1 g j = V g j) → V1 g 0 = xl → V1 g 1 = (if o = 0 then 0 else -2) → AW X 30 [some (vR g), some (vI xo), some (vI xl), some (vI xd), some (vI xs), some (vI xn), some (vI xo), some (vI xs), some (vI 1), u] [] (V1, σ) 0 0 := fun V1 u h1 h2 h3 h4 => loop _ 0 rfl (by omega) V1 _ _ _ _ u h1 h2 rfl hs2 ho2 (h3.trans hl) h4 ho hsd rfl
  refine aw_iload_1 (q := 1) F dU_draw_0 rfl ?_
  refine aw_istore_6 (q := 3) F dU_draw_1 rfl trivial ?_
  refine aw_iload_4 (q := 5) F dU_draw_3 rfl ?_
  refine aw_istore_7 (q := 7) F dU_draw_5 rfl trivial ?_
  refine aw_aload_0 (q := 8) F dU_draw_7 rfl ?_
  refine aw_iload_2 (q := 9) F dU_draw_8 rfl ?_
  refine av_puti (q := 12) F fU_52 dU_draw_9 rfl rfl (wr_1_0 _) hs ?_
  refine aw_aload_0 (q := 13) F dU_draw_12 rfl ?_
  refine aw_iload_6 (q := 15) F dU_draw_13 rfl ?_
  refine aw_if_ne (q := 18) (t := 22) F dU_draw_15 rfl (by decide) (fun c15 => ?_) (fun c15 => ?_)
  · refine aw_bipush (q := 24) F dU_draw_22 rfl (by decide) ?_
    refine av_puti (q := 27) F fU_56 dU_draw_24 rfl rfl (wr_1_1 _) hs ?_
    refine aw_iconst (q := 28) F dU_draw_27 rfl (by decide) ?_
    refine aw_istore_8 (q := 30) F dU_draw_28 rfl trivial ?_
    refine h0 _ _ (fun b hb => by rw [up2_nea _ _ hb, up2_nea _ _ hb]) (fun j h0 h1 => by rw [up2_nek _ _ h1, up2_nek _ _ h0]) (by rw [up2_nek _ _ (by decide), up2_same]) ?_
    rw [up2_same]
    first
    | (rw [if_pos (by omega)])
    | (rw [if_neg (by omega)])
  · refine aw_iconst (q := 19) F dU_draw_18 rfl (by decide) ?_
    refine aw_goto (t := 24) F dU_draw_19 (by decide) ?_
    refine av_puti (q := 27) F fU_56 dU_draw_24 rfl rfl (wr_1_1 _) hs ?_
    refine aw_iconst (q := 28) F dU_draw_27 rfl (by decide) ?_
    refine aw_istore_8 (q := 30) F dU_draw_28 rfl trivial ?_
    refine h0 _ _ (fun b hb => by rw [up2_nea _ _ hb, up2_nea _ _ hb]) (fun j h0 h1 => by rw [up2_nek _ _ h1, up2_nek _ _ h0]) (by rw [up2_nek _ _ (by decide), up2_same]) ?_
    rw [up2_same]
    first
    | (rw [if_pos (by omega)])
    | (rw [if_neg (by omega)])
theorem wU_blowOnce {x : Int} {dr B : Nat} {W : Nat → Nat} (hs : gS σ g wn nn) (hx : x = dr) (hd : dr ≤ 100) (hW : ∀ i, i < 64 → V wn i = W i ∧ W i ≤ B) (hB : B ≤ 30000000000) (hK : ∀ (V' : Nat → Nat → Int) (σ' : Shp), gS σ' g nn wn → eS σ σ' (zG g) → sX σ' = sX σ → (∀ b, b ≠ nn → V' b = V b) → (∀ i, i < 64 → V' nn i = bwS dr W i) → K none (V', σ')) : Wp G 1 mU_blowOnce [vR g, vI x] (V, σ) 0 0 K := by
  have hne := hs.ne
  refine wp_intro mU_blowOnce_i.1 [some (vR g), some (vI x), none, none, none] rfl rfl (Nat.le_of_ble_eq_true rfl) ?_
  intro X hG F C
  have hm := C.rm
  have loop : ∀ (j k : Nat), 64 - k = j → k ≤ 64 → ∀ (V1 : Nat → Nat → Int) (w : Int) (u3 u4 : Option AV), (∀ b, b ≠ nn → V1 b = V b) → (∀ i, i < 64 → V1 nn i = sumN (wC dr W i) k) → w = k → AW X 10 [some (vR g), some (vI x), some (vI w), u3, u4] [] (V1, σ) 0 0 := by
    intro j
    induction j using Nat.strongRecOn with
    | ind j ih =>
      intro k hj hk V1 w u3 u4 hF hV hw
      have hb : ∀ i, i < 64 → sumN (wC dr W i) k ≤ 153600 * 30000000000 := fun i hi => by
        have h1 := sumN_le (f := wC dr W i) (k := k) (B := 2400 * B) (fun j hj => wC_le hd (hW j (by omega)).2)
        have h2 : k * (2400 * B) ≤ 64 * (2400 * B) := Nat.mul_le_mul_right _ hk
        omega
      have hwk : k < 64 → V1 wn k = W k ∧ W k ≤ 30000000000 := fun h => ⟨(congrFun (hF wn hne) k).trans (hW k h).1, Nat.le_trans (hW k h).2 hB⟩
      have hs1 : ∀ i, sumN (wC dr W i) (k + 1) = sumN (wC dr W i) k + wC dr W i k := fun i => rfl
      have hp4 := pc4_le (k / 4)
      have hm1 : k < 64 → W k * (100 - dr) ≤ 30000000000 * 100 := fun h => Nat.mul_le_mul (hwk h).2 (by omega)
      have hm2 : k < 64 → W k * dr ≤ 30000000000 * 100 := fun h => Nat.mul_le_mul (hwk h).2 hd
      have hm3 : k < 64 → W k * dr * (12 / pc4 (k / 4)) ≤ 30000000000 * 100 * 12 := fun h => Nat.mul_le_mul (hm2 h) (Nat.div_le_self _ _)
      refine aw_iload_2 (q := 11) F dU_blowOnce_10 rfl ?_
      refine aw_aload_0 (q := 12) F dU_blowOnce_11 rfl ?_
      refine av_getaE (q := 15) F fU_9 dU_blowOnce_12 rfl rfl (by first | exact hs.o | exact hs.w | exact hs.n) hs.p3 ?_
      refine av_alen (q := 16) F dU_blowOnce_15 rfl (by first | exact hs.o | exact hs.w | exact hs.n) (by decide) (by omega) ?_
      refine aw_icmp_ge (q := 19) (t := 121) F dU_blowOnce_16 rfl (by decide) (fun c16 => ?_) (fun c16 => ?_)
      · refine aw_aload_0 (q := 122) F dU_blowOnce_121 rfl ?_
        refine av_getaE (q := 125) F fU_9 dU_blowOnce_122 rfl rfl (by first | exact hs.o | exact hs.w | exact hs.n) hs.p3 ?_
        refine aw_astore_2 (q := 126) F dU_blowOnce_125 rfl trivial ?_
        refine aw_aload_0 (q := 127) F dU_blowOnce_126 rfl ?_
        refine aw_aload_0 (q := 128) F dU_blowOnce_127 rfl ?_
        refine av_getaE (q := 131) F fU_15 dU_blowOnce_128 rfl rfl (by first | exact hs.o | exact hs.w | exact hs.n) hs.p4 ?_
        refine av_puta (q := 134) F fU_9 dU_blowOnce_131 rfl rfl (wr_1_3 _) (by first | exact hs.o | exact hs.w | exact hs.n) ?_
        refine aw_aload_0 (q := 135) F dU_blowOnce_134 rfl ?_
        refine aw_aload_2 (q := 136) F dU_blowOnce_135 rfl ?_
        refine av_puta (q := 139) F fU_15 dU_blowOnce_136 rfl rfl (wr_1_4 _) (by first | exact hs.o | exact hs.w | exact hs.n) ?_
        refine aw_vret F C dU_blowOnce_139 rfl (Nat.le_refl _) (Nat.le_refl _) ?_
        refine hK V1 _ ?_ ((eS_put σ g 3 nn ⟨rfl, Or.inl rfl⟩).tr (eS_put _ g 4 wn ⟨rfl, Or.inr rfl⟩)) rfl hF (fun i hi => ?_)
        · exact ⟨hs.o, by show up2 (up2 (sP σ) g 3 nn) g 4 wn g 3 = nn; rw [up2_nek _ _ (by decide), up2_same], up2_same _ _ _ _, hs.n, hs.w, hs.ne.symm, hs.gn, hs.gw⟩
        · rw [hV i hi]; first | (rw [show k = 64 by omega]; rfl) | omega
      · refine aw_iload_2 (q := 20) F dU_blowOnce_19 rfl ?_
        refine aw_aload_0 (q := 21) F dU_blowOnce_20 rfl ?_
        refine av_getaE (q := 24) F fU_15 dU_blowOnce_21 rfl rfl (by first | exact hs.o | exact hs.w | exact hs.n) hs.p4 ?_
        refine av_alen (q := 25) F dU_blowOnce_24 rfl (by first | exact hs.o | exact hs.w | exact hs.n) (by decide) (by omega) ?_
        refine aw_icmp_ge (q := 28) (t := 121) F dU_blowOnce_25 rfl (by decide) (fun c25 => ?_) (fun c25 => ?_)
        · refine aw_aload_0 (q := 122) F dU_blowOnce_121 rfl ?_
          refine av_getaE (q := 125) F fU_9 dU_blowOnce_122 rfl rfl (by first | exact hs.o | exact hs.w | exact hs.n) hs.p3 ?_
          refine aw_astore_2 (q := 126) F dU_blowOnce_125 rfl trivial ?_
          refine aw_aload_0 (q := 127) F dU_blowOnce_126 rfl ?_
          refine aw_aload_0 (q := 128) F dU_blowOnce_127 rfl ?_
          refine av_getaE (q := 131) F fU_15 dU_blowOnce_128 rfl rfl (by first | exact hs.o | exact hs.w | exact hs.n) hs.p4 ?_
          refine av_puta (q := 134) F fU_9 dU_blowOnce_131 rfl rfl (wr_1_3 _) (by first | exact hs.o | exact hs.w | exact hs.n) ?_
          refine aw_aload_0 (q := 135) F dU_blowOnce_134 rfl ?_
          refine aw_aload_2 (q := 136) F dU_blowOnce_135 rfl ?_
          refine av_puta (q := 139) F fU_15 dU_blowOnce_136 rfl rfl (wr_1_4 _) (by first | exact hs.o | exact hs.w | exact hs.n) ?_
          refine aw_vret F C dU_blowOnce_139 rfl (Nat.le_refl _) (Nat.le_refl _) ?_
          refine hK V1 _ ?_ ((eS_put σ g 3 nn ⟨rfl, Or.inl rfl⟩).tr (eS_put _ g 4 wn ⟨rfl, Or.inr rfl⟩)) rfl hF (fun i hi => ?_)
          · exact ⟨hs.o, by show up2 (up2 (sP σ) g 3 nn) g 4 wn g 3 = nn; rw [up2_nek _ _ (by decide), up2_same], up2_same _ _ _ _, hs.n, hs.w, hs.ne.symm, hs.gn, hs.gw⟩
          · rw [hV i hi]; first | (rw [show k = 64 by omega]; rfl) | omega
        · refine aw_iload_2 (q := 29) F dU_blowOnce_28 rfl ?_
          refine aw_iconst (q := 30) F dU_blowOnce_29 rfl (by decide) ?_
          refine aw_idiv (q := 31) F dU_blowOnce_30 rfl (by omega) (by omega) ?_
          refine aw_istore_3 (q := 32) F dU_blowOnce_31 rfl trivial ?_
          refine aw_iload_3 (q := 33) F dU_blowOnce_32 rfl ?_
          refine av_callS1 (q := 36) F hm mJI_bitCount_i mJI_bitCount_n lU_34 dU_blowOnce_33 rfl (by decide) (Nat.le_refl _) (Nat.le_refl _) (Nat.le_of_ble_eq_true rfl) (wJI_bitCount (by omega) (by omega) ?_)
          rw [show w / 4 = ((k / 4 : Nat) : Int) by omega, zbc_p (show k / 4 < 16 by omega)]
          refine aw_istore_4 (q := 38) F dU_blowOnce_36 rfl trivial ?_
          refine aw_iload_4 (q := 40) F dU_blowOnce_38 rfl ?_
          refine aw_if_ne (q := 43) (t := 69) F dU_blowOnce_40 rfl (by decide) (fun c40 => ?_) (fun c40 => ?_)
          · refine aw_aload_0 (q := 70) F dU_blowOnce_69 rfl ?_
            refine av_getaE (q := 73) F fU_15 dU_blowOnce_70 rfl rfl (by first | exact hs.o | exact hs.w | exact hs.n) hs.p4 ?_
            refine aw_iload_2 (q := 74) F dU_blowOnce_73 rfl ?_
            refine aw_dup2 (q := 75) F dU_blowOnce_74 rfl trivial trivial ?_
            refine av_laload (q := 76) F dU_blowOnce_75 rfl (by first | exact hs.o | exact hs.w | exact hs.n) (by omega) (by omega) ?_
            refine aw_aload_0 (q := 77) F dU_blowOnce_76 rfl ?_
            refine av_getaE (q := 80) F fU_9 dU_blowOnce_77 rfl rfl (by first | exact hs.o | exact hs.w | exact hs.n) hs.p3 ?_
            refine aw_iload_2 (q := 81) F dU_blowOnce_80 rfl ?_
            refine av_laload (q := 82) F dU_blowOnce_81 rfl (by first | exact hs.o | exact hs.w | exact hs.n) (by omega) (by omega) ?_
            rw [show w.toNat = k by omega, (hwk (by omega)).1, hV k (by omega)]
            have hbk := hb k (by omega)
            have hwk2 := (hwk (by omega)).2
            have hm1 := hm1 (by omega)
            refine aw_bipush (q := 84) F dU_blowOnce_82 rfl (by decide) ?_
            refine aw_iload_1 (q := 85) F dU_blowOnce_84 rfl ?_
            refine aw_isub (q := 86) F dU_blowOnce_85 rfl (by constructor <;> omega) ?_
            refine aw_i2l (q := 87) F dU_blowOnce_86 rfl ?_
            rw [show (100 - x : Int) = ((100 - dr : Nat) : Int) by omega]
            refine aw_lmul (q := 88) F dU_blowOnce_87 rfl (by rw [← Int.natCast_mul]; omega) ?_
            rw [← Int.natCast_mul]
            refine aw_ldc2 (q := 91) (z := 12) F dU_blowOnce_88 rfl kU_42 (by decide) ?_
            refine aw_lmul (q := 92) F dU_blowOnce_91 rfl (by constructor <;> omega) ?_
            refine aw_ladd (q := 93) F dU_blowOnce_92 rfl (by constructor <;> omega) ?_
            refine av_lastore (q := 94) F dU_blowOnce_93 rfl (by first | exact hs.o | exact hs.w | exact hs.n) (by omega) (by omega) ?_
            refine aw_aload_0 (q := 95) F dU_blowOnce_94 rfl ?_
            refine aw_iload_3 (q := 96) F dU_blowOnce_95 rfl ?_
            refine aw_aload_0 (q := 97) F dU_blowOnce_96 rfl ?_
            refine av_getaE (q := 100) F fU_9 dU_blowOnce_97 rfl rfl (by first | exact hs.o | exact hs.w | exact hs.n) hs.p3 ?_
            refine aw_iload_2 (q := 101) F dU_blowOnce_100 rfl ?_
            refine av_laload (q := 102) F dU_blowOnce_101 rfl (by first | exact hs.o | exact hs.w | exact hs.n) (by omega) (by omega) ?_
            rw [show w.toNat = k by omega, up2_nea _ _ hne, (hwk (by omega)).1]
            have hm2 := hm2 (by omega)
            have hm3 := hm3 (by omega)
            refine aw_iload_1 (q := 103) F dU_blowOnce_102 rfl ?_
            refine aw_i2l (q := 104) F dU_blowOnce_103 rfl ?_
            refine aw_lmul (q := 105) F dU_blowOnce_104 rfl (by rw [hx, ← Int.natCast_mul]; omega) ?_
            rw [show ((W k : Nat) : Int) * x = ((W k * dr : Nat) : Int) by rw [hx, ← Int.natCast_mul]]
            refine aw_bipush (q := 107) F dU_blowOnce_105 rfl (by decide) ?_
            refine aw_iload_4 (q := 109) F dU_blowOnce_107 rfl ?_
            refine aw_idiv (q := 110) F dU_blowOnce_109 rfl (by omega) (by omega) ?_
            refine aw_i2l (q := 111) F dU_blowOnce_110 rfl ?_
            rw [show (12 : Int) / ((pc4 (k / 4) : Nat) : Int) = ((12 / pc4 (k / 4) : Nat) : Int) by norm_cast]
            refine aw_lmul (q := 112) F dU_blowOnce_111 rfl (by rw [← Int.natCast_mul]; omega) ?_
            rw [← Int.natCast_mul]
            have hN : ∀ i, i < 64 → up2 V1 nn k (((sumN (wC dr W k) k : Nat) : Int) + ((W k * (100 - dr) : Nat) : Int) * 12) nn i = ((sumN (wC dr W i) k + if i = k then W k * (100 - dr) * 12 else 0 : Nat) : Int) ∧ (sumN (wC dr W i) k + if i = k then W k * (100 - dr) * 12 else 0) + W k * dr * (12 / pc4 (k / 4)) < 9000000000000000000 := fun i hi => by
              have h1 := hb i hi
              have h2 := hV i hi
              by_cases e : i = k
              · subst e; rw [up2_same, if_pos rfl]; omega
              · rw [up2_nek _ _ e, if_neg e, h2]; omega
            refine av_callV2 (q := 115) (ci := 1) F hm mU_shutEach_i mU_shutEach_n lU_44 dU_blowOnce_112 rfl rfl rfl (by first | exact hs.o | exact hs.w | exact hs.n) (by decide) (Nat.le_refl _) (Nat.le_refl _) (Nat.le_of_ble_eq_true rfl) (wU_shutEach (o := k / 4) (w := W k * dr * (12 / pc4 (k / 4))) (N := fun i => sumN (wC dr W i) k + if i = k then W k * (100 - dr) * 12 else 0) hs rfl (by omega) rfl hN (fun v112 f112 g112 => ?_))
            refine aw_iinc_2 (q := 118) F dU_blowOnce_115 rfl trivial (by constructor <;> omega) ?_
            refine aw_goto (t := 10) F dU_blowOnce_118 (by decide) ?_
            first
            | (refine ih _ (by omega) (k + 1) rfl (by omega) v112 _ _ _ (fun b hb => by rw [f112 b hb, up2_nea _ _ hb]; exact hF b hb) (fun i hi => ?_) (by omega)
               rw [g112 i hi, hs1, wC_1 (show pc4 (k / 4) ≠ 0 by omega), Nat.add_assoc])
            | (refine ih _ (by omega) (k + 1) rfl (by omega) _ _ _ _ (fun b hb => by rw [up2_nea _ _ hb]; exact hF b hb) (fun i hi => ?_) (by omega)
               rw [hs1, wC_0 (show pc4 (k / 4) = 0 by omega)]
               by_cases e : i = k
               · subst e
                 rw [show w.toNat = i by omega, up2_same, if_pos rfl]
                 omega
               · rw [show w.toNat = k by omega, up2_nek _ _ e, if_neg e, hV i hi]
                 omega)
          · refine aw_aload_0 (q := 44) F dU_blowOnce_43 rfl ?_
            refine av_getaE (q := 47) F fU_15 dU_blowOnce_44 rfl rfl (by first | exact hs.o | exact hs.w | exact hs.n) hs.p4 ?_
            refine aw_iload_2 (q := 48) F dU_blowOnce_47 rfl ?_
            refine aw_dup2 (q := 49) F dU_blowOnce_48 rfl trivial trivial ?_
            refine av_laload (q := 50) F dU_blowOnce_49 rfl (by first | exact hs.o | exact hs.w | exact hs.n) (by omega) (by omega) ?_
            refine aw_aload_0 (q := 51) F dU_blowOnce_50 rfl ?_
            refine av_getaE (q := 54) F fU_9 dU_blowOnce_51 rfl rfl (by first | exact hs.o | exact hs.w | exact hs.n) hs.p3 ?_
            refine aw_iload_2 (q := 55) F dU_blowOnce_54 rfl ?_
            refine av_laload (q := 56) F dU_blowOnce_55 rfl (by first | exact hs.o | exact hs.w | exact hs.n) (by omega) (by omega) ?_
            rw [show w.toNat = k by omega, (hwk (by omega)).1, hV k (by omega)]
            have hbk := hb k (by omega)
            have hwk2 := (hwk (by omega)).2
            have hm1 := hm1 (by omega)
            refine aw_ldc2 (q := 59) (z := 100) F dU_blowOnce_56 rfl kU_40 (by decide) ?_
            refine aw_lmul (q := 60) F dU_blowOnce_59 rfl (by constructor <;> omega) ?_
            refine aw_ldc2 (q := 63) (z := 12) F dU_blowOnce_60 rfl kU_42 (by decide) ?_
            refine aw_lmul (q := 64) F dU_blowOnce_63 rfl (by constructor <;> omega) ?_
            refine aw_ladd (q := 65) F dU_blowOnce_64 rfl (by constructor <;> omega) ?_
            refine av_lastore (q := 66) F dU_blowOnce_65 rfl (by first | exact hs.o | exact hs.w | exact hs.n) (by omega) (by omega) ?_
            refine aw_goto (t := 115) F dU_blowOnce_66 (by decide) ?_
            refine aw_iinc_2 (q := 118) F dU_blowOnce_115 rfl trivial (by constructor <;> omega) ?_
            refine aw_goto (t := 10) F dU_blowOnce_118 (by decide) ?_
            first
            | (refine ih _ (by omega) (k + 1) rfl (by omega) v112 _ _ _ (fun b hb => by rw [f112 b hb, up2_nea _ _ hb]; exact hF b hb) (fun i hi => ?_) (by omega)
               rw [g112 i hi, hs1, wC_1 (show pc4 (k / 4) ≠ 0 by omega), Nat.add_assoc])
            | (refine ih _ (by omega) (k + 1) rfl (by omega) _ _ _ _ (fun b hb => by rw [up2_nea _ _ hb]; exact hF b hb) (fun i hi => ?_) (by omega)
               rw [hs1, wC_0 (show pc4 (k / 4) = 0 by omega)]
               by_cases e : i = k
               · subst e
                 rw [show w.toNat = i by omega, up2_same, if_pos rfl]
                 omega
               · rw [show w.toNat = k by omega, up2_nek _ _ e, if_neg e, hV i hi]
                 omega)
  refine aw_aload_0 (q := 1) F dU_blowOnce_0 rfl ?_
  refine av_getaE (q := 4) F fU_15 dU_blowOnce_1 rfl rfl (by first | exact hs.o | exact hs.w | exact hs.n) hs.p4 ?_
  refine aw_lconst (q := 5) (z := 0) F dU_blowOnce_4 rfl rfl ?_
  refine av_callS2 (q := 8) F hm mJA_fillJ_i mJA_fillJ_n lU_18 dU_blowOnce_5 rfl (by decide) (Nat.le_refl _) (Nat.le_refl _) (Nat.le_of_ble_eq_true rfl) (wJA_fillJ hs.n (by decide) ?_)
  refine aw_iconst (q := 9) F dU_blowOnce_8 rfl (by decide) ?_
  refine aw_istore_2 (q := 10) F dU_blowOnce_9 rfl trivial ?_
  refine loop _ 0 rfl (by omega) _ _ _ _ (fun b hb => ?_) (fun i hi => ?_) rfl
  · funext j; unfold fillV; rw [if_neg (fun h => hb h.1)]
  · unfold fillV; rw [if_pos ⟨rfl, hi⟩]; rfl
theorem wU_blow {xo xl xd xn : Int} {o l dr n : Nat} (hs0 : gS σ g wn nn) (ho : xo = o) (ho2 : o < 16) (hl : xl = l) (hl2 : l < 4) (hd : xd = dr) (hd2 : dr ≤ 100) (hn : xn = n) (hn2 : n ≤ 3) (hK : ∀ (V' : Nat → Nat → Int) (σ' : Shp) (wn' nn' : Nat), gS σ' g wn' nn' → eS σ σ' (zG g) → sX σ' = sX σ → (∀ b, b < g ∨ g + 2 < b → V' b = V b) → V' g 2 = (1200 ^ n : Nat) → (∀ i, i < 64 → V' wn' i = bwN dr o l n i) → K none (V', σ')) : Wp G 2 mU_blow [vR g, vI xo, vI xl, vI xd, vI xn] (V, σ) 0 0 K := by
  refine wp_intro mU_blow_i.1 [some (vR g), some (vI xo), some (vI xl), some (vI xd), some (vI xn), none, none] rfl rfl (Nat.le_of_ble_eq_true rfl) ?_
  intro X hG F C
  have hm := C.rm
  have loop : ∀ (j k : Nat), n - k = j → k ≤ n → ∀ (V1 : Nat → Nat → Int) (σ1 : Shp) (wn nn : Nat) (w u : Int), gS σ1 g wn nn → eS σ σ1 (zG g) → sX σ1 = sX σ → (∀ b, b < g ∨ g + 2 < b → V1 b = V b) → V1 g 2 = (1200 ^ k : Nat) → (∀ i, i < 64 → V1 wn i = bwN dr o l k i) → w = k → AW X 46 [some (vR g), some (vI xo), some (vI xl), some (vI xd), some (vI xn), some (vI u), some (vI w)] [] (V1, σ1) 0 0 := by
    intro j
    induction j using Nat.strongRecOn with
    | ind j ih =>
      intro k hj hk V1 σ1 wn nn w u hs he hx1 hF h2 hV hw
      have hgw := hs.gw
      have hgn := hs.gn
      have hp2 : k ≤ 2 → 1200 ^ k ≤ 1200 ^ 2 := fun h => Nat.pow_le_pow_right (by decide) h
      have hp3 : k ≤ 2 → 153600 ^ k ≤ 153600 ^ 2 := fun h => Nat.pow_le_pow_right (by decide) h
      have hB : k ≤ 2 → ∀ i, i < 64 → V1 wn i = bwN dr o l k i ∧ bwN dr o l k i ≤ 30000000000 := fun h i hi => ⟨hV i hi, by have := bwN_le (o := o) (l := l) hd2 k i; have := hp3 h; omega⟩
      refine aw_iload_6 (q := 48) F dU_blow_46 rfl ?_
      refine aw_iload_4 (q := 50) F dU_blow_48 rfl ?_
      refine aw_icmp_ge (q := 53) (t := 76) F dU_blow_50 rfl (by decide) (fun c50 => ?_) (fun c50 => ?_)
      · refine aw_vret F C dU_blow_76 rfl (Nat.le_refl _) (Nat.le_refl _) ?_
        have hkn : k = n := by omega
        subst hkn
        exact hK V1 σ1 wn nn hs he hx1 hF h2 hV
      · refine aw_aload_0 (q := 54) F dU_blow_53 rfl ?_
        refine aw_iload_3 (q := 55) F dU_blow_54 rfl ?_
        refine av_callV1 (q := 58) (ci := 1) F hm mU_blowOnce_i mU_blowOnce_n lU_28 dU_blow_55 rfl rfl rfl (by first | exact hs.o | exact gs55.o) (by decide) (Nat.le_refl _) (Nat.le_refl _) (Nat.le_of_ble_eq_true rfl) (wU_blowOnce (W := bwN dr o l k) hs hd hd2 (hB (by omega)) (Nat.le_refl _) (fun v55 sg55 gs55 e55 x55 f55 h55 => ?_))
        refine aw_aload_0 (q := 59) F dU_blow_58 rfl ?_
        refine aw_dup (q := 60) F dU_blow_59 rfl trivial ?_
        have hp2 := hp2 (by omega)
        refine av_getl (q := 63) F fU_24 dU_blow_60 rfl rfl (by first | exact hs.o | exact gs55.o) ?_
        obtain ⟨N, hN⟩ : ∃ N : Nat, N = 1200 ^ k := ⟨_, rfl⟩
        rw [f55 g (by omega), h2, ← hN]
        rw [← hN] at hp2
        refine aw_ldc2 (q := 66) (z := 1200) F dU_blow_63 rfl kU_32 (by decide) ?_
        refine aw_lmul (q := 67) F dU_blow_66 rfl (by constructor <;> omega) ?_
        refine av_putl (q := 70) F fU_24 dU_blow_67 rfl rfl (wr_1_2 _) (by first | exact hs.o | exact gs55.o) ?_
        refine aw_iinc_6 (q := 73) F dU_blow_70 rfl trivial (by constructor <;> omega) ?_
        refine aw_goto (t := 46) F dU_blow_73 (by decide) ?_
        have hgw2 := gs55.gw
        refine ih _ (by omega) (k + 1) rfl (by omega) _ _ _ _ _ _ gs55 (he.tr e55) (x55.trans hx1) (fun b hb => ?_) ?_ (fun i hi => ?_) (by omega)
        · rw [up2_nea _ _ (by omega), f55 b (by omega)]; exact hF b hb
        · rw [up2_same, Nat.pow_succ, ← hN]; omega
        · rw [up2_nea _ _ (by omega), h55 i hi]; rfl
  have hs := hs0
  have hgw := hs.gw
  refine aw_aload_0 (q := 1) F dU_blow_0 rfl ?_
  refine av_getaE (q := 4) F fU_9 dU_blow_1 rfl rfl (by first | exact hs.o | exact hs.w | exact hs.n) hs.p3 ?_
  refine aw_lconst (q := 5) (z := 0) F dU_blow_4 rfl rfl ?_
  refine av_callS2 (q := 8) F hm mJA_fillJ_i mJA_fillJ_n lU_18 dU_blow_5 rfl (by decide) (Nat.le_refl _) (Nat.le_refl _) (Nat.le_of_ble_eq_true rfl) (wJA_fillJ hs.w (by decide) ?_)
  refine aw_iload_1 (q := 9) F dU_blow_8 rfl ?_
  refine aw_iconst (q := 10) F dU_blow_9 rfl (by decide) ?_
  refine aw_imul (q := 11) F dU_blow_10 rfl (by constructor <;> omega) ?_
  refine aw_iload_2 (q := 12) F dU_blow_11 rfl ?_
  refine aw_iadd (q := 13) F dU_blow_12 rfl (by constructor <;> omega) ?_
  refine aw_istore_5 (q := 15) F dU_blow_13 rfl trivial ?_
  refine aw_iload_5 (q := 17) F dU_blow_15 rfl ?_
  refine aw_if_lt (q := 20) (t := 38) F dU_blow_17 rfl (by decide) (fun c17 => by omega) (fun c17 => ?_)
  refine aw_iload_5 (q := 22) F dU_blow_20 rfl ?_
  refine aw_aload_0 (q := 23) F dU_blow_22 rfl ?_
  refine av_getaE (q := 26) F fU_9 dU_blow_23 rfl rfl (by first | exact hs.o | exact hs.w | exact hs.n) hs.p3 ?_
  refine av_alen (q := 27) F dU_blow_26 rfl (by first | exact hs.o | exact hs.w | exact hs.n) (by decide) (by omega) ?_
  refine aw_icmp_ge (q := 30) (t := 38) F dU_blow_27 rfl (by decide) (fun c27 => by omega) (fun c27 => ?_)
  refine aw_aload_0 (q := 31) F dU_blow_30 rfl ?_
  refine av_getaE (q := 34) F fU_9 dU_blow_31 rfl rfl (by first | exact hs.o | exact hs.w | exact hs.n) hs.p3 ?_
  refine aw_iload_5 (q := 36) F dU_blow_34 rfl ?_
  refine aw_lconst (q := 37) (z := 1) F dU_blow_36 rfl rfl ?_
  refine av_lastore (q := 38) F dU_blow_37 rfl (by first | exact hs.o | exact hs.w | exact hs.n) (by omega) (by omega) ?_
  refine aw_aload_0 (q := 39) F dU_blow_38 rfl ?_
  refine aw_lconst (q := 40) (z := 1) F dU_blow_39 rfl rfl ?_
  refine av_putl (q := 43) F fU_24 dU_blow_40 rfl rfl (wr_1_2 _) (by first | exact hs.o | exact hs.w | exact hs.n) ?_
  refine aw_iconst (q := 44) F dU_blow_43 rfl (by decide) ?_
  refine aw_istore_6 (q := 46) F dU_blow_44 rfl trivial ?_
  refine loop _ 0 rfl (by omega) _ _ _ _ _ _ hs (eS.rf _ _) rfl (fun b hb => ?_) (by rw [up2_same]; rfl) (fun i hi => ?_) rfl
  · rw [up2_nea _ _ (by omega), up2_nea _ _ (by omega)]; funext j; unfold fillV; rw [if_neg (fun h => by omega)]
  · rw [up2_nea _ _ (by omega), show (xo * 4 + xl).toNat = o * 4 + l by omega]
    show _ = ((if i = o * 4 + l then 1 else 0 : Nat) : Int)
    by_cases e : i = o * 4 + l
    · subst e; rw [up2_same, if_pos rfl]; rfl
    · rw [up2_nek _ _ e, if_neg e]; unfold fillV; rw [if_pos ⟨rfl, hi⟩]; rfl
end Gusts3
