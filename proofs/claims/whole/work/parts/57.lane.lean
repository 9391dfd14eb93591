theorem dL_begin_0 : decode mL_begin.2.1 0 = .ok (.aload_n 0, 1) := by decide +kernel
theorem dL_begin_1 : decode mL_begin.2.1 1 = .ok (.aload_n 1, 1) := by decide +kernel
theorem dL_begin_2 : decode mL_begin.2.1 2 = .ok (.putfield 16, 3) := by decide +kernel
theorem dL_begin_5 : decode mL_begin.2.1 5 = .ok (.aload_n 0, 1) := by decide +kernel
theorem dL_begin_6 : decode mL_begin.2.1 6 = .ok (.getfield 23, 3) := by decide +kernel
theorem dL_begin_9 : decode mL_begin.2.1 9 = .ok (.aload_n 1, 1) := by decide +kernel
theorem dL_begin_10 : decode mL_begin.2.1 10 = .ok (.invokevirtual 383, 3) := by decide +kernel
theorem dL_begin_13 : decode mL_begin.2.1 13 = .ok (.aload_n 0, 1) := by decide +kernel
theorem dL_begin_14 : decode mL_begin.2.1 14 = .ok (.getfield 23, 3) := by decide +kernel
theorem dL_begin_17 : decode mL_begin.2.1 17 = .ok (.aload_n 0, 1) := by decide +kernel
theorem dL_begin_18 : decode mL_begin.2.1 18 = .ok (.getfield 23, 3) := by decide +kernel
theorem dL_begin_21 : decode mL_begin.2.1 21 = .ok (.aload_n 1, 1) := by decide +kernel
theorem dL_begin_22 : decode mL_begin.2.1 22 = .ok (.invokevirtual 386, 3) := by decide +kernel
theorem dL_begin_25 : decode mL_begin.2.1 25 = .ok (.invokevirtual 357, 3) := by decide +kernel
theorem dL_begin_28 : decode mL_begin.2.1 28 = .ok (.aload_n 0, 1) := by decide +kernel
theorem dL_begin_29 : decode mL_begin.2.1 29 = .ok (.iconst 0, 1) := by decide +kernel
theorem dL_begin_30 : decode mL_begin.2.1 30 = .ok (.putfield 354, 3) := by decide +kernel
theorem dL_begin_33 : decode mL_begin.2.1 33 = .ok (.aload_n 0, 1) := by decide +kernel
theorem dL_begin_34 : decode mL_begin.2.1 34 = .ok (.iconst 0, 1) := by decide +kernel
theorem dL_begin_35 : decode mL_begin.2.1 35 = .ok (.putfield 360, 3) := by decide +kernel
theorem dL_begin_38 : decode mL_begin.2.1 38 = .ok (.aload_n 0, 1) := by decide +kernel
theorem dL_begin_39 : decode mL_begin.2.1 39 = .ok (.iconst (-1), 1) := by decide +kernel
theorem dL_begin_40 : decode mL_begin.2.1 40 = .ok (.putfield 41, 3) := by decide +kernel
theorem dL_begin_43 : decode mL_begin.2.1 43 = .ok (.aload_n 0, 1) := by decide +kernel
theorem dL_begin_44 : decode mL_begin.2.1 44 = .ok (.getfield 51, 3) := by decide +kernel
theorem dL_begin_47 : decode mL_begin.2.1 47 = .ok (.iconst 0, 1) := by decide +kernel
theorem dL_begin_48 : decode mL_begin.2.1 48 = .ok (.putfield 390, 3) := by decide +kernel
theorem dL_begin_51 : decode mL_begin.2.1 51 = .ok (.return_, 1) := by decide +kernel
theorem dL_lane_0 : decode mL_lane.2.1 0 = .ok (.iload_n 1, 1) := by decide +kernel
theorem dL_lane_1 : decode mL_lane.2.1 1 = .ok (.ifCond .lt 11, 3) := by decide +kernel
theorem dL_lane_4 : decode mL_lane.2.1 4 = .ok (.iload_n 1, 1) := by decide +kernel
theorem dL_lane_5 : decode mL_lane.2.1 5 = .ok (.aload_n 0, 1) := by decide +kernel
theorem dL_lane_6 : decode mL_lane.2.1 6 = .ok (.getfield 69, 3) := by decide +kernel
theorem dL_lane_9 : decode mL_lane.2.1 9 = .ok (.if_icmp .le 9, 3) := by decide +kernel
theorem dL_lane_12 : decode mL_lane.2.1 12 = .ok (.aload_n 0, 1) := by decide +kernel
theorem dL_lane_13 : decode mL_lane.2.1 13 = .ok (.iconst 2, 1) := by decide +kernel
theorem dL_lane_14 : decode mL_lane.2.1 14 = .ok (.invokevirtual 76, 3) := by decide +kernel
theorem dL_lane_17 : decode mL_lane.2.1 17 = .ok (.ireturn, 1) := by decide +kernel
theorem dL_lane_18 : decode mL_lane.2.1 18 = .ok (.new 80, 3) := by decide +kernel
theorem dL_lane_21 : decode mL_lane.2.1 21 = .ok (.dup, 1) := by decide +kernel
theorem dL_lane_22 : decode mL_lane.2.1 22 = .ok (.aload_n 0, 1) := by decide +kernel
theorem dL_lane_23 : decode mL_lane.2.1 23 = .ok (.getfield 9, 3) := by decide +kernel
theorem dL_lane_26 : decode mL_lane.2.1 26 = .ok (.iload_n 1, 1) := by decide +kernel
theorem dL_lane_27 : decode mL_lane.2.1 27 = .ok (.invokespecial 82, 3) := by decide +kernel
theorem dL_lane_30 : decode mL_lane.2.1 30 = .ok (.astore_n 2, 1) := by decide +kernel
theorem dL_lane_31 : decode mL_lane.2.1 31 = .ok (.aload_n 2, 1) := by decide +kernel
theorem dL_lane_32 : decode mL_lane.2.1 32 = .ok (.invokevirtual 85, 3) := by decide +kernel
theorem dL_lane_35 : decode mL_lane.2.1 35 = .ok (.istore_n 3, 1) := by decide +kernel
theorem dL_lane_36 : decode mL_lane.2.1 36 = .ok (.aload_n 0, 1) := by decide +kernel
theorem dL_lane_37 : decode mL_lane.2.1 37 = .ok (.iconst 0, 1) := by decide +kernel
theorem dL_lane_38 : decode mL_lane.2.1 38 = .ok (.putfield 69, 3) := by decide +kernel
theorem dL_lane_41 : decode mL_lane.2.1 41 = .ok (.aload_n 0, 1) := by decide +kernel
theorem dL_lane_42 : decode mL_lane.2.1 42 = .ok (.aload_n 2, 1) := by decide +kernel
theorem dL_lane_43 : decode mL_lane.2.1 43 = .ok (.getfield 89, 3) := by decide +kernel
theorem dL_lane_46 : decode mL_lane.2.1 46 = .ok (.putfield 92, 3) := by decide +kernel
theorem dL_lane_49 : decode mL_lane.2.1 49 = .ok (.aload_n 0, 1) := by decide +kernel
theorem dL_lane_50 : decode mL_lane.2.1 50 = .ok (.aload_n 2, 1) := by decide +kernel
theorem dL_lane_51 : decode mL_lane.2.1 51 = .ok (.getfield 93, 3) := by decide +kernel
theorem dL_lane_54 : decode mL_lane.2.1 54 = .ok (.putfield 96, 3) := by decide +kernel
theorem dL_lane_57 : decode mL_lane.2.1 57 = .ok (.iload_n 3, 1) := by decide +kernel
theorem dL_lane_58 : decode mL_lane.2.1 58 = .ok (.ifCond .ne 9, 3) := by decide +kernel
theorem dL_lane_61 : decode mL_lane.2.1 61 = .ok (.aload_n 0, 1) := by decide +kernel
theorem dL_lane_62 : decode mL_lane.2.1 62 = .ok (.iconst 4, 1) := by decide +kernel
theorem dL_lane_63 : decode mL_lane.2.1 63 = .ok (.invokevirtual 76, 3) := by decide +kernel
theorem dL_lane_66 : decode mL_lane.2.1 66 = .ok (.ireturn, 1) := by decide +kernel
theorem dL_lane_67 : decode mL_lane.2.1 67 = .ok (.aload_n 0, 1) := by decide +kernel
theorem dL_lane_68 : decode mL_lane.2.1 68 = .ok (.iconst 0, 1) := by decide +kernel
theorem dL_lane_69 : decode mL_lane.2.1 69 = .ok (.putfield 99, 3) := by decide +kernel
theorem dL_lane_72 : decode mL_lane.2.1 72 = .ok (.aload_n 0, 1) := by decide +kernel
theorem dL_lane_73 : decode mL_lane.2.1 73 = .ok (.aload_n 2, 1) := by decide +kernel
theorem dL_lane_74 : decode mL_lane.2.1 74 = .ok (.getfield 102, 3) := by decide +kernel
theorem dL_lane_77 : decode mL_lane.2.1 77 = .ok (.invokevirtual 103, 3) := by decide +kernel
theorem dL_lane_80 : decode mL_lane.2.1 80 = .ok (.aload_n 0, 1) := by decide +kernel
theorem dL_lane_81 : decode mL_lane.2.1 81 = .ok (.getfield 16, 3) := by decide +kernel
theorem dL_lane_84 : decode mL_lane.2.1 84 = .ok (.getfield 107, 3) := by decide +kernel
theorem dL_lane_87 : decode mL_lane.2.1 87 = .ok (.ireturn, 1) := by decide +kernel
def T0 : TL := ((0, 0, 0, 0, 0, 0), fun _ => 0, fun _ => 0, fun _ => 0, fun _ => -2, fun _ => -2, fun _ => -2)
def r0 : PR := (T0, false, false, fun _ => 0)
theorem r0_ok : okN r0 := by
  refine ⟨⟨by decide, by decide, by decide, by decide, by decide, fun h => absurd h (by decide), fun _ => rfl, fun d => ⟨by show 0 < 4; decide, Nat.le_refl _⟩, fun d _ => ⟨rfl, rfl⟩, fun p => Nat.le_refl _, fun p _ => ⟨rfl, rfl, rfl, rfl⟩, fun p => ⟨Or.inl rfl, Or.inl rfl, Or.inl rfl⟩⟩, fun k _ => by show 0 < _; decide, fun d _ => ?_, fun p _ => ?_⟩
  · show 0 < 0 ↔ d < 0; omega
  · show 0 < 0 ↔ p < 0; omega
theorem ti_tS {σ : Shp} {a : Nat} (ha : sO σ a 6) (hX : sX σ = a + 1) : tS (tiS σ a) a := by
  have hx : σ.2.2.2 = a + 1 := hX
  refine ⟨eS_ti.o ha, ⟨?_, ?_, ?_, ?_, ?_, ?_⟩, ?_, ?_, ?_, ?_, ?_, ?_⟩
  · simp [tiS, pS, newS, up2, sP, sX, sT, sN, hx, Nat.add_assoc]
  · simp [tiS, pS, newS, up2, sP, sX, sT, sN, hx, Nat.add_assoc]
  · simp [tiS, pS, newS, up2, sP, sX, sT, sN, hx, Nat.add_assoc]
  · simp [tiS, pS, newS, up2, sP, sX, sT, sN, hx, Nat.add_assoc]
  · simp [tiS, pS, newS, up2, sP, sX, sT, sN, hx, Nat.add_assoc]
  · simp [tiS, pS, newS, up2, sP, sX, sT, sN, hx, Nat.add_assoc]
  · simp [sA, tiS, pS, newS, up2, sP, sX, sT, sN, hx, Nat.add_assoc]
  · simp [sA, tiS, pS, newS, up2, sP, sX, sT, sN, hx, Nat.add_assoc]
  · simp [sA, tiS, pS, newS, up2, sP, sX, sT, sN, hx, Nat.add_assoc]
  · simp [sA, tiS, pS, newS, up2, sP, sX, sT, sN, hx, Nat.add_assoc]
  · simp [sA, tiS, pS, newS, up2, sP, sX, sT, sN, hx, Nat.add_assoc]
  · simp [sA, tiS, pS, newS, up2, sP, sX, sT, sN, hx, Nat.add_assoc]
theorem ti_TV {V : Nat → Nat → Int} {σ : Shp} {a : Nat} (hX : sX σ = a + 1) (hz : ∀ j, V a j = 0) : TV (tiV V σ) a T0 := by
  have hx : σ.2.2.2 = a + 1 := hX
  refine ⟨⟨?_, ?_, ?_, ?_, ?_, ?_⟩, fun d hd => ⟨?_, ?_⟩, fun p hp => ⟨?_, ?_, ?_, ?_⟩⟩
  · simp [tiV, m2V, newV, up2, sX, hx, hz, T0, Nat.add_assoc]
  · simp [tiV, m2V, newV, up2, sX, hx, hz, T0, Nat.add_assoc]
  · simp [tiV, m2V, newV, up2, sX, hx, hz, T0, Nat.add_assoc]
  · simp [tiV, m2V, newV, up2, sX, hx, hz, T0, Nat.add_assoc]
  · simp [tiV, m2V, newV, up2, sX, hx, hz, T0, Nat.add_assoc]
  · simp [tiV, m2V, newV, up2, sX, hx, hz, T0, Nat.add_assoc]
  · simp [tiV, m2V, newV, up2, sX, hx, T0, Nat.add_assoc]
  · simp [tiV, m2V, newV, up2, sX, hx, T0, Nat.add_assoc]
  · simp [tiV, m2V, newV, up2, sX, hx, T0, Nat.add_assoc]
  · have : p = 0 ∨ p = 1 := by omega
    rcases this with rfl | rfl <;> simp [tiV, m2V, newV, up2, sX, hx, T0, Nat.add_assoc]
  · have : p = 0 ∨ p = 1 := by omega
    rcases this with rfl | rfl <;> simp [tiV, m2V, newV, up2, sX, hx, T0, Nat.add_assoc]
  · have : p = 0 ∨ p = 1 := by omega
    rcases this with rfl | rfl <;> simp [tiV, m2V, newV, up2, sX, hx, T0, Nat.add_assoc]
theorem ti_fr {V : Nat → Nat → Int} {σ : Shp} {b : Nat} (hb : b < sX σ) : tiV V σ b = V b := by
  have hx : b < σ.2.2.2 := hb
  have h0 : b ≠ σ.2.2.2 := by omega
  have h1 : b ≠ σ.2.2.2 + 1 := by omega
  have h2 : b ≠ σ.2.2.2 + 2 := by omega
  have h3 : b ≠ σ.2.2.2 + 3 := by omega
  have h4 : b ≠ σ.2.2.2 + 4 := by omega
  have h5 : b ≠ σ.2.2.2 + 5 := by omega
  funext j
  simp [tiV, m2V, newV, up2, sX, h0, h1, h2, h3, h4, h5]
section LaneI
variable {G : GE} {V : Nat → Nat → Int} {σ : Shp} {K : Option AV → Mem → Prop} {e n : Nat} {B : Nat → Int}
theorem wE_init {x : Int} (ha : sO σ e 3) (hX : sX σ = e + 1) (hz : ∀ j, V e j = 0) (h2 : 2 < e) (ha2 : sA σ 2 10 800) (hB : e + 20 < BG) (hx : x = n) (hn : n ≤ 800) (hK : ∀ (V' : Nat → Nat → Int) (σ' : Shp), rdS σ' e → eS σ σ' (fun b _ => b = e) → sX σ' = e + 9 → (∀ b, b < e → V' b = V b) → (V' e 4 = n ∧ V' e 2 = 0 ∧ V' e 5 = 0 ∧ V' e 1 = 0) → RER V' e r0 → K none (V', σ')) : Wp G 1 mE_init [vR e, vR 2, vI x] (V, σ) 8 40 K := by
  have h0 : 0 < e := ha.2.1
  have hx0 : 0 < sX σ := by omega
  have hX1 : sX (newS σ 6 0) = e + 1 + 1 := by show sX σ + 1 = _; omega
  have tT : tS (tiS (newS σ 6 0) (sX σ)) (e + 1) := by
    have := ti_tS (σ := newS σ 6 0) (a := sX σ) (sO_new σ 6 0 hx0) rfl
    rw [hX] at this ⊢
    exact this
  have tV : TV (tiV (newV V (sX σ)) (newS σ 6 0)) (e + 1) T0 := by
    refine ti_TV hX1 (fun j => ?_)
    rw [hX]
    exact if_pos rfl
  have tF : ∀ b, b ≤ e → tiV (newV V (sX σ)) (newS σ 6 0) b = V b := fun b hb => by
    rw [ti_fr (by rw [hX1]; omega)]
    funext j
    exact if_neg (by omega)
  have heS : eS σ (tiS (newS σ 6 0) (sX σ)) (fun b _ => b = e) := ⟨by show sX σ ≤ sX σ + 1 + 6; omega, fun b hb => by
    have q1 := (eS_new σ 6 0 (fun _ _ => False)).2 b hb
    have q2 := (eS_ti (σ := newS σ 6 0) (a := sX σ)).2 b (by show b < sX σ + 1; omega)
    exact ⟨q2.1.trans q1.1, q2.2.1.trans q1.2.1, fun j _ => (q2.2.2 j (by omega)).trans (q1.2.2 j (fun f => f))⟩⟩
  have fin : ∀ (σ5 : Shp), σ5 = (up2 (sP (up2 (sP (newS (up2 (sP (tiS (newS σ 6 0) (sX σ))) e 0 (sX σ), (tiS (newS σ 6 0) (sX σ)).2) 12 6)) e 11 (sX σ + 7), (newS (up2 (sP (tiS (newS σ 6 0) (sX σ))) e 0 (sX σ), (tiS (newS σ 6 0) (sX σ)).2) 12 6).2)) e 3 2, (newS (up2 (sP (tiS (newS σ 6 0) (sX σ))) e 0 (sX σ), (tiS (newS σ 6 0) (sX σ)).2) 12 6).2) → K none (up2 (newV (tiV (newV V (sX σ)) (newS σ 6 0)) (sX σ + 7)) e 4 (min x 800), σ5) := by
    intro σ5 h5
    have c1 : eS (tiS (newS σ 6 0) (sX σ)) σ5 (fun b _ => b = e) := by
      rw [h5]
      exact (((eS_put _ e 0 _ rfl).tr (eS_new _ 12 6 _)).tr (eS_put _ e 11 _ rfl)).tr (eS_put _ e 3 _ rfl)
    have hs : rdS σ5 e := by
      refine ⟨c1.o (heS.o ha), ⟨?_, ?_, ?_⟩, tT.eS' c1 (fun j => by omega), c1.a (heS.a ha2), ?_, h2⟩
      · rw [h5]
        show up2 _ e 3 2 e 0 = _
        rw [up2_nek _ _ (by decide)]
        show up2 _ e 11 (sX σ + 7) e 0 = _
        rw [up2_nek _ _ (by decide)]
        show (if e = sX σ + 7 then 0 else up2 (sP (tiS (newS σ 6 0) (sX σ))) e 0 (sX σ) e 0) = _
        rw [if_neg (by omega), up2_same]
        exact hX
      · rw [h5]; exact up2_same _ _ _ _
      · rw [h5]
        show up2 _ e 3 2 e 11 = _
        rw [up2_nek _ _ (by decide)]
        show up2 _ e 11 (sX σ + 7) e 11 = _
        rw [up2_same]; omega
      · rw [h5, show e + 8 = sX σ + 7 by omega]
        exact sA_new (up2 (sP (tiS (newS σ 6 0) (sX σ))) e 0 (sX σ), (tiS (newS σ 6 0) (sX σ)).2) 12 6 (by show 0 < sX σ + 7; omega)
    have eV : ∀ b, b ≠ e → b ≠ sX σ + 7 → up2 (newV (tiV (newV V (sX σ)) (newS σ 6 0)) (sX σ + 7)) e 4 (min x 800) b = tiV (newV V (sX σ)) (newS σ 6 0) b := fun b b1 b2 => by
      rw [up2_nea _ _ b1]
      funext j
      exact if_neg b2
    have eE : ∀ j, j ≠ 4 → up2 (newV (tiV (newV V (sX σ)) (newS σ 6 0)) (sX σ + 7)) e 4 (min x 800) e j = 0 := fun j hj => by
      rw [up2_nek _ _ hj]
      show (if e = sX σ + 7 then 0 else tiV (newV V (sX σ)) (newS σ 6 0) e j) = 0
      rw [if_neg (by omega), tF e (by omega)]
      exact hz j
    refine hK _ _ hs (heS.tr c1) (by rw [h5]; show sX σ + 7 + 1 = _; omega) (fun b hb => by rw [eV b (by omega) (by omega)]; exact tF b (by omega)) ⟨by rw [up2_same]; omega, eE 2 (by decide), eE 5 (by decide), eE 1 (by decide)⟩ ⟨tV.same (fun i hi => eV _ (by omega) (by omega)), eE 9 (by decide), eE 10 (by decide), fun k hk => ?_⟩
    rw [up2_nea _ _ (by omega)]
    exact if_pos (by omega)
  refine wp_intro mE_init_i.1 [some (vR e), some (vR 2), some (vI x)] rfl rfl (Nat.le_of_ble_eq_true rfl) ?_
  intro X hG F C
  have hm := C.rm
  refine aw_aload_0 (q := 1) F dE_init_0 rfl ?_
  refine aw_oinit (q := 4) F hm (by first | exact oi_E_3) dE_init_1 rfl (by omega) (Nat.le_of_ble_eq_true rfl) ?_
  refine aw_aload_0 (q := 5) F dE_init_4 rfl ?_
  refine av_new (q := 8) (ci := 6) F hm rfl cE_9 dE_init_5 rfl (by first | (show sX σ < BG; omega) | (show sX σ + 7 < BG; omega)) (by first | omega | decide) (by first | decide | omega) ?_
  refine aw_dup (q := 9) F dE_init_8 rfl trivial ?_
  refine av_callI0 (q := 12) F hm mT_init_i mT_init_n lE_11 dE_init_9 rfl (by omega) (by decide) (by decide) (by decide) (Nat.le_of_ble_eq_true rfl) (wT_init (sO_new σ 6 0 hx0) (by show sX σ + 1 + 6 < BG; omega) ?_)
  refine av_puta (q := 15) F fE_12 dE_init_12 rfl rfl wf_3_0 (by repeat' first | exact ha | apply sO_p | apply sO_n | apply eS_ti.o) ?_
  refine aw_aload_0 (q := 16) F dE_init_15 rfl ?_
  refine aw_bipush (q := 18) F dE_init_16 rfl (by decide) ?_
  refine av_newarr (q := 20) (t := 12) F hm dE_init_18 rfl (Or.inr (Or.inr ⟨rfl, rfl⟩)) (by first | (show sX σ < BG; omega) | (show sX σ + 7 < BG; omega)) (by omega) (by omega) (by first | omega | decide) (by first | omega | decide) ?_
  refine av_puta (q := 23) F fE_18 dE_init_20 rfl rfl wf_3_11 (by repeat' first | exact ha | apply sO_p | apply sO_n | apply eS_ti.o) ?_
  refine aw_aload_0 (q := 24) F dE_init_23 rfl ?_
  refine aw_aload_1 (q := 25) F dE_init_24 rfl ?_
  refine av_puta (q := 28) F fE_22 dE_init_25 rfl rfl wf_3_3 (by repeat' first | exact ha | apply sO_p | apply sO_n | apply eS_ti.o) ?_
  refine aw_aload_0 (q := 29) F dE_init_28 rfl ?_
  refine aw_iload_2 (q := 30) F dE_init_29 rfl ?_
  refine aw_aload_1 (q := 31) F dE_init_30 rfl ?_
  refine av_alen (q := 32) F dE_init_31 rfl (by repeat' first | exact ha2 | apply sA_p | apply sA_n | apply eS_ti.a) (by decide) (by first | omega) ?_
  refine aw_mmin (q := 35) F hm mm_E dE_init_32 rfl (Nat.le_of_ble_eq_true rfl) (by decide) (by decide) ?_
  refine av_puti (q := 38) F fE_32 dE_init_35 rfl rfl wf_3_4 (by repeat' first | exact ha | apply sO_p | apply sO_n | apply eS_ti.o) ?_
  refine aw_vret F C dE_init_38 rfl (by decide) (by decide) ?_
  exact fin _ rfl
end LaneI
