theorem dL_odds_0 : decode mL_odds.2.1 0 = .ok (.aload_n 0, 1) := by decide +kernel
theorem dL_odds_1 : decode mL_odds.2.1 1 = .ok (.aload_n 0, 1) := by decide +kernel
theorem dL_odds_2 : decode mL_odds.2.1 2 = .ok (.getfield 23, 3) := by decide +kernel
theorem dL_odds_5 : decode mL_odds.2.1 5 = .ok (.iload_n 1, 1) := by decide +kernel
theorem dL_odds_6 : decode mL_odds.2.1 6 = .ok (.invokevirtual 110, 3) := by decide +kernel
theorem dL_odds_9 : decode mL_odds.2.1 9 = .ok (.iload_n 2, 1) := by decide +kernel
theorem dL_odds_10 : decode mL_odds.2.1 10 = .ok (.invokestatic 274, 3) := by decide +kernel
theorem dL_odds_13 : decode mL_odds.2.1 13 = .ok (.invokevirtual 114, 3) := by decide +kernel
theorem dL_odds_16 : decode mL_odds.2.1 16 = .ok (.ifCond .ne 7, 3) := by decide +kernel
theorem dL_odds_19 : decode mL_odds.2.1 19 = .ok (.ldc2_w 277, 3) := by decide +kernel
theorem dL_odds_22 : decode mL_odds.2.1 22 = .ok (.lreturn, 1) := by decide +kernel
theorem dL_odds_23 : decode mL_odds.2.1 23 = .ok (.aload_n 0, 1) := by decide +kernel
theorem dL_odds_24 : decode mL_odds.2.1 24 = .ok (.getfield 65, 3) := by decide +kernel
theorem dL_odds_27 : decode mL_odds.2.1 27 = .ok (.aload_n 0, 1) := by decide +kernel
theorem dL_odds_28 : decode mL_odds.2.1 28 = .ok (.getfield 23, 3) := by decide +kernel
theorem dL_odds_31 : decode mL_odds.2.1 31 = .ok (.invokevirtual 279, 3) := by decide +kernel
theorem dL_odds_34 : decode mL_odds.2.1 34 = .ok (.aload_n 0, 1) := by decide +kernel
theorem dL_odds_35 : decode mL_odds.2.1 35 = .ok (.getfield 23, 3) := by decide +kernel
theorem dL_odds_38 : decode mL_odds.2.1 38 = .ok (.getfield 133, 3) := by decide +kernel
theorem dL_odds_41 : decode mL_odds.2.1 41 = .ok (.aload_n 0, 1) := by decide +kernel
theorem dL_odds_42 : decode mL_odds.2.1 42 = .ok (.getfield 16, 3) := by decide +kernel
theorem dL_odds_45 : decode mL_odds.2.1 45 = .ok (.getfield 282, 3) := by decide +kernel
theorem dL_odds_48 : decode mL_odds.2.1 48 = .ok (.iload_n 2, 1) := by decide +kernel
theorem dL_odds_49 : decode mL_odds.2.1 49 = .ok (.invokevirtual 285, 3) := by decide +kernel
theorem dL_odds_52 : decode mL_odds.2.1 52 = .ok (.aload_n 0, 1) := by decide +kernel
theorem dL_odds_53 : decode mL_odds.2.1 53 = .ok (.getfield 65, 3) := by decide +kernel
theorem dL_odds_56 : decode mL_odds.2.1 56 = .ok (.aload_n 0, 1) := by decide +kernel
theorem dL_odds_57 : decode mL_odds.2.1 57 = .ok (.getfield 65, 3) := by decide +kernel
theorem dL_odds_60 : decode mL_odds.2.1 60 = .ok (.iload_n 1, 1) := by decide +kernel
theorem dL_odds_61 : decode mL_odds.2.1 61 = .ok (.invokevirtual 289, 3) := by decide +kernel
theorem dL_odds_64 : decode mL_odds.2.1 64 = .ok (.iload_n 3, 1) := by decide +kernel
theorem dL_odds_65 : decode mL_odds.2.1 65 = .ok (.invokevirtual 293, 3) := by decide +kernel
theorem dL_odds_68 : decode mL_odds.2.1 68 = .ok (.lreturn, 1) := by decide +kernel
theorem dL_shutOdds_0 : decode mL_shutOdds.2.1 0 = .ok (.aload_n 0, 1) := by decide +kernel
theorem dL_shutOdds_1 : decode mL_shutOdds.2.1 1 = .ok (.aload_n 0, 1) := by decide +kernel
theorem dL_shutOdds_2 : decode mL_shutOdds.2.1 2 = .ok (.getfield 23, 3) := by decide +kernel
theorem dL_shutOdds_5 : decode mL_shutOdds.2.1 5 = .ok (.iload_n 1, 1) := by decide +kernel
theorem dL_shutOdds_6 : decode mL_shutOdds.2.1 6 = .ok (.invokevirtual 110, 3) := by decide +kernel
theorem dL_shutOdds_9 : decode mL_shutOdds.2.1 9 = .ok (.iload_n 2, 1) := by decide +kernel
theorem dL_shutOdds_10 : decode mL_shutOdds.2.1 10 = .ok (.invokestatic 274, 3) := by decide +kernel
theorem dL_shutOdds_13 : decode mL_shutOdds.2.1 13 = .ok (.invokevirtual 114, 3) := by decide +kernel
theorem dL_shutOdds_16 : decode mL_shutOdds.2.1 16 = .ok (.ifCond .ne 7, 3) := by decide +kernel
theorem dL_shutOdds_19 : decode mL_shutOdds.2.1 19 = .ok (.ldc2_w 277, 3) := by decide +kernel
theorem dL_shutOdds_22 : decode mL_shutOdds.2.1 22 = .ok (.lreturn, 1) := by decide +kernel
theorem dL_shutOdds_23 : decode mL_shutOdds.2.1 23 = .ok (.aload_n 0, 1) := by decide +kernel
theorem dL_shutOdds_24 : decode mL_shutOdds.2.1 24 = .ok (.getfield 65, 3) := by decide +kernel
theorem dL_shutOdds_27 : decode mL_shutOdds.2.1 27 = .ok (.aload_n 0, 1) := by decide +kernel
theorem dL_shutOdds_28 : decode mL_shutOdds.2.1 28 = .ok (.getfield 23, 3) := by decide +kernel
theorem dL_shutOdds_31 : decode mL_shutOdds.2.1 31 = .ok (.invokevirtual 279, 3) := by decide +kernel
theorem dL_shutOdds_34 : decode mL_shutOdds.2.1 34 = .ok (.aload_n 0, 1) := by decide +kernel
theorem dL_shutOdds_35 : decode mL_shutOdds.2.1 35 = .ok (.getfield 23, 3) := by decide +kernel
theorem dL_shutOdds_38 : decode mL_shutOdds.2.1 38 = .ok (.getfield 133, 3) := by decide +kernel
theorem dL_shutOdds_41 : decode mL_shutOdds.2.1 41 = .ok (.aload_n 0, 1) := by decide +kernel
theorem dL_shutOdds_42 : decode mL_shutOdds.2.1 42 = .ok (.getfield 16, 3) := by decide +kernel
theorem dL_shutOdds_45 : decode mL_shutOdds.2.1 45 = .ok (.getfield 282, 3) := by decide +kernel
theorem dL_shutOdds_48 : decode mL_shutOdds.2.1 48 = .ok (.iload_n 2, 1) := by decide +kernel
theorem dL_shutOdds_49 : decode mL_shutOdds.2.1 49 = .ok (.invokevirtual 285, 3) := by decide +kernel
theorem dL_shutOdds_52 : decode mL_shutOdds.2.1 52 = .ok (.aload_n 0, 1) := by decide +kernel
theorem dL_shutOdds_53 : decode mL_shutOdds.2.1 53 = .ok (.getfield 65, 3) := by decide +kernel
theorem dL_shutOdds_56 : decode mL_shutOdds.2.1 56 = .ok (.aload_n 0, 1) := by decide +kernel
theorem dL_shutOdds_57 : decode mL_shutOdds.2.1 57 = .ok (.getfield 65, 3) := by decide +kernel
theorem dL_shutOdds_60 : decode mL_shutOdds.2.1 60 = .ok (.iload_n 1, 1) := by decide +kernel
theorem dL_shutOdds_61 : decode mL_shutOdds.2.1 61 = .ok (.invokevirtual 297, 3) := by decide +kernel
theorem dL_shutOdds_64 : decode mL_shutOdds.2.1 64 = .ok (.iload_n 3, 1) := by decide +kernel
theorem dL_shutOdds_65 : decode mL_shutOdds.2.1 65 = .ok (.invokevirtual 293, 3) := by decide +kernel
theorem dL_shutOdds_68 : decode mL_shutOdds.2.1 68 = .ok (.lreturn, 1) := by decide +kernel
theorem dL_mean_0 : decode mL_mean.2.1 0 = .ok (.aload_n 0, 1) := by decide +kernel
theorem dL_mean_1 : decode mL_mean.2.1 1 = .ok (.aload_n 0, 1) := by decide +kernel
theorem dL_mean_2 : decode mL_mean.2.1 2 = .ok (.invokevirtual 154, 3) := by decide +kernel
theorem dL_mean_5 : decode mL_mean.2.1 5 = .ok (.iload_n 1, 1) := by decide +kernel
theorem dL_mean_6 : decode mL_mean.2.1 6 = .ok (.invokestatic 274, 3) := by decide +kernel
theorem dL_mean_9 : decode mL_mean.2.1 9 = .ok (.invokevirtual 114, 3) := by decide +kernel
theorem dL_mean_12 : decode mL_mean.2.1 12 = .ok (.ifCond .ne 7, 3) := by decide +kernel
theorem dL_mean_15 : decode mL_mean.2.1 15 = .ok (.ldc2_w 277, 3) := by decide +kernel
theorem dL_mean_18 : decode mL_mean.2.1 18 = .ok (.lreturn, 1) := by decide +kernel
theorem dL_mean_19 : decode mL_mean.2.1 19 = .ok (.aload_n 0, 1) := by decide +kernel
theorem dL_mean_20 : decode mL_mean.2.1 20 = .ok (.getfield 65, 3) := by decide +kernel
theorem dL_mean_23 : decode mL_mean.2.1 23 = .ok (.aload_n 0, 1) := by decide +kernel
theorem dL_mean_24 : decode mL_mean.2.1 24 = .ok (.getfield 23, 3) := by decide +kernel
theorem dL_mean_27 : decode mL_mean.2.1 27 = .ok (.invokevirtual 279, 3) := by decide +kernel
theorem dL_mean_30 : decode mL_mean.2.1 30 = .ok (.aload_n 0, 1) := by decide +kernel
theorem dL_mean_31 : decode mL_mean.2.1 31 = .ok (.getfield 23, 3) := by decide +kernel
theorem dL_mean_34 : decode mL_mean.2.1 34 = .ok (.getfield 133, 3) := by decide +kernel
theorem dL_mean_37 : decode mL_mean.2.1 37 = .ok (.aload_n 0, 1) := by decide +kernel
theorem dL_mean_38 : decode mL_mean.2.1 38 = .ok (.getfield 16, 3) := by decide +kernel
theorem dL_mean_41 : decode mL_mean.2.1 41 = .ok (.getfield 282, 3) := by decide +kernel
theorem dL_mean_44 : decode mL_mean.2.1 44 = .ok (.iload_n 1, 1) := by decide +kernel
theorem dL_mean_45 : decode mL_mean.2.1 45 = .ok (.invokevirtual 285, 3) := by decide +kernel
theorem dL_mean_48 : decode mL_mean.2.1 48 = .ok (.aload_n 0, 1) := by decide +kernel
theorem dL_mean_49 : decode mL_mean.2.1 49 = .ok (.getfield 65, 3) := by decide +kernel
theorem dL_mean_52 : decode mL_mean.2.1 52 = .ok (.aload_n 0, 1) := by decide +kernel
theorem dL_mean_53 : decode mL_mean.2.1 53 = .ok (.getfield 65, 3) := by decide +kernel
theorem dL_mean_56 : decode mL_mean.2.1 56 = .ok (.invokevirtual 300, 3) := by decide +kernel
theorem dL_mean_59 : decode mL_mean.2.1 59 = .ok (.iload_n 2, 1) := by decide +kernel
theorem dL_mean_60 : decode mL_mean.2.1 60 = .ok (.invokevirtual 293, 3) := by decide +kernel
theorem dL_mean_63 : decode mL_mean.2.1 63 = .ok (.lreturn, 1) := by decide +kernel
theorem dL_drafts_0 : decode mL_drafts.2.1 0 = .ok (.aload_n 0, 1) := by decide +kernel
theorem dL_drafts_1 : decode mL_drafts.2.1 1 = .ok (.aload_n 0, 1) := by decide +kernel
theorem dL_drafts_2 : decode mL_drafts.2.1 2 = .ok (.invokevirtual 154, 3) := by decide +kernel
theorem dL_drafts_5 : decode mL_drafts.2.1 5 = .ok (.iload_n 1, 1) := by decide +kernel
theorem dL_drafts_6 : decode mL_drafts.2.1 6 = .ok (.iload_n 2, 1) := by decide +kernel
theorem dL_drafts_7 : decode mL_drafts.2.1 7 = .ok (.invokestatic 304, 3) := by decide +kernel
theorem dL_drafts_10 : decode mL_drafts.2.1 10 = .ok (.invokevirtual 114, 3) := by decide +kernel
theorem dL_drafts_13 : decode mL_drafts.2.1 13 = .ok (.ifCond .ne 5, 3) := by decide +kernel
theorem dL_drafts_16 : decode mL_drafts.2.1 16 = .ok (.iconst (-1), 1) := by decide +kernel
theorem dL_drafts_17 : decode mL_drafts.2.1 17 = .ok (.ireturn, 1) := by decide +kernel
theorem dL_drafts_18 : decode mL_drafts.2.1 18 = .ok (.aload_n 0, 1) := by decide +kernel
theorem dL_drafts_19 : decode mL_drafts.2.1 19 = .ok (.getfield 65, 3) := by decide +kernel
theorem dL_drafts_22 : decode mL_drafts.2.1 22 = .ok (.aload_n 0, 1) := by decide +kernel
theorem dL_drafts_23 : decode mL_drafts.2.1 23 = .ok (.getfield 23, 3) := by decide +kernel
theorem dL_drafts_26 : decode mL_drafts.2.1 26 = .ok (.invokevirtual 279, 3) := by decide +kernel
theorem dL_drafts_29 : decode mL_drafts.2.1 29 = .ok (.aload_n 0, 1) := by decide +kernel
theorem dL_drafts_30 : decode mL_drafts.2.1 30 = .ok (.getfield 23, 3) := by decide +kernel
theorem dL_drafts_33 : decode mL_drafts.2.1 33 = .ok (.getfield 133, 3) := by decide +kernel
theorem dL_drafts_36 : decode mL_drafts.2.1 36 = .ok (.aload_n 0, 1) := by decide +kernel
theorem dL_drafts_37 : decode mL_drafts.2.1 37 = .ok (.getfield 16, 3) := by decide +kernel
theorem dL_drafts_40 : decode mL_drafts.2.1 40 = .ok (.getfield 282, 3) := by decide +kernel
theorem dL_drafts_43 : decode mL_drafts.2.1 43 = .ok (.iload_n 1, 1) := by decide +kernel
theorem dL_drafts_44 : decode mL_drafts.2.1 44 = .ok (.iload_n 2, 1) := by decide +kernel
theorem dL_drafts_45 : decode mL_drafts.2.1 45 = .ok (.invokevirtual 307, 3) := by decide +kernel
theorem dL_drafts_48 : decode mL_drafts.2.1 48 = .ok (.aload_n 0, 1) := by decide +kernel
theorem dL_drafts_49 : decode mL_drafts.2.1 49 = .ok (.getfield 65, 3) := by decide +kernel
theorem dL_drafts_52 : decode mL_drafts.2.1 52 = .ok (.getfield 311, 3) := by decide +kernel
theorem dL_drafts_55 : decode mL_drafts.2.1 55 = .ok (.ireturn, 1) := by decide +kernel
theorem dL_stillAt_0 : decode mL_stillAt.2.1 0 = .ok (.aload_n 0, 1) := by decide +kernel
theorem dL_stillAt_1 : decode mL_stillAt.2.1 1 = .ok (.aload_n 0, 1) := by decide +kernel
theorem dL_stillAt_2 : decode mL_stillAt.2.1 2 = .ok (.invokevirtual 154, 3) := by decide +kernel
theorem dL_stillAt_5 : decode mL_stillAt.2.1 5 = .ok (.iload_n 1, 1) := by decide +kernel
theorem dL_stillAt_6 : decode mL_stillAt.2.1 6 = .ok (.iload_n 2, 1) := by decide +kernel
theorem dL_stillAt_7 : decode mL_stillAt.2.1 7 = .ok (.invokestatic 304, 3) := by decide +kernel
theorem dL_stillAt_10 : decode mL_stillAt.2.1 10 = .ok (.invokevirtual 114, 3) := by decide +kernel
theorem dL_stillAt_13 : decode mL_stillAt.2.1 13 = .ok (.ifCond .ne 5, 3) := by decide +kernel
theorem dL_stillAt_16 : decode mL_stillAt.2.1 16 = .ok (.iconst (-1), 1) := by decide +kernel
theorem dL_stillAt_17 : decode mL_stillAt.2.1 17 = .ok (.ireturn, 1) := by decide +kernel
theorem dL_stillAt_18 : decode mL_stillAt.2.1 18 = .ok (.aload_n 0, 1) := by decide +kernel
theorem dL_stillAt_19 : decode mL_stillAt.2.1 19 = .ok (.getfield 65, 3) := by decide +kernel
theorem dL_stillAt_22 : decode mL_stillAt.2.1 22 = .ok (.aload_n 0, 1) := by decide +kernel
theorem dL_stillAt_23 : decode mL_stillAt.2.1 23 = .ok (.getfield 23, 3) := by decide +kernel
theorem dL_stillAt_26 : decode mL_stillAt.2.1 26 = .ok (.invokevirtual 279, 3) := by decide +kernel
theorem dL_stillAt_29 : decode mL_stillAt.2.1 29 = .ok (.aload_n 0, 1) := by decide +kernel
theorem dL_stillAt_30 : decode mL_stillAt.2.1 30 = .ok (.getfield 23, 3) := by decide +kernel
theorem dL_stillAt_33 : decode mL_stillAt.2.1 33 = .ok (.getfield 133, 3) := by decide +kernel
theorem dL_stillAt_36 : decode mL_stillAt.2.1 36 = .ok (.aload_n 0, 1) := by decide +kernel
theorem dL_stillAt_37 : decode mL_stillAt.2.1 37 = .ok (.getfield 16, 3) := by decide +kernel
theorem dL_stillAt_40 : decode mL_stillAt.2.1 40 = .ok (.getfield 282, 3) := by decide +kernel
theorem dL_stillAt_43 : decode mL_stillAt.2.1 43 = .ok (.iload_n 1, 1) := by decide +kernel
theorem dL_stillAt_44 : decode mL_stillAt.2.1 44 = .ok (.iload_n 2, 1) := by decide +kernel
theorem dL_stillAt_45 : decode mL_stillAt.2.1 45 = .ok (.invokevirtual 307, 3) := by decide +kernel
theorem dL_stillAt_48 : decode mL_stillAt.2.1 48 = .ok (.aload_n 0, 1) := by decide +kernel
theorem dL_stillAt_49 : decode mL_stillAt.2.1 49 = .ok (.getfield 65, 3) := by decide +kernel
theorem dL_stillAt_52 : decode mL_stillAt.2.1 52 = .ok (.getfield 314, 3) := by decide +kernel
theorem dL_stillAt_55 : decode mL_stillAt.2.1 55 = .ok (.ireturn, 1) := by decide +kernel
theorem tS.eS' {σ σ' : Shp} {t : Nat} {Z : Nat → Nat → Prop} (e : eS σ σ' Z) (h : tS σ t) (hz : ∀ j, ¬ Z t j) : tS σ' t := ⟨e.o h.o, ⟨(e.p h.o (hz _)).trans h.p6, (e.p h.o (hz _)).trans h.p7, (e.p h.o (hz _)).trans h.p8, (e.p h.o (hz _)).trans h.p9, (e.p h.o (hz _)).trans h.p10, (e.p h.o (hz _)).trans h.p11⟩, e.a h.a1, e.a h.a2, e.a h.a3, e.a h.a4, e.a h.a5, e.a h.a6⟩
theorem rS.eS0 {σ σ' : Shp} {r rn vn ln A B C : Nat} {Z : Nat → Nat → Prop} (e : eS σ σ' Z) (h : rS σ r rn vn ln A B C) (hz : ∀ j, ¬ Z r j) : rS σ' r rn vn ln A B C := ⟨e.o h.o, ⟨(e.p h.o (hz _)).trans h.p1, (e.p h.o (hz _)).trans h.p2, (e.p h.o (hz _)).trans h.p3, (e.p h.o (hz _)).trans h.p4, (e.p h.o (hz _)).trans h.p5, (e.p h.o (hz _)).trans h.p6⟩, e.a h.a1, e.a h.a2, e.a h.a3, e.a h.a4, e.a h.a5, e.a h.a6⟩
/-- the object's shape out of its parts -/
theorem CS.mk' {σ σ' : Shp} {y y' : Dy} {Z : Nat → Nat → Prop} (e : eS σ σ' Z) (h : CS σ y) (z1 : ∀ j, ¬ Z 1 j) (z10 : ∀ j, ¬ Z 10 j) (zt : ∀ j, ¬ Z (dT y) j) (z43 : ∀ j, ¬ Z 43 j) (z44 : ∀ j, ¬ Z 44 j) (ht : dT y' = dT y) (s1 : sS0 σ' 18 (dQ1 y') (dK1 y') (dL1 y') (dM1 y')) (s2 : sS0 σ' 27 (dQ2 y') (dK2 y') (dL2 y') (dM2 y')) (r : rS σ' 36 (dRn y') (dVn y') (dLn y') (dRA y') (dRB y') (dRC y')) (g : gS σ' 50 (dWn y') (dNn y')) : CS σ' y' :=
  ⟨e.o h.o, ⟨(e.p h.o (z1 _)).trans h.p0, ((e.p h.o (z1 _)).trans h.p5).trans ht.symm, (e.p h.o (z1 _)).trans h.p6, (e.p h.o (z1 _)).trans h.p7, (e.p h.o (z1 _)).trans h.p9, (e.p h.o (z1 _)).trans h.p11, (e.p h.o (z1 _)).trans h.p13, (e.p h.o (z1 _)).trans h.p14, (e.p h.o (z1 _)).trans h.p15, (e.p h.o (z1 _)).trans h.p16⟩, e.a h.a2, h.h.eS e z10, e.a h.a16, e.a h.a17, by rw [ht]; exact h.t.eS' e zt, s1, s2, r, ⟨e.o h.c.1, (e.p h.c.1 (z43 _)).trans h.c.2.1, h.c.2.2.eS e z44⟩, g⟩
theorem CL.nf {ow : Nat → Nat} {y : Dy} (h : CL ow y) {b x : Nat} (hx : fx x) (hb : ow b < 100) : b ≠ x := CL.ne (ow := ow) (by rw [h.f hx]; omega)
theorem CV.same {V V' : Nat → Nat → Int} {y : Dy} {S : PS} {kn : Bool} (h : CV V y S kn) (e : ∀ b, b = 1 ∨ b = 2 ∨ (10 ≤ b ∧ b ≤ 24) ∨ (36 ≤ b ∧ b ≤ 38) → V' b = V b) (et : ∀ i, i ≤ 6 → V' (dT y + i) = V (dT y + i)) (eq : V' (dQ1 y) = V (dQ1 y)) (ek : V' (dK1 y) = V (dK1 y)) : CV V' y S kn := by
  obtain ⟨h1, h2, h3, h4⟩ := h
  have e1 := e 1 (by omega)
  refine ⟨h1, ?_, h3.same (e 2 (by omega)) et (fun b q1 q2 => e b (by omega)) (e 16 (by omega)) (e 17 (by omega)) (e 36 (by omega)) (e 37 (by omega)) (e 38 (by omega)), ?_⟩
  · unfold CF; rw [e1]; exact h2
  · unfold WK
    rw [e1]
    rcases h4 with h4 | ⟨s, k, m, q1, q2, q3, q4⟩
    · exact Or.inl h4
    · refine Or.inr ⟨s, k, m, q1, q2, q3, q4.same (fun b hb => ?_)⟩
      rcases hb with hb | hb | hb
      · exact e b (by omega)
      · rw [hb]; exact eq
      · rw [hb]; exact ek
/-- drafts were reckoned: weights alone have changed -/
theorem CW.gu {V V' : Nat → Nat → Int} {σ σ' : Shp} {ow : Nat → Nat} {y : Dy} {S : PS} {kn : Bool} {wn nn : Nat} (h : CW V σ ow y S kn) (hg : gS σ' 50 wn nn) (he : eS σ σ' (zG 50)) (hX : sX σ' = sX σ) (hv : ∀ b, b < 50 ∨ 50 + 2 < b → V' b = V b) : CW V' σ' ow (y.1, y.2.1, y.2.2.1, y.2.2.2.1, wn, nn) S kn ∧ FR V V' σ σ' ow ow := by
  have hL := h.cl
  have n50 : ∀ {b : Nat}, ow b < 100 → b < 50 ∨ 50 + 2 < b := fun {b} hb => by
    have h0 := hL.nf (b := b) (x := 50) (by unfold fx; omega) hb
    have h1 := hL.nf (b := b) (x := 51) (by unfold fx; omega) hb
    have h2 := hL.nf (b := b) (x := 52) (by unfold fx; omega) hb
    omega
  refine ⟨⟨CS.mk' (y := y) (y' := (y.1, y.2.1, y.2.2.1, y.2.2.2.1, wn, nn)) he h.cs (fun j q => by have := q.1; omega) (fun j q => by have := q.1; omega) (fun j q => by have := q.1; have := n50 (b := dT y + 0) (by rw [hL.t (by omega)]; omega); omega) (fun j q => by have := q.1; omega) (fun j q => by have := q.1; omega) rfl ?_ ?_ ?_ hg, hL, h.cb, ?_⟩, ?_⟩
  · exact h.cs.s1.eS' he (fun j q => by have := q.1; omega) (fun j q => by have := q.1; omega)
  · exact h.cs.s2.eS' he (fun j q => by have := q.1; omega) (fun j q => by have := q.1; omega)
  · exact h.cs.r.eS0 he (fun j q => by have := q.1; omega)
  · refine CV.same (y := y) h.2.2.2 (fun b hb => hv b (by omega)) (fun i hi => hv _ (n50 (by rw [hL.t hi]; omega))) (hv _ (n50 (by rw [hL.2.1.1]; omega))) (hv _ (n50 (by rw [hL.2.1.2.1]; omega)))
  · refine ⟨by omega, fun b hb ho => ?_⟩
    have hb5 : b < 50 ∨ 50 + 2 < b := by
      have h0 : b ≠ 50 := CL.ne (ow := ow) (by rw [hL.f (b := 50) (by unfold fx; omega)]; omega)
      have h1 : b ≠ 51 := CL.ne (ow := ow) (by rw [hL.f (b := 51) (by unfold fx; omega)]; omega)
      have h2 : b ≠ 52 := CL.ne (ow := ow) (by rw [hL.f (b := 52) (by unfold fx; omega)]; omega)
      omega
    have hq := he.2 b hb
    exact ⟨hv b hb5, rfl, hq.1, hq.2.1, fun j => hq.2.2 j (fun q => by have := q.1; omega)⟩
def opN (S : PS) : Nat := bsum (fun d => ld (psC S) (psA S) d != 0) (tDn (psT S))
def oddV (U N : Nat) (b : Bool) : Int := ((if b then N else U) / Nat.gcd U N : Nat)
def dwP (S : PS) (x n : Nat) : DW := dwS (tDr (psT S)) (x, opN S, lst (psC S) (psA S), if opN S = 0 then 0 else -2) n
def bwP (S : PS) (n : Nat) : Nat → Nat := bwN (tDr (psT S)) (opN S) (lst (psC S) (psA S)) n
theorem bwP_le {S : PS} (h : okT (psT S)) {n : Nat} (hn : n ≤ 3) (i : Nat) : bwP S n i ≤ 10000000000000000 := by
  have h1 := bwN_le (o := opN S) (l := lst (psC S) (psA S)) h.1 n i
  have h2 : 153600 ^ n ≤ 153600 ^ 3 := Nat.pow_le_pow_right (by decide) hn
  have h3 : 153600 ^ 3 ≤ 10000000000000000 := by decide
  exact Nat.le_trans h1 (Nat.le_trans h2 h3)
theorem p12_le {n : Nat} (hn : n ≤ 3) : 1200 ^ n < 9223372036854775808 := Nat.lt_of_le_of_lt (Nat.pow_le_pow_right (by decide) hn) (show 1200 ^ 3 < _ by decide)
section Odds
variable {G : GE} {V : Nat → Nat → Int} {σ : Shp} {K : Option AV → Mem → Prop} {ow : Nat → Nat} {y : Dy} {S : PS} {kn : Bool}
theorem wL_odds {x n w : Int} {b : Bool} (hw : w = bz b) (h : CW V σ ow y S kn) (hK : CK K V σ ow (setR S (wy (0 ≤ x ∧ x < tDn (psT S)) (0 ≤ n ∧ n ≤ 3))) kn (some (vL (rfD (wy (0 ≤ x ∧ x < tDn (psT S)) (0 ≤ n ∧ n ≤ 3)) (oddV (sumN (fun i => if i % 4 = x.toNat then bwP S n.toNat i else 0) 64) (1200 ^ n.toNat) b) (-1))))) : Wp G 3 mL_odds [vR 1, vI x, vI n, vI w] (V, σ) 0 0 K := by
  have hW := h.cs
  have hT := h.oT
  have hd4 : tDn (psT S) ≤ 4 := h.oT.2.1
  have hT1 : V (dT y) 1 = tDn (psT S) := h.tv.1.2.1
  have h2 := h.tr (z := 0) (by decide)
  have hh2 : HH (up2 V 1 2 0) 10 (psC S) (psA S) := h2.hh
  have hv := h.v0
  have ho16 : opN S < 16 := Nat.lt_of_lt_of_le (bsum_lt _ _) (two_le hT.2.1)
  have hl4 : 0 < tDn (psT S) → lst (psC S) (psA S) < 4 := fun c => Nat.lt_of_lt_of_le (lst_lt (h.oS.2.2.2.1 c)) hT.2.1
  have hl7 : up2 V 1 2 0 10 7 = lst (psC S) (psA S) := h2.hh.2.2.2.2.1
  have ht0 : up2 V 1 2 0 (dT y) 0 = tDr (psT S) := h2.tv.1.1
  obtain ⟨g, r1, r2⟩ := g3L hK
  have hb := fun (c : n.toNat ≤ 3) (i : Nat) => bwP_le hT c i
  refine wp_intro mL_odds_i.1 [some (vR 1), some (vI x), some (vI n), some (vI w)] rfl rfl (Nat.le_of_ble_eq_true rfl) ?_
  intro X hG F C
  have hm := C.rm
  have go : (0 ≤ x ∧ x < tDn (psT S)) → 0 ≤ n ∧ n ≤ 3 → AW X 23 [some (vR 1), some (vI x), some (vI n), some (vI w)] [] (up2 V 1 2 0, σ) 0 0 := by
    intro hs hn
    have hU : sumN (fun i => if i % 4 = x.toNat then bwP S n.toNat i else 0) 64 < 9223372036854775808 := by
      have := sumN_le (f := fun i => if i % 4 = x.toNat then bwP S n.toNat i else 0) (k := 64) (B := 40000000000000000) (fun i hi => by have := hb (by omega) i; show (if i % 4 = x.toNat then bwP S n.toNat i else 0) ≤ _; split <;> omega)
      omega
    refine aw_aload_0 (q := 24) F dL_odds_23 rfl ?_
    refine av_getaE (q := 27) F fL_65 dL_odds_24 rfl rfl (by first | exact hW.o | exact hW.ho | exact hW.to | exact hW.g.o | exact hW5.o | exact hW5.g.o) (by first | exact hW.p16 | exact hW5.p16) ?_
    refine aw_aload_0 (q := 28) F dL_odds_27 rfl ?_
    refine av_getaE (q := 31) F fL_23 dL_odds_28 rfl rfl (by first | exact hW.o | exact hW.ho | exact hW.to | exact hW.g.o | exact hW5.o | exact hW5.g.o) hW.p6 ?_
    refine av_callV0 (q := 34) (ci := 2) F hm mH_openDoors_i mH_openDoors_n lL_279 dL_odds_31 rfl rfl rfl (by first | exact hW.o | exact hW.ho | exact hW.to | exact hW.g.o | exact hW5.o | exact hW5.g.o) (by decide) (Nat.le_refl _) (Nat.le_refl _) (Nat.le_of_ble_eq_true rfl) (wH_openDoors hW.h hh2 ?_)
    refine aw_aload_0 (q := 35) F dL_odds_34 rfl ?_
    refine av_getaE (q := 38) F fL_23 dL_odds_35 rfl rfl (by first | exact hW.o | exact hW.ho | exact hW.to | exact hW.g.o | exact hW5.o | exact hW5.g.o) hW.p6 ?_
    refine av_geti (q := 41) F fL_133 dL_odds_38 rfl rfl (by first | exact hW.o | exact hW.ho | exact hW.to | exact hW.g.o | exact hW5.o | exact hW5.g.o) ?_
    refine aw_aload_0 (q := 42) F dL_odds_41 rfl ?_
    refine av_getaE (q := 45) F fL_16 dL_odds_42 rfl rfl (by first | exact hW.o | exact hW.ho | exact hW.to | exact hW.g.o | exact hW5.o | exact hW5.g.o) hW.p5 ?_
    refine av_geti (q := 48) F fL_282 dL_odds_45 rfl rfl (by first | exact hW.o | exact hW.ho | exact hW.to | exact hW.g.o | exact hW5.o | exact hW5.g.o) ?_
    refine aw_iload_2 (q := 49) F dL_odds_48 rfl ?_
    refine av_callV4 (q := 52) (ci := 1) F hm mU_blow_i mU_blow_n lL_285 dL_odds_49 rfl rfl rfl (by first | exact hW.o | exact hW.ho | exact hW.to | exact hW.g.o | exact hW5.o | exact hW5.g.o) (by decide) (Nat.le_refl _) (Nat.le_refl _) (Nat.le_of_ble_eq_true rfl) (wU_blow (o := opN S) (l := lst (psC S) (psA S)) (dr := tDr (psT S)) (n := n.toNat) hW.g rfl ho16 hl7 (hl4 (by omega)) ht0 hT.1 (by omega) (by omega) (fun v49 sg49 wn49 nn49 gs49 e49 x49 f49 w49 b49 => ?_))
    obtain ⟨h5, fr5⟩ := h2.gu gs49 e49 x49 f49
    have hW5 := h5.cs
    refine aw_aload_0 (q := 53) F dL_odds_52 rfl ?_
    refine av_getaE (q := 56) F fL_65 dL_odds_53 rfl rfl (by first | exact hW.o | exact hW.ho | exact hW.to | exact hW.g.o | exact hW5.o | exact hW5.g.o) (by first | exact hW.p16 | exact hW5.p16) ?_
    refine aw_aload_0 (q := 57) F dL_odds_56 rfl ?_
    refine av_getaE (q := 60) F fL_65 dL_odds_57 rfl rfl (by first | exact hW.o | exact hW.ho | exact hW.to | exact hW.g.o | exact hW5.o | exact hW5.g.o) (by first | exact hW.p16 | exact hW5.p16) ?_
    refine aw_iload_1 (q := 61) F dL_odds_60 rfl ?_
    refine av_callV1 (q := 64) (ci := 1) F hm mU_weightOfLast_i mU_weightOfLast_n lL_289 dL_odds_61 rfl rfl rfl (by first | exact hW.o | exact hW.ho | exact hW.to | exact hW.g.o | exact hW5.o | exact hW5.g.o) (by decide) (Nat.le_refl _) (Nat.le_refl _) (Nat.le_of_ble_eq_true rfl) (wU_weightOfLast (d := x.toNat) (W := bwP S n.toNat) gs49 (by omega) (by omega) (fun i hi => ⟨b49 i hi, Nat.le_trans (hb (by omega) i) (by decide)⟩) ?_)
    refine aw_iload_3 (q := 65) F dL_odds_64 rfl ?_
    refine av_callV2 (q := 68) (ci := 1) F hm mU_inLowestTerms_i mU_inLowestTerms_n lL_293 dL_odds_65 rfl rfl rfl (by first | exact hW.o | exact hW.ho | exact hW.to | exact hW.g.o | exact hW5.o | exact hW5.g.o) (by decide) (Nat.le_refl _) (Nat.le_refl _) (Nat.le_of_ble_eq_true rfl) (wU_inLowestTerms (U := sumN (fun i => if i % 4 = x.toNat then bwP S n.toNat i else 0) 64) (N := 1200 ^ n.toNat) (b := b) gs49 rfl hU w49 (p12_le (by omega)) (Nat.pow_pos (by decide)) hw ?_)
    refine aw_lret F C dL_odds_68 rfl (Nat.le_refl _) (Nat.le_refl _) ?_
    exact g hs hn _ _ _ _ h5 (h.fr.tr fr5)
  refine aw_aload_0 (q := 1) F dL_odds_0 rfl ?_
  refine aw_aload_0 (q := 2) F dL_odds_1 rfl ?_
  refine av_getaE (q := 5) F fL_23 dL_odds_2 rfl rfl (by first | exact hW.o | exact hW.ho | exact hW.to | exact hW.g.o | exact hW5.o | exact hW5.g.o) hW.p6 ?_
  refine aw_iload_1 (q := 6) F dL_odds_5 rfl ?_
  refine av_callV1 (q := 9) (ci := 2) F hm mH_isDoor_i mH_isDoor_n lL_110 dL_odds_6 rfl rfl rfl (by first | exact hW.o | exact hW.ho | exact hW.to | exact hW.g.o | exact hW5.o | exact hW5.g.o) (by decide) (Nat.le_refl _) (Nat.le_refl _) (Nat.le_of_ble_eq_true rfl) (wH_isDoor hW.h (fun c6 => ?_) (fun c6 => ?_))
  · refine aw_iload_2 (q := 10) F dL_odds_9 rfl ?_
    refine av_callS1 (q := 13) F hm mL_isTimes_i mL_isTimes_n lL_274 dL_odds_10 rfl (by decide) (Nat.le_refl _) (Nat.le_refl _) (Nat.le_of_ble_eq_true rfl) (wL_isTimes (fun c10 => ?_) (fun c10 => ?_))
    · refine av_callV2 (q := 16) (ci := 7) F hm mL_passes_i mL_passes_n lL_114 dL_odds_13 rfl rfl rfl (by first | exact hW.o | exact hW.ho | exact hW.to | exact hW.g.o | exact hW5.o | exact hW5.g.o) (by decide) (Nat.le_refl _) (Nat.le_refl _) (Nat.le_of_ble_eq_true rfl) (wL_passes hW (fun c13 d13 => ?_) (fun c13 => ?_) (fun c13 d13 => ?_))
      · refine aw_if_ne (q := 19) (t := 23) F dL_odds_16 rfl (by decide) (fun c16 => ?_) (fun c16 => absurd c16 (by decide))
        first | (exfalso; omega) | exact go (by omega) (by omega)
      · refine aw_if_ne (q := 19) (t := 23) F dL_odds_16 rfl (by decide) (fun c16 => absurd c16 (by decide)) (fun c16 => ?_)
        refine aw_ldc2 (q := 22) (z := -1) F dL_odds_19 rfl kL_277 (by decide) ?_
        refine aw_lret F C dL_odds_22 rfl (Nat.le_refl _) (Nat.le_refl _) ?_
        first | exact h.now (by decide) (r1 (by omega)) | exact h.now (by decide) (r2 (by omega) (by omega)) | (exfalso; omega)
      · refine aw_if_ne (q := 19) (t := 23) F dL_odds_16 rfl (by decide) (fun c16 => absurd c16 (by decide)) (fun c16 => ?_)
        refine aw_ldc2 (q := 22) (z := -1) F dL_odds_19 rfl kL_277 (by decide) ?_
        refine aw_lret F C dL_odds_22 rfl (Nat.le_refl _) (Nat.le_refl _) ?_
        first | exact h.now (by decide) (r1 (by omega)) | exact h.now (by decide) (r2 (by omega) (by omega)) | (exfalso; omega)
    · refine av_callV2 (q := 16) (ci := 7) F hm mL_passes_i mL_passes_n lL_114 dL_odds_13 rfl rfl rfl (by first | exact hW.o | exact hW.ho | exact hW.to | exact hW.g.o | exact hW5.o | exact hW5.g.o) (by decide) (Nat.le_refl _) (Nat.le_refl _) (Nat.le_of_ble_eq_true rfl) (wL_passes hW (fun c13 d13 => ?_) (fun c13 => ?_) (fun c13 d13 => ?_))
      · refine aw_if_ne (q := 19) (t := 23) F dL_odds_16 rfl (by decide) (fun c16 => ?_) (fun c16 => absurd c16 (by decide))
        first | (exfalso; omega) | exact go (by omega) (by omega)
      · refine aw_if_ne (q := 19) (t := 23) F dL_odds_16 rfl (by decide) (fun c16 => absurd c16 (by decide)) (fun c16 => ?_)
        refine aw_ldc2 (q := 22) (z := -1) F dL_odds_19 rfl kL_277 (by decide) ?_
        refine aw_lret F C dL_odds_22 rfl (Nat.le_refl _) (Nat.le_refl _) ?_
        first | exact h.now (by decide) (r1 (by omega)) | exact h.now (by decide) (r2 (by omega) (by omega)) | (exfalso; omega)
      · refine aw_if_ne (q := 19) (t := 23) F dL_odds_16 rfl (by decide) (fun c16 => absurd c16 (by decide)) (fun c16 => ?_)
        refine aw_ldc2 (q := 22) (z := -1) F dL_odds_19 rfl kL_277 (by decide) ?_
        refine aw_lret F C dL_odds_22 rfl (Nat.le_refl _) (Nat.le_refl _) ?_
        first | exact h.now (by decide) (r1 (by omega)) | exact h.now (by decide) (r2 (by omega) (by omega)) | (exfalso; omega)
  · refine aw_iload_2 (q := 10) F dL_odds_9 rfl ?_
    refine av_callS1 (q := 13) F hm mL_isTimes_i mL_isTimes_n lL_274 dL_odds_10 rfl (by decide) (Nat.le_refl _) (Nat.le_refl _) (Nat.le_of_ble_eq_true rfl) (wL_isTimes (fun c10 => ?_) (fun c10 => ?_))
    · refine av_callV2 (q := 16) (ci := 7) F hm mL_passes_i mL_passes_n lL_114 dL_odds_13 rfl rfl rfl (by first | exact hW.o | exact hW.ho | exact hW.to | exact hW.g.o | exact hW5.o | exact hW5.g.o) (by decide) (Nat.le_refl _) (Nat.le_refl _) (Nat.le_of_ble_eq_true rfl) (wL_passes hW (fun c13 d13 => ?_) (fun c13 => ?_) (fun c13 d13 => ?_))
      · refine aw_if_ne (q := 19) (t := 23) F dL_odds_16 rfl (by decide) (fun c16 => ?_) (fun c16 => absurd c16 (by decide))
        first | (exfalso; omega) | exact go (by omega) (by omega)
      · refine aw_if_ne (q := 19) (t := 23) F dL_odds_16 rfl (by decide) (fun c16 => absurd c16 (by decide)) (fun c16 => ?_)
        refine aw_ldc2 (q := 22) (z := -1) F dL_odds_19 rfl kL_277 (by decide) ?_
        refine aw_lret F C dL_odds_22 rfl (Nat.le_refl _) (Nat.le_refl _) ?_
        first | exact h.now (by decide) (r1 (by omega)) | exact h.now (by decide) (r2 (by omega) (by omega)) | (exfalso; omega)
      · refine aw_if_ne (q := 19) (t := 23) F dL_odds_16 rfl (by decide) (fun c16 => absurd c16 (by decide)) (fun c16 => ?_)
        refine aw_ldc2 (q := 22) (z := -1) F dL_odds_19 rfl kL_277 (by decide) ?_
        refine aw_lret F C dL_odds_22 rfl (Nat.le_refl _) (Nat.le_refl _) ?_
        first | exact h.now (by decide) (r1 (by omega)) | exact h.now (by decide) (r2 (by omega) (by omega)) | (exfalso; omega)
    · refine av_callV2 (q := 16) (ci := 7) F hm mL_passes_i mL_passes_n lL_114 dL_odds_13 rfl rfl rfl (by first | exact hW.o | exact hW.ho | exact hW.to | exact hW.g.o | exact hW5.o | exact hW5.g.o) (by decide) (Nat.le_refl _) (Nat.le_refl _) (Nat.le_of_ble_eq_true rfl) (wL_passes hW (fun c13 d13 => ?_) (fun c13 => ?_) (fun c13 d13 => ?_))
      · refine aw_if_ne (q := 19) (t := 23) F dL_odds_16 rfl (by decide) (fun c16 => ?_) (fun c16 => absurd c16 (by decide))
        first | (exfalso; omega) | exact go (by omega) (by omega)
      · refine aw_if_ne (q := 19) (t := 23) F dL_odds_16 rfl (by decide) (fun c16 => absurd c16 (by decide)) (fun c16 => ?_)
        refine aw_ldc2 (q := 22) (z := -1) F dL_odds_19 rfl kL_277 (by decide) ?_
        refine aw_lret F C dL_odds_22 rfl (Nat.le_refl _) (Nat.le_refl _) ?_
        first | exact h.now (by decide) (r1 (by omega)) | exact h.now (by decide) (r2 (by omega) (by omega)) | (exfalso; omega)
      · refine aw_if_ne (q := 19) (t := 23) F dL_odds_16 rfl (by decide) (fun c16 => absurd c16 (by decide)) (fun c16 => ?_)
        refine aw_ldc2 (q := 22) (z := -1) F dL_odds_19 rfl kL_277 (by decide) ?_
        refine aw_lret F C dL_odds_22 rfl (Nat.le_refl _) (Nat.le_refl _) ?_
        first | exact h.now (by decide) (r1 (by omega)) | exact h.now (by decide) (r2 (by omega) (by omega)) | (exfalso; omega)
theorem wL_shutOdds {x n w : Int} {b : Bool} (hw : w = bz b) (h : CW V σ ow y S kn) (hK : CK K V σ ow (setR S (wy (0 ≤ x ∧ x < tDn (psT S)) (0 ≤ n ∧ n ≤ 3))) kn (some (vL (rfD (wy (0 ≤ x ∧ x < tDn (psT S)) (0 ≤ n ∧ n ≤ 3)) (oddV (sumN (fun i => if (i / 4).testBit x.toNat then 0 else bwP S n.toNat i) 64) (1200 ^ n.toNat) b) (-1))))) : Wp G 3 mL_shutOdds [vR 1, vI x, vI n, vI w] (V, σ) 0 0 K := by
  have hW := h.cs
  have hT := h.oT
  have hd4 : tDn (psT S) ≤ 4 := h.oT.2.1
  have hT1 : V (dT y) 1 = tDn (psT S) := h.tv.1.2.1
  have h2 := h.tr (z := 0) (by decide)
  have hh2 : HH (up2 V 1 2 0) 10 (psC S) (psA S) := h2.hh
  have hv := h.v0
  have ho16 : opN S < 16 := Nat.lt_of_lt_of_le (bsum_lt _ _) (two_le hT.2.1)
  have hl4 : 0 < tDn (psT S) → lst (psC S) (psA S) < 4 := fun c => Nat.lt_of_lt_of_le (lst_lt (h.oS.2.2.2.1 c)) hT.2.1
  have hl7 : up2 V 1 2 0 10 7 = lst (psC S) (psA S) := h2.hh.2.2.2.2.1
  have ht0 : up2 V 1 2 0 (dT y) 0 = tDr (psT S) := h2.tv.1.1
  obtain ⟨g, r1, r2⟩ := g3L hK
  have hb := fun (c : n.toNat ≤ 3) (i : Nat) => bwP_le hT c i
  refine wp_intro mL_shutOdds_i.1 [some (vR 1), some (vI x), some (vI n), some (vI w)] rfl rfl (Nat.le_of_ble_eq_true rfl) ?_
  intro X hG F C
  have hm := C.rm
  have go : (0 ≤ x ∧ x < tDn (psT S)) → 0 ≤ n ∧ n ≤ 3 → AW X 23 [some (vR 1), some (vI x), some (vI n), some (vI w)] [] (up2 V 1 2 0, σ) 0 0 := by
    intro hs hn
    have hU : sumN (fun i => if (i / 4).testBit x.toNat then 0 else bwP S n.toNat i) 64 < 9223372036854775808 := by
      have := sumN_le (f := fun i => if (i / 4).testBit x.toNat then 0 else bwP S n.toNat i) (k := 64) (B := 40000000000000000) (fun i hi => by have := hb (by omega) i; show (if (i / 4).testBit x.toNat then 0 else bwP S n.toNat i) ≤ _; split <;> omega)
      omega
    refine aw_aload_0 (q := 24) F dL_shutOdds_23 rfl ?_
    refine av_getaE (q := 27) F fL_65 dL_shutOdds_24 rfl rfl (by first | exact hW.o | exact hW.ho | exact hW.to | exact hW.g.o | exact hW5.o | exact hW5.g.o) (by first | exact hW.p16 | exact hW5.p16) ?_
    refine aw_aload_0 (q := 28) F dL_shutOdds_27 rfl ?_
    refine av_getaE (q := 31) F fL_23 dL_shutOdds_28 rfl rfl (by first | exact hW.o | exact hW.ho | exact hW.to | exact hW.g.o | exact hW5.o | exact hW5.g.o) hW.p6 ?_
    refine av_callV0 (q := 34) (ci := 2) F hm mH_openDoors_i mH_openDoors_n lL_279 dL_shutOdds_31 rfl rfl rfl (by first | exact hW.o | exact hW.ho | exact hW.to | exact hW.g.o | exact hW5.o | exact hW5.g.o) (by decide) (Nat.le_refl _) (Nat.le_refl _) (Nat.le_of_ble_eq_true rfl) (wH_openDoors hW.h hh2 ?_)
    refine aw_aload_0 (q := 35) F dL_shutOdds_34 rfl ?_
    refine av_getaE (q := 38) F fL_23 dL_shutOdds_35 rfl rfl (by first | exact hW.o | exact hW.ho | exact hW.to | exact hW.g.o | exact hW5.o | exact hW5.g.o) hW.p6 ?_
    refine av_geti (q := 41) F fL_133 dL_shutOdds_38 rfl rfl (by first | exact hW.o | exact hW.ho | exact hW.to | exact hW.g.o | exact hW5.o | exact hW5.g.o) ?_
    refine aw_aload_0 (q := 42) F dL_shutOdds_41 rfl ?_
    refine av_getaE (q := 45) F fL_16 dL_shutOdds_42 rfl rfl (by first | exact hW.o | exact hW.ho | exact hW.to | exact hW.g.o | exact hW5.o | exact hW5.g.o) hW.p5 ?_
    refine av_geti (q := 48) F fL_282 dL_shutOdds_45 rfl rfl (by first | exact hW.o | exact hW.ho | exact hW.to | exact hW.g.o | exact hW5.o | exact hW5.g.o) ?_
    refine aw_iload_2 (q := 49) F dL_shutOdds_48 rfl ?_
    refine av_callV4 (q := 52) (ci := 1) F hm mU_blow_i mU_blow_n lL_285 dL_shutOdds_49 rfl rfl rfl (by first | exact hW.o | exact hW.ho | exact hW.to | exact hW.g.o | exact hW5.o | exact hW5.g.o) (by decide) (Nat.le_refl _) (Nat.le_refl _) (Nat.le_of_ble_eq_true rfl) (wU_blow (o := opN S) (l := lst (psC S) (psA S)) (dr := tDr (psT S)) (n := n.toNat) hW.g rfl ho16 hl7 (hl4 (by omega)) ht0 hT.1 (by omega) (by omega) (fun v49 sg49 wn49 nn49 gs49 e49 x49 f49 w49 b49 => ?_))
    obtain ⟨h5, fr5⟩ := h2.gu gs49 e49 x49 f49
    have hW5 := h5.cs
    refine aw_aload_0 (q := 53) F dL_shutOdds_52 rfl ?_
    refine av_getaE (q := 56) F fL_65 dL_shutOdds_53 rfl rfl (by first | exact hW.o | exact hW.ho | exact hW.to | exact hW.g.o | exact hW5.o | exact hW5.g.o) (by first | exact hW.p16 | exact hW5.p16) ?_
    refine aw_aload_0 (q := 57) F dL_shutOdds_56 rfl ?_
    refine av_getaE (q := 60) F fL_65 dL_shutOdds_57 rfl rfl (by first | exact hW.o | exact hW.ho | exact hW.to | exact hW.g.o | exact hW5.o | exact hW5.g.o) (by first | exact hW.p16 | exact hW5.p16) ?_
    refine aw_iload_1 (q := 61) F dL_shutOdds_60 rfl ?_
    refine av_callV1 (q := 64) (ci := 1) F hm mU_weightOfShut_i mU_weightOfShut_n lL_297 dL_shutOdds_61 rfl rfl rfl (by first | exact hW.o | exact hW.ho | exact hW.to | exact hW.g.o | exact hW5.o | exact hW5.g.o) (by decide) (Nat.le_refl _) (Nat.le_refl _) (Nat.le_of_ble_eq_true rfl) (wU_weightOfShut (d := x.toNat) (W := bwP S n.toNat) gs49 (by omega) (by omega) (fun i hi => ⟨b49 i hi, Nat.le_trans (hb (by omega) i) (by decide)⟩) ?_)
    refine aw_iload_3 (q := 65) F dL_shutOdds_64 rfl ?_
    refine av_callV2 (q := 68) (ci := 1) F hm mU_inLowestTerms_i mU_inLowestTerms_n lL_293 dL_shutOdds_65 rfl rfl rfl (by first | exact hW.o | exact hW.ho | exact hW.to | exact hW.g.o | exact hW5.o | exact hW5.g.o) (by decide) (Nat.le_refl _) (Nat.le_refl _) (Nat.le_of_ble_eq_true rfl) (wU_inLowestTerms (U := sumN (fun i => if (i / 4).testBit x.toNat then 0 else bwP S n.toNat i) 64) (N := 1200 ^ n.toNat) (b := b) gs49 rfl hU w49 (p12_le (by omega)) (Nat.pow_pos (by decide)) hw ?_)
    refine aw_lret F C dL_shutOdds_68 rfl (Nat.le_refl _) (Nat.le_refl _) ?_
    exact g hs hn _ _ _ _ h5 (h.fr.tr fr5)
  refine aw_aload_0 (q := 1) F dL_shutOdds_0 rfl ?_
  refine aw_aload_0 (q := 2) F dL_shutOdds_1 rfl ?_
  refine av_getaE (q := 5) F fL_23 dL_shutOdds_2 rfl rfl (by first | exact hW.o | exact hW.ho | exact hW.to | exact hW.g.o | exact hW5.o | exact hW5.g.o) hW.p6 ?_
  refine aw_iload_1 (q := 6) F dL_shutOdds_5 rfl ?_
  refine av_callV1 (q := 9) (ci := 2) F hm mH_isDoor_i mH_isDoor_n lL_110 dL_shutOdds_6 rfl rfl rfl (by first | exact hW.o | exact hW.ho | exact hW.to | exact hW.g.o | exact hW5.o | exact hW5.g.o) (by decide) (Nat.le_refl _) (Nat.le_refl _) (Nat.le_of_ble_eq_true rfl) (wH_isDoor hW.h (fun c6 => ?_) (fun c6 => ?_))
  · refine aw_iload_2 (q := 10) F dL_shutOdds_9 rfl ?_
    refine av_callS1 (q := 13) F hm mL_isTimes_i mL_isTimes_n lL_274 dL_shutOdds_10 rfl (by decide) (Nat.le_refl _) (Nat.le_refl _) (Nat.le_of_ble_eq_true rfl) (wL_isTimes (fun c10 => ?_) (fun c10 => ?_))
    · refine av_callV2 (q := 16) (ci := 7) F hm mL_passes_i mL_passes_n lL_114 dL_shutOdds_13 rfl rfl rfl (by first | exact hW.o | exact hW.ho | exact hW.to | exact hW.g.o | exact hW5.o | exact hW5.g.o) (by decide) (Nat.le_refl _) (Nat.le_refl _) (Nat.le_of_ble_eq_true rfl) (wL_passes hW (fun c13 d13 => ?_) (fun c13 => ?_) (fun c13 d13 => ?_))
      · refine aw_if_ne (q := 19) (t := 23) F dL_shutOdds_16 rfl (by decide) (fun c16 => ?_) (fun c16 => absurd c16 (by decide))
        first | (exfalso; omega) | exact go (by omega) (by omega)
      · refine aw_if_ne (q := 19) (t := 23) F dL_shutOdds_16 rfl (by decide) (fun c16 => absurd c16 (by decide)) (fun c16 => ?_)
        refine aw_ldc2 (q := 22) (z := -1) F dL_shutOdds_19 rfl kL_277 (by decide) ?_
        refine aw_lret F C dL_shutOdds_22 rfl (Nat.le_refl _) (Nat.le_refl _) ?_
        first | exact h.now (by decide) (r1 (by omega)) | exact h.now (by decide) (r2 (by omega) (by omega)) | (exfalso; omega)
      · refine aw_if_ne (q := 19) (t := 23) F dL_shutOdds_16 rfl (by decide) (fun c16 => absurd c16 (by decide)) (fun c16 => ?_)
        refine aw_ldc2 (q := 22) (z := -1) F dL_shutOdds_19 rfl kL_277 (by decide) ?_
        refine aw_lret F C dL_shutOdds_22 rfl (Nat.le_refl _) (Nat.le_refl _) ?_
        first | exact h.now (by decide) (r1 (by omega)) | exact h.now (by decide) (r2 (by omega) (by omega)) | (exfalso; omega)
    · refine av_callV2 (q := 16) (ci := 7) F hm mL_passes_i mL_passes_n lL_114 dL_shutOdds_13 rfl rfl rfl (by first | exact hW.o | exact hW.ho | exact hW.to | exact hW.g.o | exact hW5.o | exact hW5.g.o) (by decide) (Nat.le_refl _) (Nat.le_refl _) (Nat.le_of_ble_eq_true rfl) (wL_passes hW (fun c13 d13 => ?_) (fun c13 => ?_) (fun c13 d13 => ?_))
      · refine aw_if_ne (q := 19) (t := 23) F dL_shutOdds_16 rfl (by decide) (fun c16 => ?_) (fun c16 => absurd c16 (by decide))
        first | (exfalso; omega) | exact go (by omega) (by omega)
      · refine aw_if_ne (q := 19) (t := 23) F dL_shutOdds_16 rfl (by decide) (fun c16 => absurd c16 (by decide)) (fun c16 => ?_)
        refine aw_ldc2 (q := 22) (z := -1) F dL_shutOdds_19 rfl kL_277 (by decide) ?_
        refine aw_lret F C dL_shutOdds_22 rfl (Nat.le_refl _) (Nat.le_refl _) ?_
        first | exact h.now (by decide) (r1 (by omega)) | exact h.now (by decide) (r2 (by omega) (by omega)) | (exfalso; omega)
      · refine aw_if_ne (q := 19) (t := 23) F dL_shutOdds_16 rfl (by decide) (fun c16 => absurd c16 (by decide)) (fun c16 => ?_)
        refine aw_ldc2 (q := 22) (z := -1) F dL_shutOdds_19 rfl kL_277 (by decide) ?_
        refine aw_lret F C dL_shutOdds_22 rfl (Nat.le_refl _) (Nat.le_refl _) ?_
        first | exact h.now (by decide) (r1 (by omega)) | exact h.now (by decide) (r2 (by omega) (by omega)) | (exfalso; omega)
  · refine aw_iload_2 (q := 10) F dL_shutOdds_9 rfl ?_
    refine av_callS1 (q := 13) F hm mL_isTimes_i mL_isTimes_n lL_274 dL_shutOdds_10 rfl (by decide) (Nat.le_refl _) (Nat.le_refl _) (Nat.le_of_ble_eq_true rfl) (wL_isTimes (fun c10 => ?_) (fun c10 => ?_))
    · refine av_callV2 (q := 16) (ci := 7) F hm mL_passes_i mL_passes_n lL_114 dL_shutOdds_13 rfl rfl rfl (by first | exact hW.o | exact hW.ho | exact hW.to | exact hW.g.o | exact hW5.o | exact hW5.g.o) (by decide) (Nat.le_refl _) (Nat.le_refl _) (Nat.le_of_ble_eq_true rfl) (wL_passes hW (fun c13 d13 => ?_) (fun c13 => ?_) (fun c13 d13 => ?_))
      · refine aw_if_ne (q := 19) (t := 23) F dL_shutOdds_16 rfl (by decide) (fun c16 => ?_) (fun c16 => absurd c16 (by decide))
        first | (exfalso; omega) | exact go (by omega) (by omega)
      · refine aw_if_ne (q := 19) (t := 23) F dL_shutOdds_16 rfl (by decide) (fun c16 => absurd c16 (by decide)) (fun c16 => ?_)
        refine aw_ldc2 (q := 22) (z := -1) F dL_shutOdds_19 rfl kL_277 (by decide) ?_
        refine aw_lret F C dL_shutOdds_22 rfl (Nat.le_refl _) (Nat.le_refl _) ?_
        first | exact h.now (by decide) (r1 (by omega)) | exact h.now (by decide) (r2 (by omega) (by omega)) | (exfalso; omega)
      · refine aw_if_ne (q := 19) (t := 23) F dL_shutOdds_16 rfl (by decide) (fun c16 => absurd c16 (by decide)) (fun c16 => ?_)
        refine aw_ldc2 (q := 22) (z := -1) F dL_shutOdds_19 rfl kL_277 (by decide) ?_
        refine aw_lret F C dL_shutOdds_22 rfl (Nat.le_refl _) (Nat.le_refl _) ?_
        first | exact h.now (by decide) (r1 (by omega)) | exact h.now (by decide) (r2 (by omega) (by omega)) | (exfalso; omega)
    · refine av_callV2 (q := 16) (ci := 7) F hm mL_passes_i mL_passes_n lL_114 dL_shutOdds_13 rfl rfl rfl (by first | exact hW.o | exact hW.ho | exact hW.to | exact hW.g.o | exact hW5.o | exact hW5.g.o) (by decide) (Nat.le_refl _) (Nat.le_refl _) (Nat.le_of_ble_eq_true rfl) (wL_passes hW (fun c13 d13 => ?_) (fun c13 => ?_) (fun c13 d13 => ?_))
      · refine aw_if_ne (q := 19) (t := 23) F dL_shutOdds_16 rfl (by decide) (fun c16 => ?_) (fun c16 => absurd c16 (by decide))
        first | (exfalso; omega) | exact go (by omega) (by omega)
      · refine aw_if_ne (q := 19) (t := 23) F dL_shutOdds_16 rfl (by decide) (fun c16 => absurd c16 (by decide)) (fun c16 => ?_)
        refine aw_ldc2 (q := 22) (z := -1) F dL_shutOdds_19 rfl kL_277 (by decide) ?_
        refine aw_lret F C dL_shutOdds_22 rfl (Nat.le_refl _) (Nat.le_refl _) ?_
        first | exact h.now (by decide) (r1 (by omega)) | exact h.now (by decide) (r2 (by omega) (by omega)) | (exfalso; omega)
      · refine aw_if_ne (q := 19) (t := 23) F dL_shutOdds_16 rfl (by decide) (fun c16 => absurd c16 (by decide)) (fun c16 => ?_)
        refine aw_ldc2 (q := 22) (z := -1) F dL_shutOdds_19 rfl kL_277 (by decide) ?_
        refine aw_lret F C dL_shutOdds_22 rfl (Nat.le_refl _) (Nat.le_refl _) ?_
        first | exact h.now (by decide) (r1 (by omega)) | exact h.now (by decide) (r2 (by omega) (by omega)) | (exfalso; omega)
theorem wL_mean {n w : Int} {b : Bool} (hw : w = bz b) (h : CW V σ ow y S kn) (hK : CK K V σ ow (setR S (wy (0 < tDn (psT S)) (0 ≤ n ∧ n ≤ 3))) kn (some (vL (rfD (wy (0 < tDn (psT S)) (0 ≤ n ∧ n ≤ 3)) (oddV (sumN (fun i => bwP S n.toNat i * pc4 (i / 4)) 64) (1200 ^ n.toNat) b) (-1))))) : Wp G 3 mL_mean [vR 1, vI n, vI w] (V, σ) 0 0 K := by
  have hW := h.cs
  have hT := h.oT
  have hd4 : tDn (psT S) ≤ 4 := h.oT.2.1
  have hT1 : V (dT y) 1 = tDn (psT S) := h.tv.1.2.1
  have h2 := h.tr (z := 0) (by decide)
  have hh2 : HH (up2 V 1 2 0) 10 (psC S) (psA S) := h2.hh
  have hv := h.v0
  have ho16 : opN S < 16 := Nat.lt_of_lt_of_le (bsum_lt _ _) (two_le hT.2.1)
  have hl4 : 0 < tDn (psT S) → lst (psC S) (psA S) < 4 := fun c => Nat.lt_of_lt_of_le (lst_lt (h.oS.2.2.2.1 c)) hT.2.1
  have hl7 : up2 V 1 2 0 10 7 = lst (psC S) (psA S) := h2.hh.2.2.2.2.1
  have ht0 : up2 V 1 2 0 (dT y) 0 = tDr (psT S) := h2.tv.1.1
  obtain ⟨g, r1, r2⟩ := g3L hK
  have hb := fun (c : n.toNat ≤ 3) (i : Nat) => bwP_le hT c i
  refine wp_intro mL_mean_i.1 [some (vR 1), some (vI n), some (vI w)] rfl rfl (Nat.le_of_ble_eq_true rfl) ?_
  intro X hG F C
  have hm := C.rm
  have go : (0 < tDn (psT S)) → 0 ≤ n ∧ n ≤ 3 → AW X 19 [some (vR 1), some (vI n), some (vI w)] [] (up2 V 1 2 0, σ) 0 0 := by
    intro hs hn
    have hU : sumN (fun i => bwP S n.toNat i * pc4 (i / 4)) 64 < 9223372036854775808 := by
      have := sumN_le (f := fun i => bwP S n.toNat i * pc4 (i / 4)) (k := 64) (B := 40000000000000000) (fun i hi => by have := hb (by omega) i; exact Nat.le_trans (Nat.mul_le_mul this (pc4_le _)) (by decide))
      omega
    refine aw_aload_0 (q := 20) F dL_mean_19 rfl ?_
    refine av_getaE (q := 23) F fL_65 dL_mean_20 rfl rfl (by first | exact hW.o | exact hW.ho | exact hW.to | exact hW.g.o | exact hW5.o | exact hW5.g.o) (by first | exact hW.p16 | exact hW5.p16) ?_
    refine aw_aload_0 (q := 24) F dL_mean_23 rfl ?_
    refine av_getaE (q := 27) F fL_23 dL_mean_24 rfl rfl (by first | exact hW.o | exact hW.ho | exact hW.to | exact hW.g.o | exact hW5.o | exact hW5.g.o) hW.p6 ?_
    refine av_callV0 (q := 30) (ci := 2) F hm mH_openDoors_i mH_openDoors_n lL_279 dL_mean_27 rfl rfl rfl (by first | exact hW.o | exact hW.ho | exact hW.to | exact hW.g.o | exact hW5.o | exact hW5.g.o) (by decide) (Nat.le_refl _) (Nat.le_refl _) (Nat.le_of_ble_eq_true rfl) (wH_openDoors hW.h hh2 ?_)
    refine aw_aload_0 (q := 31) F dL_mean_30 rfl ?_
    refine av_getaE (q := 34) F fL_23 dL_mean_31 rfl rfl (by first | exact hW.o | exact hW.ho | exact hW.to | exact hW.g.o | exact hW5.o | exact hW5.g.o) hW.p6 ?_
    refine av_geti (q := 37) F fL_133 dL_mean_34 rfl rfl (by first | exact hW.o | exact hW.ho | exact hW.to | exact hW.g.o | exact hW5.o | exact hW5.g.o) ?_
    refine aw_aload_0 (q := 38) F dL_mean_37 rfl ?_
    refine av_getaE (q := 41) F fL_16 dL_mean_38 rfl rfl (by first | exact hW.o | exact hW.ho | exact hW.to | exact hW.g.o | exact hW5.o | exact hW5.g.o) hW.p5 ?_
    refine av_geti (q := 44) F fL_282 dL_mean_41 rfl rfl (by first | exact hW.o | exact hW.ho | exact hW.to | exact hW.g.o | exact hW5.o | exact hW5.g.o) ?_
    refine aw_iload_1 (q := 45) F dL_mean_44 rfl ?_
    refine av_callV4 (q := 48) (ci := 1) F hm mU_blow_i mU_blow_n lL_285 dL_mean_45 rfl rfl rfl (by first | exact hW.o | exact hW.ho | exact hW.to | exact hW.g.o | exact hW5.o | exact hW5.g.o) (by decide) (Nat.le_refl _) (Nat.le_refl _) (Nat.le_of_ble_eq_true rfl) (wU_blow (o := opN S) (l := lst (psC S) (psA S)) (dr := tDr (psT S)) (n := n.toNat) hW.g rfl ho16 hl7 (hl4 (by omega)) ht0 hT.1 (by omega) (by omega) (fun v45 sg45 wn45 nn45 gs45 e45 x45 f45 w45 b45 => ?_))
    obtain ⟨h5, fr5⟩ := h2.gu gs45 e45 x45 f45
    have hW5 := h5.cs
    refine aw_aload_0 (q := 49) F dL_mean_48 rfl ?_
    refine av_getaE (q := 52) F fL_65 dL_mean_49 rfl rfl (by first | exact hW.o | exact hW.ho | exact hW.to | exact hW.g.o | exact hW5.o | exact hW5.g.o) (by first | exact hW.p16 | exact hW5.p16) ?_
    refine aw_aload_0 (q := 53) F dL_mean_52 rfl ?_
    refine av_getaE (q := 56) F fL_65 dL_mean_53 rfl rfl (by first | exact hW.o | exact hW.ho | exact hW.to | exact hW.g.o | exact hW5.o | exact hW5.g.o) (by first | exact hW.p16 | exact hW5.p16) ?_
    refine av_callV0 (q := 59) (ci := 1) F hm mU_weightOfOpen_i mU_weightOfOpen_n lL_300 dL_mean_56 rfl rfl rfl (by first | exact hW.o | exact hW.ho | exact hW.to | exact hW.g.o | exact hW5.o | exact hW5.g.o) (by decide) (Nat.le_refl _) (Nat.le_refl _) (Nat.le_of_ble_eq_true rfl) (wU_weightOfOpen (W := bwP S n.toNat) gs45 (fun i hi => ⟨b45 i hi, hb (by omega) i⟩) ?_)
    refine aw_iload_2 (q := 60) F dL_mean_59 rfl ?_
    refine av_callV2 (q := 63) (ci := 1) F hm mU_inLowestTerms_i mU_inLowestTerms_n lL_293 dL_mean_60 rfl rfl rfl (by first | exact hW.o | exact hW.ho | exact hW.to | exact hW.g.o | exact hW5.o | exact hW5.g.o) (by decide) (Nat.le_refl _) (Nat.le_refl _) (Nat.le_of_ble_eq_true rfl) (wU_inLowestTerms (U := sumN (fun i => bwP S n.toNat i * pc4 (i / 4)) 64) (N := 1200 ^ n.toNat) (b := b) gs45 rfl hU w45 (p12_le (by omega)) (Nat.pow_pos (by decide)) hw ?_)
    refine aw_lret F C dL_mean_63 rfl (Nat.le_refl _) (Nat.le_refl _) ?_
    exact g hs hn _ _ _ _ h5 (h.fr.tr fr5)
  refine aw_aload_0 (q := 1) F dL_mean_0 rfl ?_
  refine aw_aload_0 (q := 2) F dL_mean_1 rfl ?_
  refine av_callV0 (q := 5) (ci := 7) F hm mL_hasLane_i mL_hasLane_n lL_154 dL_mean_2 rfl rfl rfl (by first | exact hW.o | exact hW.ho | exact hW.to | exact hW.g.o | exact hW5.o | exact hW5.g.o) (by decide) (Nat.le_refl _) (Nat.le_refl _) (Nat.le_of_ble_eq_true rfl) (wL_hasLane hW (fun c2 => ?_) (fun c2 => ?_))
  · refine aw_iload_1 (q := 6) F dL_mean_5 rfl ?_
    refine av_callS1 (q := 9) F hm mL_isTimes_i mL_isTimes_n lL_274 dL_mean_6 rfl (by decide) (Nat.le_refl _) (Nat.le_refl _) (Nat.le_of_ble_eq_true rfl) (wL_isTimes (fun c6 => ?_) (fun c6 => ?_))
    · refine av_callV2 (q := 12) (ci := 7) F hm mL_passes_i mL_passes_n lL_114 dL_mean_9 rfl rfl rfl (by first | exact hW.o | exact hW.ho | exact hW.to | exact hW.g.o | exact hW5.o | exact hW5.g.o) (by decide) (Nat.le_refl _) (Nat.le_refl _) (Nat.le_of_ble_eq_true rfl) (wL_passes hW (fun c9 d9 => ?_) (fun c9 => ?_) (fun c9 d9 => ?_))
      · refine aw_if_ne (q := 15) (t := 19) F dL_mean_12 rfl (by decide) (fun c12 => ?_) (fun c12 => absurd c12 (by decide))
        first | (exfalso; omega) | exact go (by omega) (by omega)
      · refine aw_if_ne (q := 15) (t := 19) F dL_mean_12 rfl (by decide) (fun c12 => absurd c12 (by decide)) (fun c12 => ?_)
        refine aw_ldc2 (q := 18) (z := -1) F dL_mean_15 rfl kL_277 (by decide) ?_
        refine aw_lret F C dL_mean_18 rfl (Nat.le_refl _) (Nat.le_refl _) ?_
        first | exact h.now (by decide) (r1 (by omega)) | exact h.now (by decide) (r2 (by omega) (by omega)) | (exfalso; omega)
      · refine aw_if_ne (q := 15) (t := 19) F dL_mean_12 rfl (by decide) (fun c12 => absurd c12 (by decide)) (fun c12 => ?_)
        refine aw_ldc2 (q := 18) (z := -1) F dL_mean_15 rfl kL_277 (by decide) ?_
        refine aw_lret F C dL_mean_18 rfl (Nat.le_refl _) (Nat.le_refl _) ?_
        first | exact h.now (by decide) (r1 (by omega)) | exact h.now (by decide) (r2 (by omega) (by omega)) | (exfalso; omega)
    · refine av_callV2 (q := 12) (ci := 7) F hm mL_passes_i mL_passes_n lL_114 dL_mean_9 rfl rfl rfl (by first | exact hW.o | exact hW.ho | exact hW.to | exact hW.g.o | exact hW5.o | exact hW5.g.o) (by decide) (Nat.le_refl _) (Nat.le_refl _) (Nat.le_of_ble_eq_true rfl) (wL_passes hW (fun c9 d9 => ?_) (fun c9 => ?_) (fun c9 d9 => ?_))
      · refine aw_if_ne (q := 15) (t := 19) F dL_mean_12 rfl (by decide) (fun c12 => ?_) (fun c12 => absurd c12 (by decide))
        first | (exfalso; omega) | exact go (by omega) (by omega)
      · refine aw_if_ne (q := 15) (t := 19) F dL_mean_12 rfl (by decide) (fun c12 => absurd c12 (by decide)) (fun c12 => ?_)
        refine aw_ldc2 (q := 18) (z := -1) F dL_mean_15 rfl kL_277 (by decide) ?_
        refine aw_lret F C dL_mean_18 rfl (Nat.le_refl _) (Nat.le_refl _) ?_
        first | exact h.now (by decide) (r1 (by omega)) | exact h.now (by decide) (r2 (by omega) (by omega)) | (exfalso; omega)
      · refine aw_if_ne (q := 15) (t := 19) F dL_mean_12 rfl (by decide) (fun c12 => absurd c12 (by decide)) (fun c12 => ?_)
        refine aw_ldc2 (q := 18) (z := -1) F dL_mean_15 rfl kL_277 (by decide) ?_
        refine aw_lret F C dL_mean_18 rfl (Nat.le_refl _) (Nat.le_refl _) ?_
        first | exact h.now (by decide) (r1 (by omega)) | exact h.now (by decide) (r2 (by omega) (by omega)) | (exfalso; omega)
  · refine aw_iload_1 (q := 6) F dL_mean_5 rfl ?_
    refine av_callS1 (q := 9) F hm mL_isTimes_i mL_isTimes_n lL_274 dL_mean_6 rfl (by decide) (Nat.le_refl _) (Nat.le_refl _) (Nat.le_of_ble_eq_true rfl) (wL_isTimes (fun c6 => ?_) (fun c6 => ?_))
    · refine av_callV2 (q := 12) (ci := 7) F hm mL_passes_i mL_passes_n lL_114 dL_mean_9 rfl rfl rfl (by first | exact hW.o | exact hW.ho | exact hW.to | exact hW.g.o | exact hW5.o | exact hW5.g.o) (by decide) (Nat.le_refl _) (Nat.le_refl _) (Nat.le_of_ble_eq_true rfl) (wL_passes hW (fun c9 d9 => ?_) (fun c9 => ?_) (fun c9 d9 => ?_))
      · refine aw_if_ne (q := 15) (t := 19) F dL_mean_12 rfl (by decide) (fun c12 => ?_) (fun c12 => absurd c12 (by decide))
        first | (exfalso; omega) | exact go (by omega) (by omega)
      · refine aw_if_ne (q := 15) (t := 19) F dL_mean_12 rfl (by decide) (fun c12 => absurd c12 (by decide)) (fun c12 => ?_)
        refine aw_ldc2 (q := 18) (z := -1) F dL_mean_15 rfl kL_277 (by decide) ?_
        refine aw_lret F C dL_mean_18 rfl (Nat.le_refl _) (Nat.le_refl _) ?_
        first | exact h.now (by decide) (r1 (by omega)) | exact h.now (by decide) (r2 (by omega) (by omega)) | (exfalso; omega)
      · refine aw_if_ne (q := 15) (t := 19) F dL_mean_12 rfl (by decide) (fun c12 => absurd c12 (by decide)) (fun c12 => ?_)
        refine aw_ldc2 (q := 18) (z := -1) F dL_mean_15 rfl kL_277 (by decide) ?_
        refine aw_lret F C dL_mean_18 rfl (Nat.le_refl _) (Nat.le_refl _) ?_
        first | exact h.now (by decide) (r1 (by omega)) | exact h.now (by decide) (r2 (by omega) (by omega)) | (exfalso; omega)
    · refine av_callV2 (q := 12) (ci := 7) F hm mL_passes_i mL_passes_n lL_114 dL_mean_9 rfl rfl rfl (by first | exact hW.o | exact hW.ho | exact hW.to | exact hW.g.o | exact hW5.o | exact hW5.g.o) (by decide) (Nat.le_refl _) (Nat.le_refl _) (Nat.le_of_ble_eq_true rfl) (wL_passes hW (fun c9 d9 => ?_) (fun c9 => ?_) (fun c9 d9 => ?_))
      · refine aw_if_ne (q := 15) (t := 19) F dL_mean_12 rfl (by decide) (fun c12 => ?_) (fun c12 => absurd c12 (by decide))
        first | (exfalso; omega) | exact go (by omega) (by omega)
      · refine aw_if_ne (q := 15) (t := 19) F dL_mean_12 rfl (by decide) (fun c12 => absurd c12 (by decide)) (fun c12 => ?_)
        refine aw_ldc2 (q := 18) (z := -1) F dL_mean_15 rfl kL_277 (by decide) ?_
        refine aw_lret F C dL_mean_18 rfl (Nat.le_refl _) (Nat.le_refl _) ?_
        first | exact h.now (by decide) (r1 (by omega)) | exact h.now (by decide) (r2 (by omega) (by omega)) | (exfalso; omega)
      · refine aw_if_ne (q := 15) (t := 19) F dL_mean_12 rfl (by decide) (fun c12 => absurd c12 (by decide)) (fun c12 => ?_)
        refine aw_ldc2 (q := 18) (z := -1) F dL_mean_15 rfl kL_277 (by decide) ?_
        refine aw_lret F C dL_mean_18 rfl (Nat.le_refl _) (Nat.le_refl _) ?_
        first | exact h.now (by decide) (r1 (by omega)) | exact h.now (by decide) (r2 (by omega) (by omega)) | (exfalso; omega)
theorem wL_drafts {x n : Int} (h : CW V σ ow y S kn) (hK : CK K V σ ow (setR S (wy (0 < tDn (psT S)) ((0 ≤ x ∧ x ≤ 65536) ∧ 0 ≤ n ∧ n ≤ 60))) kn (some (vI (rfD (wy (0 < tDn (psT S)) ((0 ≤ x ∧ x ≤ 65536) ∧ 0 ≤ n ∧ n ≤ 60)) (dwP S x.toNat n.toNat).2.2.1 (-1))))) : Wp G 2 mL_drafts [vR 1, vI x, vI n] (V, σ) 0 0 K := by
  have hW := h.cs
  have hT := h.oT
  have hd4 : tDn (psT S) ≤ 4 := h.oT.2.1
  have hT1 : V (dT y) 1 = tDn (psT S) := h.tv.1.2.1
  have h2 := h.tr (z := 0) (by decide)
  have hh2 : HH (up2 V 1 2 0) 10 (psC S) (psA S) := h2.hh
  have hv := h.v0
  have ho16 : opN S < 16 := Nat.lt_of_lt_of_le (bsum_lt _ _) (two_le hT.2.1)
  have hl4 : 0 < tDn (psT S) → lst (psC S) (psA S) < 4 := fun c => Nat.lt_of_lt_of_le (lst_lt (h.oS.2.2.2.1 c)) hT.2.1
  have hl7 : up2 V 1 2 0 10 7 = lst (psC S) (psA S) := h2.hh.2.2.2.2.1
  have ht0 : up2 V 1 2 0 (dT y) 0 = tDr (psT S) := h2.tv.1.1
  obtain ⟨g, r1, r2⟩ := g3 hK
  refine wp_intro mL_drafts_i.1 [some (vR 1), some (vI x), some (vI n)] rfl rfl (Nat.le_of_ble_eq_true rfl) ?_
  intro X hG F C
  have hm := C.rm
  have go : 0 < tDn (psT S) → (0 ≤ x ∧ x ≤ 65536) ∧ 0 ≤ n ∧ n ≤ 60 → AW X 18 [some (vR 1), some (vI x), some (vI n)] [] (up2 V 1 2 0, σ) 0 0 := by
    intro hs hn
    refine aw_aload_0 (q := 19) F dL_drafts_18 rfl ?_
    refine av_getaE (q := 22) F fL_65 dL_drafts_19 rfl rfl (by first | exact hW.o | exact hW.ho | exact hW.to | exact hW.g.o | exact hW5.o | exact hW5.g.o) (by first | exact hW.p16 | exact hW5.p16) ?_
    refine aw_aload_0 (q := 23) F dL_drafts_22 rfl ?_
    refine av_getaE (q := 26) F fL_23 dL_drafts_23 rfl rfl (by first | exact hW.o | exact hW.ho | exact hW.to | exact hW.g.o | exact hW5.o | exact hW5.g.o) hW.p6 ?_
    refine av_callV0 (q := 29) (ci := 2) F hm mH_openDoors_i mH_openDoors_n lL_279 dL_drafts_26 rfl rfl rfl (by first | exact hW.o | exact hW.ho | exact hW.to | exact hW.g.o | exact hW5.o | exact hW5.g.o) (by decide) (Nat.le_refl _) (Nat.le_refl _) (Nat.le_of_ble_eq_true rfl) (wH_openDoors hW.h hh2 ?_)
    refine aw_aload_0 (q := 30) F dL_drafts_29 rfl ?_
    refine av_getaE (q := 33) F fL_23 dL_drafts_30 rfl rfl (by first | exact hW.o | exact hW.ho | exact hW.to | exact hW.g.o | exact hW5.o | exact hW5.g.o) hW.p6 ?_
    refine av_geti (q := 36) F fL_133 dL_drafts_33 rfl rfl (by first | exact hW.o | exact hW.ho | exact hW.to | exact hW.g.o | exact hW5.o | exact hW5.g.o) ?_
    refine aw_aload_0 (q := 37) F dL_drafts_36 rfl ?_
    refine av_getaE (q := 40) F fL_16 dL_drafts_37 rfl rfl (by first | exact hW.o | exact hW.ho | exact hW.to | exact hW.g.o | exact hW5.o | exact hW5.g.o) hW.p5 ?_
    refine av_geti (q := 43) F fL_282 dL_drafts_40 rfl rfl (by first | exact hW.o | exact hW.ho | exact hW.to | exact hW.g.o | exact hW5.o | exact hW5.g.o) ?_
    refine aw_iload_1 (q := 44) F dL_drafts_43 rfl ?_
    refine aw_iload_2 (q := 45) F dL_drafts_44 rfl ?_
    refine av_callV5 (q := 48) (ci := 1) F hm mU_draw_i mU_draw_n lL_307 dL_drafts_45 rfl rfl rfl (by first | exact hW.o | exact hW.ho | exact hW.to | exact hW.g.o | exact hW5.o | exact hW5.g.o) (by decide) (Nat.le_refl _) (Nat.le_refl _) (Nat.le_of_ble_eq_true rfl) (wU_draw (o := opN S) (l := lst (psC S) (psA S)) (dr := tDr (psT S)) (s := x.toNat) (n := n.toNat) hW.g.o rfl ho16 hl7 (hl4 (by omega)) ht0 hT.1 (by omega) (by omega) (by omega) (by omega) (fun v45 f45 j45 p45 q45 => ?_))
    refine aw_aload_0 (q := 49) F dL_drafts_48 rfl ?_
    refine av_getaE (q := 52) F fL_65 dL_drafts_49 rfl rfl (by first | exact hW.o | exact hW.ho | exact hW.to | exact hW.g.o | exact hW5.o | exact hW5.g.o) (by first | exact hW.p16 | exact hW5.p16) ?_
    refine av_geti (q := 55) F fL_311 dL_drafts_52 rfl rfl (by first | exact hW.o | exact hW.ho | exact hW.to | exact hW.g.o | exact hW5.o | exact hW5.g.o) ?_
    refine aw_iret F C dL_drafts_55 rfl (Nat.le_refl _) (Nat.le_refl _) ?_
    obtain ⟨h5, fr5⟩ := h2.gu hW.g (eS.rf σ _) rfl (fun b hb => f45 b (by omega))
    exact kI (g hs hn _ _ _ _ h5 (h.fr.tr fr5)) p45.symm
  refine aw_aload_0 (q := 1) F dL_drafts_0 rfl ?_
  refine aw_aload_0 (q := 2) F dL_drafts_1 rfl ?_
  refine av_callV0 (q := 5) (ci := 7) F hm mL_hasLane_i mL_hasLane_n lL_154 dL_drafts_2 rfl rfl rfl (by first | exact hW.o | exact hW.ho | exact hW.to | exact hW.g.o | exact hW5.o | exact hW5.g.o) (by decide) (Nat.le_refl _) (Nat.le_refl _) (Nat.le_of_ble_eq_true rfl) (wL_hasLane hW (fun c2 => ?_) (fun c2 => ?_))
  · refine aw_iload_1 (q := 6) F dL_drafts_5 rfl ?_
    refine aw_iload_2 (q := 7) F dL_drafts_6 rfl ?_
    refine av_callS2 (q := 10) F hm mL_isDraw_i mL_isDraw_n lL_304 dL_drafts_7 rfl (by decide) (Nat.le_refl _) (Nat.le_refl _) (Nat.le_of_ble_eq_true rfl) (wL_isDraw (fun c7 => ?_) (fun c7 => ?_))
    · refine av_callV2 (q := 13) (ci := 7) F hm mL_passes_i mL_passes_n lL_114 dL_drafts_10 rfl rfl rfl (by first | exact hW.o | exact hW.ho | exact hW.to | exact hW.g.o | exact hW5.o | exact hW5.g.o) (by decide) (Nat.le_refl _) (Nat.le_refl _) (Nat.le_of_ble_eq_true rfl) (wL_passes hW (fun c10 d10 => ?_) (fun c10 => ?_) (fun c10 d10 => ?_))
      · refine aw_if_ne (q := 16) (t := 18) F dL_drafts_13 rfl (by decide) (fun c13 => ?_) (fun c13 => absurd c13 (by decide))
        first | (exfalso; omega) | exact go (by omega) (by omega)
      · refine aw_if_ne (q := 16) (t := 18) F dL_drafts_13 rfl (by decide) (fun c13 => absurd c13 (by decide)) (fun c13 => ?_)
        refine aw_iconst (q := 17) F dL_drafts_16 rfl (by decide) ?_
        refine aw_iret F C dL_drafts_17 rfl (Nat.le_refl _) (Nat.le_refl _) ?_
        first | exact h.now (by decide) (r1 (by omega)) | exact h.now (by decide) (r2 (by omega) (by omega)) | (exfalso; omega)
      · refine aw_if_ne (q := 16) (t := 18) F dL_drafts_13 rfl (by decide) (fun c13 => absurd c13 (by decide)) (fun c13 => ?_)
        refine aw_iconst (q := 17) F dL_drafts_16 rfl (by decide) ?_
        refine aw_iret F C dL_drafts_17 rfl (Nat.le_refl _) (Nat.le_refl _) ?_
        first | exact h.now (by decide) (r1 (by omega)) | exact h.now (by decide) (r2 (by omega) (by omega)) | (exfalso; omega)
    · refine av_callV2 (q := 13) (ci := 7) F hm mL_passes_i mL_passes_n lL_114 dL_drafts_10 rfl rfl rfl (by first | exact hW.o | exact hW.ho | exact hW.to | exact hW.g.o | exact hW5.o | exact hW5.g.o) (by decide) (Nat.le_refl _) (Nat.le_refl _) (Nat.le_of_ble_eq_true rfl) (wL_passes hW (fun c10 d10 => ?_) (fun c10 => ?_) (fun c10 d10 => ?_))
      · refine aw_if_ne (q := 16) (t := 18) F dL_drafts_13 rfl (by decide) (fun c13 => ?_) (fun c13 => absurd c13 (by decide))
        first | (exfalso; omega) | exact go (by omega) (by omega)
      · refine aw_if_ne (q := 16) (t := 18) F dL_drafts_13 rfl (by decide) (fun c13 => absurd c13 (by decide)) (fun c13 => ?_)
        refine aw_iconst (q := 17) F dL_drafts_16 rfl (by decide) ?_
        refine aw_iret F C dL_drafts_17 rfl (Nat.le_refl _) (Nat.le_refl _) ?_
        first | exact h.now (by decide) (r1 (by omega)) | exact h.now (by decide) (r2 (by omega) (by omega)) | (exfalso; omega)
      · refine aw_if_ne (q := 16) (t := 18) F dL_drafts_13 rfl (by decide) (fun c13 => absurd c13 (by decide)) (fun c13 => ?_)
        refine aw_iconst (q := 17) F dL_drafts_16 rfl (by decide) ?_
        refine aw_iret F C dL_drafts_17 rfl (Nat.le_refl _) (Nat.le_refl _) ?_
        first | exact h.now (by decide) (r1 (by omega)) | exact h.now (by decide) (r2 (by omega) (by omega)) | (exfalso; omega)
  · refine aw_iload_1 (q := 6) F dL_drafts_5 rfl ?_
    refine aw_iload_2 (q := 7) F dL_drafts_6 rfl ?_
    refine av_callS2 (q := 10) F hm mL_isDraw_i mL_isDraw_n lL_304 dL_drafts_7 rfl (by decide) (Nat.le_refl _) (Nat.le_refl _) (Nat.le_of_ble_eq_true rfl) (wL_isDraw (fun c7 => ?_) (fun c7 => ?_))
    · refine av_callV2 (q := 13) (ci := 7) F hm mL_passes_i mL_passes_n lL_114 dL_drafts_10 rfl rfl rfl (by first | exact hW.o | exact hW.ho | exact hW.to | exact hW.g.o | exact hW5.o | exact hW5.g.o) (by decide) (Nat.le_refl _) (Nat.le_refl _) (Nat.le_of_ble_eq_true rfl) (wL_passes hW (fun c10 d10 => ?_) (fun c10 => ?_) (fun c10 d10 => ?_))
      · refine aw_if_ne (q := 16) (t := 18) F dL_drafts_13 rfl (by decide) (fun c13 => ?_) (fun c13 => absurd c13 (by decide))
        first | (exfalso; omega) | exact go (by omega) (by omega)
      · refine aw_if_ne (q := 16) (t := 18) F dL_drafts_13 rfl (by decide) (fun c13 => absurd c13 (by decide)) (fun c13 => ?_)
        refine aw_iconst (q := 17) F dL_drafts_16 rfl (by decide) ?_
        refine aw_iret F C dL_drafts_17 rfl (Nat.le_refl _) (Nat.le_refl _) ?_
        first | exact h.now (by decide) (r1 (by omega)) | exact h.now (by decide) (r2 (by omega) (by omega)) | (exfalso; omega)
      · refine aw_if_ne (q := 16) (t := 18) F dL_drafts_13 rfl (by decide) (fun c13 => absurd c13 (by decide)) (fun c13 => ?_)
        refine aw_iconst (q := 17) F dL_drafts_16 rfl (by decide) ?_
        refine aw_iret F C dL_drafts_17 rfl (Nat.le_refl _) (Nat.le_refl _) ?_
        first | exact h.now (by decide) (r1 (by omega)) | exact h.now (by decide) (r2 (by omega) (by omega)) | (exfalso; omega)
    · refine av_callV2 (q := 13) (ci := 7) F hm mL_passes_i mL_passes_n lL_114 dL_drafts_10 rfl rfl rfl (by first | exact hW.o | exact hW.ho | exact hW.to | exact hW.g.o | exact hW5.o | exact hW5.g.o) (by decide) (Nat.le_refl _) (Nat.le_refl _) (Nat.le_of_ble_eq_true rfl) (wL_passes hW (fun c10 d10 => ?_) (fun c10 => ?_) (fun c10 d10 => ?_))
      · refine aw_if_ne (q := 16) (t := 18) F dL_drafts_13 rfl (by decide) (fun c13 => ?_) (fun c13 => absurd c13 (by decide))
        first | (exfalso; omega) | exact go (by omega) (by omega)
      · refine aw_if_ne (q := 16) (t := 18) F dL_drafts_13 rfl (by decide) (fun c13 => absurd c13 (by decide)) (fun c13 => ?_)
        refine aw_iconst (q := 17) F dL_drafts_16 rfl (by decide) ?_
        refine aw_iret F C dL_drafts_17 rfl (Nat.le_refl _) (Nat.le_refl _) ?_
        first | exact h.now (by decide) (r1 (by omega)) | exact h.now (by decide) (r2 (by omega) (by omega)) | (exfalso; omega)
      · refine aw_if_ne (q := 16) (t := 18) F dL_drafts_13 rfl (by decide) (fun c13 => absurd c13 (by decide)) (fun c13 => ?_)
        refine aw_iconst (q := 17) F dL_drafts_16 rfl (by decide) ?_
        refine aw_iret F C dL_drafts_17 rfl (Nat.le_refl _) (Nat.le_refl _) ?_
        first | exact h.now (by decide) (r1 (by omega)) | exact h.now (by decide) (r2 (by omega) (by omega)) | (exfalso; omega)
theorem wL_stillAt {x n : Int} (h : CW V σ ow y S kn) (hK : CK K V σ ow (setR S (wy (0 < tDn (psT S)) ((0 ≤ x ∧ x ≤ 65536) ∧ 0 ≤ n ∧ n ≤ 60))) kn (some (vI (rfD (wy (0 < tDn (psT S)) ((0 ≤ x ∧ x ≤ 65536) ∧ 0 ≤ n ∧ n ≤ 60)) (dwP S x.toNat n.toNat).2.2.2 (-1))))) : Wp G 2 mL_stillAt [vR 1, vI x, vI n] (V, σ) 0 0 K := by
  have hW := h.cs
  have hT := h.oT
  have hd4 : tDn (psT S) ≤ 4 := h.oT.2.1
  have hT1 : V (dT y) 1 = tDn (psT S) := h.tv.1.2.1
  have h2 := h.tr (z := 0) (by decide)
  have hh2 : HH (up2 V 1 2 0) 10 (psC S) (psA S) := h2.hh
  have hv := h.v0
  have ho16 : opN S < 16 := Nat.lt_of_lt_of_le (bsum_lt _ _) (two_le hT.2.1)
  have hl4 : 0 < tDn (psT S) → lst (psC S) (psA S) < 4 := fun c => Nat.lt_of_lt_of_le (lst_lt (h.oS.2.2.2.1 c)) hT.2.1
  have hl7 : up2 V 1 2 0 10 7 = lst (psC S) (psA S) := h2.hh.2.2.2.2.1
  have ht0 : up2 V 1 2 0 (dT y) 0 = tDr (psT S) := h2.tv.1.1
  obtain ⟨g, r1, r2⟩ := g3 hK
  refine wp_intro mL_stillAt_i.1 [some (vR 1), some (vI x), some (vI n)] rfl rfl (Nat.le_of_ble_eq_true rfl) ?_
  intro X hG F C
  have hm := C.rm
  have go : 0 < tDn (psT S) → (0 ≤ x ∧ x ≤ 65536) ∧ 0 ≤ n ∧ n ≤ 60 → AW X 18 [some (vR 1), some (vI x), some (vI n)] [] (up2 V 1 2 0, σ) 0 0 := by
    intro hs hn
    refine aw_aload_0 (q := 19) F dL_stillAt_18 rfl ?_
    refine av_getaE (q := 22) F fL_65 dL_stillAt_19 rfl rfl (by first | exact hW.o | exact hW.ho | exact hW.to | exact hW.g.o | exact hW5.o | exact hW5.g.o) (by first | exact hW.p16 | exact hW5.p16) ?_
    refine aw_aload_0 (q := 23) F dL_stillAt_22 rfl ?_
    refine av_getaE (q := 26) F fL_23 dL_stillAt_23 rfl rfl (by first | exact hW.o | exact hW.ho | exact hW.to | exact hW.g.o | exact hW5.o | exact hW5.g.o) hW.p6 ?_
    refine av_callV0 (q := 29) (ci := 2) F hm mH_openDoors_i mH_openDoors_n lL_279 dL_stillAt_26 rfl rfl rfl (by first | exact hW.o | exact hW.ho | exact hW.to | exact hW.g.o | exact hW5.o | exact hW5.g.o) (by decide) (Nat.le_refl _) (Nat.le_refl _) (Nat.le_of_ble_eq_true rfl) (wH_openDoors hW.h hh2 ?_)
    refine aw_aload_0 (q := 30) F dL_stillAt_29 rfl ?_
    refine av_getaE (q := 33) F fL_23 dL_stillAt_30 rfl rfl (by first | exact hW.o | exact hW.ho | exact hW.to | exact hW.g.o | exact hW5.o | exact hW5.g.o) hW.p6 ?_
    refine av_geti (q := 36) F fL_133 dL_stillAt_33 rfl rfl (by first | exact hW.o | exact hW.ho | exact hW.to | exact hW.g.o | exact hW5.o | exact hW5.g.o) ?_
    refine aw_aload_0 (q := 37) F dL_stillAt_36 rfl ?_
    refine av_getaE (q := 40) F fL_16 dL_stillAt_37 rfl rfl (by first | exact hW.o | exact hW.ho | exact hW.to | exact hW.g.o | exact hW5.o | exact hW5.g.o) hW.p5 ?_
    refine av_geti (q := 43) F fL_282 dL_stillAt_40 rfl rfl (by first | exact hW.o | exact hW.ho | exact hW.to | exact hW.g.o | exact hW5.o | exact hW5.g.o) ?_
    refine aw_iload_1 (q := 44) F dL_stillAt_43 rfl ?_
    refine aw_iload_2 (q := 45) F dL_stillAt_44 rfl ?_
    refine av_callV5 (q := 48) (ci := 1) F hm mU_draw_i mU_draw_n lL_307 dL_stillAt_45 rfl rfl rfl (by first | exact hW.o | exact hW.ho | exact hW.to | exact hW.g.o | exact hW5.o | exact hW5.g.o) (by decide) (Nat.le_refl _) (Nat.le_refl _) (Nat.le_of_ble_eq_true rfl) (wU_draw (o := opN S) (l := lst (psC S) (psA S)) (dr := tDr (psT S)) (s := x.toNat) (n := n.toNat) hW.g.o rfl ho16 hl7 (hl4 (by omega)) ht0 hT.1 (by omega) (by omega) (by omega) (by omega) (fun v45 f45 j45 p45 q45 => ?_))
    refine aw_aload_0 (q := 49) F dL_stillAt_48 rfl ?_
    refine av_getaE (q := 52) F fL_65 dL_stillAt_49 rfl rfl (by first | exact hW.o | exact hW.ho | exact hW.to | exact hW.g.o | exact hW5.o | exact hW5.g.o) (by first | exact hW.p16 | exact hW5.p16) ?_
    refine av_geti (q := 55) F fL_314 dL_stillAt_52 rfl rfl (by first | exact hW.o | exact hW.ho | exact hW.to | exact hW.g.o | exact hW5.o | exact hW5.g.o) ?_
    refine aw_iret F C dL_stillAt_55 rfl (Nat.le_refl _) (Nat.le_refl _) ?_
    obtain ⟨h5, fr5⟩ := h2.gu hW.g (eS.rf σ _) rfl (fun b hb => f45 b (by omega))
    exact kI (g hs hn _ _ _ _ h5 (h.fr.tr fr5)) q45.symm
  refine aw_aload_0 (q := 1) F dL_stillAt_0 rfl ?_
  refine aw_aload_0 (q := 2) F dL_stillAt_1 rfl ?_
  refine av_callV0 (q := 5) (ci := 7) F hm mL_hasLane_i mL_hasLane_n lL_154 dL_stillAt_2 rfl rfl rfl (by first | exact hW.o | exact hW.ho | exact hW.to | exact hW.g.o | exact hW5.o | exact hW5.g.o) (by decide) (Nat.le_refl _) (Nat.le_refl _) (Nat.le_of_ble_eq_true rfl) (wL_hasLane hW (fun c2 => ?_) (fun c2 => ?_))
  · refine aw_iload_1 (q := 6) F dL_stillAt_5 rfl ?_
    refine aw_iload_2 (q := 7) F dL_stillAt_6 rfl ?_
    refine av_callS2 (q := 10) F hm mL_isDraw_i mL_isDraw_n lL_304 dL_stillAt_7 rfl (by decide) (Nat.le_refl _) (Nat.le_refl _) (Nat.le_of_ble_eq_true rfl) (wL_isDraw (fun c7 => ?_) (fun c7 => ?_))
    · refine av_callV2 (q := 13) (ci := 7) F hm mL_passes_i mL_passes_n lL_114 dL_stillAt_10 rfl rfl rfl (by first | exact hW.o | exact hW.ho | exact hW.to | exact hW.g.o | exact hW5.o | exact hW5.g.o) (by decide) (Nat.le_refl _) (Nat.le_refl _) (Nat.le_of_ble_eq_true rfl) (wL_passes hW (fun c10 d10 => ?_) (fun c10 => ?_) (fun c10 d10 => ?_))
      · refine aw_if_ne (q := 16) (t := 18) F dL_stillAt_13 rfl (by decide) (fun c13 => ?_) (fun c13 => absurd c13 (by decide))
        first | (exfalso; omega) | exact go (by omega) (by omega)
      · refine aw_if_ne (q := 16) (t := 18) F dL_stillAt_13 rfl (by decide) (fun c13 => absurd c13 (by decide)) (fun c13 => ?_)
        refine aw_iconst (q := 17) F dL_stillAt_16 rfl (by decide) ?_
        refine aw_iret F C dL_stillAt_17 rfl (Nat.le_refl _) (Nat.le_refl _) ?_
        first | exact h.now (by decide) (r1 (by omega)) | exact h.now (by decide) (r2 (by omega) (by omega)) | (exfalso; omega)
      · refine aw_if_ne (q := 16) (t := 18) F dL_stillAt_13 rfl (by decide) (fun c13 => absurd c13 (by decide)) (fun c13 => ?_)
        refine aw_iconst (q := 17) F dL_stillAt_16 rfl (by decide) ?_
        refine aw_iret F C dL_stillAt_17 rfl (Nat.le_refl _) (Nat.le_refl _) ?_
        first | exact h.now (by decide) (r1 (by omega)) | exact h.now (by decide) (r2 (by omega) (by omega)) | (exfalso; omega)
    · refine av_callV2 (q := 13) (ci := 7) F hm mL_passes_i mL_passes_n lL_114 dL_stillAt_10 rfl rfl rfl (by first | exact hW.o | exact hW.ho | exact hW.to | exact hW.g.o | exact hW5.o | exact hW5.g.o) (by decide) (Nat.le_refl _) (Nat.le_refl _) (Nat.le_of_ble_eq_true rfl) (wL_passes hW (fun c10 d10 => ?_) (fun c10 => ?_) (fun c10 d10 => ?_))
      · refine aw_if_ne (q := 16) (t := 18) F dL_stillAt_13 rfl (by decide) (fun c13 => ?_) (fun c13 => absurd c13 (by decide))
        first | (exfalso; omega) | exact go (by omega) (by omega)
      · refine aw_if_ne (q := 16) (t := 18) F dL_stillAt_13 rfl (by decide) (fun c13 => absurd c13 (by decide)) (fun c13 => ?_)
        refine aw_iconst (q := 17) F dL_stillAt_16 rfl (by decide) ?_
        refine aw_iret F C dL_stillAt_17 rfl (Nat.le_refl _) (Nat.le_refl _) ?_
        first | exact h.now (by decide) (r1 (by omega)) | exact h.now (by decide) (r2 (by omega) (by omega)) | (exfalso; omega)
      · refine aw_if_ne (q := 16) (t := 18) F dL_stillAt_13 rfl (by decide) (fun c13 => absurd c13 (by decide)) (fun c13 => ?_)
        refine aw_iconst (q := 17) F dL_stillAt_16 rfl (by decide) ?_
        refine aw_iret F C dL_stillAt_17 rfl (Nat.le_refl _) (Nat.le_refl _) ?_
        first | exact h.now (by decide) (r1 (by omega)) | exact h.now (by decide) (r2 (by omega) (by omega)) | (exfalso; omega)
  · refine aw_iload_1 (q := 6) F dL_stillAt_5 rfl ?_
    refine aw_iload_2 (q := 7) F dL_stillAt_6 rfl ?_
    refine av_callS2 (q := 10) F hm mL_isDraw_i mL_isDraw_n lL_304 dL_stillAt_7 rfl (by decide) (Nat.le_refl _) (Nat.le_refl _) (Nat.le_of_ble_eq_true rfl) (wL_isDraw (fun c7 => ?_) (fun c7 => ?_))
    · refine av_callV2 (q := 13) (ci := 7) F hm mL_passes_i mL_passes_n lL_114 dL_stillAt_10 rfl rfl rfl (by first | exact hW.o | exact hW.ho | exact hW.to | exact hW.g.o | exact hW5.o | exact hW5.g.o) (by decide) (Nat.le_refl _) (Nat.le_refl _) (Nat.le_of_ble_eq_true rfl) (wL_passes hW (fun c10 d10 => ?_) (fun c10 => ?_) (fun c10 d10 => ?_))
      · refine aw_if_ne (q := 16) (t := 18) F dL_stillAt_13 rfl (by decide) (fun c13 => ?_) (fun c13 => absurd c13 (by decide))
        first | (exfalso; omega) | exact go (by omega) (by omega)
      · refine aw_if_ne (q := 16) (t := 18) F dL_stillAt_13 rfl (by decide) (fun c13 => absurd c13 (by decide)) (fun c13 => ?_)
        refine aw_iconst (q := 17) F dL_stillAt_16 rfl (by decide) ?_
        refine aw_iret F C dL_stillAt_17 rfl (Nat.le_refl _) (Nat.le_refl _) ?_
        first | exact h.now (by decide) (r1 (by omega)) | exact h.now (by decide) (r2 (by omega) (by omega)) | (exfalso; omega)
      · refine aw_if_ne (q := 16) (t := 18) F dL_stillAt_13 rfl (by decide) (fun c13 => absurd c13 (by decide)) (fun c13 => ?_)
        refine aw_iconst (q := 17) F dL_stillAt_16 rfl (by decide) ?_
        refine aw_iret F C dL_stillAt_17 rfl (Nat.le_refl _) (Nat.le_refl _) ?_
        first | exact h.now (by decide) (r1 (by omega)) | exact h.now (by decide) (r2 (by omega) (by omega)) | (exfalso; omega)
    · refine av_callV2 (q := 13) (ci := 7) F hm mL_passes_i mL_passes_n lL_114 dL_stillAt_10 rfl rfl rfl (by first | exact hW.o | exact hW.ho | exact hW.to | exact hW.g.o | exact hW5.o | exact hW5.g.o) (by decide) (Nat.le_refl _) (Nat.le_refl _) (Nat.le_of_ble_eq_true rfl) (wL_passes hW (fun c10 d10 => ?_) (fun c10 => ?_) (fun c10 d10 => ?_))
      · refine aw_if_ne (q := 16) (t := 18) F dL_stillAt_13 rfl (by decide) (fun c13 => ?_) (fun c13 => absurd c13 (by decide))
        first | (exfalso; omega) | exact go (by omega) (by omega)
      · refine aw_if_ne (q := 16) (t := 18) F dL_stillAt_13 rfl (by decide) (fun c13 => absurd c13 (by decide)) (fun c13 => ?_)
        refine aw_iconst (q := 17) F dL_stillAt_16 rfl (by decide) ?_
        refine aw_iret F C dL_stillAt_17 rfl (Nat.le_refl _) (Nat.le_refl _) ?_
        first | exact h.now (by decide) (r1 (by omega)) | exact h.now (by decide) (r2 (by omega) (by omega)) | (exfalso; omega)
      · refine aw_if_ne (q := 16) (t := 18) F dL_stillAt_13 rfl (by decide) (fun c13 => absurd c13 (by decide)) (fun c13 => ?_)
        refine aw_iconst (q := 17) F dL_stillAt_16 rfl (by decide) ?_
        refine aw_iret F C dL_stillAt_17 rfl (Nat.le_refl _) (Nat.le_refl _) ?_
        first | exact h.now (by decide) (r1 (by omega)) | exact h.now (by decide) (r2 (by omega) (by omega)) | (exfalso; omega)
end Odds
