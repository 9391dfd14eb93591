theorem dL_errand_0 : decode mL_errand.2.1 0 = .ok (.aload_n 0, 1) := by decide +kernel
theorem dL_errand_1 : decode mL_errand.2.1 1 = .ok (.aload_n 0, 1) := by decide +kernel
theorem dL_errand_2 : decode mL_errand.2.1 2 = .ok (.invokevirtual 154, 3) := by decide +kernel
theorem dL_errand_5 : decode mL_errand.2.1 5 = .ok (.iload_n 1, 1) := by decide +kernel
theorem dL_errand_6 : decode mL_errand.2.1 6 = .ok (.invokestatic 177, 3) := by decide +kernel
theorem dL_errand_9 : decode mL_errand.2.1 9 = .ok (.invokevirtual 114, 3) := by decide +kernel
theorem dL_errand_12 : decode mL_errand.2.1 12 = .ok (.ifCond .ne 5, 3) := by decide +kernel
theorem dL_errand_15 : decode mL_errand.2.1 15 = .ok (.iconst (-1), 1) := by decide +kernel
theorem dL_errand_16 : decode mL_errand.2.1 16 = .ok (.ireturn, 1) := by decide +kernel
theorem dL_errand_17 : decode mL_errand.2.1 17 = .ok (.aload_n 0, 1) := by decide +kernel
theorem dL_errand_18 : decode mL_errand.2.1 18 = .ok (.invokevirtual 180, 3) := by decide +kernel
theorem dL_errand_21 : decode mL_errand.2.1 21 = .ok (.astore_n 2, 1) := by decide +kernel
theorem dL_errand_22 : decode mL_errand.2.1 22 = .ok (.aload_n 2, 1) := by decide +kernel
theorem dL_errand_23 : decode mL_errand.2.1 23 = .ok (.aload_n 2, 1) := by decide +kernel
theorem dL_errand_24 : decode mL_errand.2.1 24 = .ok (.aload_n 0, 1) := by decide +kernel
theorem dL_errand_25 : decode mL_errand.2.1 25 = .ok (.iload_n 1, 1) := by decide +kernel
theorem dL_errand_26 : decode mL_errand.2.1 26 = .ok (.invokevirtual 184, 3) := by decide +kernel
theorem dL_errand_29 : decode mL_errand.2.1 29 = .ok (.invokevirtual 187, 3) := by decide +kernel
theorem dL_errand_32 : decode mL_errand.2.1 32 = .ok (.invokevirtual 190, 3) := by decide +kernel
theorem dL_errand_35 : decode mL_errand.2.1 35 = .ok (.ireturn, 1) := by decide +kernel
theorem dL_errandAt_0 : decode mL_errandAt.2.1 0 = .ok (.aload_n 0, 1) := by decide +kernel
theorem dL_errandAt_1 : decode mL_errandAt.2.1 1 = .ok (.aload_n 0, 1) := by decide +kernel
theorem dL_errandAt_2 : decode mL_errandAt.2.1 2 = .ok (.invokevirtual 154, 3) := by decide +kernel
theorem dL_errandAt_5 : decode mL_errandAt.2.1 5 = .ok (.iload_n 1, 1) := by decide +kernel
theorem dL_errandAt_6 : decode mL_errandAt.2.1 6 = .ok (.invokestatic 177, 3) := by decide +kernel
theorem dL_errandAt_9 : decode mL_errandAt.2.1 9 = .ok (.invokevirtual 114, 3) := by decide +kernel
theorem dL_errandAt_12 : decode mL_errandAt.2.1 12 = .ok (.ifCond .ne 5, 3) := by decide +kernel
theorem dL_errandAt_15 : decode mL_errandAt.2.1 15 = .ok (.iconst (-1), 1) := by decide +kernel
theorem dL_errandAt_16 : decode mL_errandAt.2.1 16 = .ok (.ireturn, 1) := by decide +kernel
theorem dL_errandAt_17 : decode mL_errandAt.2.1 17 = .ok (.aload_n 0, 1) := by decide +kernel
theorem dL_errandAt_18 : decode mL_errandAt.2.1 18 = .ok (.invokevirtual 180, 3) := by decide +kernel
theorem dL_errandAt_21 : decode mL_errandAt.2.1 21 = .ok (.astore_n 3, 1) := by decide +kernel
theorem dL_errandAt_22 : decode mL_errandAt.2.1 22 = .ok (.aload_n 3, 1) := by decide +kernel
theorem dL_errandAt_23 : decode mL_errandAt.2.1 23 = .ok (.aload_n 3, 1) := by decide +kernel
theorem dL_errandAt_24 : decode mL_errandAt.2.1 24 = .ok (.aload_n 0, 1) := by decide +kernel
theorem dL_errandAt_25 : decode mL_errandAt.2.1 25 = .ok (.iload_n 1, 1) := by decide +kernel
theorem dL_errandAt_26 : decode mL_errandAt.2.1 26 = .ok (.invokevirtual 184, 3) := by decide +kernel
theorem dL_errandAt_29 : decode mL_errandAt.2.1 29 = .ok (.invokevirtual 187, 3) := by decide +kernel
theorem dL_errandAt_32 : decode mL_errandAt.2.1 32 = .ok (.iload_n 2, 1) := by decide +kernel
theorem dL_errandAt_33 : decode mL_errandAt.2.1 33 = .ok (.invokevirtual 193, 3) := by decide +kernel
theorem dL_errandAt_36 : decode mL_errandAt.2.1 36 = .ok (.istore 4, 2) := by decide +kernel
theorem dL_errandAt_38 : decode mL_errandAt.2.1 38 = .ok (.iload 4, 2) := by decide +kernel
theorem dL_errandAt_40 : decode mL_errandAt.2.1 40 = .ok (.iconst (-1), 1) := by decide +kernel
theorem dL_errandAt_41 : decode mL_errandAt.2.1 41 = .ok (.if_icmp .ne 11, 3) := by decide +kernel
theorem dL_errandAt_44 : decode mL_errandAt.2.1 44 = .ok (.aload_n 0, 1) := by decide +kernel
theorem dL_errandAt_45 : decode mL_errandAt.2.1 45 = .ok (.iconst 1, 1) := by decide +kernel
theorem dL_errandAt_46 : decode mL_errandAt.2.1 46 = .ok (.invokevirtual 76, 3) := by decide +kernel
theorem dL_errandAt_49 : decode mL_errandAt.2.1 49 = .ok (.goto 5, 3) := by decide +kernel
theorem dL_errandAt_52 : decode mL_errandAt.2.1 52 = .ok (.iload 4, 2) := by decide +kernel
theorem dL_errandAt_54 : decode mL_errandAt.2.1 54 = .ok (.ireturn, 1) := by decide +kernel
theorem dL_wayTo_0 : decode mL_wayTo.2.1 0 = .ok (.aload_n 0, 1) := by decide +kernel
theorem dL_wayTo_1 : decode mL_wayTo.2.1 1 = .ok (.aload_n 0, 1) := by decide +kernel
theorem dL_wayTo_2 : decode mL_wayTo.2.1 2 = .ok (.getfield 23, 3) := by decide +kernel
theorem dL_wayTo_5 : decode mL_wayTo.2.1 5 = .ok (.iload_n 1, 1) := by decide +kernel
theorem dL_wayTo_6 : decode mL_wayTo.2.1 6 = .ok (.invokevirtual 136, 3) := by decide +kernel
theorem dL_wayTo_9 : decode mL_wayTo.2.1 9 = .ok (.ifCond .eq 18, 3) := by decide +kernel
theorem dL_wayTo_12 : decode mL_wayTo.2.1 12 = .ok (.aload_n 0, 1) := by decide +kernel
theorem dL_wayTo_13 : decode mL_wayTo.2.1 13 = .ok (.getfield 23, 3) := by decide +kernel
theorem dL_wayTo_16 : decode mL_wayTo.2.1 16 = .ok (.iload_n 2, 1) := by decide +kernel
theorem dL_wayTo_17 : decode mL_wayTo.2.1 17 = .ok (.invokevirtual 206, 3) := by decide +kernel
theorem dL_wayTo_20 : decode mL_wayTo.2.1 20 = .ok (.ifCond .eq 7, 3) := by decide +kernel
theorem dL_wayTo_23 : decode mL_wayTo.2.1 23 = .ok (.iconst 1, 1) := by decide +kernel
theorem dL_wayTo_24 : decode mL_wayTo.2.1 24 = .ok (.goto 4, 3) := by decide +kernel
theorem dL_wayTo_27 : decode mL_wayTo.2.1 27 = .ok (.iconst 0, 1) := by decide +kernel
theorem dL_wayTo_28 : decode mL_wayTo.2.1 28 = .ok (.iconst 1, 1) := by decide +kernel
theorem dL_wayTo_29 : decode mL_wayTo.2.1 29 = .ok (.invokevirtual 114, 3) := by decide +kernel
theorem dL_wayTo_32 : decode mL_wayTo.2.1 32 = .ok (.ifCond .ne 5, 3) := by decide +kernel
theorem dL_wayTo_35 : decode mL_wayTo.2.1 35 = .ok (.iconst (-1), 1) := by decide +kernel
theorem dL_wayTo_36 : decode mL_wayTo.2.1 36 = .ok (.ireturn, 1) := by decide +kernel
theorem dL_wayTo_37 : decode mL_wayTo.2.1 37 = .ok (.aload_n 0, 1) := by decide +kernel
theorem dL_wayTo_38 : decode mL_wayTo.2.1 38 = .ok (.invokevirtual 180, 3) := by decide +kernel
theorem dL_wayTo_41 : decode mL_wayTo.2.1 41 = .ok (.astore_n 3, 1) := by decide +kernel
theorem dL_wayTo_42 : decode mL_wayTo.2.1 42 = .ok (.aload_n 3, 1) := by decide +kernel
theorem dL_wayTo_43 : decode mL_wayTo.2.1 43 = .ok (.aload_n 3, 1) := by decide +kernel
theorem dL_wayTo_44 : decode mL_wayTo.2.1 44 = .ok (.aload_n 0, 1) := by decide +kernel
theorem dL_wayTo_45 : decode mL_wayTo.2.1 45 = .ok (.getfield 23, 3) := by decide +kernel
theorem dL_wayTo_48 : decode mL_wayTo.2.1 48 = .ok (.iload_n 1, 1) := by decide +kernel
theorem dL_wayTo_49 : decode mL_wayTo.2.1 49 = .ok (.iload_n 2, 1) := by decide +kernel
theorem dL_wayTo_50 : decode mL_wayTo.2.1 50 = .ok (.invokevirtual 209, 3) := by decide +kernel
theorem dL_wayTo_53 : decode mL_wayTo.2.1 53 = .ok (.invokevirtual 187, 3) := by decide +kernel
theorem dL_wayTo_56 : decode mL_wayTo.2.1 56 = .ok (.invokevirtual 190, 3) := by decide +kernel
theorem dL_wayTo_59 : decode mL_wayTo.2.1 59 = .ok (.ireturn, 1) := by decide +kernel
theorem dL_comes_0 : decode mL_comes.2.1 0 = .ok (.aload_n 0, 1) := by decide +kernel
theorem dL_comes_1 : decode mL_comes.2.1 1 = .ok (.aload_n 0, 1) := by decide +kernel
theorem dL_comes_2 : decode mL_comes.2.1 2 = .ok (.getfield 23, 3) := by decide +kernel
theorem dL_comes_5 : decode mL_comes.2.1 5 = .ok (.iload_n 1, 1) := by decide +kernel
theorem dL_comes_6 : decode mL_comes.2.1 6 = .ok (.invokevirtual 136, 3) := by decide +kernel
theorem dL_comes_9 : decode mL_comes.2.1 9 = .ok (.iconst 1, 1) := by decide +kernel
theorem dL_comes_10 : decode mL_comes.2.1 10 = .ok (.invokevirtual 114, 3) := by decide +kernel
theorem dL_comes_13 : decode mL_comes.2.1 13 = .ok (.ifCond .ne 5, 3) := by decide +kernel
theorem dL_comes_16 : decode mL_comes.2.1 16 = .ok (.iconst (-1), 1) := by decide +kernel
theorem dL_comes_17 : decode mL_comes.2.1 17 = .ok (.ireturn, 1) := by decide +kernel
theorem dL_comes_18 : decode mL_comes.2.1 18 = .ok (.aload_n 0, 1) := by decide +kernel
theorem dL_comes_19 : decode mL_comes.2.1 19 = .ok (.invokevirtual 212, 3) := by decide +kernel
theorem dL_comes_22 : decode mL_comes.2.1 22 = .ok (.getfield 215, 3) := by decide +kernel
theorem dL_comes_25 : decode mL_comes.2.1 25 = .ok (.istore_n 2, 1) := by decide +kernel
theorem dL_comes_26 : decode mL_comes.2.1 26 = .ok (.iconst 0, 1) := by decide +kernel
theorem dL_comes_27 : decode mL_comes.2.1 27 = .ok (.istore_n 3, 1) := by decide +kernel
theorem dL_comes_28 : decode mL_comes.2.1 28 = .ok (.iconst 0, 1) := by decide +kernel
theorem dL_comes_29 : decode mL_comes.2.1 29 = .ok (.istore 4, 2) := by decide +kernel
theorem dL_comes_31 : decode mL_comes.2.1 31 = .ok (.iload 4, 2) := by decide +kernel
theorem dL_comes_33 : decode mL_comes.2.1 33 = .ok (.aload_n 0, 1) := by decide +kernel
theorem dL_comes_34 : decode mL_comes.2.1 34 = .ok (.getfield 23, 3) := by decide +kernel
theorem dL_comes_37 : decode mL_comes.2.1 37 = .ok (.getfield 218, 3) := by decide +kernel
theorem dL_comes_40 : decode mL_comes.2.1 40 = .ok (.if_icmp .gt 31, 3) := by decide +kernel
theorem dL_comes_43 : decode mL_comes.2.1 43 = .ok (.iload_n 2, 1) := by decide +kernel
theorem dL_comes_44 : decode mL_comes.2.1 44 = .ok (.aload_n 0, 1) := by decide +kernel
theorem dL_comes_45 : decode mL_comes.2.1 45 = .ok (.getfield 23, 3) := by decide +kernel
theorem dL_comes_48 : decode mL_comes.2.1 48 = .ok (.iload_n 1, 1) := by decide +kernel
theorem dL_comes_49 : decode mL_comes.2.1 49 = .ok (.iload 4, 2) := by decide +kernel
theorem dL_comes_51 : decode mL_comes.2.1 51 = .ok (.invokevirtual 209, 3) := by decide +kernel
theorem dL_comes_54 : decode mL_comes.2.1 54 = .ok (.iand, 1) := by decide +kernel
theorem dL_comes_55 : decode mL_comes.2.1 55 = .ok (.ifCond .eq 10, 3) := by decide +kernel
theorem dL_comes_58 : decode mL_comes.2.1 58 = .ok (.iload_n 3, 1) := by decide +kernel
theorem dL_comes_59 : decode mL_comes.2.1 59 = .ok (.iconst 1, 1) := by decide +kernel
theorem dL_comes_60 : decode mL_comes.2.1 60 = .ok (.iload 4, 2) := by decide +kernel
theorem dL_comes_62 : decode mL_comes.2.1 62 = .ok (.ishl, 1) := by decide +kernel
theorem dL_comes_63 : decode mL_comes.2.1 63 = .ok (.ior, 1) := by decide +kernel
theorem dL_comes_64 : decode mL_comes.2.1 64 = .ok (.istore_n 3, 1) := by decide +kernel
theorem dL_comes_65 : decode mL_comes.2.1 65 = .ok (.iinc 4 1, 3) := by decide +kernel
theorem dL_comes_68 : decode mL_comes.2.1 68 = .ok (.goto (-37), 3) := by decide +kernel
theorem dL_comes_71 : decode mL_comes.2.1 71 = .ok (.iload_n 3, 1) := by decide +kernel
theorem dL_comes_72 : decode mL_comes.2.1 72 = .ok (.ireturn, 1) := by decide +kernel
theorem dL_reach_0 : decode mL_reach.2.1 0 = .ok (.aload_n 0, 1) := by decide +kernel
theorem dL_reach_1 : decode mL_reach.2.1 1 = .ok (.aload_n 0, 1) := by decide +kernel
theorem dL_reach_2 : decode mL_reach.2.1 2 = .ok (.invokevirtual 154, 3) := by decide +kernel
theorem dL_reach_5 : decode mL_reach.2.1 5 = .ok (.iconst 1, 1) := by decide +kernel
theorem dL_reach_6 : decode mL_reach.2.1 6 = .ok (.invokevirtual 114, 3) := by decide +kernel
theorem dL_reach_9 : decode mL_reach.2.1 9 = .ok (.ifCond .eq 13, 3) := by decide +kernel
theorem dL_reach_12 : decode mL_reach.2.1 12 = .ok (.aload_n 0, 1) := by decide +kernel
theorem dL_reach_13 : decode mL_reach.2.1 13 = .ok (.invokevirtual 212, 3) := by decide +kernel
theorem dL_reach_16 : decode mL_reach.2.1 16 = .ok (.getfield 219, 3) := by decide +kernel
theorem dL_reach_19 : decode mL_reach.2.1 19 = .ok (.goto 4, 3) := by decide +kernel
theorem dL_reach_22 : decode mL_reach.2.1 22 = .ok (.iconst (-1), 1) := by decide +kernel
theorem dL_reach_23 : decode mL_reach.2.1 23 = .ok (.ireturn, 1) := by decide +kernel
theorem dL_placings_0 : decode mL_placings.2.1 0 = .ok (.aload_n 0, 1) := by decide +kernel
theorem dL_placings_1 : decode mL_placings.2.1 1 = .ok (.aload_n 0, 1) := by decide +kernel
theorem dL_placings_2 : decode mL_placings.2.1 2 = .ok (.invokevirtual 154, 3) := by decide +kernel
theorem dL_placings_5 : decode mL_placings.2.1 5 = .ok (.iconst 1, 1) := by decide +kernel
theorem dL_placings_6 : decode mL_placings.2.1 6 = .ok (.invokevirtual 114, 3) := by decide +kernel
theorem dL_placings_9 : decode mL_placings.2.1 9 = .ok (.ifCond .eq 16, 3) := by decide +kernel
theorem dL_placings_12 : decode mL_placings.2.1 12 = .ok (.aload_n 0, 1) := by decide +kernel
theorem dL_placings_13 : decode mL_placings.2.1 13 = .ok (.invokevirtual 212, 3) := by decide +kernel
theorem dL_placings_16 : decode mL_placings.2.1 16 = .ok (.getfield 215, 3) := by decide +kernel
theorem dL_placings_19 : decode mL_placings.2.1 19 = .ok (.invokestatic 222, 3) := by decide +kernel
theorem dL_placings_22 : decode mL_placings.2.1 22 = .ok (.goto 4, 3) := by decide +kernel
theorem dL_placings_25 : decode mL_placings.2.1 25 = .ok (.iconst (-1), 1) := by decide +kernel
theorem dL_placings_26 : decode mL_placings.2.1 26 = .ok (.ireturn, 1) := by decide +kernel
theorem dL_deepest_0 : decode mL_deepest.2.1 0 = .ok (.aload_n 0, 1) := by decide +kernel
theorem dL_deepest_1 : decode mL_deepest.2.1 1 = .ok (.aload_n 0, 1) := by decide +kernel
theorem dL_deepest_2 : decode mL_deepest.2.1 2 = .ok (.invokevirtual 154, 3) := by decide +kernel
theorem dL_deepest_5 : decode mL_deepest.2.1 5 = .ok (.iconst 1, 1) := by decide +kernel
theorem dL_deepest_6 : decode mL_deepest.2.1 6 = .ok (.invokevirtual 114, 3) := by decide +kernel
theorem dL_deepest_9 : decode mL_deepest.2.1 9 = .ok (.ifCond .ne 5, 3) := by decide +kernel
theorem dL_deepest_12 : decode mL_deepest.2.1 12 = .ok (.iconst (-1), 1) := by decide +kernel
theorem dL_deepest_13 : decode mL_deepest.2.1 13 = .ok (.ireturn, 1) := by decide +kernel
theorem dL_deepest_14 : decode mL_deepest.2.1 14 = .ok (.aload_n 0, 1) := by decide +kernel
theorem dL_deepest_15 : decode mL_deepest.2.1 15 = .ok (.invokevirtual 212, 3) := by decide +kernel
theorem dL_deepest_18 : decode mL_deepest.2.1 18 = .ok (.astore_n 1, 1) := by decide +kernel
theorem dL_deepest_19 : decode mL_deepest.2.1 19 = .ok (.aload_n 1, 1) := by decide +kernel
theorem dL_deepest_20 : decode mL_deepest.2.1 20 = .ok (.aload_n 1, 1) := by decide +kernel
theorem dL_deepest_21 : decode mL_deepest.2.1 21 = .ok (.getfield 219, 3) := by decide +kernel
theorem dL_deepest_24 : decode mL_deepest.2.1 24 = .ok (.iconst 1, 1) := by decide +kernel
theorem dL_deepest_25 : decode mL_deepest.2.1 25 = .ok (.isub, 1) := by decide +kernel
theorem dL_deepest_26 : decode mL_deepest.2.1 26 = .ok (.invokevirtual 190, 3) := by decide +kernel
theorem dL_deepest_29 : decode mL_deepest.2.1 29 = .ok (.ireturn, 1) := by decide +kernel
theorem dL_stuckOnes_0 : decode mL_stuckOnes.2.1 0 = .ok (.aload_n 0, 1) := by decide +kernel
theorem dL_stuckOnes_1 : decode mL_stuckOnes.2.1 1 = .ok (.aload_n 0, 1) := by decide +kernel
theorem dL_stuckOnes_2 : decode mL_stuckOnes.2.1 2 = .ok (.invokevirtual 154, 3) := by decide +kernel
theorem dL_stuckOnes_5 : decode mL_stuckOnes.2.1 5 = .ok (.iconst 1, 1) := by decide +kernel
theorem dL_stuckOnes_6 : decode mL_stuckOnes.2.1 6 = .ok (.invokevirtual 114, 3) := by decide +kernel
theorem dL_stuckOnes_9 : decode mL_stuckOnes.2.1 9 = .ok (.ifCond .eq 13, 3) := by decide +kernel
theorem dL_stuckOnes_12 : decode mL_stuckOnes.2.1 12 = .ok (.aload_n 0, 1) := by decide +kernel
theorem dL_stuckOnes_13 : decode mL_stuckOnes.2.1 13 = .ok (.invokevirtual 212, 3) := by decide +kernel
theorem dL_stuckOnes_16 : decode mL_stuckOnes.2.1 16 = .ok (.getfield 227, 3) := by decide +kernel
theorem dL_stuckOnes_19 : decode mL_stuckOnes.2.1 19 = .ok (.goto 4, 3) := by decide +kernel
theorem dL_stuckOnes_22 : decode mL_stuckOnes.2.1 22 = .ok (.iconst (-1), 1) := by decide +kernel
theorem dL_stuckOnes_23 : decode mL_stuckOnes.2.1 23 = .ok (.ireturn, 1) := by decide +kernel
theorem erF_some {c : Cfg} {n P k i : Nat} (hn : n < spc c) (h : ffO c P (fuS c n).1 = some i) (hi : i < (itS c (t0S n) k).1.length) : erF c n P = dpL (itS c (t0S n) k).1 (itS c (t0S n) k).1.length i := by
  unfold erF
  rw [h]
  obtain ⟨M, hM⟩ := it_pre hn k
  have h1 := (itS_ok (t0_ok hn) k).2.2
  have h2 := (fu_ok hn).2.2
  rw [hM] at h2
  have := dpE_app h1 h2 hi
  show ((dpE (fuS c n).1 i : Nat) : Int) = _
  rw [hM, this]
  rfl
theorem erF_none {c : Cfg} {n P : Nat} (h : ffO c P (fuS c n).1 = none) : erF c n P = -2 := by
  unfold erF
  rw [h]
theorem bs25 {c : Cfg} (hc : okC c) (f : Nat → Bool) : bsum f (wB c (pN c)) < 33554432 := Nat.lt_of_lt_of_le (bsum_lt _ _) (show 2 ^ wB c (pN c) ≤ 2 ^ 25 from Nat.pow_le_pow_right (by decide) (wB_p25 hc))
def nmL (L : List (Nat × Nat)) (i : Nat) : Nat := (L.getD i (0, 0)).1
theorem nmL_get {L : List (Nat × Nat)} {i : Nat} {q : Nat × Nat} (h : L[i]? = some q) : nmL L i = q.1 := by unfold nmL; rw [List.getD_eq_getElem?_getD, h]; rfl
def stG (c : Cfg) (L : List (Nat × Nat)) (i : Nat) : Int := fbF (fun j => mayN c (nmL L (parL L i)) (allP c) j && aftN c (nmL L (parL L i)) j == nmL L i) (stN c)
/-- the step of number k of an errand, or -1 -/
def stF (c : Cfg) (n P : Nat) (k : Int) : Int := match ffO c P (fuS c n).1 with
  | some i => if 0 ≤ k ∧ k < dpE (fuS c n).1 i then stG c (fuS c n).1 (upL (fuS c n).1 (dpE (fuS c n).1 i - 1 - k.toNat) i) else -1
  | none => -1
theorem RS.eq {c : Cfg} {n a : Nat} {r : Int} (h : RS c n a r) : r = fbF (fun j => mayN c n (allP c) j && aftN c n j == a) (stN c) := by
  rcases h with ⟨k, h1, h2, h3, h4, h5⟩ | ⟨h1, h2⟩
  · rw [fbF_some (k := k) (by rw [h3, h4]; simp) (fun j hj => by
      have := h5 j hj
      cases hm : mayN c n (allP c) j
      · rfl
      · have : aftN c n j ≠ a := fun e => this ⟨hm, e⟩
        simp [this]) h2]
    exact h1
  · rw [fbF_none (fun j hj => by
      have := h2 j hj
      cases hm : mayN c n (allP c) j
      · rfl
      · have : aftN c n j ≠ a := fun e => this ⟨hm, e⟩
        simp [this])]
    exact h1
theorem SQ.put {V V' : Nat → Nat → Int} {σ : Shp} {s qn kn Q M n x : Nat} {c : Cfg} {t : ST} (h : SQ V s qn kn Q c t n) (hs : sS0 σ s qn kn Q M) (g : putF V V' (s + 1)) (hA : HA V' (s + 1) c x) : SQ V' s qn kn Q c t x := by
  obtain ⟨⟨h1, h2, h3⟩, h4, h5⟩ := h
  have es : V' s = V s := g.1 s (by omega) (by omega) (by omega)
  exact ⟨⟨g.sv hs h1, h2.put g hA, by rw [es]; exact h3⟩, by rw [es]; exact h4, h5⟩
def wyE (S : PS) (w i : Int) : Int := if 0 < tDn (psT S) then (if 0 ≤ w ∧ w ≤ 2 then (if stF (psC S) (psA S) (goN S w) i = -1 then 1 else 0) else 2) else 1
section Walk2
variable {G : GE} {V : Nat → Nat → Int} {σ : Shp} {K : Option AV → Mem → Prop} {ow : Nat → Nat} {y : Dy} {S : PS} {kn : Bool}
/-- the walk is of now, and at its end -/
def WF (V : Nat → Nat → Int) (y : Dy) (S : PS) : Prop := ∃ m, dM1 y = dL1 y / 64 + 1 ∧ SQ V 18 (dQ1 y) (dK1 y) (dL1 y) (psC S) (fuS (psC S) (psA S)) m
theorem WN.on {V V' : Nat → Nat → Int} {σ : Shp} {ow : Nat → Nat} {y : Dy} {S : PS} {kn : Bool} {k m : Nat} (h : CW V σ ow y S kn) (hM : dM1 y = dL1 y / 64 + 1) (h12 : V 1 12 = snS (psT S) (psS S)) (hf : sF V V' 18 (dQ1 y) (dK1 y)) (hS : SQ V' 18 (dQ1 y) (dK1 y) (dL1 y) (psC S) (itS (psC S) (t0S (psA S)) k) m) : CW V' σ ow y S kn ∧ FR V V' σ σ ow ow ∧ V' 1 12 = snS (psT S) (psS S) := by
  have hL := h.cl
  have e1 := hL.dq (b := 1) (by rw [hL.f (by unfold fx; omega)]; omega) (by rw [hL.f (by unfold fx; omega)]; omega)
  have e : V' 1 12 = snS (psT S) (psS S) := by rw [hf 1 (by omega) e1.1 e1.2]; exact h12
  obtain ⟨q1, q2⟩ := h.s1b hf (WN.wk ⟨k, m, hM, e, hS⟩ h.oS)
  exact ⟨q1, q2, e⟩
theorem wL_walkAll (h : CW V σ ow y S kn) (hd : 0 < tDn (psT S)) (hB : sX σ + 10 < BG) (hK : ∀ (V' : Nat → Nat → Int) (σ' : Shp) (ow' : Nat → Nat) (y' : Dy), CW V' σ' ow' y' S kn → FR V V' σ σ' ow ow' → WF V' y' S → K (some (vR 18)) (V', σ')) : Wp G 5 mL_walkAll [vR 1] (V, σ) 2 63500 K := by
  have hW := h.cs
  have hsp : psA S < spc (psC S) := h.oS.2.2.2.1 hd
  refine wp_intro mL_walkAll_i.1 [some (vR 1), none] rfl rfl (Nat.le_of_ble_eq_true rfl) ?_
  intro X hG F C
  have hm := C.rm
  refine aw_aload_0 (q := 1) F dL_walkAll_0 rfl ?_
  refine av_callV0 (q := 4) (ci := 7) F hm mL_walkFromNow_i mL_walkFromNow_n lL_180 dL_walkAll_1 rfl rfl rfl (by first | exact hW.o | exact hW.ho | exact hW.to | exact hs.o | exact hs.ho | exact hW5.o | exact hW5.ho | exact hW5.s1.o) (by decide) (Nat.le_refl _) (Nat.le_refl _) (Nat.le_of_ble_eq_true rfl) (wL_walkFromNow h hd hB (fun v1 sg1 ow1 y1 c1 f1 w1 => ?_))
  obtain ⟨k, m, hM, h12, hSQ⟩ := w1
  have hs : sS sg1 18 (dQ1 y1) (dK1 y1) (dL1 y1) := by have := c1.cs.s1; rw [hM] at this; exact this
  refine aw_astore_1 (q := 5) F dL_walkAll_4 rfl trivial ?_
  refine aw_aload_1 (q := 6) F dL_walkAll_5 rfl ?_
  refine av_callV0 (q := 9) (ci := 5) F hm mS_finish_i mS_finish_n lL_394 dL_walkAll_6 rfl rfl rfl (by first | exact hW.o | exact hW.ho | exact hW.to | exact hs.o | exact hs.ho | exact hW5.o | exact hW5.ho | exact hW5.s1.o) (by decide) (Nat.le_refl _) (Nat.le_refl _) (Nat.le_of_ble_eq_true rfl) (wS_finish hs hSQ (fun v6 k6 m6 f6 s6 d6 => ?_))
  refine aw_aload_1 (q := 10) F dL_walkAll_9 rfl ?_
  refine aw_aret F C dL_walkAll_10 rfl (by decide) (by decide) ?_
  rw [← itS_add] at s6 d6
  obtain ⟨q1, q2, q3⟩ := WN.on c1 hM h12 f6 s6
  rw [it_end hsp d6] at s6
  exact hK _ _ _ _ q1 (f1.tr q2) ⟨m6, hM, s6⟩
theorem wL_errand {w : Int} (hB : sX σ + 10 < BG) (h : CW V σ ow y S kn) (hK : CK K V σ ow (setR S (wy (0 < tDn (psT S)) (0 ≤ w ∧ w ≤ 2))) kn (some (vI (rfD (wy (0 < tDn (psT S)) (0 ≤ w ∧ w ≤ 2)) (erF (psC S) (psA S) (goN S w)) (-1))))) : Wp G 6 mL_errand [vR 1, vI w] (V, σ) 2 63500 K := by
  have hW := h.cs
  have hT1 : V (dT y) 1 = tDn (psT S) := h.tv.1.2.1
  have h2 := h.tr (z := 0) (by decide)
  obtain ⟨g, r1, r2⟩ := g3 hK
  have hc := h.oT.okC h.oS
  refine wp_intro mL_errand_i.1 [some (vR 1), some (vI w), none] rfl rfl (Nat.le_of_ble_eq_true rfl) ?_
  intro X hG F C
  have hm := C.rm
  have go : 0 < tDn (psT S) → 0 ≤ w ∧ w ≤ 2 → AW X 17 [some (vR 1), some (vI w), none] [] (up2 V 1 2 0, σ) 0 0 := by
    intro hd hw
    have hsp : psA S < spc (psC S) := h.oS.2.2.2.1 hd
    refine aw_aload_0 (q := 18) F dL_errand_17 rfl ?_
    refine av_callV0 (q := 21) (ci := 7) F hm mL_walkFromNow_i mL_walkFromNow_n lL_180 dL_errand_18 rfl rfl rfl (by first | exact hW.o | exact hW.ho | exact hW.to | exact hs.o | exact hs.ho | exact hW5.o | exact hW5.ho | exact hW5.s1.o) (by decide) (Nat.le_refl _) (Nat.le_refl _) (Nat.le_of_ble_eq_true rfl) (wL_walkFromNow h2 hd hB (fun v18 sg18 ow18 y18 c18 f18 w18 => ?_))
    obtain ⟨k, m, hM, h12, hSQ⟩ := w18
    have hSQ : SQ v18 18 (dQ1 y18) (dK1 y18) (dL1 y18) (psC S) (itS (psC S) (t0S (psA S)) k) m := hSQ
    have hW5 := c18.cs
    have hs : sS sg18 18 (dQ1 y18) (dK1 y18) (dL1 y18) := by have := c18.cs.s1; rw [hM] at this; exact this
    refine aw_astore_2 (q := 22) F dL_errand_21 rfl trivial ?_
    refine aw_aload_2 (q := 23) F dL_errand_22 rfl ?_
    refine aw_aload_2 (q := 24) F dL_errand_23 rfl ?_
    refine aw_aload_0 (q := 25) F dL_errand_24 rfl ?_
    refine aw_iload_1 (q := 26) F dL_errand_25 rfl ?_
    refine av_callV1 (q := 29) (ci := 7) F hm mL_goalOf_i mL_goalOf_n lL_184 dL_errand_26 rfl rfl rfl (by first | exact hW.o | exact hW.ho | exact hW.to | exact hs.o | exact hs.ho | exact hW5.o | exact hW5.ho | exact hW5.s1.o) (by decide) (by decide) (by decide) (Nat.le_of_ble_eq_true rfl) (wL_goalOf (w := w) c18 ?_)
    refine av_callV1 (q := 32) (ci := 5) F hm mS_firstFit_i mS_firstFit_n lL_187 dL_errand_29 rfl rfl rfl (by first | exact hW.o | exact hW.ho | exact hW.to | exact hs.o | exact hs.ho | exact hW5.o | exact hW5.ho | exact hW5.s1.o) (by decide) (by decide) (by decide) (Nat.le_of_ble_eq_true rfl) (wS_firstFit (c := psC S) (P := goN S w) rfl (bs25 hc _) hs hSQ (fun v29 k29 m29 r29 f29 s29 e29 => ?_))
    rw [← itS_add] at s29 e29
    have hff := ff_fu hsp e29
    refine av_callV1 (q := 35) (ci := 5) F hm mS_depthOf_i mS_depthOf_n lL_190 dL_errand_32 rfl rfl rfl (by first | exact hW.o | exact hW.ho | exact hW.to | exact hs.o | exact hs.ho | exact hW5.o | exact hW5.ho | exact hW5.s1.o) (by decide) (by decide) (by decide) (Nat.le_of_ble_eq_true rfl) (wS_depthOf (c := psC S) hs s29.1.1 (itS_ok (t0_ok hsp) _).2.2 (fun i32 x32 l32 => ?_) (fun n32 => ?_))
    · refine aw_iret F C dL_errand_35 rfl (by decide) (by decide) ?_
      obtain ⟨q1, q2, -⟩ := WN.on c18 hM h12 f29 s29
      refine kI (g hd hw _ _ _ _ q1 ((h.fr.tr f18).tr q2)) ?_
      first
      | (rcases hff with ⟨e1, e2⟩ | ⟨i, e1, e2, e3⟩
         · rw [e1] at x32; omega
         · rw [e1] at x32
           have : i = i32 := Int.ofNat.inj x32
           subst this
           exact erF_some hsp e2 e3)
      | (rcases hff with ⟨e1, e2⟩ | ⟨i, e1, e2, e3⟩
         · exact erF_none e2
         · exact absurd ⟨by omega, by omega⟩ n32)
    · refine aw_iret F C dL_errand_35 rfl (by decide) (by decide) ?_
      obtain ⟨q1, q2, -⟩ := WN.on c18 hM h12 f29 s29
      refine kI (g hd hw _ _ _ _ q1 ((h.fr.tr f18).tr q2)) ?_
      first
      | (rcases hff with ⟨e1, e2⟩ | ⟨i, e1, e2, e3⟩
         · rw [e1] at x32; omega
         · rw [e1] at x32
           have : i = i32 := Int.ofNat.inj x32
           subst this
           exact erF_some hsp e2 e3)
      | (rcases hff with ⟨e1, e2⟩ | ⟨i, e1, e2, e3⟩
         · exact erF_none e2
         · exact absurd ⟨by omega, by omega⟩ n32)
  refine aw_aload_0 (q := 1) F dL_errand_0 rfl ?_
  refine aw_aload_0 (q := 2) F dL_errand_1 rfl ?_
  refine av_callV0 (q := 5) (ci := 7) F hm mL_hasLane_i mL_hasLane_n lL_154 dL_errand_2 rfl rfl rfl (by first | exact hW.o | exact hW.ho | exact hW.to | exact hs.o | exact hs.ho | exact hW5.o | exact hW5.ho | exact hW5.s1.o) (by decide) (by decide) (by decide) (Nat.le_of_ble_eq_true rfl) (wL_hasLane hW (fun c2 => ?_) (fun c2 => ?_))
  · refine aw_iload_1 (q := 6) F dL_errand_5 rfl ?_
    refine av_callS1 (q := 9) F hm mL_isErrand_i mL_isErrand_n lL_177 dL_errand_6 rfl (by decide) (by decide) (by decide) (Nat.le_of_ble_eq_true rfl) (wL_isErrand (fun c6 => ?_) (fun c6 => ?_))
    · refine av_callV2 (q := 12) (ci := 7) F hm mL_passes_i mL_passes_n lL_114 dL_errand_9 rfl rfl rfl (by first | exact hW.o | exact hW.ho | exact hW.to | exact hs.o | exact hs.ho | exact hW5.o | exact hW5.ho | exact hW5.s1.o) (by decide) (by decide) (by decide) (Nat.le_of_ble_eq_true rfl) (wL_passes hW (fun c9 d9 => ?_) (fun c9 => ?_) (fun c9 d9 => ?_))
      · refine aw_if_ne (q := 15) (t := 17) F dL_errand_12 rfl (by decide) (fun c12 => ?_) (fun c12 => absurd c12 (by decide))
        first | (exfalso; omega) | exact go (by omega) (by omega)
      · refine aw_if_ne (q := 15) (t := 17) F dL_errand_12 rfl (by decide) (fun c12 => absurd c12 (by decide)) (fun c12 => ?_)
        refine aw_iconst (q := 16) F dL_errand_15 rfl (by decide) ?_
        refine aw_iret F C dL_errand_16 rfl (by decide) (by decide) ?_
        first | (exfalso; omega) | exact h.now (by decide) (r1 (by omega)) | exact h.now (by decide) (r2 (by omega) (by omega))
      · refine aw_if_ne (q := 15) (t := 17) F dL_errand_12 rfl (by decide) (fun c12 => absurd c12 (by decide)) (fun c12 => ?_)
        refine aw_iconst (q := 16) F dL_errand_15 rfl (by decide) ?_
        refine aw_iret F C dL_errand_16 rfl (by decide) (by decide) ?_
        first | (exfalso; omega) | exact h.now (by decide) (r1 (by omega)) | exact h.now (by decide) (r2 (by omega) (by omega))
    · refine av_callV2 (q := 12) (ci := 7) F hm mL_passes_i mL_passes_n lL_114 dL_errand_9 rfl rfl rfl (by first | exact hW.o | exact hW.ho | exact hW.to | exact hs.o | exact hs.ho | exact hW5.o | exact hW5.ho | exact hW5.s1.o) (by decide) (by decide) (by decide) (Nat.le_of_ble_eq_true rfl) (wL_passes hW (fun c9 d9 => ?_) (fun c9 => ?_) (fun c9 d9 => ?_))
      · refine aw_if_ne (q := 15) (t := 17) F dL_errand_12 rfl (by decide) (fun c12 => ?_) (fun c12 => absurd c12 (by decide))
        first | (exfalso; omega) | exact go (by omega) (by omega)
      · refine aw_if_ne (q := 15) (t := 17) F dL_errand_12 rfl (by decide) (fun c12 => absurd c12 (by decide)) (fun c12 => ?_)
        refine aw_iconst (q := 16) F dL_errand_15 rfl (by decide) ?_
        refine aw_iret F C dL_errand_16 rfl (by decide) (by decide) ?_
        first | (exfalso; omega) | exact h.now (by decide) (r1 (by omega)) | exact h.now (by decide) (r2 (by omega) (by omega))
      · refine aw_if_ne (q := 15) (t := 17) F dL_errand_12 rfl (by decide) (fun c12 => absurd c12 (by decide)) (fun c12 => ?_)
        refine aw_iconst (q := 16) F dL_errand_15 rfl (by decide) ?_
        refine aw_iret F C dL_errand_16 rfl (by decide) (by decide) ?_
        first | (exfalso; omega) | exact h.now (by decide) (r1 (by omega)) | exact h.now (by decide) (r2 (by omega) (by omega))
  · refine aw_iload_1 (q := 6) F dL_errand_5 rfl ?_
    refine av_callS1 (q := 9) F hm mL_isErrand_i mL_isErrand_n lL_177 dL_errand_6 rfl (by decide) (by decide) (by decide) (Nat.le_of_ble_eq_true rfl) (wL_isErrand (fun c6 => ?_) (fun c6 => ?_))
    · refine av_callV2 (q := 12) (ci := 7) F hm mL_passes_i mL_passes_n lL_114 dL_errand_9 rfl rfl rfl (by first | exact hW.o | exact hW.ho | exact hW.to | exact hs.o | exact hs.ho | exact hW5.o | exact hW5.ho | exact hW5.s1.o) (by decide) (by decide) (by decide) (Nat.le_of_ble_eq_true rfl) (wL_passes hW (fun c9 d9 => ?_) (fun c9 => ?_) (fun c9 d9 => ?_))
      · refine aw_if_ne (q := 15) (t := 17) F dL_errand_12 rfl (by decide) (fun c12 => ?_) (fun c12 => absurd c12 (by decide))
        first | (exfalso; omega) | exact go (by omega) (by omega)
      · refine aw_if_ne (q := 15) (t := 17) F dL_errand_12 rfl (by decide) (fun c12 => absurd c12 (by decide)) (fun c12 => ?_)
        refine aw_iconst (q := 16) F dL_errand_15 rfl (by decide) ?_
        refine aw_iret F C dL_errand_16 rfl (by decide) (by decide) ?_
        first | (exfalso; omega) | exact h.now (by decide) (r1 (by omega)) | exact h.now (by decide) (r2 (by omega) (by omega))
      · refine aw_if_ne (q := 15) (t := 17) F dL_errand_12 rfl (by decide) (fun c12 => absurd c12 (by decide)) (fun c12 => ?_)
        refine aw_iconst (q := 16) F dL_errand_15 rfl (by decide) ?_
        refine aw_iret F C dL_errand_16 rfl (by decide) (by decide) ?_
        first | (exfalso; omega) | exact h.now (by decide) (r1 (by omega)) | exact h.now (by decide) (r2 (by omega) (by omega))
    · refine av_callV2 (q := 12) (ci := 7) F hm mL_passes_i mL_passes_n lL_114 dL_errand_9 rfl rfl rfl (by first | exact hW.o | exact hW.ho | exact hW.to | exact hs.o | exact hs.ho | exact hW5.o | exact hW5.ho | exact hW5.s1.o) (by decide) (by decide) (by decide) (Nat.le_of_ble_eq_true rfl) (wL_passes hW (fun c9 d9 => ?_) (fun c9 => ?_) (fun c9 d9 => ?_))
      · refine aw_if_ne (q := 15) (t := 17) F dL_errand_12 rfl (by decide) (fun c12 => ?_) (fun c12 => absurd c12 (by decide))
        first | (exfalso; omega) | exact go (by omega) (by omega)
      · refine aw_if_ne (q := 15) (t := 17) F dL_errand_12 rfl (by decide) (fun c12 => absurd c12 (by decide)) (fun c12 => ?_)
        refine aw_iconst (q := 16) F dL_errand_15 rfl (by decide) ?_
        refine aw_iret F C dL_errand_16 rfl (by decide) (by decide) ?_
        first | (exfalso; omega) | exact h.now (by decide) (r1 (by omega)) | exact h.now (by decide) (r2 (by omega) (by omega))
      · refine aw_if_ne (q := 15) (t := 17) F dL_errand_12 rfl (by decide) (fun c12 => absurd c12 (by decide)) (fun c12 => ?_)
        refine aw_iconst (q := 16) F dL_errand_15 rfl (by decide) ?_
        refine aw_iret F C dL_errand_16 rfl (by decide) (by decide) ?_
        first | (exfalso; omega) | exact h.now (by decide) (r1 (by omega)) | exact h.now (by decide) (r2 (by omega) (by omega))
def plW (S : PS) (p l : Int) : Nat := bsum (fitN (psC S) (if p = 0 then l else -2) (if p = 1 then l else -2)) (wB (psC S) (tPn (psT S)))
theorem wL_wayTo {p l : Int} (hB : sX σ + 10 < BG) (h : CW V σ ow y S kn) (hK : CK K V σ ow (setR S (wy ((0 ≤ p ∧ p < tPn (psT S)) ∧ 0 ≤ l ∧ l ≤ tDn (psT S)) True)) kn (some (vI (rfD (wy ((0 ≤ p ∧ p < tPn (psT S)) ∧ 0 ≤ l ∧ l ≤ tDn (psT S)) True) (erF (psC S) (psA S) (plW S p l)) (-1))))) : Wp G 6 mL_wayTo [vR 1, vI p, vI l] (V, σ) 2 63500 K := by
  have hW := h.cs
  have hv := h.v0
  have hv1 := h.v1
  have h2 := h.tr (z := 0) (by decide)
  obtain ⟨g, r1, -⟩ := g3 hK
  have hc := h.oT.okC h.oS
  have hpd : 0 < tPn (psT S) → 0 < tDn (psT S) := fun q => Nat.pos_of_ne_zero fun e => by have := (h.oT.2.2.2.2.2.2.1 e).2.1; omega
  refine wp_intro mL_wayTo_i.1 [some (vR 1), some (vI p), some (vI l), none] rfl rfl (Nat.le_of_ble_eq_true rfl) ?_
  intro X hG F C
  have hm := C.rm
  have go : (0 ≤ p ∧ p < tPn (psT S)) ∧ 0 ≤ l ∧ l ≤ tDn (psT S) → AW X 37 [some (vR 1), some (vI p), some (vI l), none] [] (up2 V 1 2 0, σ) 0 0 := by
    intro hw
    have hd := hpd (by omega)
    have hsp : psA S < spc (psC S) := h.oS.2.2.2.1 hd
    refine aw_aload_0 (q := 38) F dL_wayTo_37 rfl ?_
    refine av_callV0 (q := 41) (ci := 7) F hm mL_walkFromNow_i mL_walkFromNow_n lL_180 dL_wayTo_38 rfl rfl rfl (by first | exact hW.o | exact hW.ho | exact hW.to | exact hs.o | exact hs.ho | exact hW5.o | exact hW5.ho | exact hW5.s1.o) (by decide) (Nat.le_refl _) (Nat.le_refl _) (Nat.le_of_ble_eq_true rfl) (wL_walkFromNow h2 hd hB (fun v38 sg38 ow38 y38 c38 f38 w38 => ?_))
    obtain ⟨k, m, hM, h12, hSQ⟩ := w38
    have hSQ : SQ v38 18 (dQ1 y38) (dK1 y38) (dL1 y38) (psC S) (itS (psC S) (t0S (psA S)) k) m := hSQ
    have hW5 := c38.cs
    have hs : sS sg38 18 (dQ1 y38) (dK1 y38) (dL1 y38) := by have := c38.cs.s1; rw [hM] at this; exact this
    refine aw_astore_3 (q := 42) F dL_wayTo_41 rfl trivial ?_
    refine aw_aload_3 (q := 43) F dL_wayTo_42 rfl ?_
    refine aw_aload_3 (q := 44) F dL_wayTo_43 rfl ?_
    refine aw_aload_0 (q := 45) F dL_wayTo_44 rfl ?_
    refine av_getaE (q := 48) F fL_23 dL_wayTo_45 rfl rfl (by first | exact hW.o | exact hW.ho | exact hW.to | exact hs.o | exact hs.ho | exact hW5.o | exact hW5.ho | exact hW5.s1.o) (by first | exact hW.p6 | exact hW5.p6) ?_
    refine aw_iload_1 (q := 49) F dL_wayTo_48 rfl ?_
    refine aw_iload_2 (q := 50) F dL_wayTo_49 rfl ?_
    refine av_callV2 (q := 53) (ci := 2) F hm mH_placingsWith_i mH_placingsWith_n lL_209 dL_wayTo_50 rfl rfl rfl (by first | exact hW.o | exact hW.ho | exact hW.to | exact hs.o | exact hs.ho | exact hW5.o | exact hW5.ho | exact hW5.s1.o) (by decide) (by decide) (by decide) (Nat.le_of_ble_eq_true rfl) (wH_placingsWith hW5.h (show HH v38 10 (psC S) (psA S) from c38.hh) ?_)
    refine av_callV1 (q := 56) (ci := 5) F hm mS_firstFit_i mS_firstFit_n lL_187 dL_wayTo_53 rfl rfl rfl (by first | exact hW.o | exact hW.ho | exact hW.to | exact hs.o | exact hs.ho | exact hW5.o | exact hW5.ho | exact hW5.s1.o) (by decide) (by decide) (by decide) (Nat.le_of_ble_eq_true rfl) (wS_firstFit (c := psC S) (P := plW S p l) rfl (bs25 hc _) hs hSQ (fun v53 k53 m53 r53 f53 s53 e53 => ?_))
    rw [← itS_add] at s53 e53
    have hff := ff_fu hsp e53
    refine av_callV1 (q := 59) (ci := 5) F hm mS_depthOf_i mS_depthOf_n lL_190 dL_wayTo_56 rfl rfl rfl (by first | exact hW.o | exact hW.ho | exact hW.to | exact hs.o | exact hs.ho | exact hW5.o | exact hW5.ho | exact hW5.s1.o) (by decide) (by decide) (by decide) (Nat.le_of_ble_eq_true rfl) (wS_depthOf (c := psC S) hs s53.1.1 (itS_ok (t0_ok hsp) _).2.2 (fun i56 x56 l56 => ?_) (fun n56 => ?_))
    · refine aw_iret F C dL_wayTo_59 rfl (by decide) (by decide) ?_
      obtain ⟨q1, q2, -⟩ := WN.on c38 hM h12 f53 s53
      refine kI (g hw trivial _ _ _ _ q1 ((h.fr.tr f38).tr q2)) ?_
      first
      | (rcases hff with ⟨e1, e2⟩ | ⟨i, e1, e2, e3⟩
         · rw [e1] at x56; omega
         · rw [e1] at x56
           have : i = i56 := Int.ofNat.inj x56
           subst this
           exact erF_some hsp e2 e3)
      | (rcases hff with ⟨e1, e2⟩ | ⟨i, e1, e2, e3⟩
         · exact erF_none e2
         · exact absurd ⟨by omega, by omega⟩ n56)
    · refine aw_iret F C dL_wayTo_59 rfl (by decide) (by decide) ?_
      obtain ⟨q1, q2, -⟩ := WN.on c38 hM h12 f53 s53
      refine kI (g hw trivial _ _ _ _ q1 ((h.fr.tr f38).tr q2)) ?_
      first
      | (rcases hff with ⟨e1, e2⟩ | ⟨i, e1, e2, e3⟩
         · rw [e1] at x56; omega
         · rw [e1] at x56
           have : i = i56 := Int.ofNat.inj x56
           subst this
           exact erF_some hsp e2 e3)
      | (rcases hff with ⟨e1, e2⟩ | ⟨i, e1, e2, e3⟩
         · exact erF_none e2
         · exact absurd ⟨by omega, by omega⟩ n56)
  refine aw_aload_0 (q := 1) F dL_wayTo_0 rfl ?_
  refine aw_aload_0 (q := 2) F dL_wayTo_1 rfl ?_
  refine av_getaE (q := 5) F fL_23 dL_wayTo_2 rfl rfl (by first | exact hW.o | exact hW.ho | exact hW.to | exact hs.o | exact hs.ho | exact hW5.o | exact hW5.ho | exact hW5.s1.o) (by first | exact hW.p6 | exact hW5.p6) ?_
  refine aw_iload_1 (q := 6) F dL_wayTo_5 rfl ?_
  refine av_callV1 (q := 9) (ci := 2) F hm mH_isPerson_i mH_isPerson_n lL_136 dL_wayTo_6 rfl rfl rfl (by first | exact hW.o | exact hW.ho | exact hW.to | exact hs.o | exact hs.ho | exact hW5.o | exact hW5.ho | exact hW5.s1.o) (by decide) (by decide) (by decide) (Nat.le_of_ble_eq_true rfl) (wH_isPerson hW.h (fun c6 => ?_) (fun c6 => ?_))
  · refine aw_if_eq (q := 12) (t := 27) F dL_wayTo_9 rfl (by decide) (fun c9 => absurd c9 (by decide)) (fun c9 => ?_)
    refine aw_aload_0 (q := 13) F dL_wayTo_12 rfl ?_
    refine av_getaE (q := 16) F fL_23 dL_wayTo_13 rfl rfl (by first | exact hW.o | exact hW.ho | exact hW.to | exact hs.o | exact hs.ho | exact hW5.o | exact hW5.ho | exact hW5.s1.o) (by first | exact hW.p6 | exact hW5.p6) ?_
    refine aw_iload_2 (q := 17) F dL_wayTo_16 rfl ?_
    refine av_callV1 (q := 20) (ci := 2) F hm mH_isPlace_i mH_isPlace_n lL_206 dL_wayTo_17 rfl rfl rfl (by first | exact hW.o | exact hW.ho | exact hW.to | exact hs.o | exact hs.ho | exact hW5.o | exact hW5.ho | exact hW5.s1.o) (by decide) (by decide) (by decide) (Nat.le_of_ble_eq_true rfl) (wH_isPlace hW.h (fun c17 => ?_) (fun c17 => ?_))
    · refine aw_if_eq (q := 23) (t := 27) F dL_wayTo_20 rfl (by decide) (fun c20 => absurd c20 (by decide)) (fun c20 => ?_)
      refine aw_iconst (q := 24) F dL_wayTo_23 rfl (by decide) ?_
      refine aw_goto (t := 28) F dL_wayTo_24 (by decide) ?_
      refine aw_iconst (q := 29) F dL_wayTo_28 rfl (by decide) ?_
      refine av_callV2 (q := 32) (ci := 7) F hm mL_passes_i mL_passes_n lL_114 dL_wayTo_29 rfl rfl rfl (by first | exact hW.o | exact hW.ho | exact hW.to | exact hs.o | exact hs.ho | exact hW5.o | exact hW5.ho | exact hW5.s1.o) (by decide) (by decide) (by decide) (Nat.le_of_ble_eq_true rfl) (wL_passes hW (fun c29 d29 => ?_) (fun c29 => ?_) (fun c29 d29 => ?_))
      · refine aw_if_ne (q := 35) (t := 37) F dL_wayTo_32 rfl (by decide) (fun c32 => ?_) (fun c32 => absurd c32 (by decide))
        first | (exfalso; omega) | exact go (by omega)
      · refine aw_if_ne (q := 35) (t := 37) F dL_wayTo_32 rfl (by decide) (fun c32 => absurd c32 (by decide)) (fun c32 => ?_)
        refine aw_iconst (q := 36) F dL_wayTo_35 rfl (by decide) ?_
        refine aw_iret F C dL_wayTo_36 rfl (by decide) (by decide) ?_
        first | (exfalso; omega) | exact h.now (by decide) (r1 (fun q => by have := hpd (by omega); omega))
      · refine aw_if_ne (q := 35) (t := 37) F dL_wayTo_32 rfl (by decide) (fun c32 => absurd c32 (by decide)) (fun c32 => ?_)
        refine aw_iconst (q := 36) F dL_wayTo_35 rfl (by decide) ?_
        refine aw_iret F C dL_wayTo_36 rfl (by decide) (by decide) ?_
        first | (exfalso; omega) | exact h.now (by decide) (r1 (fun q => by have := hpd (by omega); omega))
    · refine aw_if_eq (q := 23) (t := 27) F dL_wayTo_20 rfl (by decide) (fun c20 => ?_) (fun c20 => absurd c20 (by decide))
      refine aw_iconst (q := 28) F dL_wayTo_27 rfl (by decide) ?_
      refine aw_iconst (q := 29) F dL_wayTo_28 rfl (by decide) ?_
      refine av_callV2 (q := 32) (ci := 7) F hm mL_passes_i mL_passes_n lL_114 dL_wayTo_29 rfl rfl rfl (by first | exact hW.o | exact hW.ho | exact hW.to | exact hs.o | exact hs.ho | exact hW5.o | exact hW5.ho | exact hW5.s1.o) (by decide) (by decide) (by decide) (Nat.le_of_ble_eq_true rfl) (wL_passes hW (fun c29 d29 => ?_) (fun c29 => ?_) (fun c29 d29 => ?_))
      · refine aw_if_ne (q := 35) (t := 37) F dL_wayTo_32 rfl (by decide) (fun c32 => ?_) (fun c32 => absurd c32 (by decide))
        first | (exfalso; omega) | exact go (by omega)
      · refine aw_if_ne (q := 35) (t := 37) F dL_wayTo_32 rfl (by decide) (fun c32 => absurd c32 (by decide)) (fun c32 => ?_)
        refine aw_iconst (q := 36) F dL_wayTo_35 rfl (by decide) ?_
        refine aw_iret F C dL_wayTo_36 rfl (by decide) (by decide) ?_
        first | (exfalso; omega) | exact h.now (by decide) (r1 (fun q => by have := hpd (by omega); omega))
      · refine aw_if_ne (q := 35) (t := 37) F dL_wayTo_32 rfl (by decide) (fun c32 => absurd c32 (by decide)) (fun c32 => ?_)
        refine aw_iconst (q := 36) F dL_wayTo_35 rfl (by decide) ?_
        refine aw_iret F C dL_wayTo_36 rfl (by decide) (by decide) ?_
        first | (exfalso; omega) | exact h.now (by decide) (r1 (fun q => by have := hpd (by omega); omega))
  · refine aw_if_eq (q := 12) (t := 27) F dL_wayTo_9 rfl (by decide) (fun c9 => ?_) (fun c9 => absurd c9 (by decide))
    refine aw_iconst (q := 28) F dL_wayTo_27 rfl (by decide) ?_
    refine aw_iconst (q := 29) F dL_wayTo_28 rfl (by decide) ?_
    refine av_callV2 (q := 32) (ci := 7) F hm mL_passes_i mL_passes_n lL_114 dL_wayTo_29 rfl rfl rfl (by first | exact hW.o | exact hW.ho | exact hW.to | exact hs.o | exact hs.ho | exact hW5.o | exact hW5.ho | exact hW5.s1.o) (by decide) (by decide) (by decide) (Nat.le_of_ble_eq_true rfl) (wL_passes hW (fun c29 d29 => ?_) (fun c29 => ?_) (fun c29 d29 => ?_))
    · refine aw_if_ne (q := 35) (t := 37) F dL_wayTo_32 rfl (by decide) (fun c32 => ?_) (fun c32 => absurd c32 (by decide))
      first | (exfalso; omega) | exact go (by omega)
    · refine aw_if_ne (q := 35) (t := 37) F dL_wayTo_32 rfl (by decide) (fun c32 => absurd c32 (by decide)) (fun c32 => ?_)
      refine aw_iconst (q := 36) F dL_wayTo_35 rfl (by decide) ?_
      refine aw_iret F C dL_wayTo_36 rfl (by decide) (by decide) ?_
      first | (exfalso; omega) | exact h.now (by decide) (r1 (fun q => by have := hpd (by omega); omega))
    · refine aw_if_ne (q := 35) (t := 37) F dL_wayTo_32 rfl (by decide) (fun c32 => absurd c32 (by decide)) (fun c32 => ?_)
      refine aw_iconst (q := 36) F dL_wayTo_35 rfl (by decide) ?_
      refine aw_iret F C dL_wayTo_36 rfl (by decide) (by decide) ?_
      first | (exfalso; omega) | exact h.now (by decide) (r1 (fun q => by have := hpd (by omega); omega))
theorem wL_reach (hB : sX σ + 10 < BG) (h : CW V σ ow y S kn) (hK : CK K V σ ow (setR S (wy (0 < tDn (psT S)) True)) kn (some (vI (rfD (wy (0 < tDn (psT S)) True) (fuS (psC S) (psA S)).1.length (-1))))) : Wp G 6 mL_reach [vR 1] (V, σ) 2 63500 K := by
  have hW := h.cs
  have hT1 : V (dT y) 1 = tDn (psT S) := h.tv.1.2.1
  have h2 := h.tr (z := 0) (by decide)
  obtain ⟨g, r1, -⟩ := g3 hK
  have hc := h.oT.okC h.oS
  refine wp_intro mL_reach_i.1 [some (vR 1)] rfl rfl (Nat.le_of_ble_eq_true rfl) ?_
  intro X hG F C
  have hm := C.rm
  refine aw_aload_0 (q := 1) F dL_reach_0 rfl ?_
  refine aw_aload_0 (q := 2) F dL_reach_1 rfl ?_
  refine av_callV0 (q := 5) (ci := 7) F hm mL_hasLane_i mL_hasLane_n lL_154 dL_reach_2 rfl rfl rfl (by first | exact hW.o | exact hW.ho | exact hW.to | exact hs.o | exact hs.ho | exact hW5.o | exact hW5.ho | exact hW5.s1.o) (by decide) (by decide) (by decide) (Nat.le_of_ble_eq_true rfl) (wL_hasLane hW (fun c2 => ?_) (fun c2 => ?_))
  · refine aw_iconst (q := 6) F dL_reach_5 rfl (by decide) ?_
    refine av_callV2 (q := 9) (ci := 7) F hm mL_passes_i mL_passes_n lL_114 dL_reach_6 rfl rfl rfl (by first | exact hW.o | exact hW.ho | exact hW.to | exact hs.o | exact hs.ho | exact hW5.o | exact hW5.ho | exact hW5.s1.o) (by decide) (by decide) (by decide) (Nat.le_of_ble_eq_true rfl) (wL_passes hW (fun c6 d6 => ?_) (fun c6 => ?_) (fun c6 d6 => ?_))
    · refine aw_if_eq (q := 12) (t := 22) F dL_reach_9 rfl (by decide) (fun c9 => absurd c9 (by decide)) (fun c9 => ?_)
      refine aw_aload_0 (q := 13) F dL_reach_12 rfl ?_
      refine av_callV0 (q := 16) (ci := 7) F hm mL_walkAll_i mL_walkAll_n lL_212 dL_reach_13 rfl rfl rfl (by first | exact hW.o | exact hW.ho | exact hW.to | exact hs.o | exact hs.ho | exact hW5.o | exact hW5.ho | exact hW5.s1.o) (by decide) (Nat.le_refl _) (Nat.le_refl _) (Nat.le_of_ble_eq_true rfl) (wL_walkAll h2 (show 0 < tDn (psT S) by omega) hB (fun v13 sg13 ow13 y13 c13 f13 w13 => ?_))
      have hW5 := c13.cs
      refine av_geti (q := 19) F fL_219 dL_reach_16 rfl rfl (by first | exact hW.o | exact hW.ho | exact hW.to | exact hs.o | exact hs.ho | exact hW5.o | exact hW5.ho | exact hW5.s1.o) ?_
      refine aw_goto (t := 23) F dL_reach_19 (by decide) ?_
      refine aw_iret F C dL_reach_23 rfl (by decide) (by decide) ?_
      first
      | (exfalso; omega)
      | exact h.now (by decide) (r1 (by omega))
      | (obtain ⟨m, hM, hS⟩ := w13
         exact kI (g (by omega) trivial _ _ _ _ c13 (h.fr.tr f13)) hS.1.1.1.symm)
    · refine aw_if_eq (q := 12) (t := 22) F dL_reach_9 rfl (by decide) (fun c9 => ?_) (fun c9 => absurd c9 (by decide))
      refine aw_iconst (q := 23) F dL_reach_22 rfl (by decide) ?_
      refine aw_iret F C dL_reach_23 rfl (by decide) (by decide) ?_
      first
      | (exfalso; omega)
      | exact h.now (by decide) (r1 (by omega))
      | (obtain ⟨m, hM, hS⟩ := w13
         exact kI (g (by omega) trivial _ _ _ _ c13 (h.fr.tr f13)) hS.1.1.1.symm)
    · refine aw_if_eq (q := 12) (t := 22) F dL_reach_9 rfl (by decide) (fun c9 => ?_) (fun c9 => absurd c9 (by decide))
      refine aw_iconst (q := 23) F dL_reach_22 rfl (by decide) ?_
      refine aw_iret F C dL_reach_23 rfl (by decide) (by decide) ?_
      first
      | (exfalso; omega)
      | exact h.now (by decide) (r1 (by omega))
      | (obtain ⟨m, hM, hS⟩ := w13
         exact kI (g (by omega) trivial _ _ _ _ c13 (h.fr.tr f13)) hS.1.1.1.symm)
  · refine aw_iconst (q := 6) F dL_reach_5 rfl (by decide) ?_
    refine av_callV2 (q := 9) (ci := 7) F hm mL_passes_i mL_passes_n lL_114 dL_reach_6 rfl rfl rfl (by first | exact hW.o | exact hW.ho | exact hW.to | exact hs.o | exact hs.ho | exact hW5.o | exact hW5.ho | exact hW5.s1.o) (by decide) (by decide) (by decide) (Nat.le_of_ble_eq_true rfl) (wL_passes hW (fun c6 d6 => ?_) (fun c6 => ?_) (fun c6 d6 => ?_))
    · refine aw_if_eq (q := 12) (t := 22) F dL_reach_9 rfl (by decide) (fun c9 => absurd c9 (by decide)) (fun c9 => ?_)
      refine aw_aload_0 (q := 13) F dL_reach_12 rfl ?_
      refine av_callV0 (q := 16) (ci := 7) F hm mL_walkAll_i mL_walkAll_n lL_212 dL_reach_13 rfl rfl rfl (by first | exact hW.o | exact hW.ho | exact hW.to | exact hs.o | exact hs.ho | exact hW5.o | exact hW5.ho | exact hW5.s1.o) (by decide) (Nat.le_refl _) (Nat.le_refl _) (Nat.le_of_ble_eq_true rfl) (wL_walkAll h2 (show 0 < tDn (psT S) by omega) hB (fun v13 sg13 ow13 y13 c13 f13 w13 => ?_))
      have hW5 := c13.cs
      refine av_geti (q := 19) F fL_219 dL_reach_16 rfl rfl (by first | exact hW.o | exact hW.ho | exact hW.to | exact hs.o | exact hs.ho | exact hW5.o | exact hW5.ho | exact hW5.s1.o) ?_
      refine aw_goto (t := 23) F dL_reach_19 (by decide) ?_
      refine aw_iret F C dL_reach_23 rfl (by decide) (by decide) ?_
      first
      | (exfalso; omega)
      | exact h.now (by decide) (r1 (by omega))
      | (obtain ⟨m, hM, hS⟩ := w13
         exact kI (g (by omega) trivial _ _ _ _ c13 (h.fr.tr f13)) hS.1.1.1.symm)
    · refine aw_if_eq (q := 12) (t := 22) F dL_reach_9 rfl (by decide) (fun c9 => ?_) (fun c9 => absurd c9 (by decide))
      refine aw_iconst (q := 23) F dL_reach_22 rfl (by decide) ?_
      refine aw_iret F C dL_reach_23 rfl (by decide) (by decide) ?_
      first
      | (exfalso; omega)
      | exact h.now (by decide) (r1 (by omega))
      | (obtain ⟨m, hM, hS⟩ := w13
         exact kI (g (by omega) trivial _ _ _ _ c13 (h.fr.tr f13)) hS.1.1.1.symm)
    · refine aw_if_eq (q := 12) (t := 22) F dL_reach_9 rfl (by decide) (fun c9 => ?_) (fun c9 => absurd c9 (by decide))
      refine aw_iconst (q := 23) F dL_reach_22 rfl (by decide) ?_
      refine aw_iret F C dL_reach_23 rfl (by decide) (by decide) ?_
      first
      | (exfalso; omega)
      | exact h.now (by decide) (r1 (by omega))
      | (obtain ⟨m, hM, hS⟩ := w13
         exact kI (g (by omega) trivial _ _ _ _ c13 (h.fr.tr f13)) hS.1.1.1.symm)
theorem wL_placings (hB : sX σ + 10 < BG) (h : CW V σ ow y S kn) (hK : CK K V σ ow (setR S (wy (0 < tDn (psT S)) True)) kn (some (vI (rfD (wy (0 < tDn (psT S)) True) (zbc (metL (psC S) (fuS (psC S) (psA S)).1)) (-1))))) : Wp G 6 mL_placings [vR 1] (V, σ) 2 63500 K := by
  have hW := h.cs
  have hT1 : V (dT y) 1 = tDn (psT S) := h.tv.1.2.1
  have h2 := h.tr (z := 0) (by decide)
  obtain ⟨g, r1, -⟩ := g3 hK
  have hc := h.oT.okC h.oS
  have hml : metL (psC S) (fuS (psC S) (psA S)).1 < 2 ^ 25 := metL_lt hc _
  refine wp_intro mL_placings_i.1 [some (vR 1)] rfl rfl (Nat.le_of_ble_eq_true rfl) ?_
  intro X hG F C
  have hm := C.rm
  refine aw_aload_0 (q := 1) F dL_placings_0 rfl ?_
  refine aw_aload_0 (q := 2) F dL_placings_1 rfl ?_
  refine av_callV0 (q := 5) (ci := 7) F hm mL_hasLane_i mL_hasLane_n lL_154 dL_placings_2 rfl rfl rfl (by first | exact hW.o | exact hW.ho | exact hW.to | exact hs.o | exact hs.ho | exact hW5.o | exact hW5.ho | exact hW5.s1.o) (by decide) (by decide) (by decide) (Nat.le_of_ble_eq_true rfl) (wL_hasLane hW (fun c2 => ?_) (fun c2 => ?_))
  · refine aw_iconst (q := 6) F dL_placings_5 rfl (by decide) ?_
    refine av_callV2 (q := 9) (ci := 7) F hm mL_passes_i mL_passes_n lL_114 dL_placings_6 rfl rfl rfl (by first | exact hW.o | exact hW.ho | exact hW.to | exact hs.o | exact hs.ho | exact hW5.o | exact hW5.ho | exact hW5.s1.o) (by decide) (by decide) (by decide) (Nat.le_of_ble_eq_true rfl) (wL_passes hW (fun c6 d6 => ?_) (fun c6 => ?_) (fun c6 d6 => ?_))
    · refine aw_if_eq (q := 12) (t := 25) F dL_placings_9 rfl (by decide) (fun c9 => absurd c9 (by decide)) (fun c9 => ?_)
      refine aw_aload_0 (q := 13) F dL_placings_12 rfl ?_
      refine av_callV0 (q := 16) (ci := 7) F hm mL_walkAll_i mL_walkAll_n lL_212 dL_placings_13 rfl rfl rfl (by first | exact hW.o | exact hW.ho | exact hW.to | exact hs.o | exact hs.ho | exact hW5.o | exact hW5.ho | exact hW5.s1.o) (by decide) (Nat.le_refl _) (Nat.le_refl _) (Nat.le_of_ble_eq_true rfl) (wL_walkAll h2 (show 0 < tDn (psT S) by omega) hB (fun v13 sg13 ow13 y13 c13 f13 w13 => ?_))
      have hW5 := c13.cs
      obtain ⟨m, hM, hS⟩ := w13
      have e2 : v13 18 2 = metL (psC S) (fuS (psC S) (psA S)).1 := hS.1.1.2.1
      refine av_geti (q := 19) F fL_215 dL_placings_16 rfl rfl (by first | exact hW.o | exact hW.ho | exact hW.to | exact hs.o | exact hs.ho | exact hW5.o | exact hW5.ho | exact hW5.s1.o) ?_
      rw [e2]
      refine av_callS1 (q := 22) F hm mJI_bitCount_i mJI_bitCount_n lL_222 dL_placings_19 rfl (by decide) (by decide) (by decide) (Nat.le_of_ble_eq_true rfl) (wJI_bitCount (by omega) (by omega) ?_)
      refine aw_goto (t := 26) F dL_placings_22 (by decide) ?_
      refine aw_iret F C dL_placings_26 rfl (by decide) (by decide) ?_
      first
      | (exfalso; omega)
      | exact h.now (by decide) (r1 (by omega))
      | exact g (by omega) trivial _ _ _ _ c13 (h.fr.tr f13)
    · refine aw_if_eq (q := 12) (t := 25) F dL_placings_9 rfl (by decide) (fun c9 => ?_) (fun c9 => absurd c9 (by decide))
      refine aw_iconst (q := 26) F dL_placings_25 rfl (by decide) ?_
      refine aw_iret F C dL_placings_26 rfl (by decide) (by decide) ?_
      first
      | (exfalso; omega)
      | exact h.now (by decide) (r1 (by omega))
      | exact g (by omega) trivial _ _ _ _ c13 (h.fr.tr f13)
    · refine aw_if_eq (q := 12) (t := 25) F dL_placings_9 rfl (by decide) (fun c9 => ?_) (fun c9 => absurd c9 (by decide))
      refine aw_iconst (q := 26) F dL_placings_25 rfl (by decide) ?_
      refine aw_iret F C dL_placings_26 rfl (by decide) (by decide) ?_
      first
      | (exfalso; omega)
      | exact h.now (by decide) (r1 (by omega))
      | exact g (by omega) trivial _ _ _ _ c13 (h.fr.tr f13)
  · refine aw_iconst (q := 6) F dL_placings_5 rfl (by decide) ?_
    refine av_callV2 (q := 9) (ci := 7) F hm mL_passes_i mL_passes_n lL_114 dL_placings_6 rfl rfl rfl (by first | exact hW.o | exact hW.ho | exact hW.to | exact hs.o | exact hs.ho | exact hW5.o | exact hW5.ho | exact hW5.s1.o) (by decide) (by decide) (by decide) (Nat.le_of_ble_eq_true rfl) (wL_passes hW (fun c6 d6 => ?_) (fun c6 => ?_) (fun c6 d6 => ?_))
    · refine aw_if_eq (q := 12) (t := 25) F dL_placings_9 rfl (by decide) (fun c9 => absurd c9 (by decide)) (fun c9 => ?_)
      refine aw_aload_0 (q := 13) F dL_placings_12 rfl ?_
      refine av_callV0 (q := 16) (ci := 7) F hm mL_walkAll_i mL_walkAll_n lL_212 dL_placings_13 rfl rfl rfl (by first | exact hW.o | exact hW.ho | exact hW.to | exact hs.o | exact hs.ho | exact hW5.o | exact hW5.ho | exact hW5.s1.o) (by decide) (Nat.le_refl _) (Nat.le_refl _) (Nat.le_of_ble_eq_true rfl) (wL_walkAll h2 (show 0 < tDn (psT S) by omega) hB (fun v13 sg13 ow13 y13 c13 f13 w13 => ?_))
      have hW5 := c13.cs
      obtain ⟨m, hM, hS⟩ := w13
      have e2 : v13 18 2 = metL (psC S) (fuS (psC S) (psA S)).1 := hS.1.1.2.1
      refine av_geti (q := 19) F fL_215 dL_placings_16 rfl rfl (by first | exact hW.o | exact hW.ho | exact hW.to | exact hs.o | exact hs.ho | exact hW5.o | exact hW5.ho | exact hW5.s1.o) ?_
      rw [e2]
      refine av_callS1 (q := 22) F hm mJI_bitCount_i mJI_bitCount_n lL_222 dL_placings_19 rfl (by decide) (by decide) (by decide) (Nat.le_of_ble_eq_true rfl) (wJI_bitCount (by omega) (by omega) ?_)
      refine aw_goto (t := 26) F dL_placings_22 (by decide) ?_
      refine aw_iret F C dL_placings_26 rfl (by decide) (by decide) ?_
      first
      | (exfalso; omega)
      | exact h.now (by decide) (r1 (by omega))
      | exact g (by omega) trivial _ _ _ _ c13 (h.fr.tr f13)
    · refine aw_if_eq (q := 12) (t := 25) F dL_placings_9 rfl (by decide) (fun c9 => ?_) (fun c9 => absurd c9 (by decide))
      refine aw_iconst (q := 26) F dL_placings_25 rfl (by decide) ?_
      refine aw_iret F C dL_placings_26 rfl (by decide) (by decide) ?_
      first
      | (exfalso; omega)
      | exact h.now (by decide) (r1 (by omega))
      | exact g (by omega) trivial _ _ _ _ c13 (h.fr.tr f13)
    · refine aw_if_eq (q := 12) (t := 25) F dL_placings_9 rfl (by decide) (fun c9 => ?_) (fun c9 => absurd c9 (by decide))
      refine aw_iconst (q := 26) F dL_placings_25 rfl (by decide) ?_
      refine aw_iret F C dL_placings_26 rfl (by decide) (by decide) ?_
      first
      | (exfalso; omega)
      | exact h.now (by decide) (r1 (by omega))
      | exact g (by omega) trivial _ _ _ _ c13 (h.fr.tr f13)
theorem wL_stuckOnes (hB : sX σ + 10 < BG) (h : CW V σ ow y S kn) (hK : CK K V σ ow (setR S (wy (0 < tDn (psT S)) True)) kn (some (vI (rfD (wy (0 < tDn (psT S)) True) (fuS (psC S) (psA S)).2.2 (-1))))) : Wp G 6 mL_stuckOnes [vR 1] (V, σ) 2 63500 K := by
  have hW := h.cs
  have hT1 : V (dT y) 1 = tDn (psT S) := h.tv.1.2.1
  have h2 := h.tr (z := 0) (by decide)
  obtain ⟨g, r1, -⟩ := g3 hK
  have hc := h.oT.okC h.oS
  refine wp_intro mL_stuckOnes_i.1 [some (vR 1)] rfl rfl (Nat.le_of_ble_eq_true rfl) ?_
  intro X hG F C
  have hm := C.rm
  refine aw_aload_0 (q := 1) F dL_stuckOnes_0 rfl ?_
  refine aw_aload_0 (q := 2) F dL_stuckOnes_1 rfl ?_
  refine av_callV0 (q := 5) (ci := 7) F hm mL_hasLane_i mL_hasLane_n lL_154 dL_stuckOnes_2 rfl rfl rfl (by first | exact hW.o | exact hW.ho | exact hW.to | exact hs.o | exact hs.ho | exact hW5.o | exact hW5.ho | exact hW5.s1.o) (by decide) (by decide) (by decide) (Nat.le_of_ble_eq_true rfl) (wL_hasLane hW (fun c2 => ?_) (fun c2 => ?_))
  · refine aw_iconst (q := 6) F dL_stuckOnes_5 rfl (by decide) ?_
    refine av_callV2 (q := 9) (ci := 7) F hm mL_passes_i mL_passes_n lL_114 dL_stuckOnes_6 rfl rfl rfl (by first | exact hW.o | exact hW.ho | exact hW.to | exact hs.o | exact hs.ho | exact hW5.o | exact hW5.ho | exact hW5.s1.o) (by decide) (by decide) (by decide) (Nat.le_of_ble_eq_true rfl) (wL_passes hW (fun c6 d6 => ?_) (fun c6 => ?_) (fun c6 d6 => ?_))
    · refine aw_if_eq (q := 12) (t := 22) F dL_stuckOnes_9 rfl (by decide) (fun c9 => absurd c9 (by decide)) (fun c9 => ?_)
      refine aw_aload_0 (q := 13) F dL_stuckOnes_12 rfl ?_
      refine av_callV0 (q := 16) (ci := 7) F hm mL_walkAll_i mL_walkAll_n lL_212 dL_stuckOnes_13 rfl rfl rfl (by first | exact hW.o | exact hW.ho | exact hW.to | exact hs.o | exact hs.ho | exact hW5.o | exact hW5.ho | exact hW5.s1.o) (by decide) (Nat.le_refl _) (Nat.le_refl _) (Nat.le_of_ble_eq_true rfl) (wL_walkAll h2 (show 0 < tDn (psT S) by omega) hB (fun v13 sg13 ow13 y13 c13 f13 w13 => ?_))
      have hW5 := c13.cs
      refine av_geti (q := 19) F fL_227 dL_stuckOnes_16 rfl rfl (by first | exact hW.o | exact hW.ho | exact hW.to | exact hs.o | exact hs.ho | exact hW5.o | exact hW5.ho | exact hW5.s1.o) ?_
      refine aw_goto (t := 23) F dL_stuckOnes_19 (by decide) ?_
      refine aw_iret F C dL_stuckOnes_23 rfl (by decide) (by decide) ?_
      first
      | (exfalso; omega)
      | exact h.now (by decide) (r1 (by omega))
      | (obtain ⟨m, hM, hS⟩ := w13
         exact kI (g (by omega) trivial _ _ _ _ c13 (h.fr.tr f13)) hS.1.2.2.symm)
    · refine aw_if_eq (q := 12) (t := 22) F dL_stuckOnes_9 rfl (by decide) (fun c9 => ?_) (fun c9 => absurd c9 (by decide))
      refine aw_iconst (q := 23) F dL_stuckOnes_22 rfl (by decide) ?_
      refine aw_iret F C dL_stuckOnes_23 rfl (by decide) (by decide) ?_
      first
      | (exfalso; omega)
      | exact h.now (by decide) (r1 (by omega))
      | (obtain ⟨m, hM, hS⟩ := w13
         exact kI (g (by omega) trivial _ _ _ _ c13 (h.fr.tr f13)) hS.1.2.2.symm)
    · refine aw_if_eq (q := 12) (t := 22) F dL_stuckOnes_9 rfl (by decide) (fun c9 => ?_) (fun c9 => absurd c9 (by decide))
      refine aw_iconst (q := 23) F dL_stuckOnes_22 rfl (by decide) ?_
      refine aw_iret F C dL_stuckOnes_23 rfl (by decide) (by decide) ?_
      first
      | (exfalso; omega)
      | exact h.now (by decide) (r1 (by omega))
      | (obtain ⟨m, hM, hS⟩ := w13
         exact kI (g (by omega) trivial _ _ _ _ c13 (h.fr.tr f13)) hS.1.2.2.symm)
  · refine aw_iconst (q := 6) F dL_stuckOnes_5 rfl (by decide) ?_
    refine av_callV2 (q := 9) (ci := 7) F hm mL_passes_i mL_passes_n lL_114 dL_stuckOnes_6 rfl rfl rfl (by first | exact hW.o | exact hW.ho | exact hW.to | exact hs.o | exact hs.ho | exact hW5.o | exact hW5.ho | exact hW5.s1.o) (by decide) (by decide) (by decide) (Nat.le_of_ble_eq_true rfl) (wL_passes hW (fun c6 d6 => ?_) (fun c6 => ?_) (fun c6 d6 => ?_))
    · refine aw_if_eq (q := 12) (t := 22) F dL_stuckOnes_9 rfl (by decide) (fun c9 => absurd c9 (by decide)) (fun c9 => ?_)
      refine aw_aload_0 (q := 13) F dL_stuckOnes_12 rfl ?_
      refine av_callV0 (q := 16) (ci := 7) F hm mL_walkAll_i mL_walkAll_n lL_212 dL_stuckOnes_13 rfl rfl rfl (by first | exact hW.o | exact hW.ho | exact hW.to | exact hs.o | exact hs.ho | exact hW5.o | exact hW5.ho | exact hW5.s1.o) (by decide) (Nat.le_refl _) (Nat.le_refl _) (Nat.le_of_ble_eq_true rfl) (wL_walkAll h2 (show 0 < tDn (psT S) by omega) hB (fun v13 sg13 ow13 y13 c13 f13 w13 => ?_))
      have hW5 := c13.cs
      refine av_geti (q := 19) F fL_227 dL_stuckOnes_16 rfl rfl (by first | exact hW.o | exact hW.ho | exact hW.to | exact hs.o | exact hs.ho | exact hW5.o | exact hW5.ho | exact hW5.s1.o) ?_
      refine aw_goto (t := 23) F dL_stuckOnes_19 (by decide) ?_
      refine aw_iret F C dL_stuckOnes_23 rfl (by decide) (by decide) ?_
      first
      | (exfalso; omega)
      | exact h.now (by decide) (r1 (by omega))
      | (obtain ⟨m, hM, hS⟩ := w13
         exact kI (g (by omega) trivial _ _ _ _ c13 (h.fr.tr f13)) hS.1.2.2.symm)
    · refine aw_if_eq (q := 12) (t := 22) F dL_stuckOnes_9 rfl (by decide) (fun c9 => ?_) (fun c9 => absurd c9 (by decide))
      refine aw_iconst (q := 23) F dL_stuckOnes_22 rfl (by decide) ?_
      refine aw_iret F C dL_stuckOnes_23 rfl (by decide) (by decide) ?_
      first
      | (exfalso; omega)
      | exact h.now (by decide) (r1 (by omega))
      | (obtain ⟨m, hM, hS⟩ := w13
         exact kI (g (by omega) trivial _ _ _ _ c13 (h.fr.tr f13)) hS.1.2.2.symm)
    · refine aw_if_eq (q := 12) (t := 22) F dL_stuckOnes_9 rfl (by decide) (fun c9 => ?_) (fun c9 => absurd c9 (by decide))
      refine aw_iconst (q := 23) F dL_stuckOnes_22 rfl (by decide) ?_
      refine aw_iret F C dL_stuckOnes_23 rfl (by decide) (by decide) ?_
      first
      | (exfalso; omega)
      | exact h.now (by decide) (r1 (by omega))
      | (obtain ⟨m, hM, hS⟩ := w13
         exact kI (g (by omega) trivial _ _ _ _ c13 (h.fr.tr f13)) hS.1.2.2.symm)
theorem wL_deepest (hB : sX σ + 10 < BG) (h : CW V σ ow y S kn) (hK : CK K V σ ow (setR S (wy (0 < tDn (psT S)) True)) kn (some (vI (rfD (wy (0 < tDn (psT S)) True) (dpE (fuS (psC S) (psA S)).1 ((fuS (psC S) (psA S)).1.length - 1)) (-1))))) : Wp G 6 mL_deepest [vR 1] (V, σ) 2 63500 K := by
  have hW := h.cs
  have hT1 : V (dT y) 1 = tDn (psT S) := h.tv.1.2.1
  have h2 := h.tr (z := 0) (by decide)
  obtain ⟨g, r1, -⟩ := g3 hK
  have hc := h.oT.okC h.oS
  refine wp_intro mL_deepest_i.1 [some (vR 1), none] rfl rfl (Nat.le_of_ble_eq_true rfl) ?_
  intro X hG F C
  have hm := C.rm
  have go : 0 < tDn (psT S) → AW X 14 [some (vR 1), none] [] (up2 V 1 2 0, σ) 0 0 := by
    intro hd
    have hsp : psA S < spc (psC S) := h.oS.2.2.2.1 hd
    have hlen := okQ_len (fu_ok hsp)
    have hsl : spc (psC S) ≤ 62500 := spc_le hc
    have hpos : 0 < (fuS (psC S) (psA S)).1.length := by
      obtain ⟨M, hM⟩ := it_pre hsp 0
      rw [hM, List.length_append]
      show 0 < 1 + M.length
      omega
    refine aw_aload_0 (q := 15) F dL_deepest_14 rfl ?_
    refine av_callV0 (q := 18) (ci := 7) F hm mL_walkAll_i mL_walkAll_n lL_212 dL_deepest_15 rfl rfl rfl (by first | exact hW.o | exact hW.ho | exact hW.to | exact hs.o | exact hs.ho | exact hW5.o | exact hW5.ho | exact hW5.s1.o) (by decide) (Nat.le_refl _) (Nat.le_refl _) (Nat.le_of_ble_eq_true rfl) (wL_walkAll h2 hd hB (fun v15 sg15 ow15 y15 c15 f15 w15 => ?_))
    have hW5 := c15.cs
    obtain ⟨m, hM, hS⟩ := w15
    have hS : SQ v15 18 (dQ1 y15) (dK1 y15) (dL1 y15) (psC S) (fuS (psC S) (psA S)) m := hS
    have e1 : v15 18 1 = (fuS (psC S) (psA S)).1.length := hS.1.1.1
    have hs : sS sg15 18 (dQ1 y15) (dK1 y15) (dL1 y15) := by have := c15.cs.s1; rw [hM] at this; exact this
    refine aw_astore_1 (q := 19) F dL_deepest_18 rfl trivial ?_
    refine aw_aload_1 (q := 20) F dL_deepest_19 rfl ?_
    refine aw_aload_1 (q := 21) F dL_deepest_20 rfl ?_
    refine av_geti (q := 24) F fL_219 dL_deepest_21 rfl rfl (by first | exact hW.o | exact hW.ho | exact hW.to | exact hs.o | exact hs.ho | exact hW5.o | exact hW5.ho | exact hW5.s1.o) ?_
    rw [e1]
    refine aw_iconst (q := 25) F dL_deepest_24 rfl (by decide) ?_
    refine aw_isub (q := 26) F dL_deepest_25 rfl (by constructor <;> omega) ?_
    refine av_callV1 (q := 29) (ci := 5) F hm mS_depthOf_i mS_depthOf_n lL_190 dL_deepest_26 rfl rfl rfl (by first | exact hW.o | exact hW.ho | exact hW.to | exact hs.o | exact hs.ho | exact hW5.o | exact hW5.ho | exact hW5.s1.o) (by decide) (by decide) (by decide) (Nat.le_of_ble_eq_true rfl) (wS_depthOf (c := psC S) hs hS.1.1 (fu_ok hsp).2.2 (fun i26 x26 l26 => ?_) (fun n26 => ?_))
    · refine aw_iret F C dL_deepest_29 rfl (by decide) (by decide) ?_
      first
      | exact absurd ⟨by omega, by omega⟩ n26
      | (refine kI (g hd trivial _ _ _ _ c15 (h.fr.tr f15)) ?_
         unfold dpE
         rw [show (fuS (psC S) (psA S)).1.length - 1 = i26 by omega])
    · refine aw_iret F C dL_deepest_29 rfl (by decide) (by decide) ?_
      first
      | exact absurd ⟨by omega, by omega⟩ n26
      | (refine kI (g hd trivial _ _ _ _ c15 (h.fr.tr f15)) ?_
         unfold dpE
         rw [show (fuS (psC S) (psA S)).1.length - 1 = i26 by omega])
  refine aw_aload_0 (q := 1) F dL_deepest_0 rfl ?_
  refine aw_aload_0 (q := 2) F dL_deepest_1 rfl ?_
  refine av_callV0 (q := 5) (ci := 7) F hm mL_hasLane_i mL_hasLane_n lL_154 dL_deepest_2 rfl rfl rfl (by first | exact hW.o | exact hW.ho | exact hW.to | exact hs.o | exact hs.ho | exact hW5.o | exact hW5.ho | exact hW5.s1.o) (by decide) (by decide) (by decide) (Nat.le_of_ble_eq_true rfl) (wL_hasLane hW (fun c2 => ?_) (fun c2 => ?_))
  · refine aw_iconst (q := 6) F dL_deepest_5 rfl (by decide) ?_
    refine av_callV2 (q := 9) (ci := 7) F hm mL_passes_i mL_passes_n lL_114 dL_deepest_6 rfl rfl rfl (by first | exact hW.o | exact hW.ho | exact hW.to | exact hs.o | exact hs.ho | exact hW5.o | exact hW5.ho | exact hW5.s1.o) (by decide) (by decide) (by decide) (Nat.le_of_ble_eq_true rfl) (wL_passes hW (fun c6 d6 => ?_) (fun c6 => ?_) (fun c6 d6 => ?_))
    · refine aw_if_ne (q := 12) (t := 14) F dL_deepest_9 rfl (by decide) (fun c9 => ?_) (fun c9 => absurd c9 (by decide))
      first | (exfalso; omega) | exact go (by omega)
    · refine aw_if_ne (q := 12) (t := 14) F dL_deepest_9 rfl (by decide) (fun c9 => absurd c9 (by decide)) (fun c9 => ?_)
      refine aw_iconst (q := 13) F dL_deepest_12 rfl (by decide) ?_
      refine aw_iret F C dL_deepest_13 rfl (by decide) (by decide) ?_
      first | (exfalso; omega) | exact h.now (by decide) (r1 (by omega))
    · refine aw_if_ne (q := 12) (t := 14) F dL_deepest_9 rfl (by decide) (fun c9 => absurd c9 (by decide)) (fun c9 => ?_)
      refine aw_iconst (q := 13) F dL_deepest_12 rfl (by decide) ?_
      refine aw_iret F C dL_deepest_13 rfl (by decide) (by decide) ?_
      first | (exfalso; omega) | exact h.now (by decide) (r1 (by omega))
  · refine aw_iconst (q := 6) F dL_deepest_5 rfl (by decide) ?_
    refine av_callV2 (q := 9) (ci := 7) F hm mL_passes_i mL_passes_n lL_114 dL_deepest_6 rfl rfl rfl (by first | exact hW.o | exact hW.ho | exact hW.to | exact hs.o | exact hs.ho | exact hW5.o | exact hW5.ho | exact hW5.s1.o) (by decide) (by decide) (by decide) (Nat.le_of_ble_eq_true rfl) (wL_passes hW (fun c6 d6 => ?_) (fun c6 => ?_) (fun c6 d6 => ?_))
    · refine aw_if_ne (q := 12) (t := 14) F dL_deepest_9 rfl (by decide) (fun c9 => ?_) (fun c9 => absurd c9 (by decide))
      first | (exfalso; omega) | exact go (by omega)
    · refine aw_if_ne (q := 12) (t := 14) F dL_deepest_9 rfl (by decide) (fun c9 => absurd c9 (by decide)) (fun c9 => ?_)
      refine aw_iconst (q := 13) F dL_deepest_12 rfl (by decide) ?_
      refine aw_iret F C dL_deepest_13 rfl (by decide) (by decide) ?_
      first | (exfalso; omega) | exact h.now (by decide) (r1 (by omega))
    · refine aw_if_ne (q := 12) (t := 14) F dL_deepest_9 rfl (by decide) (fun c9 => absurd c9 (by decide)) (fun c9 => ?_)
      refine aw_iconst (q := 13) F dL_deepest_12 rfl (by decide) ?_
      refine aw_iret F C dL_deepest_13 rfl (by decide) (by decide) ?_
      first | (exfalso; omega) | exact h.now (by decide) (r1 (by omega))
theorem wL_comes {p : Int} (hB : sX σ + 10 < BG) (h : CW V σ ow y S kn) (hK : CK K V σ ow (setR S (wy (0 ≤ p ∧ p < tPn (psT S)) True)) kn (some (vI (rfD (wy (0 ≤ p ∧ p < tPn (psT S)) True) (bsum (fun l => (fuS (psC S) (psA S)).1.any (fitP (psC S) (plW S p l))) (tDn (psT S) + 1)) (-1))))) : Wp G 6 mL_comes [vR 1, vI p] (V, σ) 2 63500 K := by
  have hW := h.cs
  have hT1 : V (dT y) 1 = tDn (psT S) := h.tv.1.2.1
  have h2 := h.tr (z := 0) (by decide)
  obtain ⟨g, r1, -⟩ := g3 hK
  have hc := h.oT.okC h.oS
  have hv1 := h.v1
  have hd4 : tDn (psT S) ≤ 4 := h.oT.2.1
  have hml : metL (psC S) (fuS (psC S) (psA S)).1 < 2 ^ 25 := metL_lt hc _
  have hpd : 0 < tPn (psT S) → 0 < tDn (psT S) := fun q => Nat.pos_of_ne_zero fun e => by have := (h.oT.2.2.2.2.2.2.1 e).2.1; omega
  refine wp_intro mL_comes_i.1 [some (vR 1), some (vI p), none, none, none] rfl rfl (Nat.le_of_ble_eq_true rfl) ?_
  intro X hG F C
  have hm := C.rm
  have go : 0 ≤ p ∧ p < tPn (psT S) → AW X 18 [some (vR 1), some (vI p), none, none, none] [] (up2 V 1 2 0, σ) 0 0 := by
    intro hp
    have hd := hpd (by omega)
    have loop : ∀ (V1 : Nat → Nat → Int) (σ1 : Shp) (ow1 : Nat → Nat) (y1 : Dy), CW V1 σ1 ow1 y1 (setR S 0) kn → FR V V1 σ σ1 ow ow1 → ∀ (j l : Nat), tDn (psT S) + 1 - l = j → l ≤ tDn (psT S) + 1 → ∀ (z w : Int), z = bsum (fun l => (fuS (psC S) (psA S)).1.any (fitP (psC S) (plW S p l))) l → w = l → AW X 31 [some (vR 1), some (vI p), some (vI (metL (psC S) (fuS (psC S) (psA S)).1)), some (vI z), some (vI w)] [] (V1, σ1) (0 + 2) (0 + 63500) := by
      intro V1 σ1 ow1 y1 c1 f1 j
      have hW := c1.cs
      have hv0 : V1 10 0 = tDn (psT S) := c1.v0
      induction j using Nat.strongRecOn with
      | ind j ih =>
        intro l hj hl z w hz hw
        have hmf := met_fit (psC S) (plW S p l) (fuS (psC S) (psA S)).1
        have hbo := bsum_or (fun l => (fuS (psC S) (psA S)).1.any (fitP (psC S) (plW S p l))) l
        have hbl := bsum_lt (fun l => (fuS (psC S) (psA S)).1.any (fitP (psC S) (plW S p l))) (l + 1)
        have h2l : 2 ^ (l + 1) ≤ 2 ^ 6 := Nat.pow_le_pow_right (by decide) (by omega)
        have hza : zand (metL (psC S) (fuS (psC S) (psA S)).1) (plW S p l) = (metL (psC S) (fuS (psC S) (psA S)).1 &&& plW S p l : Nat) := zand_n (Nat.lt_of_le_of_lt Nat.and_le_left (by omega))
        refine aw_iload_4 (q := 33) F dL_comes_31 rfl ?_
        refine aw_aload_0 (q := 34) F dL_comes_33 rfl ?_
        refine av_getaE (q := 37) F fL_23 dL_comes_34 rfl rfl (by first | exact hW.o | exact hW.ho | exact hW.to | exact hs.o | exact hs.ho | exact hW5.o | exact hW5.ho | exact hW5.s1.o) (by first | exact hW.p6 | exact hW5.p6) ?_
        refine av_geti (q := 40) F fL_218 dL_comes_37 rfl rfl (by first | exact hW.o | exact hW.ho | exact hW.to | exact hs.o | exact hs.ho | exact hW5.o | exact hW5.ho | exact hW5.s1.o) ?_
        refine aw_icmp_gt (q := 43) (t := 71) F dL_comes_40 rfl (by decide) (fun c40 => ?_) (fun c40 => ?_)
        · refine aw_iload_3 (q := 72) F dL_comes_71 rfl ?_
          refine aw_iret F C dL_comes_72 rfl (by decide) (by decide) ?_
          refine kI (g hp trivial _ _ _ _ c1 f1) ?_; rw [hz, show l = tDn (psT S) + 1 by omega]
        · refine aw_iload_2 (q := 44) F dL_comes_43 rfl ?_
          refine aw_aload_0 (q := 45) F dL_comes_44 rfl ?_
          refine av_getaE (q := 48) F fL_23 dL_comes_45 rfl rfl (by first | exact hW.o | exact hW.ho | exact hW.to | exact hs.o | exact hs.ho | exact hW5.o | exact hW5.ho | exact hW5.s1.o) (by first | exact hW.p6 | exact hW5.p6) ?_
          refine aw_iload_1 (q := 49) F dL_comes_48 rfl ?_
          refine aw_iload_4 (q := 51) F dL_comes_49 rfl ?_
          refine av_callV2 (q := 54) (ci := 2) F hm mH_placingsWith_i mH_placingsWith_n lL_209 dL_comes_51 rfl rfl rfl (by first | exact hW.o | exact hW.ho | exact hW.to | exact hs.o | exact hs.ho | exact hW5.o | exact hW5.ho | exact hW5.s1.o) (by decide) (by decide) (by decide) (Nat.le_of_ble_eq_true rfl) (wH_placingsWith hW.h (show HH V1 10 (psC S) (psA S) from c1.hh) ?_)
          rw [hw]; change AW X 54 _ (vI ((plW S p l : Nat) : Int) :: _) _ _ _
          refine aw_iand (q := 55) F dL_comes_54 rfl ?_
          rw [hza]
          refine aw_if_eq (q := 58) (t := 65) F dL_comes_55 rfl (by decide) (fun c55 => ?_) (fun c55 => ?_)
          · refine aw_iinc_4 (q := 68) F dL_comes_65 rfl trivial (by constructor <;> omega) ?_
            refine aw_goto (t := 31) F dL_comes_68 (by decide) ?_
            refine ih _ (by omega) (l + 1) rfl (by omega) _ _ ?_ (by omega)
            first
            | (rw [← hbo, if_neg (by rw [hmf.mp (by omega)]; decide), Nat.or_zero]; exact hz)
            | (have ha : (fuS (psC S) (psA S)).1.any (fitP (psC S) (plW S p l)) = true := Decidable.byContradiction fun q => by have := hmf.mpr (by simpa using q); omega
               rw [if_pos ha] at hbo
               rw [zor_n (by rw [hbo]; omega), hbo])
          · refine aw_iload_3 (q := 59) F dL_comes_58 rfl ?_
            refine aw_iconst (q := 60) F dL_comes_59 rfl (by decide) ?_
            refine aw_iload_4 (q := 62) F dL_comes_60 rfl ?_
            refine aw_ishl (q := 63) F dL_comes_62 rfl ?_
            rw [shl1 (by omega) (by omega), hz, Int.toNat_natCast]
            refine aw_ior (q := 64) F dL_comes_63 rfl ?_
            refine aw_istore_3 (q := 65) F dL_comes_64 rfl trivial ?_
            refine aw_iinc_4 (q := 68) F dL_comes_65 rfl trivial (by constructor <;> omega) ?_
            refine aw_goto (t := 31) F dL_comes_68 (by decide) ?_
            refine ih _ (by omega) (l + 1) rfl (by omega) _ _ ?_ (by omega)
            first
            | (rw [← hbo, if_neg (by rw [hmf.mp (by omega)]; decide), Nat.or_zero]; exact hz)
            | (have ha : (fuS (psC S) (psA S)).1.any (fitP (psC S) (plW S p l)) = true := Decidable.byContradiction fun q => by have := hmf.mpr (by simpa using q); omega
               rw [if_pos ha] at hbo
               rw [zor_n (by rw [hbo]; omega), hbo])
    refine aw_aload_0 (q := 19) F dL_comes_18 rfl ?_
    refine av_callV0 (q := 22) (ci := 7) F hm mL_walkAll_i mL_walkAll_n lL_212 dL_comes_19 rfl rfl rfl (by first | exact hW.o | exact hW.ho | exact hW.to | exact hs.o | exact hs.ho | exact hW5.o | exact hW5.ho | exact hW5.s1.o) (by decide) (Nat.le_refl _) (Nat.le_refl _) (Nat.le_of_ble_eq_true rfl) (wL_walkAll h2 hd hB (fun v19 sg19 ow19 y19 c19 f19 w19 => ?_))
    have hW5 := c19.cs
    obtain ⟨m, hM, hS⟩ := w19
    have e2 : v19 18 2 = metL (psC S) (fuS (psC S) (psA S)).1 := hS.1.1.2.1
    refine av_geti (q := 25) F fL_215 dL_comes_22 rfl rfl (by first | exact hW.o | exact hW.ho | exact hW.to | exact hs.o | exact hs.ho | exact hW5.o | exact hW5.ho | exact hW5.s1.o) ?_
    rw [e2]
    refine aw_istore_2 (q := 26) F dL_comes_25 rfl trivial ?_
    refine aw_iconst (q := 27) F dL_comes_26 rfl (by decide) ?_
    refine aw_istore_3 (q := 28) F dL_comes_27 rfl trivial ?_
    refine aw_iconst (q := 29) F dL_comes_28 rfl (by decide) ?_
    refine aw_istore_4 (q := 31) F dL_comes_29 rfl trivial ?_
    exact loop _ _ _ _ c19 (h.fr.tr f19) _ 0 rfl (by omega) _ _ rfl rfl
  refine aw_aload_0 (q := 1) F dL_comes_0 rfl ?_
  refine aw_aload_0 (q := 2) F dL_comes_1 rfl ?_
  refine av_getaE (q := 5) F fL_23 dL_comes_2 rfl rfl (by first | exact hW.o | exact hW.ho | exact hW.to | exact hs.o | exact hs.ho | exact hW5.o | exact hW5.ho | exact hW5.s1.o) (by first | exact hW.p6 | exact hW5.p6) ?_
  refine aw_iload_1 (q := 6) F dL_comes_5 rfl ?_
  refine av_callV1 (q := 9) (ci := 2) F hm mH_isPerson_i mH_isPerson_n lL_136 dL_comes_6 rfl rfl rfl (by first | exact hW.o | exact hW.ho | exact hW.to | exact hs.o | exact hs.ho | exact hW5.o | exact hW5.ho | exact hW5.s1.o) (by decide) (by decide) (by decide) (Nat.le_of_ble_eq_true rfl) (wH_isPerson hW.h (fun c6 => ?_) (fun c6 => ?_))
  · refine aw_iconst (q := 10) F dL_comes_9 rfl (by decide) ?_
    refine av_callV2 (q := 13) (ci := 7) F hm mL_passes_i mL_passes_n lL_114 dL_comes_10 rfl rfl rfl (by first | exact hW.o | exact hW.ho | exact hW.to | exact hs.o | exact hs.ho | exact hW5.o | exact hW5.ho | exact hW5.s1.o) (by decide) (by decide) (by decide) (Nat.le_of_ble_eq_true rfl) (wL_passes hW (fun c10 d10 => ?_) (fun c10 => ?_) (fun c10 d10 => ?_))
    · refine aw_if_ne (q := 16) (t := 18) F dL_comes_13 rfl (by decide) (fun c13 => ?_) (fun c13 => absurd c13 (by decide))
      first | (exfalso; omega) | exact go (by omega)
    · refine aw_if_ne (q := 16) (t := 18) F dL_comes_13 rfl (by decide) (fun c13 => absurd c13 (by decide)) (fun c13 => ?_)
      refine aw_iconst (q := 17) F dL_comes_16 rfl (by decide) ?_
      refine aw_iret F C dL_comes_17 rfl (by decide) (by decide) ?_
      first | (exfalso; omega) | exact h.now (by decide) (r1 (by omega))
    · refine aw_if_ne (q := 16) (t := 18) F dL_comes_13 rfl (by decide) (fun c13 => absurd c13 (by decide)) (fun c13 => ?_)
      refine aw_iconst (q := 17) F dL_comes_16 rfl (by decide) ?_
      refine aw_iret F C dL_comes_17 rfl (by decide) (by decide) ?_
      first | (exfalso; omega) | exact h.now (by decide) (r1 (by omega))
  · refine aw_iconst (q := 10) F dL_comes_9 rfl (by decide) ?_
    refine av_callV2 (q := 13) (ci := 7) F hm mL_passes_i mL_passes_n lL_114 dL_comes_10 rfl rfl rfl (by first | exact hW.o | exact hW.ho | exact hW.to | exact hs.o | exact hs.ho | exact hW5.o | exact hW5.ho | exact hW5.s1.o) (by decide) (by decide) (by decide) (Nat.le_of_ble_eq_true rfl) (wL_passes hW (fun c10 d10 => ?_) (fun c10 => ?_) (fun c10 d10 => ?_))
    · refine aw_if_ne (q := 16) (t := 18) F dL_comes_13 rfl (by decide) (fun c13 => ?_) (fun c13 => absurd c13 (by decide))
      first | (exfalso; omega) | exact go (by omega)
    · refine aw_if_ne (q := 16) (t := 18) F dL_comes_13 rfl (by decide) (fun c13 => absurd c13 (by decide)) (fun c13 => ?_)
      refine aw_iconst (q := 17) F dL_comes_16 rfl (by decide) ?_
      refine aw_iret F C dL_comes_17 rfl (by decide) (by decide) ?_
      first | (exfalso; omega) | exact h.now (by decide) (r1 (by omega))
    · refine aw_if_ne (q := 16) (t := 18) F dL_comes_13 rfl (by decide) (fun c13 => absurd c13 (by decide)) (fun c13 => ?_)
      refine aw_iconst (q := 17) F dL_comes_16 rfl (by decide) ?_
      refine aw_iret F C dL_comes_17 rfl (by decide) (by decide) ?_
      first | (exfalso; omega) | exact h.now (by decide) (r1 (by omega))
end Walk2
