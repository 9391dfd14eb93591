theorem dM_choicesNow_0 : decode mM_choicesNow.2.1 0 = .ok (.iconst 0, 1) := by decide +kernel
theorem dM_choicesNow_1 : decode mM_choicesNow.2.1 1 = .ok (.istore_n 1, 1) := by decide +kernel
theorem dM_choicesNow_2 : decode mM_choicesNow.2.1 2 = .ok (.iconst 0, 1) := by decide +kernel
theorem dM_choicesNow_3 : decode mM_choicesNow.2.1 3 = .ok (.istore_n 2, 1) := by decide +kernel
theorem dM_choicesNow_4 : decode mM_choicesNow.2.1 4 = .ok (.iload_n 2, 1) := by decide +kernel
theorem dM_choicesNow_5 : decode mM_choicesNow.2.1 5 = .ok (.aload_n 0, 1) := by decide +kernel
theorem dM_choicesNow_6 : decode mM_choicesNow.2.1 6 = .ok (.invokevirtual 336, 3) := by decide +kernel
theorem dM_choicesNow_9 : decode mM_choicesNow.2.1 9 = .ok (.if_icmp .ge 25, 3) := by decide +kernel
theorem dM_choicesNow_12 : decode mM_choicesNow.2.1 12 = .ok (.iload_n 1, 1) := by decide +kernel
theorem dM_choicesNow_13 : decode mM_choicesNow.2.1 13 = .ok (.aload_n 0, 1) := by decide +kernel
theorem dM_choicesNow_14 : decode mM_choicesNow.2.1 14 = .ok (.iload_n 2, 1) := by decide +kernel
theorem dM_choicesNow_15 : decode mM_choicesNow.2.1 15 = .ok (.invokevirtual 342, 3) := by decide +kernel
theorem dM_choicesNow_18 : decode mM_choicesNow.2.1 18 = .ok (.ifCond .eq 7, 3) := by decide +kernel
theorem dM_choicesNow_21 : decode mM_choicesNow.2.1 21 = .ok (.iconst 1, 1) := by decide +kernel
theorem dM_choicesNow_22 : decode mM_choicesNow.2.1 22 = .ok (.goto 4, 3) := by decide +kernel
theorem dM_choicesNow_25 : decode mM_choicesNow.2.1 25 = .ok (.iconst 0, 1) := by decide +kernel
theorem dM_choicesNow_26 : decode mM_choicesNow.2.1 26 = .ok (.iadd, 1) := by decide +kernel
theorem dM_choicesNow_27 : decode mM_choicesNow.2.1 27 = .ok (.istore_n 1, 1) := by decide +kernel
theorem dM_choicesNow_28 : decode mM_choicesNow.2.1 28 = .ok (.iinc 2 1, 3) := by decide +kernel
theorem dM_choicesNow_31 : decode mM_choicesNow.2.1 31 = .ok (.goto (-27), 3) := by decide +kernel
theorem dM_choicesNow_34 : decode mM_choicesNow.2.1 34 = .ok (.iload_n 1, 1) := by decide +kernel
theorem dM_choicesNow_35 : decode mM_choicesNow.2.1 35 = .ok (.ireturn, 1) := by decide +kernel
theorem dM_choices_0 : decode mM_choices.2.1 0 = .ok (.aload_n 0, 1) := by decide +kernel
theorem dM_choices_1 : decode mM_choices.2.1 1 = .ok (.iconst 0, 1) := by decide +kernel
theorem dM_choices_2 : decode mM_choices.2.1 2 = .ok (.putfield 46, 3) := by decide +kernel
theorem dM_choices_5 : decode mM_choices.2.1 5 = .ok (.aload_n 0, 1) := by decide +kernel
theorem dM_choices_6 : decode mM_choices.2.1 6 = .ok (.getfield 281, 3) := by decide +kernel
theorem dM_choices_9 : decode mM_choices.2.1 9 = .ok (.ifnonnull 9, 3) := by decide +kernel
theorem dM_choices_12 : decode mM_choices.2.1 12 = .ok (.aload_n 0, 1) := by decide +kernel
theorem dM_choices_13 : decode mM_choices.2.1 13 = .ok (.iconst 1, 1) := by decide +kernel
theorem dM_choices_14 : decode mM_choices.2.1 14 = .ok (.invokevirtual 52, 3) := by decide +kernel
theorem dM_choices_17 : decode mM_choices.2.1 17 = .ok (.ireturn, 1) := by decide +kernel
theorem dM_choices_18 : decode mM_choices.2.1 18 = .ok (.aload_n 0, 1) := by decide +kernel
theorem dM_choices_19 : decode mM_choices.2.1 19 = .ok (.invokevirtual 348, 3) := by decide +kernel
theorem dM_choices_22 : decode mM_choices.2.1 22 = .ok (.aload_n 0, 1) := by decide +kernel
theorem dM_choices_23 : decode mM_choices.2.1 23 = .ok (.aload_n 0, 1) := by decide +kernel
theorem dM_choices_24 : decode mM_choices.2.1 24 = .ok (.invokevirtual 364, 3) := by decide +kernel
theorem dM_choices_27 : decode mM_choices.2.1 27 = .ok (.invokevirtual 56, 3) := by decide +kernel
theorem dM_choices_30 : decode mM_choices.2.1 30 = .ok (.ireturn, 1) := by decide +kernel
theorem dM_stuckOnes_0 : decode mM_stuckOnes.2.1 0 = .ok (.aload_n 0, 1) := by decide +kernel
theorem dM_stuckOnes_1 : decode mM_stuckOnes.2.1 1 = .ok (.iconst 0, 1) := by decide +kernel
theorem dM_stuckOnes_2 : decode mM_stuckOnes.2.1 2 = .ok (.putfield 46, 3) := by decide +kernel
theorem dM_stuckOnes_5 : decode mM_stuckOnes.2.1 5 = .ok (.aload_n 0, 1) := by decide +kernel
theorem dM_stuckOnes_6 : decode mM_stuckOnes.2.1 6 = .ok (.getfield 281, 3) := by decide +kernel
theorem dM_stuckOnes_9 : decode mM_stuckOnes.2.1 9 = .ok (.ifnonnull 9, 3) := by decide +kernel
theorem dM_stuckOnes_12 : decode mM_stuckOnes.2.1 12 = .ok (.aload_n 0, 1) := by decide +kernel
theorem dM_stuckOnes_13 : decode mM_stuckOnes.2.1 13 = .ok (.iconst 1, 1) := by decide +kernel
theorem dM_stuckOnes_14 : decode mM_stuckOnes.2.1 14 = .ok (.invokevirtual 52, 3) := by decide +kernel
theorem dM_stuckOnes_17 : decode mM_stuckOnes.2.1 17 = .ok (.ireturn, 1) := by decide +kernel
theorem dM_stuckOnes_18 : decode mM_stuckOnes.2.1 18 = .ok (.aload_n 0, 1) := by decide +kernel
theorem dM_stuckOnes_19 : decode mM_stuckOnes.2.1 19 = .ok (.invokevirtual 373, 3) := by decide +kernel
theorem dM_stuckOnes_22 : decode mM_stuckOnes.2.1 22 = .ok (.iconst 0, 1) := by decide +kernel
theorem dM_stuckOnes_23 : decode mM_stuckOnes.2.1 23 = .ok (.istore_n 1, 1) := by decide +kernel
theorem dM_stuckOnes_24 : decode mM_stuckOnes.2.1 24 = .ok (.iconst 0, 1) := by decide +kernel
theorem dM_stuckOnes_25 : decode mM_stuckOnes.2.1 25 = .ok (.istore_n 2, 1) := by decide +kernel
theorem dM_stuckOnes_26 : decode mM_stuckOnes.2.1 26 = .ok (.iload_n 2, 1) := by decide +kernel
theorem dM_stuckOnes_27 : decode mM_stuckOnes.2.1 27 = .ok (.aload_n 0, 1) := by decide +kernel
theorem dM_stuckOnes_28 : decode mM_stuckOnes.2.1 28 = .ok (.getfield 333, 3) := by decide +kernel
theorem dM_stuckOnes_31 : decode mM_stuckOnes.2.1 31 = .ok (.if_icmp .ge 34, 3) := by decide +kernel
theorem dM_stuckOnes_34 : decode mM_stuckOnes.2.1 34 = .ok (.aload_n 0, 1) := by decide +kernel
theorem dM_stuckOnes_35 : decode mM_stuckOnes.2.1 35 = .ok (.aload_n 0, 1) := by decide +kernel
theorem dM_stuckOnes_36 : decode mM_stuckOnes.2.1 36 = .ok (.getfield 37, 3) := by decide +kernel
theorem dM_stuckOnes_39 : decode mM_stuckOnes.2.1 39 = .ok (.iload_n 2, 1) := by decide +kernel
theorem dM_stuckOnes_40 : decode mM_stuckOnes.2.1 40 = .ok (.iaload, 1) := by decide +kernel
theorem dM_stuckOnes_41 : decode mM_stuckOnes.2.1 41 = .ok (.invokevirtual 339, 3) := by decide +kernel
theorem dM_stuckOnes_44 : decode mM_stuckOnes.2.1 44 = .ok (.iload_n 1, 1) := by decide +kernel
theorem dM_stuckOnes_45 : decode mM_stuckOnes.2.1 45 = .ok (.aload_n 0, 1) := by decide +kernel
theorem dM_stuckOnes_46 : decode mM_stuckOnes.2.1 46 = .ok (.invokevirtual 364, 3) := by decide +kernel
theorem dM_stuckOnes_49 : decode mM_stuckOnes.2.1 49 = .ok (.ifCond .ne 7, 3) := by decide +kernel
theorem dM_stuckOnes_52 : decode mM_stuckOnes.2.1 52 = .ok (.iconst 1, 1) := by decide +kernel
theorem dM_stuckOnes_53 : decode mM_stuckOnes.2.1 53 = .ok (.goto 4, 3) := by decide +kernel
theorem dM_stuckOnes_56 : decode mM_stuckOnes.2.1 56 = .ok (.iconst 0, 1) := by decide +kernel
theorem dM_stuckOnes_57 : decode mM_stuckOnes.2.1 57 = .ok (.iadd, 1) := by decide +kernel
theorem dM_stuckOnes_58 : decode mM_stuckOnes.2.1 58 = .ok (.istore_n 1, 1) := by decide +kernel
theorem dM_stuckOnes_59 : decode mM_stuckOnes.2.1 59 = .ok (.iinc 2 1, 3) := by decide +kernel
theorem dM_stuckOnes_62 : decode mM_stuckOnes.2.1 62 = .ok (.goto (-36), 3) := by decide +kernel
theorem dM_stuckOnes_65 : decode mM_stuckOnes.2.1 65 = .ok (.aload_n 0, 1) := by decide +kernel
theorem dM_stuckOnes_66 : decode mM_stuckOnes.2.1 66 = .ok (.iload_n 1, 1) := by decide +kernel
theorem dM_stuckOnes_67 : decode mM_stuckOnes.2.1 67 = .ok (.invokevirtual 56, 3) := by decide +kernel
theorem dM_stuckOnes_70 : decode mM_stuckOnes.2.1 70 = .ok (.ireturn, 1) := by decide +kernel
theorem dM_placings_0 : decode mM_placings.2.1 0 = .ok (.aload_n 0, 1) := by decide +kernel
theorem dM_placings_1 : decode mM_placings.2.1 1 = .ok (.iconst 0, 1) := by decide +kernel
theorem dM_placings_2 : decode mM_placings.2.1 2 = .ok (.putfield 46, 3) := by decide +kernel
theorem dM_placings_5 : decode mM_placings.2.1 5 = .ok (.aload_n 0, 1) := by decide +kernel
theorem dM_placings_6 : decode mM_placings.2.1 6 = .ok (.getfield 281, 3) := by decide +kernel
theorem dM_placings_9 : decode mM_placings.2.1 9 = .ok (.ifnonnull 9, 3) := by decide +kernel
theorem dM_placings_12 : decode mM_placings.2.1 12 = .ok (.aload_n 0, 1) := by decide +kernel
theorem dM_placings_13 : decode mM_placings.2.1 13 = .ok (.iconst 1, 1) := by decide +kernel
theorem dM_placings_14 : decode mM_placings.2.1 14 = .ok (.invokevirtual 52, 3) := by decide +kernel
theorem dM_placings_17 : decode mM_placings.2.1 17 = .ok (.ireturn, 1) := by decide +kernel
theorem dM_placings_18 : decode mM_placings.2.1 18 = .ok (.aload_n 0, 1) := by decide +kernel
theorem dM_placings_19 : decode mM_placings.2.1 19 = .ok (.invokevirtual 373, 3) := by decide +kernel
theorem dM_placings_22 : decode mM_placings.2.1 22 = .ok (.iconst 0, 1) := by decide +kernel
theorem dM_placings_23 : decode mM_placings.2.1 23 = .ok (.istore_n 1, 1) := by decide +kernel
theorem dM_placings_24 : decode mM_placings.2.1 24 = .ok (.iconst 0, 1) := by decide +kernel
theorem dM_placings_25 : decode mM_placings.2.1 25 = .ok (.istore_n 2, 1) := by decide +kernel
theorem dM_placings_26 : decode mM_placings.2.1 26 = .ok (.iload_n 2, 1) := by decide +kernel
theorem dM_placings_27 : decode mM_placings.2.1 27 = .ok (.aload_n 0, 1) := by decide +kernel
theorem dM_placings_28 : decode mM_placings.2.1 28 = .ok (.getfield 333, 3) := by decide +kernel
theorem dM_placings_31 : decode mM_placings.2.1 31 = .ok (.if_icmp .ge 68, 3) := by decide +kernel
theorem dM_placings_34 : decode mM_placings.2.1 34 = .ok (.aload_n 0, 1) := by decide +kernel
theorem dM_placings_35 : decode mM_placings.2.1 35 = .ok (.aload_n 0, 1) := by decide +kernel
theorem dM_placings_36 : decode mM_placings.2.1 36 = .ok (.getfield 37, 3) := by decide +kernel
theorem dM_placings_39 : decode mM_placings.2.1 39 = .ok (.iload_n 2, 1) := by decide +kernel
theorem dM_placings_40 : decode mM_placings.2.1 40 = .ok (.iaload, 1) := by decide +kernel
theorem dM_placings_41 : decode mM_placings.2.1 41 = .ok (.invokevirtual 339, 3) := by decide +kernel
theorem dM_placings_44 : decode mM_placings.2.1 44 = .ok (.iconst 0, 1) := by decide +kernel
theorem dM_placings_45 : decode mM_placings.2.1 45 = .ok (.istore_n 3, 1) := by decide +kernel
theorem dM_placings_46 : decode mM_placings.2.1 46 = .ok (.iconst 0, 1) := by decide +kernel
theorem dM_placings_47 : decode mM_placings.2.1 47 = .ok (.istore 4, 2) := by decide +kernel
theorem dM_placings_49 : decode mM_placings.2.1 49 = .ok (.iload 4, 2) := by decide +kernel
theorem dM_placings_51 : decode mM_placings.2.1 51 = .ok (.aload_n 0, 1) := by decide +kernel
theorem dM_placings_52 : decode mM_placings.2.1 52 = .ok (.getfield 281, 3) := by decide +kernel
theorem dM_placings_55 : decode mM_placings.2.1 55 = .ok (.getfield 253, 3) := by decide +kernel
theorem dM_placings_58 : decode mM_placings.2.1 58 = .ok (.if_icmp .ge 29, 3) := by decide +kernel
theorem dM_placings_61 : decode mM_placings.2.1 61 = .ok (.aload_n 0, 1) := by decide +kernel
theorem dM_placings_62 : decode mM_placings.2.1 62 = .ok (.getfield 281, 3) := by decide +kernel
theorem dM_placings_65 : decode mM_placings.2.1 65 = .ok (.getfield 183, 3) := by decide +kernel
theorem dM_placings_68 : decode mM_placings.2.1 68 = .ok (.iconst 1, 1) := by decide +kernel
theorem dM_placings_69 : decode mM_placings.2.1 69 = .ok (.iadd, 1) := by decide +kernel
theorem dM_placings_70 : decode mM_placings.2.1 70 = .ok (.iload_n 3, 1) := by decide +kernel
theorem dM_placings_71 : decode mM_placings.2.1 71 = .ok (.imul, 1) := by decide +kernel
theorem dM_placings_72 : decode mM_placings.2.1 72 = .ok (.aload_n 0, 1) := by decide +kernel
theorem dM_placings_73 : decode mM_placings.2.1 73 = .ok (.getfield 21, 3) := by decide +kernel
theorem dM_placings_76 : decode mM_placings.2.1 76 = .ok (.iload 4, 2) := by decide +kernel
theorem dM_placings_78 : decode mM_placings.2.1 78 = .ok (.iaload, 1) := by decide +kernel
theorem dM_placings_79 : decode mM_placings.2.1 79 = .ok (.iadd, 1) := by decide +kernel
theorem dM_placings_80 : decode mM_placings.2.1 80 = .ok (.istore_n 3, 1) := by decide +kernel
theorem dM_placings_81 : decode mM_placings.2.1 81 = .ok (.iinc 4 1, 3) := by decide +kernel
theorem dM_placings_84 : decode mM_placings.2.1 84 = .ok (.goto (-35), 3) := by decide +kernel
theorem dM_placings_87 : decode mM_placings.2.1 87 = .ok (.iload_n 1, 1) := by decide +kernel
theorem dM_placings_88 : decode mM_placings.2.1 88 = .ok (.iconst 1, 1) := by decide +kernel
theorem dM_placings_89 : decode mM_placings.2.1 89 = .ok (.iload_n 3, 1) := by decide +kernel
theorem dM_placings_90 : decode mM_placings.2.1 90 = .ok (.ishl, 1) := by decide +kernel
theorem dM_placings_91 : decode mM_placings.2.1 91 = .ok (.ior, 1) := by decide +kernel
theorem dM_placings_92 : decode mM_placings.2.1 92 = .ok (.istore_n 1, 1) := by decide +kernel
theorem dM_placings_93 : decode mM_placings.2.1 93 = .ok (.iinc 2 1, 3) := by decide +kernel
theorem dM_placings_96 : decode mM_placings.2.1 96 = .ok (.goto (-70), 3) := by decide +kernel
theorem dM_placings_99 : decode mM_placings.2.1 99 = .ok (.aload_n 0, 1) := by decide +kernel
theorem dM_placings_100 : decode mM_placings.2.1 100 = .ok (.iload_n 1, 1) := by decide +kernel
theorem dM_placings_101 : decode mM_placings.2.1 101 = .ok (.invokestatic 296, 3) := by decide +kernel
theorem dM_placings_104 : decode mM_placings.2.1 104 = .ok (.invokevirtual 56, 3) := by decide +kernel
theorem dM_placings_107 : decode mM_placings.2.1 107 = .ok (.ireturn, 1) := by decide +kernel
-- counting
theorem cnt_sum (f : Nat → Bool) : ∀ n, cntB f n = sumN (fun i => if f i then 1 else 0) n
  | 0 => rfl
  | n + 1 => by
    show cntB f n + _ = sumN _ n + _
    rw [cnt_sum f n]
theorem sum_swap (g : Nat → Nat → Nat) : ∀ B, B ≤ 5 → sumN (fun i => g (i / B) (i % B)) (B * B) = sumN (fun i => g (i % B) (i / B)) (B * B)
  | 0, _ => rfl
  | 1, _ => rfl
  | 2, _ => by simp [sumN]; omega
  | 3, _ => by simp [sumN]; omega
  | 4, _ => by simp [sumN]; omega
  | 5, _ => by simp [sumN]; omega
  | B + 6, h => absurd h (by omega)
theorem cnt_swap (g : Nat → Nat → Bool) {B : Nat} (h : B ≤ 5) : cntB (fun i => g (i / B) (i % B)) (B * B) = cntB (fun i => g (i % B) (i / B)) (B * B) := by
  rw [cnt_sum, cnt_sum]
  exact sum_swap (fun a b => if g a b then 1 else 0) B h
theorem pcN_cnt : ∀ (k m : Nat), pcN k m = cntB (fun i => m.testBit i) k
  | 0, _ => rfl
  | k + 1, m => by
    rw [show k + 1 = 1 + k by omega, cntB_add, show 1 + k = k + 1 by omega, pcN, pcN_cnt k (m / 2), cntB_cg (f := fun i => (m / 2).testBit i) (g := fun i => m.testBit (1 + i)) k (fun i _ => by rw [Nat.add_comm, Nat.testBit_succ])]
    congr 1
    show _ = 0 + if m.testBit 0 then 1 else 0
    rw [Nat.testBit_zero, Nat.zero_add]
    rcases Nat.mod_two_eq_zero_or_one m with e | e <;> rw [e] <;> rfl
def metM (c : Cfg) (L : List (Nat × Nat)) : Nat := L.foldl (fun m q => m ||| 2 ^ mnA c q.1 (pN c)) 0
theorem metM_add (c : Cfg) (L : List (Nat × Nat)) (q : Nat × Nat) : metM c (L ++ [q]) = metM c L ||| 2 ^ mnA c q.1 (pN c) := by
  unfold metM
  rw [List.foldl_append]
  rfl
theorem fold_bit (f : Nat × Nat → Nat) (b : Nat) : ∀ (L : List (Nat × Nat)) (m : Nat), (L.foldl (fun m q => m ||| 2 ^ f q) m).testBit b = (m.testBit b || L.any (fun q => f q == b))
  | [], m => by simp
  | q :: L, m => by
    rw [List.foldl_cons, fold_bit f b L, Nat.testBit_or, Nat.testBit_two_pow, List.any_cons, Bool.or_assoc]
    rfl
theorem metM_bit (c : Cfg) (L : List (Nat × Nat)) (b : Nat) : (metM c L).testBit b = L.any (fun q => mnA c q.1 (pN c) == b) := by
  unfold metM
  rw [fold_bit (fun q => mnA c q.1 (pN c)), Nat.zero_testBit, Bool.false_or]
theorem metM_lt {c : Cfg} (hc : okC c) (L : List (Nat × Nat)) : metM c L < 2 ^ 25 := by
  refine Nat.lt_pow_two_of_testBit _ fun b hb => ?_
  rw [metM_bit]
  refine List.any_eq_false.mpr fun q _ => ?_
  have h1 := mnA_lt c q.1 (pN c)
  have h2 := wB_p25 hc
  exact fun e => by have := beq_iff_eq.mp e; omega
theorem zbc_n {m : Nat} (h : m < 2 ^ 25) : zbc m = cntB (fun i => m.testBit i) 32 := by
  have h25 : (2 : Nat) ^ 25 = 33554432 := by decide
  have hp := pc32 (m := m) (by omega)
  have z1 : ∀ a : Nat, a < 2147483648 → ∀ s : Nat, s < 32 → zushr a s = ((a / 2 ^ s : Nat) : Int) := fun a ha s hs => by
    rw [zushr_bd (by omega) (by omega) hs, Int.natCast_ediv, Int.natCast_pow]
    rfl
  have e1 : zb1 m = (pa1 4 m : Nat) := by
    unfold zb1 pa1
    rw [show (1 : Int) = ((1 : Nat) : Int) from rfl, z1 m (by omega) 1 (by decide), show (1431655765 : Int) = ((1431655765 : Nat) : Int) from rfl, zand_n (Nat.lt_of_le_of_lt Nat.and_le_left (by omega))]
    have : m / 2 &&& 1431655765 ≤ m := Nat.le_trans Nat.and_le_left (Nat.div_le_self _ _)
    rw [show rp8 85 4 = 1431655765 by decide, show (2 : Nat) ^ 1 = 2 from rfl]
    omega
  have l1 : pa1 4 m ≤ m := Nat.sub_le _ _
  have e2 : zb2 (zb1 m) = (pa2 4 m : Nat) := by
    rw [e1]
    unfold zb2 pa2
    rw [show (2 : Int) = ((2 : Nat) : Int) from rfl, z1 _ (by omega) 2 (by decide), show (858993459 : Int) = ((858993459 : Nat) : Int) from rfl, zand_n (Nat.lt_of_le_of_lt Nat.and_le_left (by omega)), zand_n (Nat.lt_of_le_of_lt Nat.and_le_right (by omega)), show rp8 51 4 = 858993459 by decide]
    rfl
  have l2 : pa2 4 m < 1900000000 := by
    unfold pa2
    rw [show rp8 51 4 = 858993459 by decide]
    have a1 : pa1 4 m &&& 858993459 ≤ 858993459 := Nat.and_le_right
    have a2 : pa1 4 m / 4 &&& 858993459 ≤ 858993459 := Nat.and_le_right
    omega
  have e3 : zb3 (zb2 (zb1 m)) = (pa3 4 m : Nat) := by
    rw [e2]
    unfold zb3 pa3
    rw [show (4 : Int) = ((4 : Nat) : Int) from rfl, z1 _ (by omega) 4 (by decide), show (252645135 : Int) = ((252645135 : Nat) : Int) from rfl, ← Int.natCast_add, zand_n (Nat.lt_of_le_of_lt Nat.and_le_right (by decide)), show rp8 15 4 = 252645135 by decide]
  have l3 : pa3 4 m ≤ 252645135 := by unfold pa3; rw [show rp8 15 4 = 252645135 by decide]; exact Nat.and_le_right
  have e4 : zb4 (zb3 (zb2 (zb1 m))) = (pa3 4 m + pa3 4 m / 256 : Nat) := by
    rw [e3]
    unfold zb4
    rw [show (8 : Int) = ((8 : Nat) : Int) from rfl, z1 _ (by omega) 8 (by decide)]
    rfl
  have e5 : zb5 (zb4 (zb3 (zb2 (zb1 m)))) = (pa3 4 m + pa3 4 m / 256 + (pa3 4 m + pa3 4 m / 256) / 65536 : Nat) := by
    rw [e4]
    unfold zb5
    rw [show (16 : Int) = ((16 : Nat) : Int) from rfl, z1 _ (by omega) 16 (by decide)]
    rfl
  unfold zbc
  rw [e5, show (63 : Int) = ((63 : Nat) : Int) from rfl, zand_mask 6 (by decide) (by decide), ← hp]
  rfl
/-- both count the placings -/
theorem plc_eq {c : Cfg} (hc : okC c) (L : List (Nat × Nat)) : (pcN 31 (metM c L) : Int) = zbc (metL c L) := by
  have hB : Bs c ≤ 5 := Bs_le hc
  have hp2 : pN c ≤ 2 := hc.2.1
  have h25 := wB_p25 hc
  rw [zbc_n (metL_lt hc L), pcN_cnt]
  have s1 : cntB (fun i => (metM c L).testBit i) 31 = cntB (fun i => (metM c L).testBit i) (wB c (pN c)) := by
    obtain ⟨b, hb⟩ : ∃ b, 31 = wB c (pN c) + b := ⟨31 - wB c (pN c), by omega⟩
    rw [hb]
    refine cntB_skip b fun k h1 _ => ?_
    rw [metM_bit]
    refine List.any_eq_false.mpr fun q _ e => ?_
    have h2 := mnA_lt c q.1 (pN c)
    have := beq_iff_eq.mp e
    omega
  have s2 : cntB (fun i => (metL c L).testBit i) 32 = cntB (fun i => (metL c L).testBit i) (wB c (pN c)) := by
    obtain ⟨b, hb⟩ : ∃ b, 32 = wB c (pN c) + b := ⟨32 - wB c (pN c), by omega⟩
    rw [hb]
    refine cntB_skip b fun k h1 _ => ?_
    rw [metL_bit]
    refine List.any_eq_false.mpr fun q _ e => ?_
    have h2 := Nat.mod_lt q.1 (wB_pos c (pN c))
    have := beq_iff_eq.mp e
    omega
  rw [s1, s2]
  refine congrArg Nat.cast ?_
  rcases (show pN c = 0 ∨ pN c = 1 ∨ pN c = 2 by omega) with e | e | e
  · refine cntB_cg _ fun i _ => ?_
    rw [metM_bit, metL_bit, e]
    congr 1
    funext q
    show (0 == i) = (q.1 % 1 == i)
    rw [Nat.mod_one]
  · refine cntB_cg _ fun i _ => ?_
    rw [metM_bit, metL_bit, e]
    congr 1
    funext q
    show (Bs c * 0 + q.1 / Bs c ^ 0 % Bs c == i) = (q.1 % Bs c ^ 1 == i)
    rw [Nat.pow_zero, Nat.div_one, Nat.pow_one, Nat.mul_zero, Nat.zero_add]
  · have hBp := Bs_pos c
    have hW : wB c (pN c) = Bs c * Bs c := by rw [e]; show Bs c ^ 2 = _; rw [Nat.pow_two]
    have k1 : ∀ i, i < Bs c * Bs c → (metM c L).testBit i = (fun a b => L.any (fun q => pl c q.1 0 == a && pl c q.1 1 == b)) (i / Bs c) (i % Bs c) := fun i hi => by
      rw [metM_bit, e]
      show L.any _ = L.any _
      congr 1
      funext q
      have d := dig_mod (a := pl c q.1 0) (pl_lt c q.1 1)
      have em : mnA c q.1 2 = Bs c * pl c q.1 0 + pl c q.1 1 := by show Bs c * (Bs c * 0 + pl c q.1 0) + pl c q.1 1 = _; rw [Nat.mul_zero, Nat.zero_add]
      rw [em]
      refine Bool.eq_iff_iff.mpr ?_
      rw [Bool.and_eq_true, beq_iff_eq, beq_iff_eq, beq_iff_eq]
      constructor
      · intro h; rw [← h]; exact ⟨d.2.symm, d.1.symm⟩
      · rintro ⟨h1, h2⟩; rw [h1, h2]; exact Nat.div_add_mod i (Bs c)
    have k2 : ∀ i, i < Bs c * Bs c → (metL c L).testBit i = (fun a b => L.any (fun q => pl c q.1 0 == a && pl c q.1 1 == b)) (i % Bs c) (i / Bs c) := fun i hi => by
      rw [metL_bit, hW]
      show L.any _ = L.any _
      congr 1
      funext q
      have d := dig_mod (a := pl c q.1 1) (pl_lt c q.1 0)
      have em : q.1 % (Bs c * Bs c) = Bs c * pl c q.1 1 + pl c q.1 0 := by
        rw [Nat.mod_mul, Nat.add_comm]
        show _ = Bs c * (q.1 / Bs c ^ 1 % Bs c) + q.1 / Bs c ^ 0 % Bs c
        rw [Nat.pow_one, Nat.pow_zero, Nat.div_one]
      rw [em]
      refine Bool.eq_iff_iff.mpr ?_
      rw [Bool.and_eq_true, beq_iff_eq, beq_iff_eq, beq_iff_eq]
      constructor
      · intro h; rw [← h]; exact ⟨d.1.symm, d.2.symm⟩
      · rintro ⟨h1, h2⟩; rw [h1, h2]; exact Nat.div_add_mod i (Bs c)
    rw [hW, cntB_cg _ k1, cntB_cg _ k2]
    exact cnt_swap (fun a b => L.any (fun q => pl c q.1 0 == a && pl c q.1 1 == b)) hB
-- how many of them leave no step
def stk (c : Cfg) (L : List (Nat × Nat)) : Nat := L.countP (fun q => cntB (mayN c q.1 (allP c)) (stN c) == 0)
theorem stk_it {c : Cfg} {t : ST} (h : t.2.1 ≤ t.1.length) (h2 : t.2.2 = stk c (t.1.take t.2.1)) : ∀ k, (itS c t k).2.1 ≤ (itS c t k).1.length ∧ (itS c t k).2.2 = stk c ((itS c t k).1.take (itS c t k).2.1)
  | 0 => ⟨h, h2⟩
  | k + 1 => by
    obtain ⟨i1, i2⟩ := stk_it h h2 k
    show (stpS c (itS c t k)).2.1 ≤ (stpS c (itS c t k)).1.length ∧ (stpS c (itS c t k)).2.2 = stk c ((stpS c (itS c t k)).1.take (stpS c (itS c t k)).2.1)
    generalize itS c t k = u at i1 i2
    rcases Nat.lt_or_ge u.2.1 u.1.length with hl | hl
    · have hq := List.getElem?_eq_getElem hl
      rw [stpS_some hq]
      generalize u.1[u.2.1] = q at hq
      obtain ⟨M, hM⟩ := exL_pre c q.1 0 u.2.1 u.1 (stN c)
      show u.2.1 + 1 ≤ (exL c q.1 0 u.2.1 u.1 (stN c)).length ∧ u.2.2 + (if cntB (okW c q.1 0) (stN c) = 0 then 1 else 0) = stk c ((exL c q.1 0 u.2.1 u.1 (stN c)).take (u.2.1 + 1))
      rw [hM]
      refine ⟨by rw [List.length_append]; omega, ?_⟩
      rw [List.take_append_of_le_length (by omega), List.take_add_one, hq, i2, Option.toList_some]
      unfold stk
      rw [List.countP_append, show okW c q.1 0 = mayN c q.1 (allP c) from funext fun k => okW_0 c q.1 k]
      congr 1
      rw [List.countP_singleton]
      by_cases e : cntB (mayN c q.1 (allP c)) (stN c) = 0
      · rw [if_pos e, if_pos (beq_iff_eq.mpr e)]
      · rw [if_neg e, if_neg (fun z => e (beq_iff_eq.mp z))]
    · rw [stp_done hl]; exact ⟨i1, i2⟩
theorem stk_fu {c : Cfg} {n : Nat} (hn : n < spc c) : (fuS c n).2.2 = stk c (fuS c n).1 := by
  have h := stk_it (c := c) (t := t0S n) (Nat.zero_le _) rfl (spc c)
  have h1 : (itS c (t0S n) (spc c)).1.length ≤ (itS c (t0S n) (spc c)).2.1 := fu_done hn
  have h2 := h.2
  rw [List.take_of_length_le h1] at h2
  exact h2
