theorem dM_numbered_0 : decode mM_numbered.2.1 0 = .ok (.iconst 0, 1) := by decide +kernel
theorem dM_numbered_1 : decode mM_numbered.2.1 1 = .ok (.istore_n 1, 1) := by decide +kernel
theorem dM_numbered_2 : decode mM_numbered.2.1 2 = .ok (.aload_n 0, 1) := by decide +kernel
theorem dM_numbered_3 : decode mM_numbered.2.1 3 = .ok (.getfield 281, 3) := by decide +kernel
theorem dM_numbered_6 : decode mM_numbered.2.1 6 = .ok (.getfield 183, 3) := by decide +kernel
theorem dM_numbered_9 : decode mM_numbered.2.1 9 = .ok (.iconst 1, 1) := by decide +kernel
theorem dM_numbered_10 : decode mM_numbered.2.1 10 = .ok (.iadd, 1) := by decide +kernel
theorem dM_numbered_11 : decode mM_numbered.2.1 11 = .ok (.istore_n 2, 1) := by decide +kernel
theorem dM_numbered_12 : decode mM_numbered.2.1 12 = .ok (.iconst 0, 1) := by decide +kernel
theorem dM_numbered_13 : decode mM_numbered.2.1 13 = .ok (.istore_n 3, 1) := by decide +kernel
theorem dM_numbered_14 : decode mM_numbered.2.1 14 = .ok (.iload_n 3, 1) := by decide +kernel
theorem dM_numbered_15 : decode mM_numbered.2.1 15 = .ok (.aload_n 0, 1) := by decide +kernel
theorem dM_numbered_16 : decode mM_numbered.2.1 16 = .ok (.getfield 281, 3) := by decide +kernel
theorem dM_numbered_19 : decode mM_numbered.2.1 19 = .ok (.getfield 253, 3) := by decide +kernel
theorem dM_numbered_22 : decode mM_numbered.2.1 22 = .ok (.if_icmp .ge 20, 3) := by decide +kernel
theorem dM_numbered_25 : decode mM_numbered.2.1 25 = .ok (.iload_n 2, 1) := by decide +kernel
theorem dM_numbered_26 : decode mM_numbered.2.1 26 = .ok (.iload_n 1, 1) := by decide +kernel
theorem dM_numbered_27 : decode mM_numbered.2.1 27 = .ok (.imul, 1) := by decide +kernel
theorem dM_numbered_28 : decode mM_numbered.2.1 28 = .ok (.aload_n 0, 1) := by decide +kernel
theorem dM_numbered_29 : decode mM_numbered.2.1 29 = .ok (.getfield 21, 3) := by decide +kernel
theorem dM_numbered_32 : decode mM_numbered.2.1 32 = .ok (.iload_n 3, 1) := by decide +kernel
theorem dM_numbered_33 : decode mM_numbered.2.1 33 = .ok (.iaload, 1) := by decide +kernel
theorem dM_numbered_34 : decode mM_numbered.2.1 34 = .ok (.iadd, 1) := by decide +kernel
theorem dM_numbered_35 : decode mM_numbered.2.1 35 = .ok (.istore_n 1, 1) := by decide +kernel
theorem dM_numbered_36 : decode mM_numbered.2.1 36 = .ok (.iinc 3 1, 3) := by decide +kernel
theorem dM_numbered_39 : decode mM_numbered.2.1 39 = .ok (.goto (-25), 3) := by decide +kernel
theorem dM_numbered_42 : decode mM_numbered.2.1 42 = .ok (.iconst 0, 1) := by decide +kernel
theorem dM_numbered_43 : decode mM_numbered.2.1 43 = .ok (.istore_n 3, 1) := by decide +kernel
theorem dM_numbered_44 : decode mM_numbered.2.1 44 = .ok (.iload_n 3, 1) := by decide +kernel
theorem dM_numbered_45 : decode mM_numbered.2.1 45 = .ok (.aload_n 0, 1) := by decide +kernel
theorem dM_numbered_46 : decode mM_numbered.2.1 46 = .ok (.getfield 281, 3) := by decide +kernel
theorem dM_numbered_49 : decode mM_numbered.2.1 49 = .ok (.getfield 183, 3) := by decide +kernel
theorem dM_numbered_52 : decode mM_numbered.2.1 52 = .ok (.if_icmp .ge 22, 3) := by decide +kernel
theorem dM_numbered_55 : decode mM_numbered.2.1 55 = .ok (.iload_n 2, 1) := by decide +kernel
theorem dM_numbered_56 : decode mM_numbered.2.1 56 = .ok (.iload_n 1, 1) := by decide +kernel
theorem dM_numbered_57 : decode mM_numbered.2.1 57 = .ok (.imul, 1) := by decide +kernel
theorem dM_numbered_58 : decode mM_numbered.2.1 58 = .ok (.aload_n 0, 1) := by decide +kernel
theorem dM_numbered_59 : decode mM_numbered.2.1 59 = .ok (.getfield 21, 3) := by decide +kernel
theorem dM_numbered_62 : decode mM_numbered.2.1 62 = .ok (.iconst 2, 1) := by decide +kernel
theorem dM_numbered_63 : decode mM_numbered.2.1 63 = .ok (.iload_n 3, 1) := by decide +kernel
theorem dM_numbered_64 : decode mM_numbered.2.1 64 = .ok (.iadd, 1) := by decide +kernel
theorem dM_numbered_65 : decode mM_numbered.2.1 65 = .ok (.iaload, 1) := by decide +kernel
theorem dM_numbered_66 : decode mM_numbered.2.1 66 = .ok (.iadd, 1) := by decide +kernel
theorem dM_numbered_67 : decode mM_numbered.2.1 67 = .ok (.istore_n 1, 1) := by decide +kernel
theorem dM_numbered_68 : decode mM_numbered.2.1 68 = .ok (.iinc 3 1, 3) := by decide +kernel
theorem dM_numbered_71 : decode mM_numbered.2.1 71 = .ok (.goto (-27), 3) := by decide +kernel
theorem dM_numbered_74 : decode mM_numbered.2.1 74 = .ok (.aload_n 0, 1) := by decide +kernel
theorem dM_numbered_75 : decode mM_numbered.2.1 75 = .ok (.getfield 281, 3) := by decide +kernel
theorem dM_numbered_78 : decode mM_numbered.2.1 78 = .ok (.getfield 183, 3) := by decide +kernel
theorem dM_numbered_81 : decode mM_numbered.2.1 81 = .ok (.iload_n 1, 1) := by decide +kernel
theorem dM_numbered_82 : decode mM_numbered.2.1 82 = .ok (.imul, 1) := by decide +kernel
theorem dM_numbered_83 : decode mM_numbered.2.1 83 = .ok (.aload_n 0, 1) := by decide +kernel
theorem dM_numbered_84 : decode mM_numbered.2.1 84 = .ok (.getfield 21, 3) := by decide +kernel
theorem dM_numbered_87 : decode mM_numbered.2.1 87 = .ok (.bipush 6, 2) := by decide +kernel
theorem dM_numbered_89 : decode mM_numbered.2.1 89 = .ok (.iaload, 1) := by decide +kernel
theorem dM_numbered_90 : decode mM_numbered.2.1 90 = .ok (.iadd, 1) := by decide +kernel
theorem dM_numbered_91 : decode mM_numbered.2.1 91 = .ok (.ireturn, 1) := by decide +kernel
theorem dM_lays_0 : decode mM_lays.2.1 0 = .ok (.aload_n 0, 1) := by decide +kernel
theorem dM_lays_1 : decode mM_lays.2.1 1 = .ok (.getfield 281, 3) := by decide +kernel
theorem dM_lays_4 : decode mM_lays.2.1 4 = .ok (.getfield 183, 3) := by decide +kernel
theorem dM_lays_7 : decode mM_lays.2.1 7 = .ok (.iconst 1, 1) := by decide +kernel
theorem dM_lays_8 : decode mM_lays.2.1 8 = .ok (.iadd, 1) := by decide +kernel
theorem dM_lays_9 : decode mM_lays.2.1 9 = .ok (.istore_n 2, 1) := by decide +kernel
theorem dM_lays_10 : decode mM_lays.2.1 10 = .ok (.aload_n 0, 1) := by decide +kernel
theorem dM_lays_11 : decode mM_lays.2.1 11 = .ok (.getfield 21, 3) := by decide +kernel
theorem dM_lays_14 : decode mM_lays.2.1 14 = .ok (.bipush 6, 2) := by decide +kernel
theorem dM_lays_16 : decode mM_lays.2.1 16 = .ok (.iload_n 1, 1) := by decide +kernel
theorem dM_lays_17 : decode mM_lays.2.1 17 = .ok (.aload_n 0, 1) := by decide +kernel
theorem dM_lays_18 : decode mM_lays.2.1 18 = .ok (.getfield 281, 3) := by decide +kernel
theorem dM_lays_21 : decode mM_lays.2.1 21 = .ok (.getfield 183, 3) := by decide +kernel
theorem dM_lays_24 : decode mM_lays.2.1 24 = .ok (.irem, 1) := by decide +kernel
theorem dM_lays_25 : decode mM_lays.2.1 25 = .ok (.iastore, 1) := by decide +kernel
theorem dM_lays_26 : decode mM_lays.2.1 26 = .ok (.iload_n 1, 1) := by decide +kernel
theorem dM_lays_27 : decode mM_lays.2.1 27 = .ok (.aload_n 0, 1) := by decide +kernel
theorem dM_lays_28 : decode mM_lays.2.1 28 = .ok (.getfield 281, 3) := by decide +kernel
theorem dM_lays_31 : decode mM_lays.2.1 31 = .ok (.getfield 183, 3) := by decide +kernel
theorem dM_lays_34 : decode mM_lays.2.1 34 = .ok (.idiv, 1) := by decide +kernel
theorem dM_lays_35 : decode mM_lays.2.1 35 = .ok (.istore_n 3, 1) := by decide +kernel
theorem dM_lays_36 : decode mM_lays.2.1 36 = .ok (.aload_n 0, 1) := by decide +kernel
theorem dM_lays_37 : decode mM_lays.2.1 37 = .ok (.getfield 281, 3) := by decide +kernel
theorem dM_lays_40 : decode mM_lays.2.1 40 = .ok (.getfield 183, 3) := by decide +kernel
theorem dM_lays_43 : decode mM_lays.2.1 43 = .ok (.iconst 1, 1) := by decide +kernel
theorem dM_lays_44 : decode mM_lays.2.1 44 = .ok (.isub, 1) := by decide +kernel
theorem dM_lays_45 : decode mM_lays.2.1 45 = .ok (.istore 4, 2) := by decide +kernel
theorem dM_lays_47 : decode mM_lays.2.1 47 = .ok (.iload 4, 2) := by decide +kernel
theorem dM_lays_49 : decode mM_lays.2.1 49 = .ok (.ifCond .lt 25, 3) := by decide +kernel
theorem dM_lays_52 : decode mM_lays.2.1 52 = .ok (.aload_n 0, 1) := by decide +kernel
theorem dM_lays_53 : decode mM_lays.2.1 53 = .ok (.getfield 21, 3) := by decide +kernel
theorem dM_lays_56 : decode mM_lays.2.1 56 = .ok (.iconst 2, 1) := by decide +kernel
theorem dM_lays_57 : decode mM_lays.2.1 57 = .ok (.iload 4, 2) := by decide +kernel
theorem dM_lays_59 : decode mM_lays.2.1 59 = .ok (.iadd, 1) := by decide +kernel
theorem dM_lays_60 : decode mM_lays.2.1 60 = .ok (.iload_n 3, 1) := by decide +kernel
theorem dM_lays_61 : decode mM_lays.2.1 61 = .ok (.iload_n 2, 1) := by decide +kernel
theorem dM_lays_62 : decode mM_lays.2.1 62 = .ok (.irem, 1) := by decide +kernel
theorem dM_lays_63 : decode mM_lays.2.1 63 = .ok (.iastore, 1) := by decide +kernel
theorem dM_lays_64 : decode mM_lays.2.1 64 = .ok (.iload_n 3, 1) := by decide +kernel
theorem dM_lays_65 : decode mM_lays.2.1 65 = .ok (.iload_n 2, 1) := by decide +kernel
theorem dM_lays_66 : decode mM_lays.2.1 66 = .ok (.idiv, 1) := by decide +kernel
theorem dM_lays_67 : decode mM_lays.2.1 67 = .ok (.istore_n 3, 1) := by decide +kernel
theorem dM_lays_68 : decode mM_lays.2.1 68 = .ok (.iinc 4 (-1), 3) := by decide +kernel
theorem dM_lays_71 : decode mM_lays.2.1 71 = .ok (.goto (-24), 3) := by decide +kernel
theorem dM_lays_74 : decode mM_lays.2.1 74 = .ok (.aload_n 0, 1) := by decide +kernel
theorem dM_lays_75 : decode mM_lays.2.1 75 = .ok (.getfield 281, 3) := by decide +kernel
theorem dM_lays_78 : decode mM_lays.2.1 78 = .ok (.getfield 253, 3) := by decide +kernel
theorem dM_lays_81 : decode mM_lays.2.1 81 = .ok (.iconst 1, 1) := by decide +kernel
theorem dM_lays_82 : decode mM_lays.2.1 82 = .ok (.isub, 1) := by decide +kernel
theorem dM_lays_83 : decode mM_lays.2.1 83 = .ok (.istore 4, 2) := by decide +kernel
theorem dM_lays_85 : decode mM_lays.2.1 85 = .ok (.iload 4, 2) := by decide +kernel
theorem dM_lays_87 : decode mM_lays.2.1 87 = .ok (.ifCond .lt 23, 3) := by decide +kernel
theorem dM_lays_90 : decode mM_lays.2.1 90 = .ok (.aload_n 0, 1) := by decide +kernel
theorem dM_lays_91 : decode mM_lays.2.1 91 = .ok (.getfield 21, 3) := by decide +kernel
theorem dM_lays_94 : decode mM_lays.2.1 94 = .ok (.iload 4, 2) := by decide +kernel
theorem dM_lays_96 : decode mM_lays.2.1 96 = .ok (.iload_n 3, 1) := by decide +kernel
theorem dM_lays_97 : decode mM_lays.2.1 97 = .ok (.iload_n 2, 1) := by decide +kernel
theorem dM_lays_98 : decode mM_lays.2.1 98 = .ok (.irem, 1) := by decide +kernel
theorem dM_lays_99 : decode mM_lays.2.1 99 = .ok (.iastore, 1) := by decide +kernel
theorem dM_lays_100 : decode mM_lays.2.1 100 = .ok (.iload_n 3, 1) := by decide +kernel
theorem dM_lays_101 : decode mM_lays.2.1 101 = .ok (.iload_n 2, 1) := by decide +kernel
theorem dM_lays_102 : decode mM_lays.2.1 102 = .ok (.idiv, 1) := by decide +kernel
theorem dM_lays_103 : decode mM_lays.2.1 103 = .ok (.istore_n 3, 1) := by decide +kernel
theorem dM_lays_104 : decode mM_lays.2.1 104 = .ok (.iinc 4 (-1), 3) := by decide +kernel
theorem dM_lays_107 : decode mM_lays.2.1 107 = .ok (.goto (-22), 3) := by decide +kernel
theorem dM_lays_110 : decode mM_lays.2.1 110 = .ok (.return_, 1) := by decide +kernel
theorem dM_arrangedMany_0 : decode mM_arrangedMany.2.1 0 = .ok (.aload_n 0, 1) := by decide +kernel
theorem dM_arrangedMany_1 : decode mM_arrangedMany.2.1 1 = .ok (.getfield 281, 3) := by decide +kernel
theorem dM_arrangedMany_4 : decode mM_arrangedMany.2.1 4 = .ok (.getfield 183, 3) := by decide +kernel
theorem dM_arrangedMany_7 : decode mM_arrangedMany.2.1 7 = .ok (.istore_n 1, 1) := by decide +kernel
theorem dM_arrangedMany_8 : decode mM_arrangedMany.2.1 8 = .ok (.aload_n 0, 1) := by decide +kernel
theorem dM_arrangedMany_9 : decode mM_arrangedMany.2.1 9 = .ok (.getfield 281, 3) := by decide +kernel
theorem dM_arrangedMany_12 : decode mM_arrangedMany.2.1 12 = .ok (.getfield 253, 3) := by decide +kernel
theorem dM_arrangedMany_15 : decode mM_arrangedMany.2.1 15 = .ok (.aload_n 0, 1) := by decide +kernel
theorem dM_arrangedMany_16 : decode mM_arrangedMany.2.1 16 = .ok (.getfield 281, 3) := by decide +kernel
theorem dM_arrangedMany_19 : decode mM_arrangedMany.2.1 19 = .ok (.getfield 183, 3) := by decide +kernel
theorem dM_arrangedMany_22 : decode mM_arrangedMany.2.1 22 = .ok (.iadd, 1) := by decide +kernel
theorem dM_arrangedMany_23 : decode mM_arrangedMany.2.1 23 = .ok (.istore_n 2, 1) := by decide +kernel
theorem dM_arrangedMany_24 : decode mM_arrangedMany.2.1 24 = .ok (.iload_n 2, 1) := by decide +kernel
theorem dM_arrangedMany_25 : decode mM_arrangedMany.2.1 25 = .ok (.ifCond .le 21, 3) := by decide +kernel
theorem dM_arrangedMany_28 : decode mM_arrangedMany.2.1 28 = .ok (.iload_n 1, 1) := by decide +kernel
theorem dM_arrangedMany_29 : decode mM_arrangedMany.2.1 29 = .ok (.aload_n 0, 1) := by decide +kernel
theorem dM_arrangedMany_30 : decode mM_arrangedMany.2.1 30 = .ok (.getfield 281, 3) := by decide +kernel
theorem dM_arrangedMany_33 : decode mM_arrangedMany.2.1 33 = .ok (.getfield 183, 3) := by decide +kernel
theorem dM_arrangedMany_36 : decode mM_arrangedMany.2.1 36 = .ok (.iconst 1, 1) := by decide +kernel
theorem dM_arrangedMany_37 : decode mM_arrangedMany.2.1 37 = .ok (.iadd, 1) := by decide +kernel
theorem dM_arrangedMany_38 : decode mM_arrangedMany.2.1 38 = .ok (.imul, 1) := by decide +kernel
theorem dM_arrangedMany_39 : decode mM_arrangedMany.2.1 39 = .ok (.istore_n 1, 1) := by decide +kernel
theorem dM_arrangedMany_40 : decode mM_arrangedMany.2.1 40 = .ok (.iinc 2 (-1), 3) := by decide +kernel
theorem dM_arrangedMany_43 : decode mM_arrangedMany.2.1 43 = .ok (.goto (-19), 3) := by decide +kernel
theorem dM_arrangedMany_46 : decode mM_arrangedMany.2.1 46 = .ok (.iload_n 1, 1) := by decide +kernel
theorem dM_arrangedMany_47 : decode mM_arrangedMany.2.1 47 = .ok (.ireturn, 1) := by decide +kernel
section Mod8
variable {G : GE} {V : Nat → Nat → Int} {σ : Shp} {K : Option AV → Mem → Prop} {l : Nat} {c : Cfg} {n : Nat}
theorem wM_arrangedMany (hM : moS σ l) (hl : laS σ l) (hC : LC V l c) (hc : okC c) (hK : K (some (vI (spc c))) (V, σ)) : Wp G 0 mM_arrangedMany [vR 53] (V, σ) 0 0 K := by
  have h1 := hC.1
  have h2 := hC.2.1
  have hd4 : dN c ≤ 4 := hc.1
  have hp2 : pN c ≤ 2 := hc.2.1
  refine wp_intro mM_arrangedMany_i.1 [some (vR 53), none, none] rfl rfl (Nat.le_of_ble_eq_true rfl) ?_
  intro X hG F C
  have hm := C.rm
  have loop : ∀ (k i : Nat), i + k = pN c + dN c → ∀ (y z : Int), y = (dN c * wB c i : Nat) → z = k → AW X 24 [some (vR 53), some (vI y), some (vI z)] [] (V, σ) 0 0 := by
    intro k
    induction k with
    | zero =>
      intro i hi y z hy hz
      refine aw_iload_2 (q := 25) F dM_arrangedMany_24 rfl ?_
      refine aw_if_le (q := 28) (t := 46) F dM_arrangedMany_25 rfl (by decide) (fun c25 => ?_) (fun c25 => by omega)
      refine aw_iload_1 (q := 47) F dM_arrangedMany_46 rfl ?_
      refine aw_iret F C dM_arrangedMany_47 rfl (Nat.le_refl _) (Nat.le_refl _) ?_
      refine kI hK ?_; rw [hy, show i = pN c + dN c by omega]; rfl
    | succ k ih =>
      intro i hi y z hy hz
      have hwl := wB_le hc (i := i + 1) (by omega)
      have e : y * (V l 1 + 1) = (dN c * wB c (i + 1) : Nat) := by
        rw [hy, h1, wB_s, ← Nat.mul_assoc, Int.natCast_mul]
        rfl
      have hb : dN c * wB c (i + 1) ≤ 4 * 15625 := Nat.mul_le_mul hd4 hwl
      refine aw_iload_2 (q := 25) F dM_arrangedMany_24 rfl ?_
      refine aw_if_le (q := 28) (t := 46) F dM_arrangedMany_25 rfl (by decide) (fun c25 => ?_) (fun c25 => ?_)
      · refine aw_iload_1 (q := 47) F dM_arrangedMany_46 rfl ?_
        refine aw_iret F C dM_arrangedMany_47 rfl (Nat.le_refl _) (Nat.le_refl _) ?_
        exact absurd hz (by omega)
      · refine aw_iload_1 (q := 29) F dM_arrangedMany_28 rfl ?_
        refine aw_aload_0 (q := 30) F dM_arrangedMany_29 rfl ?_
        refine av_getaE (q := 33) F fM_281 dM_arrangedMany_30 rfl rfl (by first | exact hM.o | exact hl.o | exact hM.a55 | exact hM.a56) hM.p3 ?_
        refine av_geti (q := 36) F fM_183 dM_arrangedMany_33 rfl rfl (by first | exact hM.o | exact hl.o | exact hM.a55 | exact hM.a56) ?_
        refine aw_iconst (q := 37) F dM_arrangedMany_36 rfl (by decide) ?_
        refine aw_iadd (q := 38) F dM_arrangedMany_37 rfl (by rw [h1]; omega) ?_
        refine aw_imul (q := 39) F dM_arrangedMany_38 rfl (by rw [e]; omega) ?_
        rw [e]
        refine aw_istore_1 (q := 40) F dM_arrangedMany_39 rfl trivial ?_
        refine aw_iinc_2 (q := 43) F dM_arrangedMany_40 rfl trivial (by constructor <;> omega) ?_
        refine aw_goto (t := 24) F dM_arrangedMany_43 (by decide) ?_
        exact ih (i + 1) (by omega) _ _ rfl (by omega)
  refine aw_aload_0 (q := 1) F dM_arrangedMany_0 rfl ?_
  refine av_getaE (q := 4) F fM_281 dM_arrangedMany_1 rfl rfl (by first | exact hM.o | exact hl.o | exact hM.a55 | exact hM.a56) hM.p3 ?_
  refine av_geti (q := 7) F fM_183 dM_arrangedMany_4 rfl rfl (by first | exact hM.o | exact hl.o | exact hM.a55 | exact hM.a56) ?_
  refine aw_istore_1 (q := 8) F dM_arrangedMany_7 rfl trivial ?_
  refine aw_aload_0 (q := 9) F dM_arrangedMany_8 rfl ?_
  refine av_getaE (q := 12) F fM_281 dM_arrangedMany_9 rfl rfl (by first | exact hM.o | exact hl.o | exact hM.a55 | exact hM.a56) hM.p3 ?_
  refine av_geti (q := 15) F fM_253 dM_arrangedMany_12 rfl rfl (by first | exact hM.o | exact hl.o | exact hM.a55 | exact hM.a56) ?_
  refine aw_aload_0 (q := 16) F dM_arrangedMany_15 rfl ?_
  refine av_getaE (q := 19) F fM_281 dM_arrangedMany_16 rfl rfl (by first | exact hM.o | exact hl.o | exact hM.a55 | exact hM.a56) hM.p3 ?_
  refine av_geti (q := 22) F fM_183 dM_arrangedMany_19 rfl rfl (by first | exact hM.o | exact hl.o | exact hM.a55 | exact hM.a56) ?_
  refine aw_iadd (q := 23) F dM_arrangedMany_22 rfl (by constructor <;> omega) ?_
  refine aw_istore_2 (q := 24) F dM_arrangedMany_23 rfl trivial ?_
  exact loop (pN c + dN c) 0 (by omega) _ _ (by rw [h1, wB_0, Nat.mul_one]) (by rw [h1, h2]; omega)
end Mod8
