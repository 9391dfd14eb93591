theorem dJI_bitCount_0 : decode mJI_bitCount.2.1 0 = .ok (.iload_n 0, 1) := by decide +kernel
theorem dJI_bitCount_1 : decode mJI_bitCount.2.1 1 = .ok (.iload_n 0, 1) := by decide +kernel
theorem dJI_bitCount_2 : decode mJI_bitCount.2.1 2 = .ok (.iconst 1, 1) := by decide +kernel
theorem dJI_bitCount_3 : decode mJI_bitCount.2.1 3 = .ok (.iushr, 1) := by decide +kernel
theorem dJI_bitCount_4 : decode mJI_bitCount.2.1 4 = .ok (.ldc_w 265, 3) := by decide +kernel
theorem dJI_bitCount_7 : decode mJI_bitCount.2.1 7 = .ok (.iand, 1) := by decide +kernel
theorem dJI_bitCount_8 : decode mJI_bitCount.2.1 8 = .ok (.isub, 1) := by decide +kernel
theorem dJI_bitCount_9 : decode mJI_bitCount.2.1 9 = .ok (.istore_n 0, 1) := by decide +kernel
theorem dJI_bitCount_10 : decode mJI_bitCount.2.1 10 = .ok (.iload_n 0, 1) := by decide +kernel
theorem dJI_bitCount_11 : decode mJI_bitCount.2.1 11 = .ok (.ldc_w 266, 3) := by decide +kernel
theorem dJI_bitCount_14 : decode mJI_bitCount.2.1 14 = .ok (.iand, 1) := by decide +kernel
theorem dJI_bitCount_15 : decode mJI_bitCount.2.1 15 = .ok (.iload_n 0, 1) := by decide +kernel
theorem dJI_bitCount_16 : decode mJI_bitCount.2.1 16 = .ok (.iconst 2, 1) := by decide +kernel
theorem dJI_bitCount_17 : decode mJI_bitCount.2.1 17 = .ok (.iushr, 1) := by decide +kernel
theorem dJI_bitCount_18 : decode mJI_bitCount.2.1 18 = .ok (.ldc_w 266, 3) := by decide +kernel
theorem dJI_bitCount_21 : decode mJI_bitCount.2.1 21 = .ok (.iand, 1) := by decide +kernel
theorem dJI_bitCount_22 : decode mJI_bitCount.2.1 22 = .ok (.iadd, 1) := by decide +kernel
theorem dJI_bitCount_23 : decode mJI_bitCount.2.1 23 = .ok (.istore_n 0, 1) := by decide +kernel
theorem dJI_bitCount_24 : decode mJI_bitCount.2.1 24 = .ok (.iload_n 0, 1) := by decide +kernel
theorem dJI_bitCount_25 : decode mJI_bitCount.2.1 25 = .ok (.iload_n 0, 1) := by decide +kernel
theorem dJI_bitCount_26 : decode mJI_bitCount.2.1 26 = .ok (.iconst 4, 1) := by decide +kernel
theorem dJI_bitCount_27 : decode mJI_bitCount.2.1 27 = .ok (.iushr, 1) := by decide +kernel
theorem dJI_bitCount_28 : decode mJI_bitCount.2.1 28 = .ok (.iadd, 1) := by decide +kernel
theorem dJI_bitCount_29 : decode mJI_bitCount.2.1 29 = .ok (.ldc_w 267, 3) := by decide +kernel
theorem dJI_bitCount_32 : decode mJI_bitCount.2.1 32 = .ok (.iand, 1) := by decide +kernel
theorem dJI_bitCount_33 : decode mJI_bitCount.2.1 33 = .ok (.istore_n 0, 1) := by decide +kernel
theorem dJI_bitCount_34 : decode mJI_bitCount.2.1 34 = .ok (.iload_n 0, 1) := by decide +kernel
theorem dJI_bitCount_35 : decode mJI_bitCount.2.1 35 = .ok (.iload_n 0, 1) := by decide +kernel
theorem dJI_bitCount_36 : decode mJI_bitCount.2.1 36 = .ok (.bipush 8, 2) := by decide +kernel
theorem dJI_bitCount_38 : decode mJI_bitCount.2.1 38 = .ok (.iushr, 1) := by decide +kernel
theorem dJI_bitCount_39 : decode mJI_bitCount.2.1 39 = .ok (.iadd, 1) := by decide +kernel
theorem dJI_bitCount_40 : decode mJI_bitCount.2.1 40 = .ok (.istore_n 0, 1) := by decide +kernel
theorem dJI_bitCount_41 : decode mJI_bitCount.2.1 41 = .ok (.iload_n 0, 1) := by decide +kernel
theorem dJI_bitCount_42 : decode mJI_bitCount.2.1 42 = .ok (.iload_n 0, 1) := by decide +kernel
theorem dJI_bitCount_43 : decode mJI_bitCount.2.1 43 = .ok (.bipush 16, 2) := by decide +kernel
theorem dJI_bitCount_45 : decode mJI_bitCount.2.1 45 = .ok (.iushr, 1) := by decide +kernel
theorem dJI_bitCount_46 : decode mJI_bitCount.2.1 46 = .ok (.iadd, 1) := by decide +kernel
theorem dJI_bitCount_47 : decode mJI_bitCount.2.1 47 = .ok (.istore_n 0, 1) := by decide +kernel
theorem dJI_bitCount_48 : decode mJI_bitCount.2.1 48 = .ok (.iload_n 0, 1) := by decide +kernel
theorem dJI_bitCount_49 : decode mJI_bitCount.2.1 49 = .ok (.bipush 63, 2) := by decide +kernel
theorem dJI_bitCount_51 : decode mJI_bitCount.2.1 51 = .ok (.iand, 1) := by decide +kernel
theorem dJI_bitCount_52 : decode mJI_bitCount.2.1 52 = .ok (.ireturn, 1) := by decide +kernel
theorem dJL_bitCount_0 : decode mJL_bitCount.2.1 0 = .ok (.lload_n 0, 1) := by decide +kernel
theorem dJL_bitCount_1 : decode mJL_bitCount.2.1 1 = .ok (.lload_n 0, 1) := by decide +kernel
theorem dJL_bitCount_2 : decode mJL_bitCount.2.1 2 = .ok (.iconst 1, 1) := by decide +kernel
theorem dJL_bitCount_3 : decode mJL_bitCount.2.1 3 = .ok (.lushr, 1) := by decide +kernel
theorem dJL_bitCount_4 : decode mJL_bitCount.2.1 4 = .ok (.ldc2_w 314, 3) := by decide +kernel
theorem dJL_bitCount_7 : decode mJL_bitCount.2.1 7 = .ok (.land, 1) := by decide +kernel
theorem dJL_bitCount_8 : decode mJL_bitCount.2.1 8 = .ok (.lsub, 1) := by decide +kernel
theorem dJL_bitCount_9 : decode mJL_bitCount.2.1 9 = .ok (.lstore_n 0, 1) := by decide +kernel
theorem dJL_bitCount_10 : decode mJL_bitCount.2.1 10 = .ok (.lload_n 0, 1) := by decide +kernel
theorem dJL_bitCount_11 : decode mJL_bitCount.2.1 11 = .ok (.ldc2_w 316, 3) := by decide +kernel
theorem dJL_bitCount_14 : decode mJL_bitCount.2.1 14 = .ok (.land, 1) := by decide +kernel
theorem dJL_bitCount_15 : decode mJL_bitCount.2.1 15 = .ok (.lload_n 0, 1) := by decide +kernel
theorem dJL_bitCount_16 : decode mJL_bitCount.2.1 16 = .ok (.iconst 2, 1) := by decide +kernel
theorem dJL_bitCount_17 : decode mJL_bitCount.2.1 17 = .ok (.lushr, 1) := by decide +kernel
theorem dJL_bitCount_18 : decode mJL_bitCount.2.1 18 = .ok (.ldc2_w 316, 3) := by decide +kernel
theorem dJL_bitCount_21 : decode mJL_bitCount.2.1 21 = .ok (.land, 1) := by decide +kernel
theorem dJL_bitCount_22 : decode mJL_bitCount.2.1 22 = .ok (.ladd, 1) := by decide +kernel
theorem dJL_bitCount_23 : decode mJL_bitCount.2.1 23 = .ok (.lstore_n 0, 1) := by decide +kernel
theorem dJL_bitCount_24 : decode mJL_bitCount.2.1 24 = .ok (.lload_n 0, 1) := by decide +kernel
theorem dJL_bitCount_25 : decode mJL_bitCount.2.1 25 = .ok (.lload_n 0, 1) := by decide +kernel
theorem dJL_bitCount_26 : decode mJL_bitCount.2.1 26 = .ok (.iconst 4, 1) := by decide +kernel
theorem dJL_bitCount_27 : decode mJL_bitCount.2.1 27 = .ok (.lushr, 1) := by decide +kernel
theorem dJL_bitCount_28 : decode mJL_bitCount.2.1 28 = .ok (.ladd, 1) := by decide +kernel
theorem dJL_bitCount_29 : decode mJL_bitCount.2.1 29 = .ok (.ldc2_w 318, 3) := by decide +kernel
theorem dJL_bitCount_32 : decode mJL_bitCount.2.1 32 = .ok (.land, 1) := by decide +kernel
theorem dJL_bitCount_33 : decode mJL_bitCount.2.1 33 = .ok (.lstore_n 0, 1) := by decide +kernel
theorem dJL_bitCount_34 : decode mJL_bitCount.2.1 34 = .ok (.lload_n 0, 1) := by decide +kernel
theorem dJL_bitCount_35 : decode mJL_bitCount.2.1 35 = .ok (.lload_n 0, 1) := by decide +kernel
theorem dJL_bitCount_36 : decode mJL_bitCount.2.1 36 = .ok (.bipush 8, 2) := by decide +kernel
theorem dJL_bitCount_38 : decode mJL_bitCount.2.1 38 = .ok (.lushr, 1) := by decide +kernel
theorem dJL_bitCount_39 : decode mJL_bitCount.2.1 39 = .ok (.ladd, 1) := by decide +kernel
theorem dJL_bitCount_40 : decode mJL_bitCount.2.1 40 = .ok (.lstore_n 0, 1) := by decide +kernel
theorem dJL_bitCount_41 : decode mJL_bitCount.2.1 41 = .ok (.lload_n 0, 1) := by decide +kernel
theorem dJL_bitCount_42 : decode mJL_bitCount.2.1 42 = .ok (.lload_n 0, 1) := by decide +kernel
theorem dJL_bitCount_43 : decode mJL_bitCount.2.1 43 = .ok (.bipush 16, 2) := by decide +kernel
theorem dJL_bitCount_45 : decode mJL_bitCount.2.1 45 = .ok (.lushr, 1) := by decide +kernel
theorem dJL_bitCount_46 : decode mJL_bitCount.2.1 46 = .ok (.ladd, 1) := by decide +kernel
theorem dJL_bitCount_47 : decode mJL_bitCount.2.1 47 = .ok (.lstore_n 0, 1) := by decide +kernel
theorem dJL_bitCount_48 : decode mJL_bitCount.2.1 48 = .ok (.lload_n 0, 1) := by decide +kernel
theorem dJL_bitCount_49 : decode mJL_bitCount.2.1 49 = .ok (.lload_n 0, 1) := by decide +kernel
theorem dJL_bitCount_50 : decode mJL_bitCount.2.1 50 = .ok (.bipush 32, 2) := by decide +kernel
theorem dJL_bitCount_52 : decode mJL_bitCount.2.1 52 = .ok (.lushr, 1) := by decide +kernel
theorem dJL_bitCount_53 : decode mJL_bitCount.2.1 53 = .ok (.ladd, 1) := by decide +kernel
theorem dJL_bitCount_54 : decode mJL_bitCount.2.1 54 = .ok (.lstore_n 0, 1) := by decide +kernel
theorem dJL_bitCount_55 : decode mJL_bitCount.2.1 55 = .ok (.lload_n 0, 1) := by decide +kernel
theorem dJL_bitCount_56 : decode mJL_bitCount.2.1 56 = .ok (.l2i, 1) := by decide +kernel
theorem dJL_bitCount_57 : decode mJL_bitCount.2.1 57 = .ok (.bipush 127, 2) := by decide +kernel
theorem dJL_bitCount_59 : decode mJL_bitCount.2.1 59 = .ok (.iand, 1) := by decide +kernel
theorem dJL_bitCount_60 : decode mJL_bitCount.2.1 60 = .ok (.ireturn, 1) := by decide +kernel
theorem dJA_fillI_0 : decode mJA_fillI.2.1 0 = .ok (.iconst 0, 1) := by decide +kernel
theorem dJA_fillI_1 : decode mJA_fillI.2.1 1 = .ok (.istore_n 2, 1) := by decide +kernel
theorem dJA_fillI_2 : decode mJA_fillI.2.1 2 = .ok (.aload_n 0, 1) := by decide +kernel
theorem dJA_fillI_3 : decode mJA_fillI.2.1 3 = .ok (.arraylength, 1) := by decide +kernel
theorem dJA_fillI_4 : decode mJA_fillI.2.1 4 = .ok (.istore_n 3, 1) := by decide +kernel
theorem dJA_fillI_5 : decode mJA_fillI.2.1 5 = .ok (.iload_n 2, 1) := by decide +kernel
theorem dJA_fillI_6 : decode mJA_fillI.2.1 6 = .ok (.iload_n 3, 1) := by decide +kernel
theorem dJA_fillI_7 : decode mJA_fillI.2.1 7 = .ok (.if_icmp .ge 13, 3) := by decide +kernel
theorem dJA_fillI_10 : decode mJA_fillI.2.1 10 = .ok (.aload_n 0, 1) := by decide +kernel
theorem dJA_fillI_11 : decode mJA_fillI.2.1 11 = .ok (.iload_n 2, 1) := by decide +kernel
theorem dJA_fillI_12 : decode mJA_fillI.2.1 12 = .ok (.iload_n 1, 1) := by decide +kernel
theorem dJA_fillI_13 : decode mJA_fillI.2.1 13 = .ok (.iastore, 1) := by decide +kernel
theorem dJA_fillI_14 : decode mJA_fillI.2.1 14 = .ok (.iinc 2 1, 3) := by decide +kernel
theorem dJA_fillI_17 : decode mJA_fillI.2.1 17 = .ok (.goto (-12), 3) := by decide +kernel
theorem dJA_fillI_20 : decode mJA_fillI.2.1 20 = .ok (.return_, 1) := by decide +kernel
theorem dJA_fillJ_0 : decode mJA_fillJ.2.1 0 = .ok (.iconst 0, 1) := by decide +kernel
theorem dJA_fillJ_1 : decode mJA_fillJ.2.1 1 = .ok (.istore_n 3, 1) := by decide +kernel
theorem dJA_fillJ_2 : decode mJA_fillJ.2.1 2 = .ok (.aload_n 0, 1) := by decide +kernel
theorem dJA_fillJ_3 : decode mJA_fillJ.2.1 3 = .ok (.arraylength, 1) := by decide +kernel
theorem dJA_fillJ_4 : decode mJA_fillJ.2.1 4 = .ok (.istore 4, 2) := by decide +kernel
theorem dJA_fillJ_6 : decode mJA_fillJ.2.1 6 = .ok (.iload_n 3, 1) := by decide +kernel
theorem dJA_fillJ_7 : decode mJA_fillJ.2.1 7 = .ok (.iload 4, 2) := by decide +kernel
theorem dJA_fillJ_9 : decode mJA_fillJ.2.1 9 = .ok (.if_icmp .ge 13, 3) := by decide +kernel
theorem dJA_fillJ_12 : decode mJA_fillJ.2.1 12 = .ok (.aload_n 0, 1) := by decide +kernel
theorem dJA_fillJ_13 : decode mJA_fillJ.2.1 13 = .ok (.iload_n 3, 1) := by decide +kernel
theorem dJA_fillJ_14 : decode mJA_fillJ.2.1 14 = .ok (.lload_n 1, 1) := by decide +kernel
theorem dJA_fillJ_15 : decode mJA_fillJ.2.1 15 = .ok (.lastore, 1) := by decide +kernel
theorem dJA_fillJ_16 : decode mJA_fillJ.2.1 16 = .ok (.iinc 3 1, 3) := by decide +kernel
theorem dJA_fillJ_19 : decode mJA_fillJ.2.1 19 = .ok (.goto (-13), 3) := by decide +kernel
theorem dJA_fillJ_22 : decode mJA_fillJ.2.1 22 = .ok (.return_, 1) := by decide +kernel
section Jdk
variable {G : GE} {V : Nat → Nat → Int} {σ : Shp} {K : Option AV → Mem → Prop}
noncomputable def zb1 (x : Int) : Int := x - zand (zushr x 1) 1431655765
noncomputable def zb2 (x : Int) : Int := zand x 858993459 + zand (zushr x 2) 858993459
noncomputable def zb3 (x : Int) : Int := zand (x + zushr x 4) 252645135
noncomputable def zb4 (x : Int) : Int := x + zushr x 8
noncomputable def zb5 (x : Int) : Int := x + zushr x 16
/-- Integer.bitCount, as it counts -/
noncomputable def zbc (x : Int) : Int := zand (zb5 (zb4 (zb3 (zb2 (zb1 x))))) 63
theorem zand_bdN {x : Int} {m : Nat} (hm : m < 2147483648) : 0 ≤ zand x m ∧ zand x m ≤ m := by
  rw [zand_eq]
  rw [ofN]
  have h1 : (Int32.ofInt x &&& nI m).toBitVec.toNat ≤ m := by
    rw [Int32.toBitVec_and, BitVec.toNat_and, pk_tn (by omega)]
    exact Nat.and_le_right
  have h2 : (Int32.ofInt x &&& nI m).toInt = ((Int32.ofInt x &&& nI m).toBitVec.toNat : Int) := by
    show (Int32.ofInt x &&& nI m).toBitVec.toInt = _
    rw [BitVec.toInt_eq_toNat_of_lt (by omega)]
  rw [h2]
  omega
theorem zand_bd {x m : Int} (h0 : 0 ≤ m) (h1 : m < 2147483648) : 0 ≤ zand x m ∧ zand x m ≤ m := by
  obtain ⟨n, rfl⟩ := Int.eq_ofNat_of_zero_le h0
  exact zand_bdN (by omega)
theorem zushr_bd {x : Int} {s : Nat} (h0 : 0 ≤ x) (h1 : x < 2147483648) (hs : s < 32) : zushr x s = x / 2 ^ s := by
  obtain ⟨n, rfl⟩ := Int.eq_ofNat_of_zero_le h0
  have hn : n < 2147483648 := by omega
  rw [zushr_eq]
  rw [ofN, ofN]
  have hamt : ∀ s : Nat, s < 32 → (((nI s).toUInt32 &&& Int32.toUInt32 31).toBitVec % 32).toNat = s := by decide +kernel
  rw [pk_ushrN (by omega) _ s (hamt s hs)]
  have : n / 2 ^ s ≤ n := Nat.div_le_self _ _
  rw [nI_toInt (by omega)]
  simp
theorem zbc_ok {x : Int} (h0 : 0 ≤ x) (h1 : x < 2147483648) : okI (zb1 x) ∧ okI (zb2 (zb1 x)) ∧ okI (zb2 (zb1 x) + zushr (zb2 (zb1 x)) 4) ∧ okI (zb4 (zb3 (zb2 (zb1 x)))) ∧ okI (zb5 (zb4 (zb3 (zb2 (zb1 x))))) := by
  have e1 : zushr x 1 = x / 2 ^ 1 := zushr_bd (s := 1) h0 h1 (by decide)
  have a1 := zand_bd (x := zushr x 1) (m := 1431655765) (by decide) (by decide)
  have hy : zb1 x = x - zand (zushr x 1) 1431655765 := rfl
  generalize hb1 : zb1 x = y at hy ⊢
  have oy : okI y := by rw [hy]; constructor <;> omega
  have a2 := zand_bd (x := y) (m := 858993459) (by decide) (by decide)
  have a3 := zand_bd (x := zushr y 2) (m := 858993459) (by decide) (by decide)
  have hw : zb2 y = zand y 858993459 + zand (zushr y 2) 858993459 := rfl
  generalize hb2 : zb2 y = w at hw ⊢
  have hw0 : 0 ≤ w := by omega
  have hw1 : w ≤ 1717986918 := by omega
  have e2 : zushr w 4 = w / 2 ^ 4 := zushr_bd (s := 4) hw0 (by omega) (by decide)
  have a4 := zand_bd (x := w + zushr w 4) (m := 252645135) (by decide) (by decide)
  have hv : zb3 w = zand (w + zushr w 4) 252645135 := rfl
  generalize hb3 : zb3 w = v at hv ⊢
  have hv0 : 0 ≤ v := by omega
  have hv1 : v ≤ 252645135 := by omega
  have e3 : zushr v 8 = v / 2 ^ 8 := zushr_bd (s := 8) hv0 (by omega) (by decide)
  have hu : zb4 v = v + zushr v 8 := rfl
  generalize hb4 : zb4 v = u at hu ⊢
  have hu0 : 0 ≤ u := by omega
  have e4 : zushr u 16 = u / 2 ^ 16 := zushr_bd (s := 16) hu0 (by omega) (by decide)
  have ht : zb5 u = u + zushr u 16 := rfl
  refine ⟨oy, ?_, ?_, ?_, ?_⟩
  · constructor <;> omega
  · constructor <;> omega
  · constructor <;> omega
  · constructor <;> omega
theorem wJI_bitCount {x : Int} (h0 : 0 ≤ x) (h1 : x < 2147483648) (hK : K (some (vI (zbc x))) (V, σ)) : Wp G 0 mJI_bitCount [vI x] (V, σ) 0 0 K := by
  obtain ⟨o1, o2, o3, o4, o5⟩ := zbc_ok h0 h1
  refine wp_intro mJI_bitCount_i.1 [some (vI x)] rfl rfl (Nat.le_of_ble_eq_true rfl) ?_
  intro X hG F C
  have hm := C.rm
  refine aw_iload_0 (q := 1) F dJI_bitCount_0 rfl ?_
  refine aw_iload_0 (q := 2) F dJI_bitCount_1 rfl ?_
  refine aw_iconst (q := 3) F dJI_bitCount_2 rfl (by decide) ?_
  refine aw_iushr (q := 4) F dJI_bitCount_3 rfl ?_
  refine aw_ldcw (q := 7) (z := 1431655765) F dJI_bitCount_4 rfl kJI_265 (by decide) ?_
  refine aw_iand (q := 8) F dJI_bitCount_7 rfl ?_
  refine aw_isub (q := 9) F dJI_bitCount_8 rfl (by exact o1) ?_
  refine aw_istore_0 (q := 10) F dJI_bitCount_9 rfl ?_
  refine aw_iload_0 (q := 11) F dJI_bitCount_10 rfl ?_
  refine aw_ldcw (q := 14) (z := 858993459) F dJI_bitCount_11 rfl kJI_266 (by decide) ?_
  refine aw_iand (q := 15) F dJI_bitCount_14 rfl ?_
  refine aw_iload_0 (q := 16) F dJI_bitCount_15 rfl ?_
  refine aw_iconst (q := 17) F dJI_bitCount_16 rfl (by decide) ?_
  refine aw_iushr (q := 18) F dJI_bitCount_17 rfl ?_
  refine aw_ldcw (q := 21) (z := 858993459) F dJI_bitCount_18 rfl kJI_266 (by decide) ?_
  refine aw_iand (q := 22) F dJI_bitCount_21 rfl ?_
  refine aw_iadd (q := 23) F dJI_bitCount_22 rfl (by exact o2) ?_
  refine aw_istore_0 (q := 24) F dJI_bitCount_23 rfl ?_
  refine aw_iload_0 (q := 25) F dJI_bitCount_24 rfl ?_
  refine aw_iload_0 (q := 26) F dJI_bitCount_25 rfl ?_
  refine aw_iconst (q := 27) F dJI_bitCount_26 rfl (by decide) ?_
  refine aw_iushr (q := 28) F dJI_bitCount_27 rfl ?_
  refine aw_iadd (q := 29) F dJI_bitCount_28 rfl (by exact o3) ?_
  refine aw_ldcw (q := 32) (z := 252645135) F dJI_bitCount_29 rfl kJI_267 (by decide) ?_
  refine aw_iand (q := 33) F dJI_bitCount_32 rfl ?_
  refine aw_istore_0 (q := 34) F dJI_bitCount_33 rfl ?_
  refine aw_iload_0 (q := 35) F dJI_bitCount_34 rfl ?_
  refine aw_iload_0 (q := 36) F dJI_bitCount_35 rfl ?_
  refine aw_bipush (q := 38) F dJI_bitCount_36 rfl (by decide) ?_
  refine aw_iushr (q := 39) F dJI_bitCount_38 rfl ?_
  refine aw_iadd (q := 40) F dJI_bitCount_39 rfl (by exact o4) ?_
  refine aw_istore_0 (q := 41) F dJI_bitCount_40 rfl ?_
  refine aw_iload_0 (q := 42) F dJI_bitCount_41 rfl ?_
  refine aw_iload_0 (q := 43) F dJI_bitCount_42 rfl ?_
  refine aw_bipush (q := 45) F dJI_bitCount_43 rfl (by decide) ?_
  refine aw_iushr (q := 46) F dJI_bitCount_45 rfl ?_
  refine aw_iadd (q := 47) F dJI_bitCount_46 rfl (by exact o5) ?_
  refine aw_istore_0 (q := 48) F dJI_bitCount_47 rfl ?_
  refine aw_iload_0 (q := 49) F dJI_bitCount_48 rfl ?_
  refine aw_bipush (q := 51) F dJI_bitCount_49 rfl (by decide) ?_
  refine aw_iand (q := 52) F dJI_bitCount_51 rfl ?_
  refine aw_iret F C dJI_bitCount_52 rfl (Nat.le_refl _) (Nat.le_refl _) ?_
  exact hK
def zbr (x : Int) : Int :=
  let a (x y : Int) : Int := (Int32.ofInt x &&& Int32.ofInt y).toInt
  let u (x y : Int) : Int := ((Int32.ofInt x).toUInt32 >>> ((Int32.ofInt y).toUInt32 &&& Int32.toUInt32 31)).toInt32.toInt
  let y := x - a (u x 1) 1431655765
  let w := a y 858993459 + a (u y 2) 858993459
  let v := a (w + u w 4) 252645135
  let t := v + u v 8
  a (t + u t 16) 63
theorem zbc_r (x : Int) : zbc x = zbr x := by simp only [zbc, zb5, zb4, zb3, zb2, zb1, zand_eq, zushr_eq, zbr]
theorem zbr_16 : ∀ n : Nat, n < 16 → zbr n = ((n % 2 + n / 2 % 2 + n / 4 % 2 + n / 8 % 2 : Nat) : Int) := by decide +kernel
theorem zbc_16 : ∀ n : Nat, n < 16 → zbc n = ((n % 2 + n / 2 % 2 + n / 4 % 2 + n / 8 % 2 : Nat) : Int) := fun n h => (zbc_r _).trans (zbr_16 n h)
def fillV (V : Nat → Nat → Int) (r i : Nat) (v : Int) : Nat → Nat → Int := fun b j => if b = r ∧ j < i then v else V b j
theorem fillV_0 (V : Nat → Nat → Int) (r : Nat) (v : Int) : fillV V r 0 v = V := by funext b j; simp [fillV]
theorem fillV_s (V : Nat → Nat → Int) (r i : Nat) (v : Int) : up2 (fillV V r i v) r i v = fillV V r (i + 1) v := by
  funext b j
  unfold up2 fillV
  by_cases h1 : b = r
  · by_cases h2 : j = i
    · simp [h1, h2]
    · simp only [h1, h2, true_and, and_false, if_false]
      congr 1
      simp only [eq_iff_iff]
      omega
  · simp [h1]
theorem wJA_fillI {r N : Nat} {v : Int} (ha : sA σ r 11 N) (hN : N < 2147483648) (hK : K none (fillV V r N v, σ)) : Wp G 0 mJA_fillI [vR r, vI v] (V, σ) 0 0 K := by
  refine wp_intro mJA_fillI_i.1 [some (vR r), some (vI v), none, none] rfl rfl (Nat.le_of_ble_eq_true rfl) ?_
  intro X hG F C
  have hm := C.rm
  have loop : ∀ (j i : Nat), N - i = j → i ≤ N → ∀ x : Int, x = i → AW X 5 [some (vR r), some (vI v), some (vI x), some (vI (N : Int))] [] (fillV V r i v, σ) 0 0 := by
    intro j
    induction j using Nat.strongRecOn with
    | ind j ih =>
      intro i hj hi x hx
      refine aw_iload_2 (q := 6) F dJA_fillI_5 rfl ?_
      refine aw_iload_3 (q := 7) F dJA_fillI_6 rfl ?_
      refine aw_icmp_ge (q := 10) (t := 20) F dJA_fillI_7 rfl (by decide) (fun c7 => ?_) (fun c7 => ?_)
      · refine aw_vret F C dJA_fillI_20 rfl (Nat.le_refl _) (Nat.le_refl _) ?_
        rw [show i = N by omega]; exact hK
      · refine aw_aload_0 (q := 11) F dJA_fillI_10 rfl ?_
        refine aw_iload_2 (q := 12) F dJA_fillI_11 rfl ?_
        refine aw_iload_1 (q := 13) F dJA_fillI_12 rfl ?_
        refine av_iastore (q := 14) F dJA_fillI_13 rfl ha (by omega) (by omega) ?_
        refine aw_iinc_2 (q := 17) F dJA_fillI_14 rfl trivial (by constructor <;> omega) ?_
        refine aw_goto (t := 5) F dJA_fillI_17 (by decide) ?_
        rw [show x.toNat = i by omega, fillV_s]; exact ih _ (by omega) (i + 1) rfl (by omega) _ (by omega)
  refine aw_iconst (q := 1) F dJA_fillI_0 rfl (by decide) ?_
  refine aw_istore_2 (q := 2) F dJA_fillI_1 rfl trivial ?_
  refine aw_aload_0 (q := 3) F dJA_fillI_2 rfl ?_
  refine av_alen (q := 4) F dJA_fillI_3 rfl ha (by decide) (by omega) ?_
  refine aw_istore_3 (q := 5) F dJA_fillI_4 rfl trivial ?_
  exact fillV_0 V r v ▸ loop N 0 rfl (by omega) 0 rfl
theorem wJA_fillJ {r N : Nat} {v : Int} (ha : sA σ r 12 N) (hN : N < 2147483648) (hK : K none (fillV V r N v, σ)) : Wp G 0 mJA_fillJ [vR r, vL v] (V, σ) 0 0 K := by
  refine wp_intro mJA_fillJ_i.1 [some (vR r), some (vL v), none, none, none] rfl rfl (Nat.le_of_ble_eq_true rfl) ?_
  intro X hG F C
  have hm := C.rm
  have loop : ∀ (j i : Nat), N - i = j → i ≤ N → ∀ x : Int, x = i → AW X 6 [some (vR r), some (vL v), none, some (vI x), some (vI (N : Int))] [] (fillV V r i v, σ) 0 0 := by
    intro j
    induction j using Nat.strongRecOn with
    | ind j ih =>
      intro i hj hi x hx
      refine aw_iload_3 (q := 7) F dJA_fillJ_6 rfl ?_
      refine aw_iload_4 (q := 9) F dJA_fillJ_7 rfl ?_
      refine aw_icmp_ge (q := 12) (t := 22) F dJA_fillJ_9 rfl (by decide) (fun c9 => ?_) (fun c9 => ?_)
      · refine aw_vret F C dJA_fillJ_22 rfl (Nat.le_refl _) (Nat.le_refl _) ?_
        rw [show i = N by omega]; exact hK
      · refine aw_aload_0 (q := 13) F dJA_fillJ_12 rfl ?_
        refine aw_iload_3 (q := 14) F dJA_fillJ_13 rfl ?_
        refine aw_lload_1 (q := 15) F dJA_fillJ_14 rfl ?_
        refine av_lastore (q := 16) F dJA_fillJ_15 rfl ha (by omega) (by omega) ?_
        refine aw_iinc_3 (q := 19) F dJA_fillJ_16 rfl trivial (by constructor <;> omega) ?_
        refine aw_goto (t := 6) F dJA_fillJ_19 (by decide) ?_
        rw [show x.toNat = i by omega, fillV_s]; exact ih _ (by omega) (i + 1) rfl (by omega) _ (by omega)
  refine aw_iconst (q := 1) F dJA_fillJ_0 rfl (by decide) ?_
  refine aw_istore_3 (q := 2) F dJA_fillJ_1 rfl trivial ?_
  refine aw_aload_0 (q := 3) F dJA_fillJ_2 rfl ?_
  refine av_alen (q := 4) F dJA_fillJ_3 rfl ha (by decide) (by omega) ?_
  refine aw_istore_4 (q := 6) F dJA_fillJ_4 rfl trivial ?_
  exact fillV_0 V r v ▸ loop N 0 rfl (by omega) 0 rfl
end Jdk
