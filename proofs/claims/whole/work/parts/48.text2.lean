theorem dJS_length_0 : decode mJS_length.2.1 0 = .ok (.aload_n 0, 1) := by decide +kernel
theorem dJS_length_1 : decode mJS_length.2.1 1 = .ok (.getfield 9, 3) := by decide +kernel
theorem dJS_length_4 : decode mJS_length.2.1 4 = .ok (.arraylength, 1) := by decide +kernel
theorem dJS_length_5 : decode mJS_length.2.1 5 = .ok (.aload_n 0, 1) := by decide +kernel
theorem dJS_length_6 : decode mJS_length.2.1 6 = .ok (.invokevirtual 335, 3) := by decide +kernel
theorem dJS_length_9 : decode mJS_length.2.1 9 = .ok (.ishr, 1) := by decide +kernel
theorem dJS_length_10 : decode mJS_length.2.1 10 = .ok (.ireturn, 1) := by decide +kernel
theorem dJS_coder_0 : decode mJS_coder.2.1 0 = .ok (.getstatic 38, 3) := by decide +kernel
theorem dJS_coder_3 : decode mJS_coder.2.1 3 = .ok (.ifCond .eq 10, 3) := by decide +kernel
theorem dJS_coder_6 : decode mJS_coder.2.1 6 = .ok (.aload_n 0, 1) := by decide +kernel
theorem dJS_coder_7 : decode mJS_coder.2.1 7 = .ok (.getfield 15, 3) := by decide +kernel
theorem dJS_coder_10 : decode mJS_coder.2.1 10 = .ok (.goto 4, 3) := by decide +kernel
theorem dJS_coder_13 : decode mJS_coder.2.1 13 = .ok (.iconst 1, 1) := by decide +kernel
theorem dJS_coder_14 : decode mJS_coder.2.1 14 = .ok (.ireturn, 1) := by decide +kernel
theorem dJS_charAt_0 : decode mJS_charAt.2.1 0 = .ok (.aload_n 0, 1) := by decide +kernel
theorem dJS_charAt_1 : decode mJS_charAt.2.1 1 = .ok (.invokevirtual 492, 3) := by decide +kernel
theorem dJS_charAt_4 : decode mJS_charAt.2.1 4 = .ok (.ifCond .eq 12, 3) := by decide +kernel
theorem dJS_charAt_7 : decode mJS_charAt.2.1 7 = .ok (.aload_n 0, 1) := by decide +kernel
theorem dJS_charAt_8 : decode mJS_charAt.2.1 8 = .ok (.getfield 9, 3) := by decide +kernel
theorem dJS_charAt_11 : decode mJS_charAt.2.1 11 = .ok (.iload_n 1, 1) := by decide +kernel
theorem dJS_charAt_12 : decode mJS_charAt.2.1 12 = .ok (.invokestatic 495, 3) := by decide +kernel
theorem dJS_charAt_15 : decode mJS_charAt.2.1 15 = .ok (.ireturn, 1) := by decide +kernel
theorem dJS_charAt_16 : decode mJS_charAt.2.1 16 = .ok (.aload_n 0, 1) := by decide +kernel
theorem dJS_charAt_17 : decode mJS_charAt.2.1 17 = .ok (.getfield 9, 3) := by decide +kernel
theorem dJS_charAt_20 : decode mJS_charAt.2.1 20 = .ok (.iload_n 1, 1) := by decide +kernel
theorem dJS_charAt_21 : decode mJS_charAt.2.1 21 = .ok (.invokestatic 498, 3) := by decide +kernel
theorem dJS_charAt_24 : decode mJS_charAt.2.1 24 = .ok (.ireturn, 1) := by decide +kernel
theorem dJS_isLatin1_0 : decode mJS_isLatin1.2.1 0 = .ok (.getstatic 38, 3) := by decide +kernel
theorem dJS_isLatin1_3 : decode mJS_isLatin1.2.1 3 = .ok (.ifCond .eq 14, 3) := by decide +kernel
theorem dJS_isLatin1_6 : decode mJS_isLatin1.2.1 6 = .ok (.aload_n 0, 1) := by decide +kernel
theorem dJS_isLatin1_7 : decode mJS_isLatin1.2.1 7 = .ok (.getfield 15, 3) := by decide +kernel
theorem dJS_isLatin1_10 : decode mJS_isLatin1.2.1 10 = .ok (.ifCond .ne 7, 3) := by decide +kernel
theorem dJS_isLatin1_13 : decode mJS_isLatin1.2.1 13 = .ok (.iconst 1, 1) := by decide +kernel
theorem dJS_isLatin1_14 : decode mJS_isLatin1.2.1 14 = .ok (.goto 4, 3) := by decide +kernel
theorem dJS_isLatin1_17 : decode mJS_isLatin1.2.1 17 = .ok (.iconst 0, 1) := by decide +kernel
theorem dJS_isLatin1_18 : decode mJS_isLatin1.2.1 18 = .ok (.ireturn, 1) := by decide +kernel
theorem dJS_checkIndex_0 : decode mJS_checkIndex.2.1 0 = .ok (.iload_n 0, 1) := by decide +kernel
theorem dJS_checkIndex_1 : decode mJS_checkIndex.2.1 1 = .ok (.iload_n 1, 1) := by decide +kernel
theorem dJS_checkIndex_2 : decode mJS_checkIndex.2.1 2 = .ok (.getstatic 1053, 3) := by decide +kernel
theorem dJS_checkIndex_5 : decode mJS_checkIndex.2.1 5 = .ok (.invokestatic 1059, 3) := by decide +kernel
theorem dJS_checkIndex_8 : decode mJS_checkIndex.2.1 8 = .ok (.pop, 1) := by decide +kernel
theorem dJS_checkIndex_9 : decode mJS_checkIndex.2.1 9 = .ok (.return_, 1) := by decide +kernel
theorem dJ1_charAt_0 : decode mJ1_charAt.2.1 0 = .ok (.iload_n 1, 1) := by decide +kernel
theorem dJ1_charAt_1 : decode mJ1_charAt.2.1 1 = .ok (.aload_n 0, 1) := by decide +kernel
theorem dJ1_charAt_2 : decode mJ1_charAt.2.1 2 = .ok (.arraylength, 1) := by decide +kernel
theorem dJ1_charAt_3 : decode mJ1_charAt.2.1 3 = .ok (.invokestatic 9, 3) := by decide +kernel
theorem dJ1_charAt_6 : decode mJ1_charAt.2.1 6 = .ok (.aload_n 0, 1) := by decide +kernel
theorem dJ1_charAt_7 : decode mJ1_charAt.2.1 7 = .ok (.iload_n 1, 1) := by decide +kernel
theorem dJ1_charAt_8 : decode mJ1_charAt.2.1 8 = .ok (.baload, 1) := by decide +kernel
theorem dJ1_charAt_9 : decode mJ1_charAt.2.1 9 = .ok (.sipush 255, 3) := by decide +kernel
theorem dJ1_charAt_12 : decode mJ1_charAt.2.1 12 = .ok (.iand, 1) := by decide +kernel
theorem dJ1_charAt_13 : decode mJ1_charAt.2.1 13 = .ok (.i2c, 1) := by decide +kernel
theorem dJ1_charAt_14 : decode mJ1_charAt.2.1 14 = .ok (.ireturn, 1) := by decide +kernel
theorem dJP_checkIndex_0 : decode mJP_checkIndex.2.1 0 = .ok (.iload_n 0, 1) := by decide +kernel
theorem dJP_checkIndex_1 : decode mJP_checkIndex.2.1 1 = .ok (.ifCond .lt 8, 3) := by decide +kernel
theorem dJP_checkIndex_4 : decode mJP_checkIndex.2.1 4 = .ok (.iload_n 0, 1) := by decide +kernel
theorem dJP_checkIndex_5 : decode mJP_checkIndex.2.1 5 = .ok (.iload_n 1, 1) := by decide +kernel
theorem dJP_checkIndex_6 : decode mJP_checkIndex.2.1 6 = .ok (.if_icmp .lt 10, 3) := by decide +kernel
theorem dJP_checkIndex_9 : decode mJP_checkIndex.2.1 9 = .ok (.aload_n 2, 1) := by decide +kernel
theorem dJP_checkIndex_10 : decode mJP_checkIndex.2.1 10 = .ok (.iload_n 0, 1) := by decide +kernel
theorem dJP_checkIndex_11 : decode mJP_checkIndex.2.1 11 = .ok (.iload_n 1, 1) := by decide +kernel
theorem dJP_checkIndex_12 : decode mJP_checkIndex.2.1 12 = .ok (.invokestatic 95, 3) := by decide +kernel
theorem dJP_checkIndex_15 : decode mJP_checkIndex.2.1 15 = .ok (.athrow, 1) := by decide +kernel
theorem dJP_checkIndex_16 : decode mJP_checkIndex.2.1 16 = .ok (.iload_n 0, 1) := by decide +kernel
theorem dJP_checkIndex_17 : decode mJP_checkIndex.2.1 17 = .ok (.ireturn, 1) := by decide +kernel
theorem zc_t : ∀ n : Nat, n < 128 → ((Int32.ofInt (n : Int)).toUInt32 % 65536).toInt32.toInt = ((n : Nat) : Int) := by decide +kernel
theorem zc_s {z : Int} (h : 0 ≤ z ∧ z < 128) : zc z = z := by
  rw [zc_eq]
  have := zc_t z.toNat (by omega)
  rw [show ((z.toNat : Nat) : Int) = z by omega] at this
  exact this
theorem nw_c : ∀ n : Nat, n < 128 → narrow .char (.int (Int32.ofInt (n : Int))) = .int (Int32.ofInt (n : Int)) := by decide +kernel
theorem nw_cz {z : Int} (h : 0 ≤ z ∧ z < 128) : narrow .char (.int (Int32.ofInt z)) = .int (Int32.ofInt z) := by
  have := nw_c z.toNat (by omega)
  rw [show ((z.toNat : Nat) : Int) = z by omega] at this
  exact this
section Text2
variable {G : GE} {V : Nat → Nat → Int} {σ : Shp} {K : Option AV → Mem → Prop} {j : Nat}
theorem wJS_coder (hj : j < 19) (hK : K (some (vI 0)) (V, σ)) : Wp G 0 mJS_coder [vR (BG + j)] (V, σ) 0 0 K := by
  refine wp_intro mJS_coder_i.1 [some (vR (BG + j))] rfl rfl (Nat.le_of_ble_eq_true rfl) ?_
  intro X hG F C
  have hm := C.rm
  refine aw_kcmp (q := 3) F lk_cmp dJS_coder_0 rfl ?_
  refine aw_if_eq (q := 6) (t := 13) F dJS_coder_3 rfl (by decide) (fun c => absurd c (by decide)) (fun _ => ?_)
  refine aw_aload_0 (q := 7) F dJS_coder_6 rfl ?_
  refine aw_kcod (q := 10) F hj lk_cod dJS_coder_7 rfl ?_
  refine aw_goto (t := 14) F dJS_coder_10 (by decide) ?_
  exact aw_nret F C dJS_coder_14 rfl rfl (Nat.le_refl _) (Nat.le_refl _) hK
theorem wJS_isLatin1 (hj : j < 19) (hK : K (some (vI 1)) (V, σ)) : Wp G 0 mJS_isLatin1 [vR (BG + j)] (V, σ) 0 0 K := by
  refine wp_intro mJS_isLatin1_i.1 [some (vR (BG + j))] rfl rfl (Nat.le_of_ble_eq_true rfl) ?_
  intro X hG F C
  have hm := C.rm
  refine aw_kcmp (q := 3) F lk_cmp dJS_isLatin1_0 rfl ?_
  refine aw_if_eq (q := 6) (t := 17) F dJS_isLatin1_3 rfl (by decide) (fun c => absurd c (by decide)) (fun _ => ?_)
  refine aw_aload_0 (q := 7) F dJS_isLatin1_6 rfl ?_
  refine aw_kcod (q := 10) F hj lk_cod dJS_isLatin1_7 rfl ?_
  refine aw_if_ne (q := 13) (t := 17) F dJS_isLatin1_10 rfl (by decide) (fun c10 => by exact absurd rfl c10) (fun c10 => ?_)
  refine aw_iconst (q := 14) F dJS_isLatin1_13 rfl (by decide) ?_
  refine aw_goto (t := 18) F dJS_isLatin1_14 (by decide) ?_
  refine aw_zret F C dJS_isLatin1_18 rfl (by decide) (Nat.le_refl _) (Nat.le_refl _) ?_
  exact hK
theorem wJS_length (hj : j < 19) (hK : K (some (vI (kLen.getD j 0 : Nat))) (V, σ)) : Wp G 1 mJS_length [vR (BG + j)] (V, σ) 0 0 K := by
  have hlt := kLen_ok j hj
  refine wp_intro mJS_length_i.1 [some (vR (BG + j))] rfl rfl (Nat.le_of_ble_eq_true rfl) ?_
  intro X hG F C
  have hm := C.rm
  refine aw_aload_0 (q := 1) F dJS_length_0 rfl ?_
  refine aw_kval (q := 4) F hj lk_val dJS_length_1 rfl ?_
  refine aw_klen (q := 5) F hj dJS_length_4 rfl ?_
  refine aw_aload_0 (q := 6) F dJS_length_5 rfl ?_
  refine aw_callK0 (q := 9) F hm mJS_coder_i hj mJS_coder_n (tb2 200 (by decide +kernel) rfl) dJS_length_6 rfl rfl (by decide) (Nat.le_refl _) (Nat.le_refl _) (Nat.le_of_ble_eq_true rfl) (wJS_coder hj ?_)
  refine aw_ishr (q := 10) F dJS_length_9 rfl ?_
  refine aw_iret F C dJS_length_10 rfl (Nat.le_refl _) (Nat.le_refl _) ?_
  refine kI hK ?_; rw [show (0 : Int) = ((0 : Nat) : Int) from rfl, zshr_i (by constructor <;> omega) (by decide)]; omega
theorem wJP_checkIndex {x n : Int} {r : Nat} (hx : 0 ≤ x ∧ x < n) (hK : K (some (vI x)) (V, σ)) : Wp G 0 mJP_checkIndex [vI x, vI n, vR r] (V, σ) 0 0 K := by
  refine wp_intro mJP_checkIndex_i.1 [some (vI x), some (vI n), some (vR r)] rfl rfl (Nat.le_of_ble_eq_true rfl) ?_
  intro X hG F C
  have hm := C.rm
  refine aw_iload_0 (q := 1) F dJP_checkIndex_0 rfl ?_
  refine aw_if_lt (q := 4) (t := 9) F dJP_checkIndex_1 rfl (by decide) (fun c1 => by omega) (fun c1 => ?_)
  refine aw_iload_0 (q := 5) F dJP_checkIndex_4 rfl ?_
  refine aw_iload_1 (q := 6) F dJP_checkIndex_5 rfl ?_
  refine aw_icmp_lt (q := 9) (t := 16) F dJP_checkIndex_6 rfl (by decide) (fun c6 => ?_) (fun c6 => by omega)
  refine aw_iload_0 (q := 17) F dJP_checkIndex_16 rfl ?_
  refine aw_iret F C dJP_checkIndex_17 rfl (Nat.le_refl _) (Nat.le_refl _) ?_
  exact hK
theorem wJS_checkIndex {x n : Int} (hx : 0 ≤ x ∧ x < n) (hK : K none (V, σ)) : Wp G 1 mJS_checkIndex [vI x, vI n] (V, σ) 0 0 K := by
  refine wp_intro mJS_checkIndex_i.1 [some (vI x), some (vI n)] rfl rfl (Nat.le_of_ble_eq_true rfl) ?_
  intro X hG F C
  have hm := C.rm
  refine aw_iload_0 (q := 1) F dJS_checkIndex_0 rfl ?_
  refine aw_iload_1 (q := 2) F dJS_checkIndex_1 rfl ?_
  refine aw_kfrm (q := 5) F lk_frm dJS_checkIndex_2 rfl (fun r => ?_)
  refine av_callS3 (q := 8) F hm mJP_checkIndex_i mJP_checkIndex_n lJS_1059 dJS_checkIndex_5 rfl (by decide) (Nat.le_refl _) (Nat.le_refl _) (Nat.le_of_ble_eq_true rfl) (wJP_checkIndex hx ?_)
  refine aw_pop (q := 9) F dJS_checkIndex_8 rfl trivial ?_
  refine aw_vret F C dJS_checkIndex_9 rfl (Nat.le_refl _) (Nat.le_refl _) ?_
  exact hK
theorem wJ1_charAt {x : Int} (hj : j < 19) (hx : 0 ≤ x ∧ x < kLen.getD j 0) (hK : K (some (vI (kCh j x.toNat))) (V, σ)) : Wp G 2 mJ1_charAt [vR (BG + (19 + j)), vI x] (V, σ) 0 0 K := by
  have hc := kCh_ok j hj x.toNat (by omega)
  refine wp_intro mJ1_charAt_i.1 [some (vR (BG + (19 + j))), some (vI x)] rfl rfl (Nat.le_of_ble_eq_true rfl) ?_
  intro X hG F C
  have hm := C.rm
  refine aw_iload_1 (q := 1) F dJ1_charAt_0 rfl ?_
  refine aw_aload_0 (q := 2) F dJ1_charAt_1 rfl ?_
  refine aw_klen (q := 3) F hj dJ1_charAt_2 rfl ?_
  refine av_callS2 (q := 6) F hm mJS_checkIndex_i mJS_checkIndex_n lJ1_9 dJ1_charAt_3 rfl (by decide) (Nat.le_refl _) (Nat.le_refl _) (Nat.le_of_ble_eq_true rfl) (wJS_checkIndex hx ?_)
  refine aw_aload_0 (q := 7) F dJ1_charAt_6 rfl ?_
  refine aw_iload_1 (q := 8) F dJ1_charAt_7 rfl ?_
  refine aw_kald (q := 9) F hj dJ1_charAt_8 rfl hx.1 hx.2 ?_
  refine aw_sipush (q := 12) F dJ1_charAt_9 rfl (by decide) ?_
  refine aw_iand (q := 13) F dJ1_charAt_12 rfl ?_
  rw [show (255 : Int) = ((255 : Nat) : Int) from rfl, zand_mask 8 (by decide) (by decide), show kCh j x.toNat % 2 ^ 8 = kCh j x.toNat from Int.emod_eq_of_lt hc.1 (by show _ < 256; omega)]
  refine aw_i2c (q := 14) F dJ1_charAt_13 rfl ?_
  rw [zc_s hc]; exact aw_nret F C dJ1_charAt_14 rfl (nw_cz hc) (Nat.le_refl _) (Nat.le_refl _) hK
theorem wJS_charAt {x : Int} (hj : j < 19) (hx : 0 ≤ x ∧ x < kLen.getD j 0) (hK : K (some (vI (kCh j x.toNat))) (V, σ)) : Wp G 3 mJS_charAt [vR (BG + j), vI x] (V, σ) 0 0 K := by
  have hc := kCh_ok j hj x.toNat (by omega)
  refine wp_intro mJS_charAt_i.1 [some (vR (BG + j)), some (vI x)] rfl rfl (Nat.le_of_ble_eq_true rfl) ?_
  intro X hG F C
  have hm := C.rm
  refine aw_aload_0 (q := 1) F dJS_charAt_0 rfl ?_
  refine aw_callK0 (q := 4) F hm mJS_isLatin1_i hj mJS_isLatin1_n (tb2 210 (by decide +kernel) rfl) dJS_charAt_1 rfl rfl (by decide) (Nat.le_refl _) (Nat.le_refl _) (Nat.le_of_ble_eq_true rfl) (wJS_isLatin1 hj ?_)
  refine aw_if_eq (q := 7) (t := 16) F dJS_charAt_4 rfl (by decide) (fun c4 => by exact absurd c4 (by decide)) (fun c4 => ?_)
  refine aw_aload_0 (q := 8) F dJS_charAt_7 rfl ?_
  refine aw_kval (q := 11) F hj lk_val dJS_charAt_8 rfl ?_
  refine aw_iload_1 (q := 12) F dJS_charAt_11 rfl ?_
  refine av_callS2 (q := 15) F hm mJ1_charAt_i mJ1_charAt_n lJS_495 dJS_charAt_12 rfl (by decide) (Nat.le_refl _) (Nat.le_refl _) (Nat.le_of_ble_eq_true rfl) (wJ1_charAt hj hx ?_)
  exact aw_nret F C dJS_charAt_15 rfl (nw_cz hc) (Nat.le_refl _) (Nat.le_refl _) hK
end Text2
