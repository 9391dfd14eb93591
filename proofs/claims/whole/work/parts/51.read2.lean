theorem TKR.p {V : Nat → Nat → Int} {e n : Nat} {t : TK} (h : TKR V e t) (ok : okTk n t) : V e 2 + V e 5 = t.2.2.1 := by
  obtain ⟨h1, h2, -⟩ := h
  have := ok.1
  omega
theorem TKR.up {V : Nat → Nat → Int} {e b j : Nat} {z : Int} {t : TK} (h : TKR V e t) (hb : b ≠ e ∨ (j ≠ 2 ∧ j ≠ 5 ∧ j ≠ 6 ∧ j ≠ 7 ∧ j ≠ 8)) : TKR (up2 V b j z) e t := by
  have hh : ∀ i, i = 2 ∨ i = 5 ∨ i = 6 ∨ i = 7 ∨ i = 8 → up2 V b j z e i = V e i := fun i hi => up2_ne _ _ (fun q => by omega)
  unfold TKR
  rw [hh 2 (by omega), hh 5 (by omega), hh 6 (by omega), hh 7 (by omega), hh 8 (by omega)]
  exact h
theorem rdF.up {V V1 : Nat → Nat → Int} {e b j : Nat} {z : Int} (h : rdF V V1 e) (hb : e ≤ b ∧ b ≤ e + 8) (hj : b ≠ e ∨ j ≠ 4) : rdF V (up2 V1 b j z) e := ⟨fun q hq => by rw [up2_nea _ _ (by omega)]; exact h.1 q hq, by rw [up2_ne _ _ (fun q => by omega)]; exact h.2⟩
section Read2
variable {G : GE} {V : Nat → Nat → Int} {σ : Shp} {K : Option AV → Mem → Prop} {e n j : Nat} {B : Nat → Int} {t : TK} {r : PR}
theorem wE_wordNumber (hj : j < 3) (hs : rdS σ e) (hT : TKR V e t) (hok : okTk n t) (hK : K (some (vI (wnI j t))) (V, σ)) : Wp G 4 mE_wordNumber [vR e, vR (BG + j)] (V, σ) 0 0 K := by
  have hl := kLen_ok j (by omega)
  obtain ⟨-, -, t6, t8, -⟩ := hT
  refine wp_intro mE_wordNumber_i.1 [some (vR e), some (vR (BG + j)), none, none, none, none] rfl rfl (Nat.le_of_ble_eq_true rfl) ?_
  intro X hG F C
  have hm := C.rm
  have loop : t.1 = 1 → ∀ (m i : Nat), kLen.getD j 0 - i = m → i ≤ kLen.getD j 0 → ∀ (z w : Int) (u : Option AV), z = spI j i → w = i → wnF j t.2.2.2 (kLen.getD j 0 - i) i = wnF j t.2.2.2 (kLen.getD j 0) 0 → AW X 15 [some (vR e), some (vR (BG + j)), some (vL z), none, some (vI w), u] [] (V, σ) 0 0 := by
    intro ht m
    have e8 : V e 8 = t.2.2.2 := t8 ht
    have hK1 : K (some (vI (wnF j t.2.2.2 (kLen.getD j 0) 0))) (V, σ) := by unfold wnI at hK; rw [if_pos ht] at hK; exact hK
    induction m using Nat.strongRecOn with
    | ind m ih =>
      intro i hm2 hi z w u hz hw hF
      have hlt : i < kLen.getD j 0 → spI j i < 32 ^ 8 ∧ spC j i < 32 ^ 8 := sp_lt j hj i
      have hch : i < kLen.getD j 0 → 0 ≤ kCh j i ∧ kCh j i < 128 := kCh_ok j (by omega) i
      have eF : i < kLen.getD j 0 → wnF j t.2.2.2 (kLen.getD j 0 - i) i = if i % 8 = 7 ∧ spC j i = t.2.2.2 then ((i / 8 : Nat) : Int) else wnF j t.2.2.2 (kLen.getD j 0 - (i + 1)) (i + 1) := fun q => by rw [show kLen.getD j 0 - i = (kLen.getD j 0 - (i + 1)) + 1 by omega]; rfl
      have eS : spI j (i + 1) = if i % 8 = 7 then 0 else spC j i := rfl
      have eB : i < kLen.getD j 0 → ¬ kCh j i = 32 → yor (yshl ((spI j i : Nat) : Int) 5) (zand (kCh j i) 31) = ((spC j i : Nat) : Int) := fun q h32 => by
        have h1 := hch q
        rw [show (31 : Int) = ((31 : Nat) : Int) from rfl, zand_mask 5 (by decide) (by decide), show kCh j i % 2 ^ 5 = (((kCh j i).toNat % 32 : Nat) : Int) by omega, spell (hlt q).1 (Nat.mod_lt _ (by decide))]
        unfold spC
        rw [if_neg h32]
      have eA : kCh j i = 32 → ((spI j i : Nat) : Int) = ((spC j i : Nat) : Int) := fun h32 => by unfold spC; rw [if_pos h32]
      refine aw_iload_4 (q := 17) F dE_wordNumber_15 rfl ?_
      refine aw_aload_1 (q := 18) F dE_wordNumber_17 rfl ?_
      refine aw_callK0 (q := 21) F hm mJS_length_i (by omega) mJS_length_n (tb2 196 (by decide +kernel) rfl) dE_wordNumber_18 rfl rfl (by decide) (Nat.le_refl _) (Nat.le_refl _) (Nat.le_of_ble_eq_true rfl) (wJS_length (by omega) ?_)
      refine aw_icmp_ge (q := 24) (t := 87) F dE_wordNumber_21 rfl (by decide) (fun c21 => ?_) (fun c21 => ?_)
      · refine aw_iconst (q := 88) F dE_wordNumber_87 rfl (by decide) ?_
        refine aw_iret F C dE_wordNumber_88 rfl (Nat.le_refl _) (Nat.le_refl _) ?_
        refine kI hK1 ?_; rw [← hF, show kLen.getD j 0 - i = 0 by omega]; rfl
      · refine aw_aload_1 (q := 25) F dE_wordNumber_24 rfl ?_
        refine aw_iload_4 (q := 27) F dE_wordNumber_25 rfl ?_
        refine aw_callK1 (q := 30) F hm mJS_charAt_i (by omega) mJS_charAt_n (tb2 206 (by decide +kernel) rfl) dE_wordNumber_27 rfl rfl (by decide) (Nat.le_refl _) (Nat.le_refl _) (Nat.le_of_ble_eq_true rfl) (wJS_charAt (by omega) ⟨by omega, by omega⟩ ?_)
        rw [show w.toNat = i by omega, hz]
        refine aw_istore_5 (q := 32) F dE_wordNumber_30 rfl trivial ?_
        refine aw_iload_5 (q := 34) F dE_wordNumber_32 rfl ?_
        refine aw_bipush (q := 36) F dE_wordNumber_34 rfl (by decide) ?_
        refine aw_icmp_ne (q := 39) (t := 43) F dE_wordNumber_36 rfl (by decide) (fun c36 => ?_) (fun c36 => ?_)
        · refine aw_lload_2 (q := 44) F dE_wordNumber_43 rfl ?_
          refine aw_iconst (q := 45) F dE_wordNumber_44 rfl (by decide) ?_
          refine aw_lshl (q := 46) F dE_wordNumber_45 rfl ?_
          refine aw_iload_5 (q := 48) F dE_wordNumber_46 rfl ?_
          refine aw_bipush (q := 50) F dE_wordNumber_48 rfl (by decide) ?_
          refine aw_iand (q := 51) F dE_wordNumber_50 rfl ?_
          refine aw_i2l (q := 52) F dE_wordNumber_51 rfl ?_
          refine aw_lor (q := 53) F dE_wordNumber_52 rfl ?_
          first | rw [eB (by omega) c36] | rw [eA c36]
          refine aw_lstore_2 (q := 54) F dE_wordNumber_53 rfl trivial ?_
          refine aw_iload_4 (q := 56) F dE_wordNumber_54 rfl ?_
          refine aw_bipush (q := 58) F dE_wordNumber_56 rfl (by decide) ?_
          refine aw_irem (q := 59) F dE_wordNumber_58 rfl (by omega) (by omega) ?_
          refine aw_bipush (q := 61) F dE_wordNumber_59 rfl (by decide) ?_
          refine aw_icmp_ne (q := 64) (t := 81) F dE_wordNumber_61 rfl (by decide) (fun c61 => ?_) (fun c61 => ?_)
          · refine aw_iinc_4 (q := 84) F dE_wordNumber_81 rfl trivial (by constructor <;> omega) ?_
            refine aw_goto (t := 15) F dE_wordNumber_84 (by decide) ?_
            first
            | (rw [e8, ycmpE] at c70
               refine ih _ (by omega) (i + 1) rfl (by omega) _ _ _ ?_ (by omega) (by rw [← hF, eF (by omega), if_neg (fun q => c70 (by rw [q.2]))])
               rw [eS, if_pos (by omega)]; rfl)
            | (refine ih _ (by omega) (i + 1) rfl (by omega) _ _ _ ?_ (by omega) (by rw [← hF, eF (by omega), if_neg (fun q => by omega)])
               rw [eS, if_neg (by omega)])
          · refine aw_lload_2 (q := 65) F dE_wordNumber_64 rfl ?_
            refine aw_aload_0 (q := 66) F dE_wordNumber_65 rfl ?_
            refine av_getl (q := 69) F fE_151 dE_wordNumber_66 rfl rfl (by first | exact hs.o | exact hs.a2 | exact hs.a8 | exact hs.to | exact hs.t.a1 | exact hs.t.a2 | exact hs.t.a3) ?_
            refine aw_lcmp (q := 70) F dE_wordNumber_69 rfl ?_
            refine aw_if_ne (q := 73) (t := 79) F dE_wordNumber_70 rfl (by decide) (fun c70 => ?_) (fun c70 => ?_)
            · refine aw_lconst (q := 80) (z := 0) F dE_wordNumber_79 rfl rfl ?_
              refine aw_lstore_2 (q := 81) F dE_wordNumber_80 rfl trivial ?_
              refine aw_iinc_4 (q := 84) F dE_wordNumber_81 rfl trivial (by constructor <;> omega) ?_
              refine aw_goto (t := 15) F dE_wordNumber_84 (by decide) ?_
              first
              | (rw [e8, ycmpE] at c70
                 refine ih _ (by omega) (i + 1) rfl (by omega) _ _ _ ?_ (by omega) (by rw [← hF, eF (by omega), if_neg (fun q => c70 (by rw [q.2]))])
                 rw [eS, if_pos (by omega)]; rfl)
              | (refine ih _ (by omega) (i + 1) rfl (by omega) _ _ _ ?_ (by omega) (by rw [← hF, eF (by omega), if_neg (fun q => by omega)])
                 rw [eS, if_neg (by omega)])
            · refine aw_iload_4 (q := 75) F dE_wordNumber_73 rfl ?_
              refine aw_bipush (q := 77) F dE_wordNumber_75 rfl (by decide) ?_
              refine aw_idiv (q := 78) F dE_wordNumber_77 rfl (by omega) (by omega) ?_
              refine aw_iret F C dE_wordNumber_78 rfl (Nat.le_refl _) (Nat.le_refl _) ?_
              refine kI hK1 ?_
              rw [e8, ycmpE] at c70
              rw [← hF, eF (by omega), if_pos ⟨by omega, by omega⟩]
              omega
        · refine aw_lload_2 (q := 40) F dE_wordNumber_39 rfl ?_
          refine aw_goto (t := 53) F dE_wordNumber_40 (by decide) ?_
          first | rw [eB (by omega) c36] | rw [eA c36]
          refine aw_lstore_2 (q := 54) F dE_wordNumber_53 rfl trivial ?_
          refine aw_iload_4 (q := 56) F dE_wordNumber_54 rfl ?_
          refine aw_bipush (q := 58) F dE_wordNumber_56 rfl (by decide) ?_
          refine aw_irem (q := 59) F dE_wordNumber_58 rfl (by omega) (by omega) ?_
          refine aw_bipush (q := 61) F dE_wordNumber_59 rfl (by decide) ?_
          refine aw_icmp_ne (q := 64) (t := 81) F dE_wordNumber_61 rfl (by decide) (fun c61 => ?_) (fun c61 => ?_)
          · refine aw_iinc_4 (q := 84) F dE_wordNumber_81 rfl trivial (by constructor <;> omega) ?_
            refine aw_goto (t := 15) F dE_wordNumber_84 (by decide) ?_
            first
            | (rw [e8, ycmpE] at c70
               refine ih _ (by omega) (i + 1) rfl (by omega) _ _ _ ?_ (by omega) (by rw [← hF, eF (by omega), if_neg (fun q => c70 (by rw [q.2]))])
               rw [eS, if_pos (by omega)]; rfl)
            | (refine ih _ (by omega) (i + 1) rfl (by omega) _ _ _ ?_ (by omega) (by rw [← hF, eF (by omega), if_neg (fun q => by omega)])
               rw [eS, if_neg (by omega)])
          · refine aw_lload_2 (q := 65) F dE_wordNumber_64 rfl ?_
            refine aw_aload_0 (q := 66) F dE_wordNumber_65 rfl ?_
            refine av_getl (q := 69) F fE_151 dE_wordNumber_66 rfl rfl (by first | exact hs.o | exact hs.a2 | exact hs.a8 | exact hs.to | exact hs.t.a1 | exact hs.t.a2 | exact hs.t.a3) ?_
            refine aw_lcmp (q := 70) F dE_wordNumber_69 rfl ?_
            refine aw_if_ne (q := 73) (t := 79) F dE_wordNumber_70 rfl (by decide) (fun c70 => ?_) (fun c70 => ?_)
            · refine aw_lconst (q := 80) (z := 0) F dE_wordNumber_79 rfl rfl ?_
              refine aw_lstore_2 (q := 81) F dE_wordNumber_80 rfl trivial ?_
              refine aw_iinc_4 (q := 84) F dE_wordNumber_81 rfl trivial (by constructor <;> omega) ?_
              refine aw_goto (t := 15) F dE_wordNumber_84 (by decide) ?_
              first
              | (rw [e8, ycmpE] at c70
                 refine ih _ (by omega) (i + 1) rfl (by omega) _ _ _ ?_ (by omega) (by rw [← hF, eF (by omega), if_neg (fun q => c70 (by rw [q.2]))])
                 rw [eS, if_pos (by omega)]; rfl)
              | (refine ih _ (by omega) (i + 1) rfl (by omega) _ _ _ ?_ (by omega) (by rw [← hF, eF (by omega), if_neg (fun q => by omega)])
                 rw [eS, if_neg (by omega)])
            · refine aw_iload_4 (q := 75) F dE_wordNumber_73 rfl ?_
              refine aw_bipush (q := 77) F dE_wordNumber_75 rfl (by decide) ?_
              refine aw_idiv (q := 78) F dE_wordNumber_77 rfl (by omega) (by omega) ?_
              refine aw_iret F C dE_wordNumber_78 rfl (Nat.le_refl _) (Nat.le_refl _) ?_
              refine kI hK1 ?_
              rw [e8, ycmpE] at c70
              rw [← hF, eF (by omega), if_pos ⟨by omega, by omega⟩]
              omega
  refine aw_aload_0 (q := 1) F dE_wordNumber_0 rfl ?_
  refine av_geti (q := 4) F fE_43 dE_wordNumber_1 rfl rfl (by first | exact hs.o | exact hs.a2 | exact hs.a8 | exact hs.to | exact hs.t.a1 | exact hs.t.a2 | exact hs.t.a3) ?_
  refine aw_iconst (q := 5) F dE_wordNumber_4 rfl (by decide) ?_
  refine aw_icmp_eq (q := 8) (t := 10) F dE_wordNumber_5 rfl (by decide) (fun c5 => ?_) (fun c5 => ?_)
  · refine aw_lconst (q := 11) (z := 0) F dE_wordNumber_10 rfl rfl ?_
    refine aw_lstore_2 (q := 12) F dE_wordNumber_11 rfl trivial ?_
    refine aw_iconst (q := 13) F dE_wordNumber_12 rfl (by decide) ?_
    refine aw_istore_4 (q := 15) F dE_wordNumber_13 rfl trivial ?_
    exact loop (by omega) _ 0 rfl (by omega) _ _ _ rfl rfl rfl
  · refine aw_iconst (q := 9) F dE_wordNumber_8 rfl (by decide) ?_
    refine aw_iret F C dE_wordNumber_9 rfl (Nat.le_refl _) (Nat.le_refl _) ?_
    refine kI hK ?_; unfold wnI; rw [if_neg (by omega)]
theorem wE_isName (hs : rdS σ e) (hT : TKR V e t) (hok : okTk n t) (h1 : isNm t = true → K (some (vI 1)) (V, σ)) (h0 : isNm t = false → K (some (vI 0)) (V, σ)) : Wp G 5 mE_isName [vR e] (V, σ) 0 0 K := by
  have t6 := hT.2.2.1
  refine wp_intro mE_isName_i.1 [some (vR e)] rfl rfl (Nat.le_of_ble_eq_true rfl) ?_
  intro X hG F C
  have hm := C.rm
  refine aw_aload_0 (q := 1) F dE_isName_0 rfl ?_
  refine av_geti (q := 4) F fE_43 dE_isName_1 rfl rfl (by first | exact hs.o | exact hs.a2 | exact hs.a8 | exact hs.to | exact hs.t.a1 | exact hs.t.a2 | exact hs.t.a3) ?_
  refine aw_iconst (q := 5) F dE_isName_4 rfl (by decide) ?_
  refine aw_icmp_ne (q := 8) (t := 22) F dE_isName_5 rfl (by decide) (fun c5 => ?_) (fun c5 => ?_)
  · refine aw_iconst (q := 23) F dE_isName_22 rfl (by decide) ?_
    refine aw_zret F C dE_isName_23 rfl (by decide) (Nat.le_refl _) (Nat.le_refl _) ?_
    refine h0 ?_
    unfold isNm
    first
    | (rw [show (wnI 0 t == -1) = false from beq_eq_false_iff_ne.mpr c15]; simp)
    | (rw [show (t.1 == 1) = false from beq_eq_false_iff_ne.mpr (by omega)]; rfl)
  · refine aw_aload_0 (q := 9) F dE_isName_8 rfl ?_
    refine aw_ldcS (q := 11) (j := 0) F dE_isName_9 rfl (by decide) rfl rfl ?_
    refine av_callV1 (q := 14) (ci := 3) F hm mE_wordNumber_i mE_wordNumber_n lE_55 dE_isName_11 rfl rfl rfl (by first | exact hs.o | exact hs.a2 | exact hs.a8 | exact hs.to | exact hs.t.a1 | exact hs.t.a2 | exact hs.t.a3) (by decide) (Nat.le_refl _) (Nat.le_refl _) (Nat.le_of_ble_eq_true rfl) (wE_wordNumber (j := 0) (by omega) hs hT hok ?_)
    refine aw_iconst (q := 15) F dE_isName_14 rfl (by decide) ?_
    refine aw_icmp_ne (q := 18) (t := 22) F dE_isName_15 rfl (by decide) (fun c15 => ?_) (fun c15 => ?_)
    · refine aw_iconst (q := 23) F dE_isName_22 rfl (by decide) ?_
      refine aw_zret F C dE_isName_23 rfl (by decide) (Nat.le_refl _) (Nat.le_refl _) ?_
      refine h0 ?_
      unfold isNm
      first
      | (rw [show (wnI 0 t == -1) = false from beq_eq_false_iff_ne.mpr c15]; simp)
      | (rw [show (t.1 == 1) = false from beq_eq_false_iff_ne.mpr (by omega)]; rfl)
    · refine aw_iconst (q := 19) F dE_isName_18 rfl (by decide) ?_
      refine aw_goto (t := 23) F dE_isName_19 (by decide) ?_
      refine aw_zret F C dE_isName_23 rfl (by decide) (Nat.le_refl _) (Nat.le_refl _) ?_
      exact h1 (by unfold isNm; rw [c15, show t.1 = 1 by omega]; rfl)
theorem wE_nameHere (hs : rdS σ e) (hT : TKR V e t) (ht : t.1 = 1) (hR : RER V e r) (hK : K (some (vI (nmI r t))) (V, σ)) : Wp G 0 mE_nameHere [vR e] (V, σ) 0 0 K := by
  have t8 := hT.2.2.2.1 ht
  have hn := hR.2.2.2
  refine wp_intro mE_nameHere_i.1 [some (vR e), none] rfl rfl (Nat.le_of_ble_eq_true rfl) ?_
  intro X hG F C
  have hm := C.rm
  have loop : ∀ (m i : Nat), 6 - i = m → i ≤ 6 → ∀ (w : Int), w = i → (∀ k, k < i → (r.2.2.2 k == t.2.2.2) = false) → AW X 2 [some (vR e), some (vI w)] [] (V, σ) 0 0 := by
    intro m
    induction m using Nat.strongRecOn with
    | ind m ih =>
      intro i hm2 hi w hw hb
      refine aw_iload_1 (q := 3) F dE_nameHere_2 rfl ?_
      refine aw_aload_0 (q := 4) F dE_nameHere_3 rfl ?_
      refine av_getaE (q := 7) F fE_18 dE_nameHere_4 rfl rfl (by first | exact hs.o | exact hs.a2 | exact hs.a8 | exact hs.to | exact hs.t.a1 | exact hs.t.a2 | exact hs.t.a3) hs.p11 ?_
      refine av_alen (q := 8) F dE_nameHere_7 rfl (by first | exact hs.o | exact hs.a2 | exact hs.a8 | exact hs.to | exact hs.t.a1 | exact hs.t.a2 | exact hs.t.a3) (by decide) (by omega) ?_
      refine aw_icmp_ge (q := 11) (t := 33) F dE_nameHere_8 rfl (by decide) (fun c8 => ?_) (fun c8 => ?_)
      · refine aw_iconst (q := 34) F dE_nameHere_33 rfl (by decide) ?_
        refine aw_iret F C dE_nameHere_34 rfl (Nat.le_refl _) (Nat.le_refl _) ?_
        refine kI hK ?_
        unfold nmI
        rw [fbF_none (fun k hk => hb k (by omega))]
      · refine aw_aload_0 (q := 12) F dE_nameHere_11 rfl ?_
        refine av_getaE (q := 15) F fE_18 dE_nameHere_12 rfl rfl (by first | exact hs.o | exact hs.a2 | exact hs.a8 | exact hs.to | exact hs.t.a1 | exact hs.t.a2 | exact hs.t.a3) hs.p11 ?_
        refine aw_iload_1 (q := 16) F dE_nameHere_15 rfl ?_
        refine av_laload (q := 17) F dE_nameHere_16 rfl (by first | exact hs.o | exact hs.a2 | exact hs.a8 | exact hs.to | exact hs.t.a1 | exact hs.t.a2 | exact hs.t.a3) (by omega) (by omega) ?_
        refine aw_aload_0 (q := 18) F dE_nameHere_17 rfl ?_
        refine av_getl (q := 21) F fE_151 dE_nameHere_18 rfl rfl (by first | exact hs.o | exact hs.a2 | exact hs.a8 | exact hs.to | exact hs.t.a1 | exact hs.t.a2 | exact hs.t.a3) ?_
        rw [t8, show w.toNat = i by omega, hn i (by omega)]
        refine aw_lcmp (q := 22) F dE_nameHere_21 rfl ?_
        refine aw_if_ne (q := 25) (t := 27) F dE_nameHere_22 rfl (by decide) (fun c22 => ?_) (fun c22 => ?_)
        · refine aw_iinc_1 (q := 30) F dE_nameHere_27 rfl trivial (by constructor <;> omega) ?_
          refine aw_goto (t := 2) F dE_nameHere_30 (by decide) ?_
          rw [ycmpE] at c22
          refine ih _ (by omega) (i + 1) rfl (by omega) _ (by omega) (fun k hk => ?_)
          by_cases q : k = i
          · rw [q]; exact beq_eq_false_iff_ne.mpr (fun q2 => c22 (by rw [q2]))
          · exact hb k (by omega)
        · refine aw_iload_1 (q := 26) F dE_nameHere_25 rfl ?_
          refine aw_iret F C dE_nameHere_26 rfl (Nat.le_refl _) (Nat.le_refl _) ?_
          rw [ycmpE] at c22
          refine kI hK ?_
          unfold nmI
          rw [fbF_some (f := fun k => r.2.2.2 k == t.2.2.2) (k := i) (beq_iff_eq.mpr (by omega)) hb (by omega)]
          exact hw.symm
  refine aw_iconst (q := 1) F dE_nameHere_0 rfl (by decide) ?_
  refine aw_istore_1 (q := 2) F dE_nameHere_1 rfl trivial ?_
  exact loop _ 0 rfl (by omega) _ rfl (fun k hk => absurd hk (by omega))
theorem isNm_1 {t : TK} (h : isNm t = true) : t.1 = 1 := by
  unfold isNm at h
  rw [Bool.and_eq_true] at h
  exact beq_iff_eq.mp h.1
theorem wE_doorHere (hs : rdS σ e) (hT : TKR V e t) (hok : okTk n t) (hR : RER V e r) (h1 : ∀ d : Nat, isNm t = true ∧ 0 ≤ nmI r t ∧ nmI r t < 4 → nmI r t = d → K (some (vI d)) (V, σ)) (h0 : ¬ (isNm t = true ∧ 0 ≤ nmI r t ∧ nmI r t < 4) → K (some (vI (-1))) (up2 V e 1 (if isNm t then 2 else 1 : Nat), σ)) : Wp G 6 mE_doorHere [vR e] (V, σ) 0 0 K := by
  refine wp_intro mE_doorHere_i.1 [some (vR e), none] rfl rfl (Nat.le_of_ble_eq_true rfl) ?_
  intro X hG F C
  have hm := C.rm
  refine aw_aload_0 (q := 1) F dE_doorHere_0 rfl ?_
  refine av_callV0 (q := 4) (ci := 3) F hm mE_isName_i mE_isName_n lE_145 dE_doorHere_1 rfl rfl rfl (by first | exact hs.o | exact hs.a2 | exact hs.a8 | exact hs.to | exact hs.t.a1 | exact hs.t.a2 | exact hs.t.a3) (by decide) (Nat.le_refl _) (Nat.le_refl _) (Nat.le_of_ble_eq_true rfl) (wE_isName hs hT hok (fun c1 => ?_) (fun c1 => ?_))
  · refine aw_if_eq (q := 7) (t := 14) F dE_doorHere_4 rfl (by decide) (fun c4 => absurd c4 (by decide)) (fun c4 => ?_)
    refine aw_aload_0 (q := 8) F dE_doorHere_7 rfl ?_
    refine av_callV0 (q := 11) (ci := 3) F hm mE_nameHere_i mE_nameHere_n lE_148 dE_doorHere_8 rfl rfl rfl (by first | exact hs.o | exact hs.a2 | exact hs.a8 | exact hs.to | exact hs.t.a1 | exact hs.t.a2 | exact hs.t.a3) (by decide) (Nat.le_refl _) (Nat.le_refl _) (Nat.le_of_ble_eq_true rfl) (wE_nameHere hs hT (isNm_1 c1) hR ?_)
    refine aw_goto (t := 15) F dE_doorHere_11 (by decide) ?_
    refine aw_istore_1 (q := 16) F dE_doorHere_15 rfl trivial ?_
    refine aw_iload_1 (q := 17) F dE_doorHere_16 rfl ?_
    refine aw_if_lt (q := 20) (t := 27) F dE_doorHere_17 rfl (by decide) (fun c17 => ?_) (fun c17 => ?_)
    · refine aw_aload_0 (q := 28) F dE_doorHere_27 rfl ?_
      refine aw_aload_0 (q := 29) F dE_doorHere_28 rfl ?_
      refine av_callV0 (q := 32) (ci := 3) F hm mE_isName_i mE_isName_n lE_145 dE_doorHere_29 rfl rfl rfl (by first | exact hs.o | exact hs.a2 | exact hs.a8 | exact hs.to | exact hs.t.a1 | exact hs.t.a2 | exact hs.t.a3) (by decide) (Nat.le_refl _) (Nat.le_refl _) (Nat.le_of_ble_eq_true rfl) (wE_isName hs hT hok (fun c29 => ?_) (fun c29 => ?_))
      · refine aw_if_eq (q := 35) (t := 39) F dE_doorHere_32 rfl (by decide) (fun c32 => absurd c32 (by decide)) (fun c32 => ?_)
        refine aw_iconst (q := 36) F dE_doorHere_35 rfl (by decide) ?_
        refine aw_goto (t := 40) F dE_doorHere_36 (by decide) ?_
        refine av_callV1 (q := 43) (ci := 3) F hm mE_fail_i mE_fail_n lE_49 dE_doorHere_40 rfl rfl rfl (by first | exact hs.o | exact hs.a2 | exact hs.a8 | exact hs.to | exact hs.t.a1 | exact hs.t.a2 | exact hs.t.a3) (by decide) (Nat.le_refl _) (Nat.le_refl _) (Nat.le_of_ble_eq_true rfl) (wE_fail hs ?_)
        refine aw_pop (q := 44) F dE_doorHere_43 rfl trivial ?_
        refine aw_iconst (q := 45) F dE_doorHere_44 rfl (by decide) ?_
        refine aw_iret F C dE_doorHere_45 rfl (Nat.le_refl _) (Nat.le_refl _) ?_
        first
        | exact absurd (c29.symm.trans c1) (by decide)
        | (have q := h0 (fun q => by omega); rw [c29] at q; exact q)
        | (have q := h0 (fun q => by rw [c1] at q; cases q.1); rw [c29] at q; exact q)
      · refine aw_if_eq (q := 35) (t := 39) F dE_doorHere_32 rfl (by decide) (fun c32 => ?_) (fun c32 => absurd c32 (by decide))
        refine aw_iconst (q := 40) F dE_doorHere_39 rfl (by decide) ?_
        refine av_callV1 (q := 43) (ci := 3) F hm mE_fail_i mE_fail_n lE_49 dE_doorHere_40 rfl rfl rfl (by first | exact hs.o | exact hs.a2 | exact hs.a8 | exact hs.to | exact hs.t.a1 | exact hs.t.a2 | exact hs.t.a3) (by decide) (Nat.le_refl _) (Nat.le_refl _) (Nat.le_of_ble_eq_true rfl) (wE_fail hs ?_)
        refine aw_pop (q := 44) F dE_doorHere_43 rfl trivial ?_
        refine aw_iconst (q := 45) F dE_doorHere_44 rfl (by decide) ?_
        refine aw_iret F C dE_doorHere_45 rfl (Nat.le_refl _) (Nat.le_refl _) ?_
        first
        | exact absurd (c29.symm.trans c1) (by decide)
        | (have q := h0 (fun q => by omega); rw [c29] at q; exact q)
        | (have q := h0 (fun q => by rw [c1] at q; cases q.1); rw [c29] at q; exact q)
    · refine aw_iload_1 (q := 21) F dE_doorHere_20 rfl ?_
      refine aw_iconst (q := 22) F dE_doorHere_21 rfl (by decide) ?_
      refine aw_icmp_ge (q := 25) (t := 27) F dE_doorHere_22 rfl (by decide) (fun c22 => ?_) (fun c22 => ?_)
      · refine aw_aload_0 (q := 28) F dE_doorHere_27 rfl ?_
        refine aw_aload_0 (q := 29) F dE_doorHere_28 rfl ?_
        refine av_callV0 (q := 32) (ci := 3) F hm mE_isName_i mE_isName_n lE_145 dE_doorHere_29 rfl rfl rfl (by first | exact hs.o | exact hs.a2 | exact hs.a8 | exact hs.to | exact hs.t.a1 | exact hs.t.a2 | exact hs.t.a3) (by decide) (Nat.le_refl _) (Nat.le_refl _) (Nat.le_of_ble_eq_true rfl) (wE_isName hs hT hok (fun c29 => ?_) (fun c29 => ?_))
        · refine aw_if_eq (q := 35) (t := 39) F dE_doorHere_32 rfl (by decide) (fun c32 => absurd c32 (by decide)) (fun c32 => ?_)
          refine aw_iconst (q := 36) F dE_doorHere_35 rfl (by decide) ?_
          refine aw_goto (t := 40) F dE_doorHere_36 (by decide) ?_
          refine av_callV1 (q := 43) (ci := 3) F hm mE_fail_i mE_fail_n lE_49 dE_doorHere_40 rfl rfl rfl (by first | exact hs.o | exact hs.a2 | exact hs.a8 | exact hs.to | exact hs.t.a1 | exact hs.t.a2 | exact hs.t.a3) (by decide) (Nat.le_refl _) (Nat.le_refl _) (Nat.le_of_ble_eq_true rfl) (wE_fail hs ?_)
          refine aw_pop (q := 44) F dE_doorHere_43 rfl trivial ?_
          refine aw_iconst (q := 45) F dE_doorHere_44 rfl (by decide) ?_
          refine aw_iret F C dE_doorHere_45 rfl (Nat.le_refl _) (Nat.le_refl _) ?_
          first
          | exact absurd (c29.symm.trans c1) (by decide)
          | (have q := h0 (fun q => by omega); rw [c29] at q; exact q)
          | (have q := h0 (fun q => by rw [c1] at q; cases q.1); rw [c29] at q; exact q)
        · refine aw_if_eq (q := 35) (t := 39) F dE_doorHere_32 rfl (by decide) (fun c32 => ?_) (fun c32 => absurd c32 (by decide))
          refine aw_iconst (q := 40) F dE_doorHere_39 rfl (by decide) ?_
          refine av_callV1 (q := 43) (ci := 3) F hm mE_fail_i mE_fail_n lE_49 dE_doorHere_40 rfl rfl rfl (by first | exact hs.o | exact hs.a2 | exact hs.a8 | exact hs.to | exact hs.t.a1 | exact hs.t.a2 | exact hs.t.a3) (by decide) (Nat.le_refl _) (Nat.le_refl _) (Nat.le_of_ble_eq_true rfl) (wE_fail hs ?_)
          refine aw_pop (q := 44) F dE_doorHere_43 rfl trivial ?_
          refine aw_iconst (q := 45) F dE_doorHere_44 rfl (by decide) ?_
          refine aw_iret F C dE_doorHere_45 rfl (Nat.le_refl _) (Nat.le_refl _) ?_
          first
          | exact absurd (c29.symm.trans c1) (by decide)
          | (have q := h0 (fun q => by omega); rw [c29] at q; exact q)
          | (have q := h0 (fun q => by rw [c1] at q; cases q.1); rw [c29] at q; exact q)
      · refine aw_iload_1 (q := 26) F dE_doorHere_25 rfl ?_
        refine aw_iret F C dE_doorHere_26 rfl (Nat.le_refl _) (Nat.le_refl _) ?_
        exact kI (h1 (nmI r t).toNat ⟨c1, by omega, by omega⟩ (by omega)) (by omega)
  · refine aw_if_eq (q := 7) (t := 14) F dE_doorHere_4 rfl (by decide) (fun c4 => ?_) (fun c4 => absurd c4 (by decide))
    refine aw_iconst (q := 15) F dE_doorHere_14 rfl (by decide) ?_
    refine aw_istore_1 (q := 16) F dE_doorHere_15 rfl trivial ?_
    refine aw_iload_1 (q := 17) F dE_doorHere_16 rfl ?_
    refine aw_if_lt (q := 20) (t := 27) F dE_doorHere_17 rfl (by decide) (fun c17 => ?_) (fun c17 => absurd c17 (by decide))
    refine aw_aload_0 (q := 28) F dE_doorHere_27 rfl ?_
    refine aw_aload_0 (q := 29) F dE_doorHere_28 rfl ?_
    refine av_callV0 (q := 32) (ci := 3) F hm mE_isName_i mE_isName_n lE_145 dE_doorHere_29 rfl rfl rfl (by first | exact hs.o | exact hs.a2 | exact hs.a8 | exact hs.to | exact hs.t.a1 | exact hs.t.a2 | exact hs.t.a3) (by decide) (Nat.le_refl _) (Nat.le_refl _) (Nat.le_of_ble_eq_true rfl) (wE_isName hs hT hok (fun c29 => ?_) (fun c29 => ?_))
    · refine aw_if_eq (q := 35) (t := 39) F dE_doorHere_32 rfl (by decide) (fun c32 => absurd c32 (by decide)) (fun c32 => ?_)
      refine aw_iconst (q := 36) F dE_doorHere_35 rfl (by decide) ?_
      refine aw_goto (t := 40) F dE_doorHere_36 (by decide) ?_
      refine av_callV1 (q := 43) (ci := 3) F hm mE_fail_i mE_fail_n lE_49 dE_doorHere_40 rfl rfl rfl (by first | exact hs.o | exact hs.a2 | exact hs.a8 | exact hs.to | exact hs.t.a1 | exact hs.t.a2 | exact hs.t.a3) (by decide) (Nat.le_refl _) (Nat.le_refl _) (Nat.le_of_ble_eq_true rfl) (wE_fail hs ?_)
      refine aw_pop (q := 44) F dE_doorHere_43 rfl trivial ?_
      refine aw_iconst (q := 45) F dE_doorHere_44 rfl (by decide) ?_
      refine aw_iret F C dE_doorHere_45 rfl (Nat.le_refl _) (Nat.le_refl _) ?_
      first
      | exact absurd (c29.symm.trans c1) (by decide)
      | (have q := h0 (fun q => by omega); rw [c29] at q; exact q)
      | (have q := h0 (fun q => by rw [c1] at q; cases q.1); rw [c29] at q; exact q)
    · refine aw_if_eq (q := 35) (t := 39) F dE_doorHere_32 rfl (by decide) (fun c32 => ?_) (fun c32 => absurd c32 (by decide))
      refine aw_iconst (q := 40) F dE_doorHere_39 rfl (by decide) ?_
      refine av_callV1 (q := 43) (ci := 3) F hm mE_fail_i mE_fail_n lE_49 dE_doorHere_40 rfl rfl rfl (by first | exact hs.o | exact hs.a2 | exact hs.a8 | exact hs.to | exact hs.t.a1 | exact hs.t.a2 | exact hs.t.a3) (by decide) (Nat.le_refl _) (Nat.le_refl _) (Nat.le_of_ble_eq_true rfl) (wE_fail hs ?_)
      refine aw_pop (q := 44) F dE_doorHere_43 rfl trivial ?_
      refine aw_iconst (q := 45) F dE_doorHere_44 rfl (by decide) ?_
      refine aw_iret F C dE_doorHere_45 rfl (Nat.le_refl _) (Nat.le_refl _) ?_
      first
      | exact absurd (c29.symm.trans c1) (by decide)
      | (have q := h0 (fun q => by omega); rw [c29] at q; exact q)
      | (have q := h0 (fun q => by rw [c1] at q; cases q.1); rw [c29] at q; exact q)
theorem wE_personHere (hs : rdS σ e) (hT : TKR V e t) (hok : okTk n t) (hR : RER V e r) (h1 : ∀ d : Nat, isNm t = true ∧ 4 ≤ nmI r t → (nmI r t).toNat - 4 = d → d < 2 → K (some (vI d)) (V, σ)) (h0 : ¬ (isNm t = true ∧ 4 ≤ nmI r t) → K (some (vI (-1))) (up2 V e 1 (if isNm t then 2 else 1 : Nat), σ)) : Wp G 6 mE_personHere [vR e] (V, σ) 0 0 K := by
  have hlt : nmI r t < 6 := by
    have key : ∀ (f : Nat → Bool) (m : Nat), fbF f m < m := fun f m => by
      induction m with
      | zero => show (-1 : Int) < 0; decide
      | succ m ih =>
        show (if fbF f m = -1 then (if f m then (m : Int) else -1) else fbF f m) < ((m + 1 : Nat) : Int)
        split
        · split <;> omega
        · omega
    exact key _ 6
  refine wp_intro mE_personHere_i.1 [some (vR e), none] rfl rfl (Nat.le_of_ble_eq_true rfl) ?_
  intro X hG F C
  have hm := C.rm
  refine aw_aload_0 (q := 1) F dE_personHere_0 rfl ?_
  refine av_callV0 (q := 4) (ci := 3) F hm mE_isName_i mE_isName_n lE_145 dE_personHere_1 rfl rfl rfl (by first | exact hs.o | exact hs.a2 | exact hs.a8 | exact hs.to | exact hs.t.a1 | exact hs.t.a2 | exact hs.t.a3) (by decide) (Nat.le_refl _) (Nat.le_refl _) (Nat.le_of_ble_eq_true rfl) (wE_isName hs hT hok (fun c1 => ?_) (fun c1 => ?_))
  · refine aw_if_eq (q := 7) (t := 14) F dE_personHere_4 rfl (by decide) (fun c4 => absurd c4 (by decide)) (fun c4 => ?_)
    refine aw_aload_0 (q := 8) F dE_personHere_7 rfl ?_
    refine av_callV0 (q := 11) (ci := 3) F hm mE_nameHere_i mE_nameHere_n lE_148 dE_personHere_8 rfl rfl rfl (by first | exact hs.o | exact hs.a2 | exact hs.a8 | exact hs.to | exact hs.t.a1 | exact hs.t.a2 | exact hs.t.a3) (by decide) (Nat.le_refl _) (Nat.le_refl _) (Nat.le_of_ble_eq_true rfl) (wE_nameHere hs hT (isNm_1 c1) hR ?_)
    refine aw_goto (t := 15) F dE_personHere_11 (by decide) ?_
    refine aw_istore_1 (q := 16) F dE_personHere_15 rfl trivial ?_
    refine aw_iload_1 (q := 17) F dE_personHere_16 rfl ?_
    refine aw_iconst (q := 18) F dE_personHere_17 rfl (by decide) ?_
    refine aw_icmp_lt (q := 21) (t := 31) F dE_personHere_18 rfl (by decide) (fun c18 => ?_) (fun c18 => ?_)
    · refine aw_aload_0 (q := 32) F dE_personHere_31 rfl ?_
      refine aw_aload_0 (q := 33) F dE_personHere_32 rfl ?_
      refine av_callV0 (q := 36) (ci := 3) F hm mE_isName_i mE_isName_n lE_145 dE_personHere_33 rfl rfl rfl (by first | exact hs.o | exact hs.a2 | exact hs.a8 | exact hs.to | exact hs.t.a1 | exact hs.t.a2 | exact hs.t.a3) (by decide) (Nat.le_refl _) (Nat.le_refl _) (Nat.le_of_ble_eq_true rfl) (wE_isName hs hT hok (fun c33 => ?_) (fun c33 => ?_))
      · refine aw_if_eq (q := 39) (t := 43) F dE_personHere_36 rfl (by decide) (fun c36 => absurd c36 (by decide)) (fun c36 => ?_)
        refine aw_iconst (q := 40) F dE_personHere_39 rfl (by decide) ?_
        refine aw_goto (t := 44) F dE_personHere_40 (by decide) ?_
        refine av_callV1 (q := 47) (ci := 3) F hm mE_fail_i mE_fail_n lE_49 dE_personHere_44 rfl rfl rfl (by first | exact hs.o | exact hs.a2 | exact hs.a8 | exact hs.to | exact hs.t.a1 | exact hs.t.a2 | exact hs.t.a3) (by decide) (Nat.le_refl _) (Nat.le_refl _) (Nat.le_of_ble_eq_true rfl) (wE_fail hs ?_)
        refine aw_pop (q := 48) F dE_personHere_47 rfl trivial ?_
        refine aw_iconst (q := 49) F dE_personHere_48 rfl (by decide) ?_
        refine aw_iret F C dE_personHere_49 rfl (Nat.le_refl _) (Nat.le_refl _) ?_
        first
        | exact absurd (c33.symm.trans c1) (by decide)
        | (have q := h0 (fun q => by omega); rw [c33] at q; exact q)
        | (have q := h0 (fun q => by rw [c1] at q; cases q.1); rw [c33] at q; exact q)
      · refine aw_if_eq (q := 39) (t := 43) F dE_personHere_36 rfl (by decide) (fun c36 => ?_) (fun c36 => absurd c36 (by decide))
        refine aw_iconst (q := 44) F dE_personHere_43 rfl (by decide) ?_
        refine av_callV1 (q := 47) (ci := 3) F hm mE_fail_i mE_fail_n lE_49 dE_personHere_44 rfl rfl rfl (by first | exact hs.o | exact hs.a2 | exact hs.a8 | exact hs.to | exact hs.t.a1 | exact hs.t.a2 | exact hs.t.a3) (by decide) (Nat.le_refl _) (Nat.le_refl _) (Nat.le_of_ble_eq_true rfl) (wE_fail hs ?_)
        refine aw_pop (q := 48) F dE_personHere_47 rfl trivial ?_
        refine aw_iconst (q := 49) F dE_personHere_48 rfl (by decide) ?_
        refine aw_iret F C dE_personHere_49 rfl (Nat.le_refl _) (Nat.le_refl _) ?_
        first
        | exact absurd (c33.symm.trans c1) (by decide)
        | (have q := h0 (fun q => by omega); rw [c33] at q; exact q)
        | (have q := h0 (fun q => by rw [c1] at q; cases q.1); rw [c33] at q; exact q)
    · refine aw_iload_1 (q := 22) F dE_personHere_21 rfl ?_
      refine aw_bipush (q := 24) F dE_personHere_22 rfl (by decide) ?_
      refine aw_icmp_ge (q := 27) (t := 31) F dE_personHere_24 rfl (by decide) (fun c24 => ?_) (fun c24 => ?_)
      · refine aw_aload_0 (q := 32) F dE_personHere_31 rfl ?_
        refine aw_aload_0 (q := 33) F dE_personHere_32 rfl ?_
        refine av_callV0 (q := 36) (ci := 3) F hm mE_isName_i mE_isName_n lE_145 dE_personHere_33 rfl rfl rfl (by first | exact hs.o | exact hs.a2 | exact hs.a8 | exact hs.to | exact hs.t.a1 | exact hs.t.a2 | exact hs.t.a3) (by decide) (Nat.le_refl _) (Nat.le_refl _) (Nat.le_of_ble_eq_true rfl) (wE_isName hs hT hok (fun c33 => ?_) (fun c33 => ?_))
        · refine aw_if_eq (q := 39) (t := 43) F dE_personHere_36 rfl (by decide) (fun c36 => absurd c36 (by decide)) (fun c36 => ?_)
          refine aw_iconst (q := 40) F dE_personHere_39 rfl (by decide) ?_
          refine aw_goto (t := 44) F dE_personHere_40 (by decide) ?_
          refine av_callV1 (q := 47) (ci := 3) F hm mE_fail_i mE_fail_n lE_49 dE_personHere_44 rfl rfl rfl (by first | exact hs.o | exact hs.a2 | exact hs.a8 | exact hs.to | exact hs.t.a1 | exact hs.t.a2 | exact hs.t.a3) (by decide) (Nat.le_refl _) (Nat.le_refl _) (Nat.le_of_ble_eq_true rfl) (wE_fail hs ?_)
          refine aw_pop (q := 48) F dE_personHere_47 rfl trivial ?_
          refine aw_iconst (q := 49) F dE_personHere_48 rfl (by decide) ?_
          refine aw_iret F C dE_personHere_49 rfl (Nat.le_refl _) (Nat.le_refl _) ?_
          first
          | exact absurd (c33.symm.trans c1) (by decide)
          | (have q := h0 (fun q => by omega); rw [c33] at q; exact q)
          | (have q := h0 (fun q => by rw [c1] at q; cases q.1); rw [c33] at q; exact q)
        · refine aw_if_eq (q := 39) (t := 43) F dE_personHere_36 rfl (by decide) (fun c36 => ?_) (fun c36 => absurd c36 (by decide))
          refine aw_iconst (q := 44) F dE_personHere_43 rfl (by decide) ?_
          refine av_callV1 (q := 47) (ci := 3) F hm mE_fail_i mE_fail_n lE_49 dE_personHere_44 rfl rfl rfl (by first | exact hs.o | exact hs.a2 | exact hs.a8 | exact hs.to | exact hs.t.a1 | exact hs.t.a2 | exact hs.t.a3) (by decide) (Nat.le_refl _) (Nat.le_refl _) (Nat.le_of_ble_eq_true rfl) (wE_fail hs ?_)
          refine aw_pop (q := 48) F dE_personHere_47 rfl trivial ?_
          refine aw_iconst (q := 49) F dE_personHere_48 rfl (by decide) ?_
          refine aw_iret F C dE_personHere_49 rfl (Nat.le_refl _) (Nat.le_refl _) ?_
          first
          | exact absurd (c33.symm.trans c1) (by decide)
          | (have q := h0 (fun q => by omega); rw [c33] at q; exact q)
          | (have q := h0 (fun q => by rw [c1] at q; cases q.1); rw [c33] at q; exact q)
      · refine aw_iload_1 (q := 28) F dE_personHere_27 rfl ?_
        refine aw_iconst (q := 29) F dE_personHere_28 rfl (by decide) ?_
        refine aw_isub (q := 30) F dE_personHere_29 rfl (by constructor <;> omega) ?_
        refine aw_iret F C dE_personHere_30 rfl (Nat.le_refl _) (Nat.le_refl _) ?_
        exact kI (h1 ((nmI r t).toNat - 4) ⟨c1, by omega⟩ rfl (by omega)) (by omega)
  · refine aw_if_eq (q := 7) (t := 14) F dE_personHere_4 rfl (by decide) (fun c4 => ?_) (fun c4 => absurd c4 (by decide))
    refine aw_iconst (q := 15) F dE_personHere_14 rfl (by decide) ?_
    refine aw_istore_1 (q := 16) F dE_personHere_15 rfl trivial ?_
    refine aw_iload_1 (q := 17) F dE_personHere_16 rfl ?_
    refine aw_iconst (q := 18) F dE_personHere_17 rfl (by decide) ?_
    refine aw_icmp_lt (q := 21) (t := 31) F dE_personHere_18 rfl (by decide) (fun c18 => ?_) (fun c18 => absurd c18 (by decide))
    refine aw_aload_0 (q := 32) F dE_personHere_31 rfl ?_
    refine aw_aload_0 (q := 33) F dE_personHere_32 rfl ?_
    refine av_callV0 (q := 36) (ci := 3) F hm mE_isName_i mE_isName_n lE_145 dE_personHere_33 rfl rfl rfl (by first | exact hs.o | exact hs.a2 | exact hs.a8 | exact hs.to | exact hs.t.a1 | exact hs.t.a2 | exact hs.t.a3) (by decide) (Nat.le_refl _) (Nat.le_refl _) (Nat.le_of_ble_eq_true rfl) (wE_isName hs hT hok (fun c33 => ?_) (fun c33 => ?_))
    · refine aw_if_eq (q := 39) (t := 43) F dE_personHere_36 rfl (by decide) (fun c36 => absurd c36 (by decide)) (fun c36 => ?_)
      refine aw_iconst (q := 40) F dE_personHere_39 rfl (by decide) ?_
      refine aw_goto (t := 44) F dE_personHere_40 (by decide) ?_
      refine av_callV1 (q := 47) (ci := 3) F hm mE_fail_i mE_fail_n lE_49 dE_personHere_44 rfl rfl rfl (by first | exact hs.o | exact hs.a2 | exact hs.a8 | exact hs.to | exact hs.t.a1 | exact hs.t.a2 | exact hs.t.a3) (by decide) (Nat.le_refl _) (Nat.le_refl _) (Nat.le_of_ble_eq_true rfl) (wE_fail hs ?_)
      refine aw_pop (q := 48) F dE_personHere_47 rfl trivial ?_
      refine aw_iconst (q := 49) F dE_personHere_48 rfl (by decide) ?_
      refine aw_iret F C dE_personHere_49 rfl (Nat.le_refl _) (Nat.le_refl _) ?_
      first
      | exact absurd (c33.symm.trans c1) (by decide)
      | (have q := h0 (fun q => by omega); rw [c33] at q; exact q)
      | (have q := h0 (fun q => by rw [c1] at q; cases q.1); rw [c33] at q; exact q)
    · refine aw_if_eq (q := 39) (t := 43) F dE_personHere_36 rfl (by decide) (fun c36 => ?_) (fun c36 => absurd c36 (by decide))
      refine aw_iconst (q := 44) F dE_personHere_43 rfl (by decide) ?_
      refine av_callV1 (q := 47) (ci := 3) F hm mE_fail_i mE_fail_n lE_49 dE_personHere_44 rfl rfl rfl (by first | exact hs.o | exact hs.a2 | exact hs.a8 | exact hs.to | exact hs.t.a1 | exact hs.t.a2 | exact hs.t.a3) (by decide) (Nat.le_refl _) (Nat.le_refl _) (Nat.le_of_ble_eq_true rfl) (wE_fail hs ?_)
      refine aw_pop (q := 48) F dE_personHere_47 rfl trivial ?_
      refine aw_iconst (q := 49) F dE_personHere_48 rfl (by decide) ?_
      refine aw_iret F C dE_personHere_49 rfl (Nat.le_refl _) (Nat.le_refl _) ?_
      first
      | exact absurd (c33.symm.trans c1) (by decide)
      | (have q := h0 (fun q => by omega); rw [c33] at q; exact q)
      | (have q := h0 (fun q => by rw [c1] at q; cases q.1); rw [c33] at q; exact q)
end Read2
