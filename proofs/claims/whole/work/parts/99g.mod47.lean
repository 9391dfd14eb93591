theorem dM_readPerson_0 : decode mM_readPerson.2.1 0 = .ok (.aload_n 0, 1) := by decide +kernel
theorem dM_readPerson_1 : decode mM_readPerson.2.1 1 = .ok (.aload_n 0, 1) := by decide +kernel
theorem dM_readPerson_2 : decode mM_readPerson.2.1 2 = .ok (.getfield 147, 3) := by decide +kernel
theorem dM_readPerson_5 : decode mM_readPerson.2.1 5 = .ok (.getfield 253, 3) := by decide +kernel
theorem dM_readPerson_8 : decode mM_readPerson.2.1 8 = .ok (.iconst 2, 1) := by decide +kernel
theorem dM_readPerson_9 : decode mM_readPerson.2.1 9 = .ok (.invokevirtual 214, 3) := by decide +kernel
theorem dM_readPerson_12 : decode mM_readPerson.2.1 12 = .ok (.aload_n 0, 1) := by decide +kernel
theorem dM_readPerson_13 : decode mM_readPerson.2.1 13 = .ok (.invokevirtual 218, 3) := by decide +kernel
theorem dM_readPerson_16 : decode mM_readPerson.2.1 16 = .ok (.lstore_n 1, 1) := by decide +kernel
theorem dM_readPerson_17 : decode mM_readPerson.2.1 17 = .ok (.aload_n 0, 1) := by decide +kernel
theorem dM_readPerson_18 : decode mM_readPerson.2.1 18 = .ok (.getfield 78, 3) := by decide +kernel
theorem dM_readPerson_21 : decode mM_readPerson.2.1 21 = .ok (.iconst 5, 1) := by decide +kernel
theorem dM_readPerson_22 : decode mM_readPerson.2.1 22 = .ok (.if_icmp .ne 4, 3) := by decide +kernel
theorem dM_readPerson_25 : decode mM_readPerson.2.1 25 = .ok (.return_, 1) := by decide +kernel
theorem dM_readPerson_26 : decode mM_readPerson.2.1 26 = .ok (.aload_n 0, 1) := by decide +kernel
theorem dM_readPerson_27 : decode mM_readPerson.2.1 27 = .ok (.lload_n 1, 1) := by decide +kernel
theorem dM_readPerson_28 : decode mM_readPerson.2.1 28 = .ok (.iconst 1, 1) := by decide +kernel
theorem dM_readPerson_29 : decode mM_readPerson.2.1 29 = .ok (.aload_n 0, 1) := by decide +kernel
theorem dM_readPerson_30 : decode mM_readPerson.2.1 30 = .ok (.getfield 147, 3) := by decide +kernel
theorem dM_readPerson_33 : decode mM_readPerson.2.1 33 = .ok (.getfield 253, 3) := by decide +kernel
theorem dM_readPerson_36 : decode mM_readPerson.2.1 36 = .ok (.invokevirtual 230, 3) := by decide +kernel
theorem dM_readPerson_39 : decode mM_readPerson.2.1 39 = .ok (.aload_n 0, 1) := by decide +kernel
theorem dM_readPerson_40 : decode mM_readPerson.2.1 40 = .ok (.getfield 147, 3) := by decide +kernel
theorem dM_readPerson_43 : decode mM_readPerson.2.1 43 = .ok (.dup, 1) := by decide +kernel
theorem dM_readPerson_44 : decode mM_readPerson.2.1 44 = .ok (.getfield 253, 3) := by decide +kernel
theorem dM_readPerson_47 : decode mM_readPerson.2.1 47 = .ok (.iconst 1, 1) := by decide +kernel
theorem dM_readPerson_48 : decode mM_readPerson.2.1 48 = .ok (.iadd, 1) := by decide +kernel
theorem dM_readPerson_49 : decode mM_readPerson.2.1 49 = .ok (.putfield 253, 3) := by decide +kernel
theorem dM_readPerson_52 : decode mM_readPerson.2.1 52 = .ok (.return_, 1) := by decide +kernel
theorem dM_readDoor_0 : decode mM_readDoor.2.1 0 = .ok (.aload_n 0, 1) := by decide +kernel
theorem dM_readDoor_1 : decode mM_readDoor.2.1 1 = .ok (.aload_n 0, 1) := by decide +kernel
theorem dM_readDoor_2 : decode mM_readDoor.2.1 2 = .ok (.getfield 147, 3) := by decide +kernel
theorem dM_readDoor_5 : decode mM_readDoor.2.1 5 = .ok (.getfield 183, 3) := by decide +kernel
theorem dM_readDoor_8 : decode mM_readDoor.2.1 8 = .ok (.iconst 4, 1) := by decide +kernel
theorem dM_readDoor_9 : decode mM_readDoor.2.1 9 = .ok (.invokevirtual 214, 3) := by decide +kernel
theorem dM_readDoor_12 : decode mM_readDoor.2.1 12 = .ok (.aload_n 0, 1) := by decide +kernel
theorem dM_readDoor_13 : decode mM_readDoor.2.1 13 = .ok (.invokevirtual 218, 3) := by decide +kernel
theorem dM_readDoor_16 : decode mM_readDoor.2.1 16 = .ok (.lstore_n 1, 1) := by decide +kernel
theorem dM_readDoor_17 : decode mM_readDoor.2.1 17 = .ok (.aload_n 0, 1) := by decide +kernel
theorem dM_readDoor_18 : decode mM_readDoor.2.1 18 = .ok (.ldc 222, 2) := by decide +kernel
theorem dM_readDoor_20 : decode mM_readDoor.2.1 20 = .ok (.invokevirtual 119, 3) := by decide +kernel
theorem dM_readDoor_23 : decode mM_readDoor.2.1 23 = .ok (.ifCond .eq 7, 3) := by decide +kernel
theorem dM_readDoor_26 : decode mM_readDoor.2.1 26 = .ok (.iconst 0, 1) := by decide +kernel
theorem dM_readDoor_27 : decode mM_readDoor.2.1 27 = .ok (.goto 43, 3) := by decide +kernel
theorem dM_readDoor_30 : decode mM_readDoor.2.1 30 = .ok (.aload_n 0, 1) := by decide +kernel
theorem dM_readDoor_31 : decode mM_readDoor.2.1 31 = .ok (.ldc 224, 2) := by decide +kernel
theorem dM_readDoor_33 : decode mM_readDoor.2.1 33 = .ok (.invokevirtual 119, 3) := by decide +kernel
theorem dM_readDoor_36 : decode mM_readDoor.2.1 36 = .ok (.ifCond .eq 7, 3) := by decide +kernel
theorem dM_readDoor_39 : decode mM_readDoor.2.1 39 = .ok (.iconst 1, 1) := by decide +kernel
theorem dM_readDoor_40 : decode mM_readDoor.2.1 40 = .ok (.goto 30, 3) := by decide +kernel
theorem dM_readDoor_43 : decode mM_readDoor.2.1 43 = .ok (.aload_n 0, 1) := by decide +kernel
theorem dM_readDoor_44 : decode mM_readDoor.2.1 44 = .ok (.ldc 226, 2) := by decide +kernel
theorem dM_readDoor_46 : decode mM_readDoor.2.1 46 = .ok (.invokevirtual 119, 3) := by decide +kernel
theorem dM_readDoor_49 : decode mM_readDoor.2.1 49 = .ok (.ifCond .eq 7, 3) := by decide +kernel
theorem dM_readDoor_52 : decode mM_readDoor.2.1 52 = .ok (.iconst 2, 1) := by decide +kernel
theorem dM_readDoor_53 : decode mM_readDoor.2.1 53 = .ok (.goto 17, 3) := by decide +kernel
theorem dM_readDoor_56 : decode mM_readDoor.2.1 56 = .ok (.aload_n 0, 1) := by decide +kernel
theorem dM_readDoor_57 : decode mM_readDoor.2.1 57 = .ok (.ldc 228, 2) := by decide +kernel
theorem dM_readDoor_59 : decode mM_readDoor.2.1 59 = .ok (.invokevirtual 119, 3) := by decide +kernel
theorem dM_readDoor_62 : decode mM_readDoor.2.1 62 = .ok (.ifCond .eq 7, 3) := by decide +kernel
theorem dM_readDoor_65 : decode mM_readDoor.2.1 65 = .ok (.iconst 3, 1) := by decide +kernel
theorem dM_readDoor_66 : decode mM_readDoor.2.1 66 = .ok (.goto 4, 3) := by decide +kernel
theorem dM_readDoor_69 : decode mM_readDoor.2.1 69 = .ok (.iconst (-1), 1) := by decide +kernel
theorem dM_readDoor_70 : decode mM_readDoor.2.1 70 = .ok (.istore_n 3, 1) := by decide +kernel
theorem dM_readDoor_71 : decode mM_readDoor.2.1 71 = .ok (.iload_n 3, 1) := by decide +kernel
theorem dM_readDoor_72 : decode mM_readDoor.2.1 72 = .ok (.iconst (-1), 1) := by decide +kernel
theorem dM_readDoor_73 : decode mM_readDoor.2.1 73 = .ok (.if_icmp .ne 8, 3) := by decide +kernel
theorem dM_readDoor_76 : decode mM_readDoor.2.1 76 = .ok (.aload_n 0, 1) := by decide +kernel
theorem dM_readDoor_77 : decode mM_readDoor.2.1 77 = .ok (.iconst 1, 1) := by decide +kernel
theorem dM_readDoor_78 : decode mM_readDoor.2.1 78 = .ok (.invokevirtual 143, 3) := by decide +kernel
theorem dM_readDoor_81 : decode mM_readDoor.2.1 81 = .ok (.aload_n 0, 1) := by decide +kernel
theorem dM_readDoor_82 : decode mM_readDoor.2.1 82 = .ok (.invokevirtual 114, 3) := by decide +kernel
theorem dM_readDoor_85 : decode mM_readDoor.2.1 85 = .ok (.aload_n 0, 1) := by decide +kernel
theorem dM_readDoor_86 : decode mM_readDoor.2.1 86 = .ok (.getfield 78, 3) := by decide +kernel
theorem dM_readDoor_89 : decode mM_readDoor.2.1 89 = .ok (.iconst 5, 1) := by decide +kernel
theorem dM_readDoor_90 : decode mM_readDoor.2.1 90 = .ok (.if_icmp .ne 4, 3) := by decide +kernel
theorem dM_readDoor_93 : decode mM_readDoor.2.1 93 = .ok (.return_, 1) := by decide +kernel
theorem dM_readDoor_94 : decode mM_readDoor.2.1 94 = .ok (.aload_n 0, 1) := by decide +kernel
theorem dM_readDoor_95 : decode mM_readDoor.2.1 95 = .ok (.lload_n 1, 1) := by decide +kernel
theorem dM_readDoor_96 : decode mM_readDoor.2.1 96 = .ok (.iconst 0, 1) := by decide +kernel
theorem dM_readDoor_97 : decode mM_readDoor.2.1 97 = .ok (.aload_n 0, 1) := by decide +kernel
theorem dM_readDoor_98 : decode mM_readDoor.2.1 98 = .ok (.getfield 147, 3) := by decide +kernel
theorem dM_readDoor_101 : decode mM_readDoor.2.1 101 = .ok (.getfield 183, 3) := by decide +kernel
theorem dM_readDoor_104 : decode mM_readDoor.2.1 104 = .ok (.invokevirtual 230, 3) := by decide +kernel
theorem dM_readDoor_107 : decode mM_readDoor.2.1 107 = .ok (.aload_n 0, 1) := by decide +kernel
theorem dM_readDoor_108 : decode mM_readDoor.2.1 108 = .ok (.getfield 147, 3) := by decide +kernel
theorem dM_readDoor_111 : decode mM_readDoor.2.1 111 = .ok (.getfield 233, 3) := by decide +kernel
theorem dM_readDoor_114 : decode mM_readDoor.2.1 114 = .ok (.aload_n 0, 1) := by decide +kernel
theorem dM_readDoor_115 : decode mM_readDoor.2.1 115 = .ok (.getfield 147, 3) := by decide +kernel
theorem dM_readDoor_118 : decode mM_readDoor.2.1 118 = .ok (.getfield 183, 3) := by decide +kernel
theorem dM_readDoor_121 : decode mM_readDoor.2.1 121 = .ok (.iload_n 3, 1) := by decide +kernel
theorem dM_readDoor_122 : decode mM_readDoor.2.1 122 = .ok (.iastore, 1) := by decide +kernel
theorem dM_readDoor_123 : decode mM_readDoor.2.1 123 = .ok (.aload_n 0, 1) := by decide +kernel
theorem dM_readDoor_124 : decode mM_readDoor.2.1 124 = .ok (.getfield 147, 3) := by decide +kernel
theorem dM_readDoor_127 : decode mM_readDoor.2.1 127 = .ok (.dup, 1) := by decide +kernel
theorem dM_readDoor_128 : decode mM_readDoor.2.1 128 = .ok (.getfield 183, 3) := by decide +kernel
theorem dM_readDoor_131 : decode mM_readDoor.2.1 131 = .ok (.iconst 1, 1) := by decide +kernel
theorem dM_readDoor_132 : decode mM_readDoor.2.1 132 = .ok (.iadd, 1) := by decide +kernel
theorem dM_readDoor_133 : decode mM_readDoor.2.1 133 = .ok (.putfield 183, 3) := by decide +kernel
theorem dM_readDoor_136 : decode mM_readDoor.2.1 136 = .ok (.return_, 1) := by decide +kernel
section Mod47
variable {G : GE} {V V' V1 V2 : Nat → Nat → Int} {σ : Shp} {K : Option AV → Mem → Prop} {l n e N : Nat} {B : Nat → Int} {r r' : PR} {t : TK}
theorem NMr.add {i w : Nat} (h : NMr V e r) (hN : N = tDn r.1 + tPn r.1) (hi : i < 6) (h0 : r.2.2.2 i = 0) (hw : 0 < w) (hr : r'.2.2.2 = uNm r.2.2.2 i w) (hN' : tDn r'.1 + tPn r'.1 = N + 1) (e6 : ∀ k, V' (e + 6) k = if k = N then (w : Int) else V (e + 6) k) (e7 : ∀ k, V' (e + 7) k = if k = N then (if i < 4 then 0 else 1) else V (e + 7) k) (e8 : ∀ k, V' (e + 8) k = if k = N then ((if i < 4 then i else i - 4 : Nat) : Int) else V (e + 8) k) : NMr V' e r' := by
  have ui : uNm r.2.2.2 i w i = w := if_pos rfl
  have un : ∀ j, j ≠ i → uNm r.2.2.2 i w j = r.2.2.2 j := fun j hj => if_neg hj
  constructor
  · intro k hk
    by_cases q : k = N
    · exact ⟨i, hi, by rw [hr, ui]; exact hw, by rw [e6, if_pos q, hr, ui], by rw [e7, if_pos q], by rw [e8, if_pos q]⟩
    · obtain ⟨j, j1, j2, j3, j4, j5⟩ := h.1 k (by omega)
      have hj : j ≠ i := fun z => by rw [z, h0] at j2; omega
      exact ⟨j, j1, by rw [hr, un j hj]; exact j2, by rw [e6, if_neg q, hr, un j hj]; exact j3, by rw [e7, if_neg q]; exact j4, by rw [e8, if_neg q]; exact j5⟩
  · intro j hj hp
    rw [hr] at hp ⊢
    by_cases q : j = i
    · exact ⟨N, by omega, by rw [e6, if_pos rfl, q, ui]⟩
    · rw [un j q] at hp ⊢
      obtain ⟨k, k1, k2⟩ := h.2 j hj hp
      exact ⟨k, by omega, by rw [e6, if_neg (by omega)]; exact k2⟩
theorem wM_names {z s d : Int} (hM : moS σ l) (hl : laS σ e) (h4p : sP σ 53 4 = e) (hN : V e 8 = N) (hN6 : N < 6) (hK : K none (up2 (up2 (up2 (up2 V (e + 6) N z) (e + 7) N s) (e + 8) N d) e 8 ((N : Int) + 1), σ)) : Wp G 0 mM_names [vR 53, vL z, vI s, vI d] (V, σ) 0 0 K := by
  refine wp_intro mM_names_i.1 [some (vR 53), some (vL z), none, some (vI s), some (vI d)] rfl rfl (Nat.le_of_ble_eq_true rfl) ?_
  intro X hG F C
  have hm := C.rm
  refine aw_aload_0 (q := 1) F dM_names_0 rfl ?_
  refine av_getaE (q := 4) F fM_147 dM_names_1 rfl rfl (by first | exact hM.o | exact hl.o | exact hl.a6 | exact hl.a7 | exact hl.a8 | exact hl.a1) h4p ?_
  refine av_getaE (q := 7) F fM_164 dM_names_4 rfl rfl (by first | exact hM.o | exact hl.o | exact hl.a6 | exact hl.a7 | exact hl.a8 | exact hl.a1) hl.p15 ?_
  refine aw_aload_0 (q := 8) F dM_names_7 rfl ?_
  refine av_getaE (q := 11) F fM_147 dM_names_8 rfl rfl (by first | exact hM.o | exact hl.o | exact hl.a6 | exact hl.a7 | exact hl.a8 | exact hl.a1) h4p ?_
  refine av_geti (q := 14) F fM_168 dM_names_11 rfl rfl (by first | exact hM.o | exact hl.o | exact hl.a6 | exact hl.a7 | exact hl.a8 | exact hl.a1) ?_
  rw [hN]
  refine aw_lload_1 (q := 15) F dM_names_14 rfl ?_
  refine av_lastore (q := 16) F dM_names_15 rfl (by first | exact hM.o | exact hl.o | exact hl.a6 | exact hl.a7 | exact hl.a8 | exact hl.a1) (by omega) (by omega) ?_
  refine aw_aload_0 (q := 17) F dM_names_16 rfl ?_
  refine av_getaE (q := 20) F fM_147 dM_names_17 rfl rfl (by first | exact hM.o | exact hl.o | exact hl.a6 | exact hl.a7 | exact hl.a8 | exact hl.a1) h4p ?_
  refine av_getaE (q := 23) F fM_171 dM_names_20 rfl rfl (by first | exact hM.o | exact hl.o | exact hl.a6 | exact hl.a7 | exact hl.a8 | exact hl.a1) hl.p16 ?_
  refine aw_aload_0 (q := 24) F dM_names_23 rfl ?_
  refine av_getaE (q := 27) F fM_147 dM_names_24 rfl rfl (by first | exact hM.o | exact hl.o | exact hl.a6 | exact hl.a7 | exact hl.a8 | exact hl.a1) h4p ?_
  refine av_geti (q := 30) F fM_168 dM_names_27 rfl rfl (by first | exact hM.o | exact hl.o | exact hl.a6 | exact hl.a7 | exact hl.a8 | exact hl.a1) ?_
  rw [Int.toNat_natCast, up2_nea _ _ (by omega), hN]
  refine aw_iload_3 (q := 31) F dM_names_30 rfl ?_
  refine av_iastore (q := 32) F dM_names_31 rfl (by first | exact hM.o | exact hl.o | exact hl.a6 | exact hl.a7 | exact hl.a8 | exact hl.a1) (by omega) (by omega) ?_
  refine aw_aload_0 (q := 33) F dM_names_32 rfl ?_
  refine av_getaE (q := 36) F fM_147 dM_names_33 rfl rfl (by first | exact hM.o | exact hl.o | exact hl.a6 | exact hl.a7 | exact hl.a8 | exact hl.a1) h4p ?_
  refine av_getaE (q := 39) F fM_174 dM_names_36 rfl rfl (by first | exact hM.o | exact hl.o | exact hl.a6 | exact hl.a7 | exact hl.a8 | exact hl.a1) hl.p17 ?_
  refine aw_aload_0 (q := 40) F dM_names_39 rfl ?_
  refine av_getaE (q := 43) F fM_147 dM_names_40 rfl rfl (by first | exact hM.o | exact hl.o | exact hl.a6 | exact hl.a7 | exact hl.a8 | exact hl.a1) h4p ?_
  refine av_geti (q := 46) F fM_168 dM_names_43 rfl rfl (by first | exact hM.o | exact hl.o | exact hl.a6 | exact hl.a7 | exact hl.a8 | exact hl.a1) ?_
  rw [Int.toNat_natCast, up2_nea _ _ (by omega), up2_nea _ _ (by omega), hN]
  refine aw_iload_4 (q := 48) F dM_names_46 rfl ?_
  refine av_iastore (q := 49) F dM_names_48 rfl (by first | exact hM.o | exact hl.o | exact hl.a6 | exact hl.a7 | exact hl.a8 | exact hl.a1) (by omega) (by omega) ?_
  refine aw_aload_0 (q := 50) F dM_names_49 rfl ?_
  refine av_getaE (q := 53) F fM_147 dM_names_50 rfl rfl (by first | exact hM.o | exact hl.o | exact hl.a6 | exact hl.a7 | exact hl.a8 | exact hl.a1) h4p ?_
  refine aw_dup (q := 54) F dM_names_53 rfl trivial ?_
  refine av_geti (q := 57) F fM_168 dM_names_54 rfl rfl (by first | exact hM.o | exact hl.o | exact hl.a6 | exact hl.a7 | exact hl.a8 | exact hl.a1) ?_
  rw [Int.toNat_natCast, up2_nea _ _ (by omega), up2_nea _ _ (by omega), up2_nea _ _ (by omega), hN]
  refine aw_iconst (q := 58) F dM_names_57 rfl (by decide) ?_
  refine aw_iadd (q := 59) F dM_names_58 rfl (by constructor <;> omega) ?_
  refine av_puti (q := 62) F fM_168 dM_names_59 rfl rfl (wr_8_8 _) (by first | exact hM.o | exact hl.o | exact hl.a6 | exact hl.a7 | exact hl.a8 | exact hl.a1) ?_
  refine aw_vret F C dM_names_62 rfl (Nat.le_refl _) (Nat.le_refl _) ?_
  exact hK
theorem pNw_0 {c : Nat} {k : PO} (h : isNm t = true → nmI r t ≠ -1) (hc : c = (if isNm t then 3 else 1)) : pNw r t k = .inr (c, t.2.1) := by
  unfold pNw
  cases hn : isNm t
  · rw [if_neg Bool.false_ne_true, hc, hn]; rfl
  · rw [if_pos rfl, if_neg (h hn), hc, hn]; rfl
theorem pNw_1 {k : PO} (h : isNm t = true) (h2 : nmI r t = -1) : pNw r t k = k := by unfold pNw; rw [if_pos h, if_pos h2]
theorem wM_readPerson (hM : moS σ l) (hl : laS σ e) (h4p : sP σ 53 4 = e) (he : 64 ≤ e) (h : GS V e n B r t) (h4 : t.1 ≠ 4) (hK : MrK K V σ e n B (if r.2.1 = false then .inr (6, t.2.1) else pPerson B n r t)) : Wp G 8 mM_readPerson [vR 53] (V, σ) 0 0 K := by
  have e2 : V e 2 = tPn r.1 := h.2.1.1.2.2.1
  have hp2 : tPn r.1 ≤ 2 := h.2.2.2.1.1.2.2.1
  have hd4 : tDn r.1 ≤ 4 := h.2.2.2.1.1.2.1
  have hz4 : tPn r.1 < 2 → r.2.2.2 (4 + tPn r.1) = 0 := fun q => by
    have := h.2.2.2.1.2.2.2 (tPn r.1) q
    omega
  refine wp_intro mM_readPerson_i.1 [some (vR 53), none, none] rfl rfl (Nat.le_of_ble_eq_true rfl) ?_
  intro X hG F C
  have hm := C.rm
  refine aw_aload_0 (q := 1) F dM_readPerson_0 rfl ?_
  refine aw_aload_0 (q := 2) F dM_readPerson_1 rfl ?_
  refine av_getaE (q := 5) F fM_147 dM_readPerson_2 rfl rfl (by first | exact hM.o | exact hl.o | exact hl.a6 | exact hl.a7 | exact hl.a8 | exact hl.a1) h4p ?_
  refine av_geti (q := 8) F fM_253 dM_readPerson_5 rfl rfl (by first | exact hM.o | exact hl.o | exact hl.a6 | exact hl.a7 | exact hl.a8 | exact hl.a1) ?_
  rw [e2]
  refine aw_iconst (q := 9) F dM_readPerson_8 rfl (by decide) ?_
  refine av_callV2 (q := 12) (ci := 9) F hm mM_lineBegins_i mM_lineBegins_n lM_214 dM_readPerson_9 rfl rfl rfl (by first | exact hM.o | exact hl.o | exact hl.a6 | exact hl.a7 | exact hl.a8 | exact hl.a1) (by decide) (Nat.le_refl _) (Nat.le_refl _) (Nat.le_of_ble_eq_true rfl) (wM_lineBegins hM hl h4p he h h4 (fun a9 b9 V1 f9 g9 => ?_) (fun a9 VO HO HQ => ?_) (fun a9 b9 VO HO HQ => ?_))
  · rw [if_neg (by rw [b9]; decide)] at hK
    unfold pPerson at hK
    rw [if_neg (by omega)] at hK
    refine aw_aload_0 (q := 13) F dM_readPerson_12 rfl ?_
    refine av_callV0 (q := 16) (ci := 9) F hm mM_readFresh_i mM_readFresh_n lM_218 dM_readPerson_13 rfl rfl rfl (by first | exact hM.o | exact hl.o | exact hl.a6 | exact hl.a7 | exact hl.a8 | exact hl.a1) (by decide) (Nat.le_refl _) (Nat.le_refl _) (Nat.le_of_ble_eq_true rfl) (wM_readFresh hM hl h4p he g9 (fun a13 b13 V2 f13 g13 => ?_) (fun c13 a13 b13 VO z13 HO HQ => ?_))
    · rw [pNw_1 a13 b13] at hK
      refine aw_lstore_1 (q := 17) F dM_readPerson_16 rfl trivial ?_
      refine aw_aload_0 (q := 18) F dM_readPerson_17 rfl ?_
      refine av_geti (q := 21) F fM_78 dM_readPerson_18 rfl rfl (by first | exact hM.o | exact hl.o | exact hl.a6 | exact hl.a7 | exact hl.a8 | exact hl.a1) ?_
      refine aw_iconst (q := 22) F dM_readPerson_21 rfl (by decide) ?_
      refine aw_icmp_ne (q := 25) (t := 26) F dM_readPerson_22 rfl (by decide) (fun c22 => ?_) (fun c22 => by exact absurd c22 g13.1.1.2)
      refine aw_aload_0 (q := 27) F dM_readPerson_26 rfl ?_
      refine aw_lload_1 (q := 28) F dM_readPerson_27 rfl ?_
      refine aw_iconst (q := 29) F dM_readPerson_28 rfl (by decide) ?_
      refine aw_aload_0 (q := 30) F dM_readPerson_29 rfl ?_
      refine av_getaE (q := 33) F fM_147 dM_readPerson_30 rfl rfl (by first | exact hM.o | exact hl.o | exact hl.a6 | exact hl.a7 | exact hl.a8 | exact hl.a1) h4p ?_
      refine av_geti (q := 36) F fM_253 dM_readPerson_33 rfl rfl (by first | exact hM.o | exact hl.o | exact hl.a6 | exact hl.a7 | exact hl.a8 | exact hl.a1) ?_
      rw [show V2 e 2 = tPn r.1 from g13.2.1.1.2.2.1]
      refine av_callV3 (q := 39) (ci := 9) F hm mM_names_i mM_names_n lM_230 dM_readPerson_36 rfl rfl rfl (by first | exact hM.o | exact hl.o | exact hl.a6 | exact hl.a7 | exact hl.a8 | exact hl.a1) (by decide) (Nat.le_refl _) (Nat.le_refl _) (Nat.le_of_ble_eq_true rfl) (wM_names (N := tDn r.1 + tPn r.1) hM hl h4p g13.2.1.1.2.2.2.2.2.2.2.2.1 (by omega) ?_)
      refine aw_aload_0 (q := 40) F dM_readPerson_39 rfl ?_
      refine av_getaE (q := 43) F fM_147 dM_readPerson_40 rfl rfl (by first | exact hM.o | exact hl.o | exact hl.a6 | exact hl.a7 | exact hl.a8 | exact hl.a1) h4p ?_
      refine aw_dup (q := 44) F dM_readPerson_43 rfl trivial ?_
      refine av_geti (q := 47) F fM_253 dM_readPerson_44 rfl rfl (by first | exact hM.o | exact hl.o | exact hl.a6 | exact hl.a7 | exact hl.a8 | exact hl.a1) ?_
      rw [up2_nek _ _ (by decide), up2_nea _ _ (by omega), up2_nea _ _ (by omega), up2_nea _ _ (by omega), show V2 e 2 = tPn r.1 from g13.2.1.1.2.2.1]
      refine aw_iconst (q := 48) F dM_readPerson_47 rfl (by decide) ?_
      refine aw_iadd (q := 49) F dM_readPerson_48 rfl (by constructor <;> omega) ?_
      refine av_puti (q := 52) F fM_253 dM_readPerson_49 rfl rfl (wr_8_2 _) (by first | exact hM.o | exact hl.o | exact hl.a6 | exact hl.a7 | exact hl.a8 | exact hl.a1) ?_
      refine aw_vret F C dM_readPerson_52 rfl (Nat.le_refl _) (Nat.le_refl _) ?_
      obtain ⟨⟨x0, x1, x2, x3, x4, x5, x6, x7, x8, x14⟩, ⟨y1, y2, y3, y4⟩, hnm⟩ := g13.2.1
      have hwp := (g9.2.2.2.2.2.1.2.2 (isNm_1 a13)).1
      generalize hN : tDn r.1 + tPn r.1 = N
      generalize hV : up2 (up2 (up2 (up2 V2 (e + 6) N ((nxT B n t).2.2.2 : Int)) (e + 7) N 1) (e + 8) N (tPn r.1 : Int)) e 8 ((N : Int) + 1) = V5
      have ek : ∀ j, j ≠ 8 → V5 e j = V2 e j := fun j hj => by rw [← hV, up2_nek _ _ hj, up2_nea _ _ (by omega), up2_nea _ _ (by omega), up2_nea _ _ (by omega)]
      have ec : ∀ b, b ≠ e → b ≠ e + 6 → b ≠ e + 7 → b ≠ e + 8 → up2 V5 e 2 ((tPn r.1 : Int) + 1) b = V2 b := fun b h1 h2 h3 h4 => by rw [up2_nea _ _ h1, ← hV, up2_nea _ _ h1, up2_nea _ _ h4, up2_nea _ _ h3, up2_nea _ _ h2]
      refine hK.1 _ (uPn r.1, r.2.1, r.2.2.1, uNm r.2.2.2 (4 + tPn r.1) (nxT B n t).2.2.2) _ rfl ?_ (g13.w (ec _ (by omega) (by omega) (by omega) (by omega)) (ec _ (by omega) (by omega) (by omega) (by omega)) ⟨?_, ?_, ?_⟩)
      · rw [← hV]; exact ((((((f9.qf.tr f13.qf).pf.la (by omega) ⟨by omega, by omega⟩).la (by omega) ⟨by omega, by omega⟩).la (by omega) ⟨by omega, by omega⟩).la (by omega) ⟨by omega, by omega⟩).la (by omega) ⟨by omega, by omega⟩)
      · have ek2 : ∀ j, j ≠ 2 → j ≠ 8 → up2 V5 e 2 ((tPn r.1 : Int) + 1) e j = V2 e j := fun j h1 h2 => by rw [up2_nek _ _ h1]; exact ek j h2
        exact ⟨(ek2 0 (by decide) (by decide)).trans x0, (ek2 1 (by decide) (by decide)).trans x1, up2_same _ _ _ _, (ek2 3 (by decide) (by decide)).trans x3, (ek2 4 (by decide) (by decide)).trans x4, (ek2 5 (by decide) (by decide)).trans x5, (ek2 6 (by decide) (by decide)).trans x6, (ek2 7 (by decide) (by decide)).trans x7, by rw [up2_nek _ _ (by decide), ← hV, up2_same]; show (N : Int) + 1 = ((tDn r.1 + (tPn r.1 + 1) : Nat) : Int); omega, (ek2 14 (by decide) (by decide)).trans x14⟩
      · unfold LRa; rw [ec _ (by omega) (by omega) (by omega) (by omega), ec _ (by omega) (by omega) (by omega) (by omega), ec _ (by omega) (by omega) (by omega) (by omega), ec _ (by omega) (by omega) (by omega) (by omega), ec _ (by omega) (by omega) (by omega) (by omega)]; exact ⟨y1, y2, y3, y4⟩
      · refine hnm.add (N := N) (i := 4 + tPn r.1) (w := (nxT B n t).2.2.2) hN.symm (by omega) (hz4 (by omega)) hwp rfl (show tDn r.1 + (tPn r.1 + 1) = N + 1 by omega) (fun k => ?_) (fun k => ?_) (fun k => ?_)
        · rw [up2_nea _ _ (by omega), ← hV, up2_nea _ _ (by omega), up2_nea _ _ (by omega), up2_nea _ _ (by omega), up2_at]
        · rw [up2_nea _ _ (by omega), ← hV, up2_nea _ _ (by omega), up2_nea _ _ (by omega), up2_at, up2_nea _ _ (by omega), if_neg (show ¬ 4 + tPn r.1 < 4 by omega)]
        · rw [up2_nea _ _ (by omega), ← hV, up2_nea _ _ (by omega), up2_at, up2_nea _ _ (by omega), up2_nea _ _ (by omega), if_neg (show ¬ 4 + tPn r.1 < 4 by omega), show 4 + tPn r.1 - 4 = tPn r.1 by omega]
    · first | (have HK : K none (VO, σ) := hK.2 VO _ _ (pNw_0 a13 b13) (f9.qf.tr HQ).pf HO) | skip
      refine aw_lstore_1 (q := 17) F dM_readPerson_16 rfl trivial ?_
      refine aw_aload_0 (q := 18) F dM_readPerson_17 rfl ?_
      refine av_geti (q := 21) F fM_78 dM_readPerson_18 rfl rfl (by first | exact hM.o | exact hl.o | exact hl.a6 | exact hl.a7 | exact hl.a8 | exact hl.a1) ?_
      refine aw_iconst (q := 22) F dM_readPerson_21 rfl (by decide) ?_
      refine aw_icmp_ne (q := 25) (t := 26) F dM_readPerson_22 rfl (by decide) (fun c22 => by exact absurd HO.1 c22) (fun c22 => ?_)
      refine aw_vret F C dM_readPerson_25 rfl (Nat.le_refl _) (Nat.le_refl _) ?_
      exact HK
  · have H8 := h.n8 HQ he
    first
    | (have HK : K none (VO, σ) := hK.2 VO _ _ (if_pos b9) HQ.pf HO)
    | (have hb1 : r.2.1 = true := by
         cases hq : r.2.1
         · have := (h.2.2.2.2.1.1 hq).2.1; omega
         · rfl
       have HK : K none (VO, σ) := hK.2 VO _ _ ((if_neg (by rw [hb1]; decide)).trans (by unfold pPerson; rw [if_pos (by omega)])) HQ.pf HO)
    refine aw_aload_0 (q := 13) F dM_readPerson_12 rfl ?_
    refine av_callV0 (q := 16) (ci := 9) F hm mM_readFresh_i mM_readFresh_n lM_218 dM_readPerson_13 rfl rfl rfl (by first | exact hM.o | exact hl.o | exact hl.a6 | exact hl.a7 | exact hl.a8 | exact hl.a1) (by decide) (Nat.le_refl _) (Nat.le_refl _) (Nat.le_of_ble_eq_true rfl) (wM_readFreshO hM hl h4p H8 HO.1 (fun z13 => ?_))
    first | (have HK : K none (VO, σ) := hK.2 VO _ _ (pNw_0 a13 b13) (f9.qf.tr HQ).pf HO) | skip
    refine aw_lstore_1 (q := 17) F dM_readPerson_16 rfl trivial ?_
    refine aw_aload_0 (q := 18) F dM_readPerson_17 rfl ?_
    refine av_geti (q := 21) F fM_78 dM_readPerson_18 rfl rfl (by first | exact hM.o | exact hl.o | exact hl.a6 | exact hl.a7 | exact hl.a8 | exact hl.a1) ?_
    refine aw_iconst (q := 22) F dM_readPerson_21 rfl (by decide) ?_
    refine aw_icmp_ne (q := 25) (t := 26) F dM_readPerson_22 rfl (by decide) (fun c22 => by exact absurd HO.1 c22) (fun c22 => ?_)
    refine aw_vret F C dM_readPerson_25 rfl (Nat.le_refl _) (Nat.le_refl _) ?_
    exact HK
  · have H8 := h.n8 HQ he
    first
    | (have HK : K none (VO, σ) := hK.2 VO _ _ (if_pos b9) HQ.pf HO)
    | (have hb1 : r.2.1 = true := by
         cases hq : r.2.1
         · have := (h.2.2.2.2.1.1 hq).2.1; omega
         · rfl
       have HK : K none (VO, σ) := hK.2 VO _ _ ((if_neg (by rw [hb1]; decide)).trans (by unfold pPerson; rw [if_pos (by omega)])) HQ.pf HO)
    refine aw_aload_0 (q := 13) F dM_readPerson_12 rfl ?_
    refine av_callV0 (q := 16) (ci := 9) F hm mM_readFresh_i mM_readFresh_n lM_218 dM_readPerson_13 rfl rfl rfl (by first | exact hM.o | exact hl.o | exact hl.a6 | exact hl.a7 | exact hl.a8 | exact hl.a1) (by decide) (Nat.le_refl _) (Nat.le_refl _) (Nat.le_of_ble_eq_true rfl) (wM_readFreshO hM hl h4p H8 HO.1 (fun z13 => ?_))
    first | (have HK : K none (VO, σ) := hK.2 VO _ _ (pNw_0 a13 b13) (f9.qf.tr HQ).pf HO) | skip
    refine aw_lstore_1 (q := 17) F dM_readPerson_16 rfl trivial ?_
    refine aw_aload_0 (q := 18) F dM_readPerson_17 rfl ?_
    refine av_geti (q := 21) F fM_78 dM_readPerson_18 rfl rfl (by first | exact hM.o | exact hl.o | exact hl.a6 | exact hl.a7 | exact hl.a8 | exact hl.a1) ?_
    refine aw_iconst (q := 22) F dM_readPerson_21 rfl (by decide) ?_
    refine aw_icmp_ne (q := 25) (t := 26) F dM_readPerson_22 rfl (by decide) (fun c22 => by exact absurd HO.1 c22) (fun c22 => ?_)
    refine aw_vret F C dM_readPerson_25 rfl (Nat.le_refl _) (Nat.le_refl _) ?_
    exact HK
end Mod47
