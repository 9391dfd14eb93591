theorem dM_reaches_0 : decode mM_reaches.2.1 0 = .ok (.aload_n 0, 1) := by decide +kernel
theorem dM_reaches_1 : decode mM_reaches.2.1 1 = .ok (.invokevirtual 326, 3) := by decide +kernel
theorem dM_reaches_4 : decode mM_reaches.2.1 4 = .ok (.iconst 1, 1) := by decide +kernel
theorem dM_reaches_5 : decode mM_reaches.2.1 5 = .ok (.isub, 1) := by decide +kernel
theorem dM_reaches_6 : decode mM_reaches.2.1 6 = .ok (.istore_n 1, 1) := by decide +kernel
theorem dM_reaches_7 : decode mM_reaches.2.1 7 = .ok (.iload_n 1, 1) := by decide +kernel
theorem dM_reaches_8 : decode mM_reaches.2.1 8 = .ok (.ifCond .lt 18, 3) := by decide +kernel
theorem dM_reaches_11 : decode mM_reaches.2.1 11 = .ok (.aload_n 0, 1) := by decide +kernel
theorem dM_reaches_12 : decode mM_reaches.2.1 12 = .ok (.getfield 31, 3) := by decide +kernel
theorem dM_reaches_15 : decode mM_reaches.2.1 15 = .ok (.iload_n 1, 1) := by decide +kernel
theorem dM_reaches_16 : decode mM_reaches.2.1 16 = .ok (.ldc_w 329, 3) := by decide +kernel
theorem dM_reaches_19 : decode mM_reaches.2.1 19 = .ok (.iastore, 1) := by decide +kernel
theorem dM_reaches_20 : decode mM_reaches.2.1 20 = .ok (.iinc 1 (-1), 3) := by decide +kernel
theorem dM_reaches_23 : decode mM_reaches.2.1 23 = .ok (.goto (-16), 3) := by decide +kernel
theorem dM_reaches_26 : decode mM_reaches.2.1 26 = .ok (.aload_n 0, 1) := by decide +kernel
theorem dM_reaches_27 : decode mM_reaches.2.1 27 = .ok (.invokevirtual 330, 3) := by decide +kernel
theorem dM_reaches_30 : decode mM_reaches.2.1 30 = .ok (.istore_n 1, 1) := by decide +kernel
theorem dM_reaches_31 : decode mM_reaches.2.1 31 = .ok (.aload_n 0, 1) := by decide +kernel
theorem dM_reaches_32 : decode mM_reaches.2.1 32 = .ok (.getfield 31, 3) := by decide +kernel
theorem dM_reaches_35 : decode mM_reaches.2.1 35 = .ok (.iload_n 1, 1) := by decide +kernel
theorem dM_reaches_36 : decode mM_reaches.2.1 36 = .ok (.iconst 0, 1) := by decide +kernel
theorem dM_reaches_37 : decode mM_reaches.2.1 37 = .ok (.iastore, 1) := by decide +kernel
theorem dM_reaches_38 : decode mM_reaches.2.1 38 = .ok (.aload_n 0, 1) := by decide +kernel
theorem dM_reaches_39 : decode mM_reaches.2.1 39 = .ok (.getfield 34, 3) := by decide +kernel
theorem dM_reaches_42 : decode mM_reaches.2.1 42 = .ok (.iload_n 1, 1) := by decide +kernel
theorem dM_reaches_43 : decode mM_reaches.2.1 43 = .ok (.iconst (-1), 1) := by decide +kernel
theorem dM_reaches_44 : decode mM_reaches.2.1 44 = .ok (.iastore, 1) := by decide +kernel
theorem dM_reaches_45 : decode mM_reaches.2.1 45 = .ok (.aload_n 0, 1) := by decide +kernel
theorem dM_reaches_46 : decode mM_reaches.2.1 46 = .ok (.getfield 37, 3) := by decide +kernel
theorem dM_reaches_49 : decode mM_reaches.2.1 49 = .ok (.iconst 0, 1) := by decide +kernel
theorem dM_reaches_50 : decode mM_reaches.2.1 50 = .ok (.iload_n 1, 1) := by decide +kernel
theorem dM_reaches_51 : decode mM_reaches.2.1 51 = .ok (.iastore, 1) := by decide +kernel
theorem dM_reaches_52 : decode mM_reaches.2.1 52 = .ok (.aload_n 0, 1) := by decide +kernel
theorem dM_reaches_53 : decode mM_reaches.2.1 53 = .ok (.iconst 1, 1) := by decide +kernel
theorem dM_reaches_54 : decode mM_reaches.2.1 54 = .ok (.putfield 333, 3) := by decide +kernel
theorem dM_reaches_57 : decode mM_reaches.2.1 57 = .ok (.iconst 0, 1) := by decide +kernel
theorem dM_reaches_58 : decode mM_reaches.2.1 58 = .ok (.istore_n 2, 1) := by decide +kernel
theorem dM_reaches_59 : decode mM_reaches.2.1 59 = .ok (.iload_n 2, 1) := by decide +kernel
theorem dM_reaches_60 : decode mM_reaches.2.1 60 = .ok (.aload_n 0, 1) := by decide +kernel
theorem dM_reaches_61 : decode mM_reaches.2.1 61 = .ok (.getfield 333, 3) := by decide +kernel
theorem dM_reaches_64 : decode mM_reaches.2.1 64 = .ok (.if_icmp .ge 132, 3) := by decide +kernel
theorem dM_reaches_67 : decode mM_reaches.2.1 67 = .ok (.aload_n 0, 1) := by decide +kernel
theorem dM_reaches_68 : decode mM_reaches.2.1 68 = .ok (.getfield 37, 3) := by decide +kernel
theorem dM_reaches_71 : decode mM_reaches.2.1 71 = .ok (.iload_n 2, 1) := by decide +kernel
theorem dM_reaches_72 : decode mM_reaches.2.1 72 = .ok (.iaload, 1) := by decide +kernel
theorem dM_reaches_73 : decode mM_reaches.2.1 73 = .ok (.istore_n 3, 1) := by decide +kernel
theorem dM_reaches_74 : decode mM_reaches.2.1 74 = .ok (.iconst 0, 1) := by decide +kernel
theorem dM_reaches_75 : decode mM_reaches.2.1 75 = .ok (.istore 4, 2) := by decide +kernel
theorem dM_reaches_77 : decode mM_reaches.2.1 77 = .ok (.iload 4, 2) := by decide +kernel
theorem dM_reaches_79 : decode mM_reaches.2.1 79 = .ok (.aload_n 0, 1) := by decide +kernel
theorem dM_reaches_80 : decode mM_reaches.2.1 80 = .ok (.invokevirtual 336, 3) := by decide +kernel
theorem dM_reaches_83 : decode mM_reaches.2.1 83 = .ok (.if_icmp .ge 107, 3) := by decide +kernel
theorem dM_reaches_86 : decode mM_reaches.2.1 86 = .ok (.aload_n 0, 1) := by decide +kernel
theorem dM_reaches_87 : decode mM_reaches.2.1 87 = .ok (.iload_n 3, 1) := by decide +kernel
theorem dM_reaches_88 : decode mM_reaches.2.1 88 = .ok (.invokevirtual 339, 3) := by decide +kernel
theorem dM_reaches_91 : decode mM_reaches.2.1 91 = .ok (.aload_n 0, 1) := by decide +kernel
theorem dM_reaches_92 : decode mM_reaches.2.1 92 = .ok (.iload 4, 2) := by decide +kernel
theorem dM_reaches_94 : decode mM_reaches.2.1 94 = .ok (.invokevirtual 342, 3) := by decide +kernel
theorem dM_reaches_97 : decode mM_reaches.2.1 97 = .ok (.ifCond .ne 6, 3) := by decide +kernel
theorem dM_reaches_100 : decode mM_reaches.2.1 100 = .ok (.goto 84, 3) := by decide +kernel
theorem dM_reaches_103 : decode mM_reaches.2.1 103 = .ok (.aload_n 0, 1) := by decide +kernel
theorem dM_reaches_104 : decode mM_reaches.2.1 104 = .ok (.iload 4, 2) := by decide +kernel
theorem dM_reaches_106 : decode mM_reaches.2.1 106 = .ok (.invokevirtual 345, 3) := by decide +kernel
theorem dM_reaches_109 : decode mM_reaches.2.1 109 = .ok (.pop, 1) := by decide +kernel
theorem dM_reaches_110 : decode mM_reaches.2.1 110 = .ok (.aload_n 0, 1) := by decide +kernel
theorem dM_reaches_111 : decode mM_reaches.2.1 111 = .ok (.invokevirtual 330, 3) := by decide +kernel
theorem dM_reaches_114 : decode mM_reaches.2.1 114 = .ok (.istore 5, 2) := by decide +kernel
theorem dM_reaches_116 : decode mM_reaches.2.1 116 = .ok (.aload_n 0, 1) := by decide +kernel
theorem dM_reaches_117 : decode mM_reaches.2.1 117 = .ok (.getfield 31, 3) := by decide +kernel
theorem dM_reaches_120 : decode mM_reaches.2.1 120 = .ok (.iload 5, 2) := by decide +kernel
theorem dM_reaches_122 : decode mM_reaches.2.1 122 = .ok (.iaload, 1) := by decide +kernel
theorem dM_reaches_123 : decode mM_reaches.2.1 123 = .ok (.ldc_w 329, 3) := by decide +kernel
theorem dM_reaches_126 : decode mM_reaches.2.1 126 = .ok (.if_icmp .eq 6, 3) := by decide +kernel
theorem dM_reaches_129 : decode mM_reaches.2.1 129 = .ok (.goto 55, 3) := by decide +kernel
theorem dM_reaches_132 : decode mM_reaches.2.1 132 = .ok (.aload_n 0, 1) := by decide +kernel
theorem dM_reaches_133 : decode mM_reaches.2.1 133 = .ok (.getfield 31, 3) := by decide +kernel
theorem dM_reaches_136 : decode mM_reaches.2.1 136 = .ok (.iload 5, 2) := by decide +kernel
theorem dM_reaches_138 : decode mM_reaches.2.1 138 = .ok (.aload_n 0, 1) := by decide +kernel
theorem dM_reaches_139 : decode mM_reaches.2.1 139 = .ok (.getfield 31, 3) := by decide +kernel
theorem dM_reaches_142 : decode mM_reaches.2.1 142 = .ok (.iload_n 3, 1) := by decide +kernel
theorem dM_reaches_143 : decode mM_reaches.2.1 143 = .ok (.iaload, 1) := by decide +kernel
theorem dM_reaches_144 : decode mM_reaches.2.1 144 = .ok (.iconst 1, 1) := by decide +kernel
theorem dM_reaches_145 : decode mM_reaches.2.1 145 = .ok (.iadd, 1) := by decide +kernel
theorem dM_reaches_146 : decode mM_reaches.2.1 146 = .ok (.iastore, 1) := by decide +kernel
theorem dM_reaches_147 : decode mM_reaches.2.1 147 = .ok (.aload_n 0, 1) := by decide +kernel
theorem dM_reaches_148 : decode mM_reaches.2.1 148 = .ok (.getfield 34, 3) := by decide +kernel
theorem dM_reaches_151 : decode mM_reaches.2.1 151 = .ok (.iload 5, 2) := by decide +kernel
theorem dM_reaches_153 : decode mM_reaches.2.1 153 = .ok (.aload_n 0, 1) := by decide +kernel
theorem dM_reaches_154 : decode mM_reaches.2.1 154 = .ok (.invokevirtual 336, 3) := by decide +kernel
theorem dM_reaches_157 : decode mM_reaches.2.1 157 = .ok (.iload_n 3, 1) := by decide +kernel
theorem dM_reaches_158 : decode mM_reaches.2.1 158 = .ok (.imul, 1) := by decide +kernel
theorem dM_reaches_159 : decode mM_reaches.2.1 159 = .ok (.iload 4, 2) := by decide +kernel
theorem dM_reaches_161 : decode mM_reaches.2.1 161 = .ok (.iadd, 1) := by decide +kernel
theorem dM_reaches_162 : decode mM_reaches.2.1 162 = .ok (.iastore, 1) := by decide +kernel
theorem dM_reaches_163 : decode mM_reaches.2.1 163 = .ok (.aload_n 0, 1) := by decide +kernel
theorem dM_reaches_164 : decode mM_reaches.2.1 164 = .ok (.getfield 37, 3) := by decide +kernel
theorem dM_reaches_167 : decode mM_reaches.2.1 167 = .ok (.aload_n 0, 1) := by decide +kernel
theorem dM_reaches_168 : decode mM_reaches.2.1 168 = .ok (.getfield 333, 3) := by decide +kernel
theorem dM_reaches_171 : decode mM_reaches.2.1 171 = .ok (.iload 5, 2) := by decide +kernel
theorem dM_reaches_173 : decode mM_reaches.2.1 173 = .ok (.iastore, 1) := by decide +kernel
theorem dM_reaches_174 : decode mM_reaches.2.1 174 = .ok (.aload_n 0, 1) := by decide +kernel
theorem dM_reaches_175 : decode mM_reaches.2.1 175 = .ok (.dup, 1) := by decide +kernel
theorem dM_reaches_176 : decode mM_reaches.2.1 176 = .ok (.getfield 333, 3) := by decide +kernel
theorem dM_reaches_179 : decode mM_reaches.2.1 179 = .ok (.iconst 1, 1) := by decide +kernel
theorem dM_reaches_180 : decode mM_reaches.2.1 180 = .ok (.iadd, 1) := by decide +kernel
theorem dM_reaches_181 : decode mM_reaches.2.1 181 = .ok (.putfield 333, 3) := by decide +kernel
theorem dM_reaches_184 : decode mM_reaches.2.1 184 = .ok (.iinc 4 1, 3) := by decide +kernel
theorem dM_reaches_187 : decode mM_reaches.2.1 187 = .ok (.goto (-110), 3) := by decide +kernel
theorem dM_reaches_190 : decode mM_reaches.2.1 190 = .ok (.iinc 2 1, 3) := by decide +kernel
theorem dM_reaches_193 : decode mM_reaches.2.1 193 = .ok (.goto (-134), 3) := by decide +kernel
theorem dM_reaches_196 : decode mM_reaches.2.1 196 = .ok (.return_, 1) := by decide +kernel
theorem dM_reachesNow_0 : decode mM_reachesNow.2.1 0 = .ok (.aload_n 0, 1) := by decide +kernel
theorem dM_reachesNow_1 : decode mM_reachesNow.2.1 1 = .ok (.invokevirtual 348, 3) := by decide +kernel
theorem dM_reachesNow_4 : decode mM_reachesNow.2.1 4 = .ok (.aload_n 0, 1) := by decide +kernel
theorem dM_reachesNow_5 : decode mM_reachesNow.2.1 5 = .ok (.getfield 286, 3) := by decide +kernel
theorem dM_reachesNow_8 : decode mM_reachesNow.2.1 8 = .ok (.ifCond .eq 4, 3) := by decide +kernel
theorem dM_reachesNow_11 : decode mM_reachesNow.2.1 11 = .ok (.return_, 1) := by decide +kernel
theorem dM_reachesNow_12 : decode mM_reachesNow.2.1 12 = .ok (.aload_n 0, 1) := by decide +kernel
theorem dM_reachesNow_13 : decode mM_reachesNow.2.1 13 = .ok (.invokevirtual 351, 3) := by decide +kernel
theorem dM_reachesNow_16 : decode mM_reachesNow.2.1 16 = .ok (.aload_n 0, 1) := by decide +kernel
theorem dM_reachesNow_17 : decode mM_reachesNow.2.1 17 = .ok (.iconst 1, 1) := by decide +kernel
theorem dM_reachesNow_18 : decode mM_reachesNow.2.1 18 = .ok (.putfield 286, 3) := by decide +kernel
theorem dM_reachesNow_21 : decode mM_reachesNow.2.1 21 = .ok (.return_, 1) := by decide +kernel
section Mod13
variable {G : GE} {V : Nat → Nat → Int} {σ : Shp} {K : Option AV → Mem → Prop} {l : Nat} {c : Cfg} {n : Nat}
/-- the search to its end -/
theorem wM_reaches (hn : n < spc c) (hM : moS σ l) (hl : laS σ l) (h64 : 64 ≤ l) (hC : LC V l c) (hA : AR (V 56) c n) (hc : okC c) (hK : ∀ V' m, MF V V' → V' 53 26 = V 53 26 → V' 62 = V 62 → V' 63 = V 63 → AR (V' 56) c m → m < spc c → RQ V' c (fuS c n).1 → K none (V', σ)) : Wp G 3 mM_reaches [vR 53] (V, σ) 0 0 K := by
  have hsp := spc_le hc
  have hst : stN c ≤ 16 := stN_le hc
  have hl56 : l ≠ 56 := by omega
  refine wp_intro mM_reaches_i.1 [some (vR 53), none, none, none, none, none] rfl rfl (Nat.le_of_ble_eq_true rfl) ?_
  intro X hG F C
  have hm := C.rm
  -- one arrangement is gone on from
  have inner : ∀ (L0 : List (Nat × Nat)) (i : Nat) (q0 : Nat × Nat) (w3 w2 : Int), L0[i]? = some q0 → okQ c L0 → w3 = mnN c q0.1 → w2 = i → (∀ (V1 : Nat → Nat → Int) (x y : Option AV) (m : Nat), MF V V1 → (V1 53 26 = V 53 26 ∧ V1 62 = V 62 ∧ V1 63 = V 63) → AR (V1 56) c m → m < spc c → RQ V1 c (exL c q0.1 0 i L0 (stN c)) → AW X 190 [some (vR 53), some (vI (mnN c n)), some (vI w2), some (vI w3), x, y] [] (V1, σ) 0 0) → ∀ (j s : Nat), s + j = stN c → ∀ (V1 : Nat → Nat → Int) (w4 : Int) (x5 : Option AV) (m : Nat), w4 = s → MF V V1 → (V1 53 26 = V 53 26 ∧ V1 62 = V 62 ∧ V1 63 = V 63) → AR (V1 56) c m → m < spc c → RQ V1 c (exL c q0.1 0 i L0 s) → AW X 77 [some (vR 53), some (vI (mnN c n)), some (vI w2), some (vI w3), some (vI w4), x5] [] (V1, σ) 0 0 := by
    intro L0 i q0 w3 w2 hq0 hok h3 h2 hE j
    subst h3
    have hq0s : q0.1 < spc c := hok.2.1 q0 (List.mem_of_getElem? hq0)
    have hil := (List.getElem?_eq_some_iff.mp hq0).1
    induction j with
    | zero =>
      intro s hs V1 w4 x5 m h4 hF hO hA1 hm1 hR
      have hC1 := hF.lc h64 hC
      rw [show s = stN c by omega] at hR
      refine aw_iload_4 (q := 79) F dM_reaches_77 rfl ?_
      refine aw_aload_0 (q := 80) F dM_reaches_79 rfl ?_
      refine av_callV0 (q := 83) (ci := 9) F hm mM_stepsMany_i mM_stepsMany_n lM_336 dM_reaches_80 rfl rfl rfl (by first | exact hM.o | exact hl.o | exact hM.a55 | exact hM.a56 | exact hM.a59 | exact hM.a60 | exact hM.a61 | exact hM.a62) (by decide) (Nat.le_refl _) (Nat.le_refl _) (Nat.le_of_ble_eq_true rfl) (wM_stepsMany hM hl hC1 hc ?_)
      refine aw_icmp_ge (q := 86) (t := 190) F dM_reaches_83 rfl (by decide) (fun c83 => ?_) (fun c83 => by omega)
      exact hE V1 _ _ m hF hO hA1 hm1 hR
    | succ j ih =>
      intro s hs V1 w4 x5 m h4 hF hO hA1 hm1 hR
      have hC1 := hF.lc h64 hC
      have hokL : okQ c (exL c q0.1 0 i L0 s) := exL_ok hok hq0s hil s (by omega)
      have hlen := okQ_len hokL
      obtain ⟨M, hM2⟩ := exL_pre c q0.1 0 i L0 s
      have hq0' : (exL c q0.1 0 i L0 s)[i]? = some q0 := by rw [hM2, List.getElem?_append_left hil]; exact hq0
      have hmn0 := mnN_lt hq0s
      refine aw_iload_4 (q := 79) F dM_reaches_77 rfl ?_
      refine aw_aload_0 (q := 80) F dM_reaches_79 rfl ?_
      refine av_callV0 (q := 83) (ci := 9) F hm mM_stepsMany_i mM_stepsMany_n lM_336 dM_reaches_80 rfl rfl rfl (by first | exact hM.o | exact hl.o | exact hM.a55 | exact hM.a56 | exact hM.a59 | exact hM.a60 | exact hM.a61 | exact hM.a62) (by decide) (Nat.le_refl _) (Nat.le_refl _) (Nat.le_of_ble_eq_true rfl) (wM_stepsMany hM hl hC1 hc ?_)
      refine aw_icmp_ge (q := 86) (t := 190) F dM_reaches_83 rfl (by decide) (fun c83 => by omega) (fun c83 => ?_)
      refine aw_aload_0 (q := 87) F dM_reaches_86 rfl ?_
      refine aw_iload_3 (q := 88) F dM_reaches_87 rfl ?_
      refine av_callV1 (q := 91) (ci := 9) F hm mM_lays_i mM_lays_n lM_339 dM_reaches_88 rfl rfl rfl (by first | exact hM.o | exact hl.o | exact hM.a55 | exact hM.a56 | exact hM.a59 | exact hM.a60 | exact hM.a61 | exact hM.a62) (by decide) (Nat.le_refl _) (Nat.le_refl _) (Nat.le_of_ble_eq_true rfl) (wM_lays (n := q0.1) rfl hq0s hM hl hC1 hA1 hc hl56 (fun V2 f88 g88 => ?_))
      refine aw_aload_0 (q := 92) F dM_reaches_91 rfl ?_
      refine aw_iload_4 (q := 94) F dM_reaches_92 rfl ?_
      refine av_callV1 (q := 97) (ci := 9) F hm mM_canStep_i mM_canStep_n lM_342 dM_reaches_94 rfl rfl rfl (by first | exact hM.o | exact hl.o | exact hM.a55 | exact hM.a56 | exact hM.a59 | exact hM.a60 | exact hM.a61 | exact hM.a62) (by decide) (Nat.le_refl _) (Nat.le_refl _) (Nat.le_of_ble_eq_true rfl) (wM_canStep (s := s) h4 (by omega) hM hl (f88.lc h64 hC1) g88 hc (fun c94 => ?_) (fun c94 => ?_))
      · refine aw_if_ne (q := 100) (t := 103) F dM_reaches_97 rfl (by decide) (fun c97 => ?_) (fun c97 => absurd c97 (by decide))
        refine aw_aload_0 (q := 104) F dM_reaches_103 rfl ?_
        refine aw_iload_4 (q := 106) F dM_reaches_104 rfl ?_
        refine av_callV1 (q := 109) (ci := 9) F hm mM_steps_i mM_steps_n lM_345 dM_reaches_106 rfl rfl rfl (by first | exact hM.o | exact hl.o | exact hM.a55 | exact hM.a56 | exact hM.a59 | exact hM.a60 | exact hM.a61 | exact hM.a62) (by decide) (Nat.le_refl _) (Nat.le_refl _) (Nat.le_of_ble_eq_true rfl) (wM_stepsD (s := s) h4 (by omega) hq0s c94 hM hl (f88.lc h64 hC1) g88 hc (fun r106 V3 f106 g106 => ?_))
        refine aw_pop (q := 110) F dM_reaches_109 rfl trivial ?_
        have hX := f88.trans f106
        have haft : aftN c q0.1 s < spc c := aft_lt hq0s (by omega) c94
        have hmna := mnN_lt haft
        have hC3 := hX.lc h64 hC1
        have hR3 := hR.xf hX
        have hF3 := hF.xf hX
        have hO3 : V3 53 26 = V 53 26 ∧ V3 62 = V 62 ∧ V3 63 = V 63 := by rw [hX 53 (by decide), hX 62 (by decide), hX 63 (by decide)]; exact hO
        have hE3 : exL c q0.1 0 i L0 (s + 1) = addL (exL c q0.1 0 i L0 s) (aftN c q0.1 s) i := exL_1 (by rw [okW_0]; exact c94)
        have hr0 := (hR3.2.2 i q0 hq0').2.2.1
        have hil2 := (List.getElem?_eq_some_iff.mp hq0').1
        refine aw_aload_0 (q := 111) F dM_reaches_110 rfl ?_
        refine av_callV0 (q := 114) (ci := 9) F hm mM_numbered_i mM_numbered_n lM_330 dM_reaches_111 rfl rfl rfl (by first | exact hM.o | exact hl.o | exact hM.a55 | exact hM.a56 | exact hM.a59 | exact hM.a60 | exact hM.a61 | exact hM.a62) (by decide) (Nat.le_refl _) (Nat.le_refl _) (Nat.le_of_ble_eq_true rfl) (wM_numbered haft hM hl hC3 g106 hc ?_)
        refine aw_istore_5 (q := 116) F dM_reaches_114 rfl trivial ?_
        refine aw_aload_0 (q := 117) F dM_reaches_116 rfl ?_
        refine av_getaE (q := 120) F fM_31 dM_reaches_117 rfl rfl (by first | exact hM.o | exact hl.o | exact hM.a55 | exact hM.a56 | exact hM.a59 | exact hM.a60 | exact hM.a61 | exact hM.a62) hM.p21 ?_
        refine aw_iload_5 (q := 122) F dM_reaches_120 rfl ?_
        skip
        refine av_iaload (q := 123) F dM_reaches_122 rfl (by first | exact hM.o | exact hl.o | exact hM.a55 | exact hM.a56 | exact hM.a59 | exact hM.a60 | exact hM.a61 | exact hM.a62) (by omega) (by omega) ?_
        rw [Int.toNat_natCast]
        refine aw_ldcw (q := 126) (z := 999999) F dM_reaches_123 rfl kM_329 (by decide) ?_
        refine aw_icmp_eq (q := 129) (t := 132) F dM_reaches_126 rfl (by decide) (fun c126 => ?_) (fun c126 => ?_)
        · refine aw_aload_0 (q := 133) F dM_reaches_132 rfl ?_
          refine av_getaE (q := 136) F fM_31 dM_reaches_133 rfl rfl (by first | exact hM.o | exact hl.o | exact hM.a55 | exact hM.a56 | exact hM.a59 | exact hM.a60 | exact hM.a61 | exact hM.a62) hM.p21 ?_
          refine aw_iload_5 (q := 138) F dM_reaches_136 rfl ?_
          refine aw_aload_0 (q := 139) F dM_reaches_138 rfl ?_
          refine av_getaE (q := 142) F fM_31 dM_reaches_139 rfl rfl (by first | exact hM.o | exact hl.o | exact hM.a55 | exact hM.a56 | exact hM.a59 | exact hM.a60 | exact hM.a61 | exact hM.a62) hM.p21 ?_
          refine aw_iload_3 (q := 143) F dM_reaches_142 rfl ?_
          skip
          refine av_iaload (q := 144) F dM_reaches_143 rfl (by first | exact hM.o | exact hl.o | exact hM.a55 | exact hM.a56 | exact hM.a59 | exact hM.a60 | exact hM.a61 | exact hM.a62) (by omega) (by omega) ?_
          rw [Int.toNat_natCast]
          refine aw_iconst (q := 145) F dM_reaches_144 rfl (by decide) ?_
          refine aw_iadd (q := 146) F dM_reaches_145 rfl (by constructor <;> omega) ?_
          refine av_iastore (q := 147) F dM_reaches_146 rfl (by first | exact hM.o | exact hl.o | exact hM.a55 | exact hM.a56 | exact hM.a59 | exact hM.a60 | exact hM.a61 | exact hM.a62) (by omega) (by omega) ?_
          refine aw_aload_0 (q := 148) F dM_reaches_147 rfl ?_
          refine av_getaE (q := 151) F fM_34 dM_reaches_148 rfl rfl (by first | exact hM.o | exact hl.o | exact hM.a55 | exact hM.a56 | exact hM.a59 | exact hM.a60 | exact hM.a61 | exact hM.a62) hM.p22 ?_
          refine aw_iload_5 (q := 153) F dM_reaches_151 rfl ?_
          refine aw_aload_0 (q := 154) F dM_reaches_153 rfl ?_
          refine av_callV0 (q := 157) (ci := 9) F hm mM_stepsMany_i mM_stepsMany_n lM_336 dM_reaches_154 rfl rfl rfl (by first | exact hM.o | exact hl.o | exact hM.a55 | exact hM.a56 | exact hM.a59 | exact hM.a60 | exact hM.a61 | exact hM.a62) (by decide) (Nat.le_refl _) (Nat.le_refl _) (Nat.le_of_ble_eq_true rfl) (wM_stepsMany hM hl ((hF3.up (a := 59) rfl).lc h64 hC) hc ?_)
          refine aw_iload_3 (q := 158) F dM_reaches_157 rfl ?_
          refine aw_imul (q := 159) F dM_reaches_158 rfl (by rw [← Int.natCast_mul]; exact ⟨by omega, by have := Nat.mul_le_mul hst (Nat.le_of_lt hmn0); omega⟩) ?_
          refine aw_iload_4 (q := 161) F dM_reaches_159 rfl ?_
          refine aw_iadd (q := 162) F dM_reaches_161 rfl (by rw [← Int.natCast_mul]; exact ⟨by omega, by have := Nat.mul_le_mul hst (Nat.le_of_lt hmn0); omega⟩) ?_
          refine av_iastore (q := 163) F dM_reaches_162 rfl (by first | exact hM.o | exact hl.o | exact hM.a55 | exact hM.a56 | exact hM.a59 | exact hM.a60 | exact hM.a61 | exact hM.a62) (by omega) (by omega) ?_
          refine aw_aload_0 (q := 164) F dM_reaches_163 rfl ?_
          refine av_getaE (q := 167) F fM_37 dM_reaches_164 rfl rfl (by first | exact hM.o | exact hl.o | exact hM.a55 | exact hM.a56 | exact hM.a59 | exact hM.a60 | exact hM.a61 | exact hM.a62) hM.p23 ?_
          refine aw_aload_0 (q := 168) F dM_reaches_167 rfl ?_
          refine av_geti (q := 171) F fM_333 dM_reaches_168 rfl rfl (by first | exact hM.o | exact hl.o | exact hM.a55 | exact hM.a56 | exact hM.a59 | exact hM.a60 | exact hM.a61 | exact hM.a62) ?_
          have hlt : (exL c q0.1 0 i L0 s).length < spc c := by
            have h9 := okQ_len (addL_ok (f := i) hokL haft hil2)
            rw [addL_out (fun hin => (hR3.in (by omega) hin).1 c126), List.length_append, List.length_singleton] at h9
            omega
          rw [up2_nea _ _ (by decide), up2_nea _ _ (by decide), hR3.1]
          refine aw_iload_5 (q := 173) F dM_reaches_171 rfl ?_
          refine av_iastore (q := 174) F dM_reaches_173 rfl (by first | exact hM.o | exact hl.o | exact hM.a55 | exact hM.a56 | exact hM.a59 | exact hM.a60 | exact hM.a61 | exact hM.a62) (by omega) (by omega) ?_
          refine aw_aload_0 (q := 175) F dM_reaches_174 rfl ?_
          refine aw_dup (q := 176) F dM_reaches_175 rfl trivial ?_
          refine av_geti (q := 179) F fM_333 dM_reaches_176 rfl rfl (by first | exact hM.o | exact hl.o | exact hM.a55 | exact hM.a56 | exact hM.a59 | exact hM.a60 | exact hM.a61 | exact hM.a62) ?_
          rw [up2_nea _ _ (by decide), up2_nea _ _ (by decide), up2_nea _ _ (by decide), hR3.1]
          refine aw_iconst (q := 180) F dM_reaches_179 rfl (by decide) ?_
          refine aw_iadd (q := 181) F dM_reaches_180 rfl (by constructor <;> omega) ?_
          refine av_puti (q := 184) F fM_333 dM_reaches_181 rfl rfl (wr_9_25 _) (by first | exact hM.o | exact hl.o | exact hM.a55 | exact hM.a56 | exact hM.a59 | exact hM.a60 | exact hM.a61 | exact hM.a62) ?_
          refine aw_iinc_4 (q := 187) F dM_reaches_184 rfl trivial (by constructor <;> omega) ?_
          refine aw_goto (t := 77) F dM_reaches_187 (by decide) ?_
          first
          | (refine ih (s + 1) (by omega) _ _ _ q0.1 (by omega) (hF.xf f88) ?_ g88 hq0s ?_
             · rw [f88 53 (by decide), f88 62 (by decide), f88 63 (by decide)]; exact hO
             · rw [exL_0 (by rw [okW_0]; exact c94)]; exact hR.xf f88)
          | (refine ih (s + 1) (by omega) _ _ _ _ (by omega) hF3 hO3 g106 haft ?_
             rw [hE3, addL_in (Classical.byContradiction fun hx => c126 (hR3.2.1 _ haft hx))]
             exact hR3)
          | (have hx : aftN c q0.1 s ∉ (exL c q0.1 0 i L0 s).map Prod.fst := fun hin => (hR3.in (by omega) hin).1 c126
             refine ih (s + 1) (by omega) _ _ _ _ (by omega) ((((hF3.up rfl).up rfl).up rfl).fl (by decide)) ?_ ?_ haft ?_
             · rw [up2_nek _ _ (by decide), up2_nea _ _ (by decide), up2_nea _ _ (by decide), up2_nea _ _ (by decide), up2_nea _ _ (by decide), up2_nea _ _ (by decide), up2_nea _ _ (by decide), up2_nea _ _ (by decide), up2_nea _ _ (by decide), up2_nea _ _ (by decide), up2_nea _ _ (by decide)]
               exact hO3
             · rw [up2_nea _ _ (by decide), up2_nea _ _ (by decide), up2_nea _ _ (by decide), up2_nea _ _ (by decide)]
               exact g106
             · rw [hE3, addL_out hx]
               refine hR3.add hokL hq0' (by omega) c94 rfl (fun k' hk' hm' => exL_mem (by rw [okW_0]; exact hm') hk') haft hx ?_ (fun j => ?_) (fun j => ?_) (fun j => ?_)
               · exact up2_same _ _ _ _
               · rw [up2_nea _ _ (by decide), up2_nea _ _ (by decide), up2_nea _ _ (by decide), up2_at, Int.toNat_natCast]
               · rw [up2_nea _ _ (by decide), up2_nea _ _ (by decide), up2_at, Int.toNat_natCast, up2_nea _ _ (by decide), h4, ← Int.natCast_mul]
                 rfl
               · rw [up2_nea _ _ (by decide), up2_at, Int.toNat_natCast, up2_nea _ _ (by decide), up2_nea _ _ (by decide)])
        · refine aw_goto (t := 184) F dM_reaches_129 (by decide) ?_
          refine aw_iinc_4 (q := 187) F dM_reaches_184 rfl trivial (by constructor <;> omega) ?_
          refine aw_goto (t := 77) F dM_reaches_187 (by decide) ?_
          first
          | (refine ih (s + 1) (by omega) _ _ _ q0.1 (by omega) (hF.xf f88) ?_ g88 hq0s ?_
             · rw [f88 53 (by decide), f88 62 (by decide), f88 63 (by decide)]; exact hO
             · rw [exL_0 (by rw [okW_0]; exact c94)]; exact hR.xf f88)
          | (refine ih (s + 1) (by omega) _ _ _ _ (by omega) hF3 hO3 g106 haft ?_
             rw [hE3, addL_in (Classical.byContradiction fun hx => c126 (hR3.2.1 _ haft hx))]
             exact hR3)
          | (have hx : aftN c q0.1 s ∉ (exL c q0.1 0 i L0 s).map Prod.fst := fun hin => (hR3.in (by omega) hin).1 c126
             refine ih (s + 1) (by omega) _ _ _ _ (by omega) ((((hF3.up rfl).up rfl).up rfl).fl (by decide)) ?_ ?_ haft ?_
             · rw [up2_nek _ _ (by decide), up2_nea _ _ (by decide), up2_nea _ _ (by decide), up2_nea _ _ (by decide), up2_nea _ _ (by decide), up2_nea _ _ (by decide), up2_nea _ _ (by decide), up2_nea _ _ (by decide), up2_nea _ _ (by decide), up2_nea _ _ (by decide), up2_nea _ _ (by decide)]
               exact hO3
             · rw [up2_nea _ _ (by decide), up2_nea _ _ (by decide), up2_nea _ _ (by decide), up2_nea _ _ (by decide)]
               exact g106
             · rw [hE3, addL_out hx]
               refine hR3.add hokL hq0' (by omega) c94 rfl (fun k' hk' hm' => exL_mem (by rw [okW_0]; exact hm') hk') haft hx ?_ (fun j => ?_) (fun j => ?_) (fun j => ?_)
               · exact up2_same _ _ _ _
               · rw [up2_nea _ _ (by decide), up2_nea _ _ (by decide), up2_nea _ _ (by decide), up2_at, Int.toNat_natCast]
               · rw [up2_nea _ _ (by decide), up2_nea _ _ (by decide), up2_at, Int.toNat_natCast, up2_nea _ _ (by decide), h4, ← Int.natCast_mul]
                 rfl
               · rw [up2_nea _ _ (by decide), up2_at, Int.toNat_natCast, up2_nea _ _ (by decide), up2_nea _ _ (by decide)])
      · refine aw_if_ne (q := 100) (t := 103) F dM_reaches_97 rfl (by decide) (fun c97 => absurd c97 (by decide)) (fun c97 => ?_)
        refine aw_goto (t := 184) F dM_reaches_100 (by decide) ?_
        refine aw_iinc_4 (q := 187) F dM_reaches_184 rfl trivial (by constructor <;> omega) ?_
        refine aw_goto (t := 77) F dM_reaches_187 (by decide) ?_
        first
        | (refine ih (s + 1) (by omega) _ _ _ q0.1 (by omega) (hF.xf f88) ?_ g88 hq0s ?_
           · rw [f88 53 (by decide), f88 62 (by decide), f88 63 (by decide)]; exact hO
           · rw [exL_0 (by rw [okW_0]; exact c94)]; exact hR.xf f88)
        | (refine ih (s + 1) (by omega) _ _ _ _ (by omega) hF3 hO3 g106 haft ?_
           rw [hE3, addL_in (Classical.byContradiction fun hx => c126 (hR3.2.1 _ haft hx))]
           exact hR3)
        | (have hx : aftN c q0.1 s ∉ (exL c q0.1 0 i L0 s).map Prod.fst := fun hin => (hR3.in (by omega) hin).1 c126
           refine ih (s + 1) (by omega) _ _ _ _ (by omega) ((((hF3.up rfl).up rfl).up rfl).fl (by decide)) ?_ ?_ haft ?_
           · rw [up2_nek _ _ (by decide), up2_nea _ _ (by decide), up2_nea _ _ (by decide), up2_nea _ _ (by decide), up2_nea _ _ (by decide), up2_nea _ _ (by decide), up2_nea _ _ (by decide), up2_nea _ _ (by decide), up2_nea _ _ (by decide), up2_nea _ _ (by decide), up2_nea _ _ (by decide)]
             exact hO3
           · rw [up2_nea _ _ (by decide), up2_nea _ _ (by decide), up2_nea _ _ (by decide), up2_nea _ _ (by decide)]
             exact g106
           · rw [hE3, addL_out hx]
             refine hR3.add hokL hq0' (by omega) c94 rfl (fun k' hk' hm' => exL_mem (by rw [okW_0]; exact hm') hk') haft hx ?_ (fun j => ?_) (fun j => ?_) (fun j => ?_)
             · exact up2_same _ _ _ _
             · rw [up2_nea _ _ (by decide), up2_nea _ _ (by decide), up2_nea _ _ (by decide), up2_at, Int.toNat_natCast]
             · rw [up2_nea _ _ (by decide), up2_nea _ _ (by decide), up2_at, Int.toNat_natCast, up2_nea _ _ (by decide), h4, ← Int.natCast_mul]
               rfl
             · rw [up2_nea _ _ (by decide), up2_at, Int.toNat_natCast, up2_nea _ _ (by decide), up2_nea _ _ (by decide)])
  -- all that was met
  have outer : ∀ (j k : Nat), spc c - (itS c (t0S n) k).2.1 = j → (itS c (t0S n) k).2.1 ≤ (itS c (t0S n) k).1.length → ∀ (V1 : Nat → Nat → Int) (w2 : Int) (x3 x4 x5 : Option AV) (m : Nat), w2 = (itS c (t0S n) k).2.1 → MF V V1 → (V1 53 26 = V 53 26 ∧ V1 62 = V 62 ∧ V1 63 = V 63) → AR (V1 56) c m → m < spc c → RQ V1 c (itS c (t0S n) k).1 → AW X 59 [some (vR 53), some (vI (mnN c n)), some (vI w2), x3, x4, x5] [] (V1, σ) 0 0 := by
    intro j
    induction j using Nat.strongRecOn with
    | ind j ih =>
      intro k hj hle V1 w2 x3 x4 x5 m h2 hF hO hA1 hm1 hR
      have hok : okQ c (itS c (t0S n) k).1 := itS_ok (t0_ok hn) k
      have hlen := okQ_len hok
      have hR1 := hR.1
      have hE : ∀ (hlt : (itS c (t0S n) k).2.1 < (itS c (t0S n) k).1.length) (V2 : Nat → Nat → Int) (w3 : Int) (x y : Option AV) (m2 : Nat), MF V V2 → (V2 53 26 = V 53 26 ∧ V2 62 = V 62 ∧ V2 63 = V 63) → AR (V2 56) c m2 → m2 < spc c → RQ V2 c (exL c ((itS c (t0S n) k).1[(itS c (t0S n) k).2.1]).1 0 (itS c (t0S n) k).2.1 (itS c (t0S n) k).1 (stN c)) → AW X 190 [some (vR 53), some (vI (mnN c n)), some (vI w2), some (vI w3), x, y] [] (V2, σ) 0 0 := by
        intro hlt V2 w3 x y m2 hF2 hO2 hA2 hm2 hR2
        have hst1 := stpS_some (c := c) (List.getElem?_eq_getElem hlt)
        have hk1 : itS c (t0S n) (k + 1) = stpS c (itS c (t0S n) k) := rfl
        have hl1 : (itS c (t0S n) (k + 1)).1 = exL c ((itS c (t0S n) k).1[(itS c (t0S n) k).2.1]).1 0 (itS c (t0S n) k).2.1 (itS c (t0S n) k).1 (stN c) := by rw [hk1, hst1]
        have hl2 : (itS c (t0S n) (k + 1)).2.1 = (itS c (t0S n) k).2.1 + 1 := by rw [hk1, hst1]
        obtain ⟨M, hM2⟩ := exL_pre c ((itS c (t0S n) k).1[(itS c (t0S n) k).2.1]).1 0 (itS c (t0S n) k).2.1 (itS c (t0S n) k).1 (stN c)
        have hl3 : (itS c (t0S n) k).1.length ≤ (itS c (t0S n) (k + 1)).1.length := by rw [hl1, hM2, List.length_append]; omega
        refine aw_iinc_2 (q := 193) F dM_reaches_190 rfl trivial (by constructor <;> omega) ?_
        refine aw_goto (t := 59) F dM_reaches_193 (by decide) ?_
        exact ih (spc c - (itS c (t0S n) (k + 1)).2.1) (by omega) (k + 1) rfl (by omega) V2 _ _ _ _ m2 (by omega) hF2 hO2 hA2 hm2 (by rw [hl1]; exact hR2)
      refine aw_iload_2 (q := 60) F dM_reaches_59 rfl ?_
      refine aw_aload_0 (q := 61) F dM_reaches_60 rfl ?_
      refine av_geti (q := 64) F fM_333 dM_reaches_61 rfl rfl (by first | exact hM.o | exact hl.o | exact hM.a55 | exact hM.a56 | exact hM.a59 | exact hM.a60 | exact hM.a61 | exact hM.a62) ?_
      rw [hR1]
      refine aw_icmp_ge (q := 67) (t := 196) F dM_reaches_64 rfl (by decide) (fun c64 => ?_) (fun c64 => ?_)
      · refine aw_vret F C dM_reaches_196 rfl (Nat.le_refl _) (Nat.le_refl _) ?_
        have he := it_end hn (show (itS c (t0S n) k).1.length ≤ (itS c (t0S n) k).2.1 by omega)
        rw [he] at hR
        exact hK V1 m hF hO.1 hO.2.1 hO.2.2 hA1 hm1 hR
      · have hlt : (itS c (t0S n) k).2.1 < (itS c (t0S n) k).1.length := by omega
        have hq0 := List.getElem?_eq_getElem hlt
        refine aw_aload_0 (q := 68) F dM_reaches_67 rfl ?_
        refine av_getaE (q := 71) F fM_37 dM_reaches_68 rfl rfl (by first | exact hM.o | exact hl.o | exact hM.a55 | exact hM.a56 | exact hM.a59 | exact hM.a60 | exact hM.a61 | exact hM.a62) hM.p23 ?_
        refine aw_iload_2 (q := 72) F dM_reaches_71 rfl ?_
        refine av_iaload (q := 73) F dM_reaches_72 rfl (by first | exact hM.o | exact hl.o | exact hM.a55 | exact hM.a56 | exact hM.a59 | exact hM.a60 | exact hM.a61 | exact hM.a62) (by omega) (by omega) ?_
        rw [show w2.toNat = (itS c (t0S n) k).2.1 by omega, (hR.2.2 _ _ hq0).1]
        refine aw_istore_3 (q := 74) F dM_reaches_73 rfl trivial ?_
        refine aw_iconst (q := 75) F dM_reaches_74 rfl (by decide) ?_
        refine aw_istore_4 (q := 77) F dM_reaches_75 rfl trivial ?_
        exact inner _ _ _ _ _ hq0 hok rfl h2 (fun V2 x y m2 hF2 hO2 hA2 hm2 hR2 => hE hlt V2 _ x y m2 hF2 hO2 hA2 hm2 hR2) (stN c) 0 (by omega) V1 _ _ m rfl hF hO hA1 hm1 hR
  -- all are far at first
  have fill : ∀ (k : Nat), k ≤ spc c → ∀ (V1 : Nat → Nat → Int) (w : Int), w = (k : Int) - 1 → (∀ b, b ≠ 59 → V1 b = V b) → (∀ j, k ≤ j → j < spc c → V1 59 j = 999999) → AW X 7 [some (vR 53), some (vI w), none, none, none, none] [] (V1, σ) 0 0 := by
    intro k
    induction k with
    | zero =>
      intro hk V1 w hw f1 f2
      have hF1 : MF V V1 := ⟨fun b h1 h2 => f1 b (fun e => by rw [e] at h2; cases h2), fun j hj => by rw [f1 53 (by decide)]⟩
      have hA1 : AR (V1 56) c n := by rw [f1 56 (by decide)]; exact hA
      have hmn := mnN_lt hn
      refine aw_iload_1 (q := 8) F dM_reaches_7 rfl ?_
      refine aw_if_lt (q := 11) (t := 26) F dM_reaches_8 rfl (by decide) (fun c8 => ?_) (fun c8 => by omega)
      refine aw_aload_0 (q := 27) F dM_reaches_26 rfl ?_
      refine av_callV0 (q := 30) (ci := 9) F hm mM_numbered_i mM_numbered_n lM_330 dM_reaches_27 rfl rfl rfl (by first | exact hM.o | exact hl.o | exact hM.a55 | exact hM.a56 | exact hM.a59 | exact hM.a60 | exact hM.a61 | exact hM.a62) (by decide) (Nat.le_refl _) (Nat.le_refl _) (Nat.le_of_ble_eq_true rfl) (wM_numbered hn hM hl (hF1.lc h64 hC) hA1 hc ?_)
      refine aw_istore_1 (q := 31) F dM_reaches_30 rfl trivial ?_
      refine aw_aload_0 (q := 32) F dM_reaches_31 rfl ?_
      refine av_getaE (q := 35) F fM_31 dM_reaches_32 rfl rfl (by first | exact hM.o | exact hl.o | exact hM.a55 | exact hM.a56 | exact hM.a59 | exact hM.a60 | exact hM.a61 | exact hM.a62) hM.p21 ?_
      refine aw_iload_1 (q := 36) F dM_reaches_35 rfl ?_
      refine aw_iconst (q := 37) F dM_reaches_36 rfl (by decide) ?_
      refine av_iastore (q := 38) F dM_reaches_37 rfl (by first | exact hM.o | exact hl.o | exact hM.a55 | exact hM.a56 | exact hM.a59 | exact hM.a60 | exact hM.a61 | exact hM.a62) (by omega) (by omega) ?_
      refine aw_aload_0 (q := 39) F dM_reaches_38 rfl ?_
      refine av_getaE (q := 42) F fM_34 dM_reaches_39 rfl rfl (by first | exact hM.o | exact hl.o | exact hM.a55 | exact hM.a56 | exact hM.a59 | exact hM.a60 | exact hM.a61 | exact hM.a62) hM.p22 ?_
      refine aw_iload_1 (q := 43) F dM_reaches_42 rfl ?_
      refine aw_iconst (q := 44) F dM_reaches_43 rfl (by decide) ?_
      refine av_iastore (q := 45) F dM_reaches_44 rfl (by first | exact hM.o | exact hl.o | exact hM.a55 | exact hM.a56 | exact hM.a59 | exact hM.a60 | exact hM.a61 | exact hM.a62) (by omega) (by omega) ?_
      refine aw_aload_0 (q := 46) F dM_reaches_45 rfl ?_
      refine av_getaE (q := 49) F fM_37 dM_reaches_46 rfl rfl (by first | exact hM.o | exact hl.o | exact hM.a55 | exact hM.a56 | exact hM.a59 | exact hM.a60 | exact hM.a61 | exact hM.a62) hM.p23 ?_
      refine aw_iconst (q := 50) F dM_reaches_49 rfl (by decide) ?_
      refine aw_iload_1 (q := 51) F dM_reaches_50 rfl ?_
      refine av_iastore (q := 52) F dM_reaches_51 rfl (by first | exact hM.o | exact hl.o | exact hM.a55 | exact hM.a56 | exact hM.a59 | exact hM.a60 | exact hM.a61 | exact hM.a62) (by omega) (by omega) ?_
      refine aw_aload_0 (q := 53) F dM_reaches_52 rfl ?_
      refine aw_iconst (q := 54) F dM_reaches_53 rfl (by decide) ?_
      refine av_puti (q := 57) F fM_333 dM_reaches_54 rfl rfl (wr_9_25 _) (by first | exact hM.o | exact hl.o | exact hM.a55 | exact hM.a56 | exact hM.a59 | exact hM.a60 | exact hM.a61 | exact hM.a62) ?_
      refine aw_iconst (q := 58) F dM_reaches_57 rfl (by decide) ?_
      refine aw_istore_2 (q := 59) F dM_reaches_58 rfl trivial ?_
      refine outer _ 0 rfl (Nat.zero_le _) _ _ _ _ _ n rfl ((((hF1.up rfl).up rfl).up rfl).fl (by decide)) ?_ ?_ hn ?_
      · rw [up2_nek _ _ (by decide), up2_nea _ _ (by decide), up2_nea _ _ (by decide), up2_nea _ _ (by decide), up2_nea _ _ (by decide), up2_nea _ _ (by decide), up2_nea _ _ (by decide), up2_nea _ _ (by decide), up2_nea _ _ (by decide), up2_nea _ _ (by decide), up2_nea _ _ (by decide), up2_nea _ _ (by decide), f1 53 (by decide), f1 62 (by decide), f1 63 (by decide)]
        exact ⟨rfl, rfl, rfl⟩
      · rw [up2_nea _ _ (by decide), up2_nea _ _ (by decide), up2_nea _ _ (by decide), up2_nea _ _ (by decide)]
        exact hA1
      · refine RQ.one (V := V1) hn (fun j hj => f2 j (by omega) hj) (up2_same _ _ _ _) (fun j => ?_) ?_
        · rw [up2_nea _ _ (by decide), up2_nea _ _ (by decide), up2_nea _ _ (by decide), up2_at, Int.toNat_natCast]
        · rw [up2_nea _ _ (by decide)]
          exact up2_same _ _ _ _
    | succ k ih =>
      intro hk V1 w hw f1 f2
      refine aw_iload_1 (q := 8) F dM_reaches_7 rfl ?_
      refine aw_if_lt (q := 11) (t := 26) F dM_reaches_8 rfl (by decide) (fun c8 => by omega) (fun c8 => ?_)
      refine aw_aload_0 (q := 12) F dM_reaches_11 rfl ?_
      refine av_getaE (q := 15) F fM_31 dM_reaches_12 rfl rfl (by first | exact hM.o | exact hl.o | exact hM.a55 | exact hM.a56 | exact hM.a59 | exact hM.a60 | exact hM.a61 | exact hM.a62) hM.p21 ?_
      refine aw_iload_1 (q := 16) F dM_reaches_15 rfl ?_
      refine aw_ldcw (q := 19) (z := 999999) F dM_reaches_16 rfl kM_329 (by decide) ?_
      refine av_iastore (q := 20) F dM_reaches_19 rfl (by first | exact hM.o | exact hl.o | exact hM.a55 | exact hM.a56 | exact hM.a59 | exact hM.a60 | exact hM.a61 | exact hM.a62) (by omega) (by omega) ?_
      refine aw_iinc_1 (q := 23) F dM_reaches_20 rfl trivial (by constructor <;> omega) ?_
      refine aw_goto (t := 7) F dM_reaches_23 (by decide) ?_
      refine ih (by omega) _ _ (by omega) (fun b hb => by rw [up2_nea _ _ hb]; exact f1 b hb) (fun j h1 h2 => ?_)
      rw [show w.toNat = k by omega]
      by_cases q : j = k
      · rw [q, up2_same]
      · rw [up2_nek _ _ q]; exact f2 j (by omega) h2
  refine aw_aload_0 (q := 1) F dM_reaches_0 rfl ?_
  refine av_callV0 (q := 4) (ci := 9) F hm mM_arrangedMany_i mM_arrangedMany_n lM_326 dM_reaches_1 rfl rfl rfl (by first | exact hM.o | exact hl.o | exact hM.a55 | exact hM.a56 | exact hM.a59 | exact hM.a60 | exact hM.a61 | exact hM.a62) (by decide) (Nat.le_refl _) (Nat.le_refl _) (Nat.le_of_ble_eq_true rfl) (wM_arrangedMany hM hl hC hc ?_)
  refine aw_iconst (q := 5) F dM_reaches_4 rfl (by decide) ?_
  refine aw_isub (q := 6) F dM_reaches_5 rfl (by constructor <;> omega) ?_
  refine aw_istore_1 (q := 7) F dM_reaches_6 rfl trivial ?_
  exact fill (spc c) (Nat.le_refl _) V _ rfl (fun _ _ => rfl) (fun j h1 h2 => absurd h2 (by omega))
end Mod13
