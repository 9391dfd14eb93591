section Read7
variable {G : GE} {V : Nat → Nat → Int} {σ : Shp} {K : Option AV → Mem → Prop} {e n : Nat} {B : Nat → Int} {t : TK} {r : PR}
theorem wE_readLine (hs : rdS σ e) (hX : TX V e n B) (hT : TKR V e t) (hok : okTk n t) (hR : RER V e r) (ho : okN r) (hK : RdK K V σ e n (pLine B n r t)) : Wp G 8 mE_readLine [vR e] (V, σ) 0 0 K := by
  have e9 := hR.2.1
  have fl : ∀ (f : Nat) (z : Int), z = f → pLine B n r t = .inr (f, t.2.1) → K (some (vI 0)) (up2 V e 1 z, σ) := fun f z hz hq => hK.2 _ f _ hq ((rdF.rf V e).up (by omega) (Or.inr (by decide))) (by rw [up2_same]; exact hz) ((TK1 hT).1)
  refine wp_intro mE_readLine_i.1 [some (vR e), none] rfl rfl (Nat.le_of_ble_eq_true rfl) ?_
  intro X hG F C
  have hm := C.rm
  refine aw_aload_0 (q := 1) F dE_readLine_0 rfl ?_
  refine aw_ldcS (q := 3) (j := 0) F dE_readLine_1 rfl (by decide) rfl rfl ?_
  refine av_callV1 (q := 6) (ci := 3) F hm mE_wordNumber_i mE_wordNumber_n lE_55 dE_readLine_3 rfl rfl rfl (by first | exact hs.o | exact hs.to) (by decide) (Nat.le_refl _) (Nat.le_refl _) (Nat.le_of_ble_eq_true rfl) (wE_wordNumber (j := 0) (by omega) hs hT hok ?_)
  refine aw_istore_1 (q := 7) F dE_readLine_6 rfl trivial ?_
  refine aw_iload_1 (q := 8) F dE_readLine_7 rfl ?_
  refine aw_iconst (q := 9) F dE_readLine_8 rfl (by decide) ?_
  refine aw_icmp_ne (q := 12) (t := 18) F dE_readLine_9 rfl (by decide) (fun c9 => ?_) (fun c9 => ?_)
  · refine aw_aload_0 (q := 19) F dE_readLine_18 rfl ?_
    refine av_geti (q := 22) F fE_59 dE_readLine_19 rfl rfl (by first | exact hs.o | exact hs.to) ?_
    refine aw_if_ne (q := 25) (t := 36) F dE_readLine_22 rfl (by decide) (fun c22 => ?_) (fun c22 => ?_)
    · have h2 : ¬ (r.2.1 = false ∧ wnI 0 t ≠ 0) := fun q => by rw [q.1] at e9; first | (rw [e9] at c22; exact c22 rfl) | exact q.2 c26
      refine aw_iload_1 (q := 37) F dE_readLine_36 rfl ?_
      refine aw_table (t := 158) F (fun i => [92, 97, 102, 107, 112, 117, 122, 127, 132, 145].getD i 0) dE_readLine_37 (by decide) (by decide) (by decide) (fun i hi c37 => ?_) (fun c37 => ?_)
      · match i, hi, c37 with
        | 0, _, c37 =>
          show AW X 92 _ _ _ _ _
          refine aw_aload_0 (q := 93) F dE_readLine_92 rfl ?_
          refine av_callV0 (q := 96) (ci := 3) F hm mE_readLane_i mE_readLane_n lE_63 dE_readLine_93 rfl rfl rfl (by first | exact hs.o | exact hs.to) (by decide) (Nat.le_refl _) (Nat.le_refl _) (Nat.le_of_ble_eq_true rfl) (wE_readLane hs hX hT hok hR ⟨(fun v93 r93 q93 a93 b93 c93 d93 g93 h93 => ?_), (fun v93 f93 p93 a93 b93 c93 d93 => ?_)⟩)
          · refine aw_zret F C dE_readLine_96 rfl (by decide) (Nat.le_refl _) (Nat.le_refl _) ?_
            exact hK.1 _ _ _ (by unfold pLine; rw [if_neg c9, if_neg h2, if_pos (by omega)]; exact a93) b93 c93 d93 g93 h93
          · refine aw_zret F C dE_readLine_96 rfl (by decide) (Nat.le_refl _) (Nat.le_refl _) ?_
            exact hK.2 _ _ _ (by unfold pLine; rw [if_neg c9, if_neg h2, if_pos (by omega)]; exact a93) b93 c93 d93
        | 1, _, c37 =>
          show AW X 97 _ _ _ _ _
          refine aw_aload_0 (q := 98) F dE_readLine_97 rfl ?_
          refine av_callV0 (q := 101) (ci := 3) F hm mE_readDoor_i mE_readDoor_n lE_66 dE_readLine_98 rfl rfl rfl (by first | exact hs.o | exact hs.to) (by decide) (Nat.le_refl _) (Nat.le_refl _) (Nat.le_of_ble_eq_true rfl) (wE_readDoor hs hX hT hok hR ho ⟨(fun v98 r98 q98 a98 b98 c98 d98 g98 h98 => ?_), (fun v98 f98 p98 a98 b98 c98 d98 => ?_)⟩)
          · refine aw_zret F C dE_readLine_101 rfl (by decide) (Nat.le_refl _) (Nat.le_refl _) ?_
            exact hK.1 _ _ _ (by unfold pLine; rw [if_neg c9, if_neg h2, if_neg (by omega), if_pos (by omega)]; exact a98) b98 c98 d98 g98 h98
          · refine aw_zret F C dE_readLine_101 rfl (by decide) (Nat.le_refl _) (Nat.le_refl _) ?_
            exact hK.2 _ _ _ (by unfold pLine; rw [if_neg c9, if_neg h2, if_neg (by omega), if_pos (by omega)]; exact a98) b98 c98 d98
        | 2, _, c37 =>
          show AW X 102 _ _ _ _ _
          refine aw_aload_0 (q := 103) F dE_readLine_102 rfl ?_
          refine av_callV0 (q := 106) (ci := 3) F hm mE_readLocked_i mE_readLocked_n lE_69 dE_readLine_103 rfl rfl rfl (by first | exact hs.o | exact hs.to) (by decide) (Nat.le_refl _) (Nat.le_refl _) (Nat.le_of_ble_eq_true rfl) (wE_readLocked hs hX hT hok hR ho ⟨(fun v103 r103 q103 a103 b103 c103 d103 g103 h103 => ?_), (fun v103 f103 p103 a103 b103 c103 d103 => ?_)⟩)
          · refine aw_zret F C dE_readLine_106 rfl (by decide) (Nat.le_refl _) (Nat.le_refl _) ?_
            exact hK.1 _ _ _ (by unfold pLine; rw [if_neg c9, if_neg h2, if_neg (by omega), if_neg (by omega), if_pos (by omega)]; exact a103) b103 c103 d103 g103 h103
          · refine aw_zret F C dE_readLine_106 rfl (by decide) (Nat.le_refl _) (Nat.le_refl _) ?_
            exact hK.2 _ _ _ (by unfold pLine; rw [if_neg c9, if_neg h2, if_neg (by omega), if_neg (by omega), if_pos (by omega)]; exact a103) b103 c103 d103
        | 3, _, c37 =>
          show AW X 107 _ _ _ _ _
          refine aw_aload_0 (q := 108) F dE_readLine_107 rfl ?_
          refine av_callV0 (q := 111) (ci := 3) F hm mE_readLast_i mE_readLast_n lE_72 dE_readLine_108 rfl rfl rfl (by first | exact hs.o | exact hs.to) (by decide) (Nat.le_refl _) (Nat.le_refl _) (Nat.le_of_ble_eq_true rfl) (wE_readLast hs hX hT hok hR ho ⟨(fun v108 r108 q108 a108 b108 c108 d108 g108 h108 => ?_), (fun v108 f108 p108 a108 b108 c108 d108 => ?_)⟩)
          · refine aw_zret F C dE_readLine_111 rfl (by decide) (Nat.le_refl _) (Nat.le_refl _) ?_
            exact hK.1 _ _ _ (by unfold pLine; rw [if_neg c9, if_neg h2, if_neg (by omega), if_neg (by omega), if_neg (by omega), if_pos (by omega)]; exact a108) b108 c108 d108 g108 h108
          · refine aw_zret F C dE_readLine_111 rfl (by decide) (Nat.le_refl _) (Nat.le_refl _) ?_
            exact hK.2 _ _ _ (by unfold pLine; rw [if_neg c9, if_neg h2, if_neg (by omega), if_neg (by omega), if_neg (by omega), if_pos (by omega)]; exact a108) b108 c108 d108
        | 4, _, c37 =>
          show AW X 112 _ _ _ _ _
          refine aw_aload_0 (q := 113) F dE_readLine_112 rfl ?_
          refine av_callV0 (q := 116) (ci := 3) F hm mE_readAjar_i mE_readAjar_n lE_75 dE_readLine_113 rfl rfl rfl (by first | exact hs.o | exact hs.to) (by decide) (Nat.le_refl _) (Nat.le_refl _) (Nat.le_of_ble_eq_true rfl) (wE_readAjar hs hX hT hok hR ho ⟨(fun v113 r113 q113 a113 b113 c113 d113 g113 h113 => ?_), (fun v113 f113 p113 a113 b113 c113 d113 => ?_)⟩)
          · refine aw_zret F C dE_readLine_116 rfl (by decide) (Nat.le_refl _) (Nat.le_refl _) ?_
            exact hK.1 _ _ _ (by unfold pLine; rw [if_neg c9, if_neg h2, if_neg (by omega), if_neg (by omega), if_neg (by omega), if_neg (by omega), if_pos (by omega)]; exact a113) b113 c113 d113 g113 h113
          · refine aw_zret F C dE_readLine_116 rfl (by decide) (Nat.le_refl _) (Nat.le_refl _) ?_
            exact hK.2 _ _ _ (by unfold pLine; rw [if_neg c9, if_neg h2, if_neg (by omega), if_neg (by omega), if_neg (by omega), if_neg (by omega), if_pos (by omega)]; exact a113) b113 c113 d113
        | 5, _, c37 =>
          show AW X 117 _ _ _ _ _
          refine aw_aload_0 (q := 118) F dE_readLine_117 rfl ?_
          refine av_callV0 (q := 121) (ci := 3) F hm mE_readPerson_i mE_readPerson_n lE_78 dE_readLine_118 rfl rfl rfl (by first | exact hs.o | exact hs.to) (by decide) (Nat.le_refl _) (Nat.le_refl _) (Nat.le_of_ble_eq_true rfl) (wE_readPerson hs hX hT hok hR ho ⟨(fun v118 r118 q118 a118 b118 c118 d118 g118 h118 => ?_), (fun v118 f118 p118 a118 b118 c118 d118 => ?_)⟩)
          · refine aw_zret F C dE_readLine_121 rfl (by decide) (Nat.le_refl _) (Nat.le_refl _) ?_
            exact hK.1 _ _ _ (by unfold pLine; rw [if_neg c9, if_neg h2, if_neg (by omega), if_neg (by omega), if_neg (by omega), if_neg (by omega), if_neg (by omega), if_pos (by omega)]; exact a118) b118 c118 d118 g118 h118
          · refine aw_zret F C dE_readLine_121 rfl (by decide) (Nat.le_refl _) (Nat.le_refl _) ?_
            exact hK.2 _ _ _ (by unfold pLine; rw [if_neg c9, if_neg h2, if_neg (by omega), if_neg (by omega), if_neg (by omega), if_neg (by omega), if_neg (by omega), if_pos (by omega)]; exact a118) b118 c118 d118
        | 6, _, c37 =>
          show AW X 122 _ _ _ _ _
          refine aw_aload_0 (q := 123) F dE_readLine_122 rfl ?_
          refine av_callV0 (q := 126) (ci := 3) F hm mE_readInside_i mE_readInside_n lE_81 dE_readLine_123 rfl rfl rfl (by first | exact hs.o | exact hs.to) (by decide) (Nat.le_refl _) (Nat.le_refl _) (Nat.le_of_ble_eq_true rfl) (wE_readInside hs hX hT hok hR ho ⟨(fun v123 r123 q123 a123 b123 c123 d123 g123 h123 => ?_), (fun v123 f123 p123 a123 b123 c123 d123 => ?_)⟩)
          · refine aw_zret F C dE_readLine_126 rfl (by decide) (Nat.le_refl _) (Nat.le_refl _) ?_
            exact hK.1 _ _ _ (by unfold pLine; rw [if_neg c9, if_neg h2, if_neg (by omega), if_neg (by omega), if_neg (by omega), if_neg (by omega), if_neg (by omega), if_neg (by omega), if_pos (by omega)]; exact a123) b123 c123 d123 g123 h123
          · refine aw_zret F C dE_readLine_126 rfl (by decide) (Nat.le_refl _) (Nat.le_refl _) ?_
            exact hK.2 _ _ _ (by unfold pLine; rw [if_neg c9, if_neg h2, if_neg (by omega), if_neg (by omega), if_neg (by omega), if_neg (by omega), if_neg (by omega), if_neg (by omega), if_pos (by omega)]; exact a123) b123 c123 d123
        | 7, _, c37 =>
          show AW X 127 _ _ _ _ _
          refine aw_aload_0 (q := 128) F dE_readLine_127 rfl ?_
          refine av_callV0 (q := 131) (ci := 3) F hm mE_readKey_i mE_readKey_n lE_84 dE_readLine_128 rfl rfl rfl (by first | exact hs.o | exact hs.to) (by decide) (Nat.le_refl _) (Nat.le_refl _) (Nat.le_of_ble_eq_true rfl) (wE_readKey hs hX hT hok hR ho ⟨(fun v128 r128 q128 a128 b128 c128 d128 g128 h128 => ?_), (fun v128 f128 p128 a128 b128 c128 d128 => ?_)⟩)
          · refine aw_zret F C dE_readLine_131 rfl (by decide) (Nat.le_refl _) (Nat.le_refl _) ?_
            exact hK.1 _ _ _ (by unfold pLine; rw [if_neg c9, if_neg h2, if_neg (by omega), if_neg (by omega), if_neg (by omega), if_neg (by omega), if_neg (by omega), if_neg (by omega), if_neg (by omega), if_pos (by omega)]; exact a128) b128 c128 d128 g128 h128
          · refine aw_zret F C dE_readLine_131 rfl (by decide) (Nat.le_refl _) (Nat.le_refl _) ?_
            exact hK.2 _ _ _ (by unfold pLine; rw [if_neg c9, if_neg h2, if_neg (by omega), if_neg (by omega), if_neg (by omega), if_neg (by omega), if_neg (by omega), if_neg (by omega), if_neg (by omega), if_pos (by omega)]; exact a128) b128 c128 d128
        | 8, _, c37 =>
          show AW X 132 _ _ _ _ _
          refine aw_aload_0 (q := 133) F dE_readLine_132 rfl ?_
          refine aw_aload_0 (q := 134) F dE_readLine_133 rfl ?_
          refine av_getaE (q := 137) F fE_12 dE_readLine_134 rfl rfl (by first | exact hs.o | exact hs.to) hs.p0 ?_
          refine av_getaE (q := 140) F fE_87 dE_readLine_137 rfl rfl (by first | exact hs.o | exact hs.to) hs.t.p9 ?_
          refine aw_iconst (q := 141) F dE_readLine_140 rfl (by decide) ?_
          refine av_callV2 (q := 144) (ci := 3) F hm mE_readPlace_i mE_readPlace_n lE_91 dE_readLine_141 rfl rfl rfl (by first | exact hs.o | exact hs.to) (by decide) (Nat.le_refl _) (Nat.le_refl _) (Nat.le_of_ble_eq_true rfl) (wE_readPlace (s := 0) (by omega) rfl hs hX hT hok hR ho ⟨(fun v141 r141 q141 a141 b141 c141 d141 g141 h141 => ?_), (fun v141 f141 p141 a141 b141 c141 d141 => ?_)⟩)
          · refine aw_zret F C dE_readLine_144 rfl (by decide) (Nat.le_refl _) (Nat.le_refl _) ?_
            exact hK.1 _ _ _ (by unfold pLine; rw [if_neg c9, if_neg h2, if_neg (by omega), if_neg (by omega), if_neg (by omega), if_neg (by omega), if_neg (by omega), if_neg (by omega), if_neg (by omega), if_neg (by omega), if_pos (by omega)]; exact a141) b141 c141 d141 g141 h141
          · refine aw_zret F C dE_readLine_144 rfl (by decide) (Nat.le_refl _) (Nat.le_refl _) ?_
            exact hK.2 _ _ _ (by unfold pLine; rw [if_neg c9, if_neg h2, if_neg (by omega), if_neg (by omega), if_neg (by omega), if_neg (by omega), if_neg (by omega), if_neg (by omega), if_neg (by omega), if_neg (by omega), if_pos (by omega)]; exact a141) b141 c141 d141
        | 9, _, c37 =>
          show AW X 145 _ _ _ _ _
          refine aw_aload_0 (q := 146) F dE_readLine_145 rfl ?_
          refine aw_aload_0 (q := 147) F dE_readLine_146 rfl ?_
          refine av_getaE (q := 150) F fE_12 dE_readLine_147 rfl rfl (by first | exact hs.o | exact hs.to) hs.p0 ?_
          refine av_getaE (q := 153) F fE_95 dE_readLine_150 rfl rfl (by first | exact hs.o | exact hs.to) hs.t.p10 ?_
          refine aw_iconst (q := 154) F dE_readLine_153 rfl (by decide) ?_
          refine av_callV2 (q := 157) (ci := 3) F hm mE_readPlace_i mE_readPlace_n lE_91 dE_readLine_154 rfl rfl rfl (by first | exact hs.o | exact hs.to) (by decide) (Nat.le_refl _) (Nat.le_refl _) (Nat.le_of_ble_eq_true rfl) (wE_readPlace (s := 1) (by omega) rfl hs hX hT hok hR ho ⟨(fun v154 r154 q154 a154 b154 c154 d154 g154 h154 => ?_), (fun v154 f154 p154 a154 b154 c154 d154 => ?_)⟩)
          · refine aw_zret F C dE_readLine_157 rfl (by decide) (Nat.le_refl _) (Nat.le_refl _) ?_
            exact hK.1 _ _ _ (by unfold pLine; rw [if_neg c9, if_neg h2, if_neg (by omega), if_neg (by omega), if_neg (by omega), if_neg (by omega), if_neg (by omega), if_neg (by omega), if_neg (by omega), if_neg (by omega), if_neg (by omega), if_pos (by omega)]; exact a154) b154 c154 d154 g154 h154
          · refine aw_zret F C dE_readLine_157 rfl (by decide) (Nat.le_refl _) (Nat.le_refl _) ?_
            exact hK.2 _ _ _ (by unfold pLine; rw [if_neg c9, if_neg h2, if_neg (by omega), if_neg (by omega), if_neg (by omega), if_neg (by omega), if_neg (by omega), if_neg (by omega), if_neg (by omega), if_neg (by omega), if_neg (by omega), if_pos (by omega)]; exact a154) b154 c154 d154
        | i + 10, hi, _ => exact absurd hi (by show ¬ i + 10 < 10; omega)
      · refine aw_aload_0 (q := 159) F dE_readLine_158 rfl ?_
        refine aw_aload_0 (q := 160) F dE_readLine_159 rfl ?_
        refine av_getaE (q := 163) F fE_12 dE_readLine_160 rfl rfl (by first | exact hs.o | exact hs.to) hs.p0 ?_
        refine av_getaE (q := 166) F fE_98 dE_readLine_163 rfl rfl (by first | exact hs.o | exact hs.to) hs.t.p11 ?_
        refine aw_iconst (q := 167) F dE_readLine_166 rfl (by decide) ?_
        refine av_callV2 (q := 170) (ci := 3) F hm mE_readPlace_i mE_readPlace_n lE_91 dE_readLine_167 rfl rfl rfl (by first | exact hs.o | exact hs.to) (by decide) (Nat.le_refl _) (Nat.le_refl _) (Nat.le_of_ble_eq_true rfl) (wE_readPlace (s := 2) (by omega) rfl hs hX hT hok hR ho ⟨(fun v167 r167 q167 a167 b167 c167 d167 g167 h167 => ?_), (fun v167 f167 p167 a167 b167 c167 d167 => ?_)⟩)
        · refine aw_zret F C dE_readLine_170 rfl (by decide) (Nat.le_refl _) (Nat.le_refl _) ?_
          exact hK.1 _ _ _ (by unfold pLine; rw [if_neg c9, if_neg h2, if_neg (by omega), if_neg (by omega), if_neg (by omega), if_neg (by omega), if_neg (by omega), if_neg (by omega), if_neg (by omega), if_neg (by omega), if_neg (by omega), if_neg (by omega)]; exact a167) b167 c167 d167 g167 h167
        · refine aw_zret F C dE_readLine_170 rfl (by decide) (Nat.le_refl _) (Nat.le_refl _) ?_
          exact hK.2 _ _ _ (by unfold pLine; rw [if_neg c9, if_neg h2, if_neg (by omega), if_neg (by omega), if_neg (by omega), if_neg (by omega), if_neg (by omega), if_neg (by omega), if_neg (by omega), if_neg (by omega), if_neg (by omega), if_neg (by omega)]; exact a167) b167 c167 d167
    · refine aw_iload_1 (q := 26) F dE_readLine_25 rfl ?_
      refine aw_if_eq (q := 29) (t := 36) F dE_readLine_26 rfl (by decide) (fun c26 => ?_) (fun c26 => ?_)
      · have h2 : ¬ (r.2.1 = false ∧ wnI 0 t ≠ 0) := fun q => by rw [q.1] at e9; first | (rw [e9] at c22; exact c22 rfl) | exact q.2 c26
        refine aw_iload_1 (q := 37) F dE_readLine_36 rfl ?_
        refine aw_table (t := 158) F (fun i => [92, 97, 102, 107, 112, 117, 122, 127, 132, 145].getD i 0) dE_readLine_37 (by decide) (by decide) (by decide) (fun i hi c37 => ?_) (fun c37 => ?_)
        · match i, hi, c37 with
          | 0, _, c37 =>
            show AW X 92 _ _ _ _ _
            refine aw_aload_0 (q := 93) F dE_readLine_92 rfl ?_
            refine av_callV0 (q := 96) (ci := 3) F hm mE_readLane_i mE_readLane_n lE_63 dE_readLine_93 rfl rfl rfl (by first | exact hs.o | exact hs.to) (by decide) (Nat.le_refl _) (Nat.le_refl _) (Nat.le_of_ble_eq_true rfl) (wE_readLane hs hX hT hok hR ⟨(fun v93 r93 q93 a93 b93 c93 d93 g93 h93 => ?_), (fun v93 f93 p93 a93 b93 c93 d93 => ?_)⟩)
            · refine aw_zret F C dE_readLine_96 rfl (by decide) (Nat.le_refl _) (Nat.le_refl _) ?_
              exact hK.1 _ _ _ (by unfold pLine; rw [if_neg c9, if_neg h2, if_pos (by omega)]; exact a93) b93 c93 d93 g93 h93
            · refine aw_zret F C dE_readLine_96 rfl (by decide) (Nat.le_refl _) (Nat.le_refl _) ?_
              exact hK.2 _ _ _ (by unfold pLine; rw [if_neg c9, if_neg h2, if_pos (by omega)]; exact a93) b93 c93 d93
          | 1, _, c37 =>
            show AW X 97 _ _ _ _ _
            refine aw_aload_0 (q := 98) F dE_readLine_97 rfl ?_
            refine av_callV0 (q := 101) (ci := 3) F hm mE_readDoor_i mE_readDoor_n lE_66 dE_readLine_98 rfl rfl rfl (by first | exact hs.o | exact hs.to) (by decide) (Nat.le_refl _) (Nat.le_refl _) (Nat.le_of_ble_eq_true rfl) (wE_readDoor hs hX hT hok hR ho ⟨(fun v98 r98 q98 a98 b98 c98 d98 g98 h98 => ?_), (fun v98 f98 p98 a98 b98 c98 d98 => ?_)⟩)
            · refine aw_zret F C dE_readLine_101 rfl (by decide) (Nat.le_refl _) (Nat.le_refl _) ?_
              exact hK.1 _ _ _ (by unfold pLine; rw [if_neg c9, if_neg h2, if_neg (by omega), if_pos (by omega)]; exact a98) b98 c98 d98 g98 h98
            · refine aw_zret F C dE_readLine_101 rfl (by decide) (Nat.le_refl _) (Nat.le_refl _) ?_
              exact hK.2 _ _ _ (by unfold pLine; rw [if_neg c9, if_neg h2, if_neg (by omega), if_pos (by omega)]; exact a98) b98 c98 d98
          | 2, _, c37 =>
            show AW X 102 _ _ _ _ _
            refine aw_aload_0 (q := 103) F dE_readLine_102 rfl ?_
            refine av_callV0 (q := 106) (ci := 3) F hm mE_readLocked_i mE_readLocked_n lE_69 dE_readLine_103 rfl rfl rfl (by first | exact hs.o | exact hs.to) (by decide) (Nat.le_refl _) (Nat.le_refl _) (Nat.le_of_ble_eq_true rfl) (wE_readLocked hs hX hT hok hR ho ⟨(fun v103 r103 q103 a103 b103 c103 d103 g103 h103 => ?_), (fun v103 f103 p103 a103 b103 c103 d103 => ?_)⟩)
            · refine aw_zret F C dE_readLine_106 rfl (by decide) (Nat.le_refl _) (Nat.le_refl _) ?_
              exact hK.1 _ _ _ (by unfold pLine; rw [if_neg c9, if_neg h2, if_neg (by omega), if_neg (by omega), if_pos (by omega)]; exact a103) b103 c103 d103 g103 h103
            · refine aw_zret F C dE_readLine_106 rfl (by decide) (Nat.le_refl _) (Nat.le_refl _) ?_
              exact hK.2 _ _ _ (by unfold pLine; rw [if_neg c9, if_neg h2, if_neg (by omega), if_neg (by omega), if_pos (by omega)]; exact a103) b103 c103 d103
          | 3, _, c37 =>
            show AW X 107 _ _ _ _ _
            refine aw_aload_0 (q := 108) F dE_readLine_107 rfl ?_
            refine av_callV0 (q := 111) (ci := 3) F hm mE_readLast_i mE_readLast_n lE_72 dE_readLine_108 rfl rfl rfl (by first | exact hs.o | exact hs.to) (by decide) (Nat.le_refl _) (Nat.le_refl _) (Nat.le_of_ble_eq_true rfl) (wE_readLast hs hX hT hok hR ho ⟨(fun v108 r108 q108 a108 b108 c108 d108 g108 h108 => ?_), (fun v108 f108 p108 a108 b108 c108 d108 => ?_)⟩)
            · refine aw_zret F C dE_readLine_111 rfl (by decide) (Nat.le_refl _) (Nat.le_refl _) ?_
              exact hK.1 _ _ _ (by unfold pLine; rw [if_neg c9, if_neg h2, if_neg (by omega), if_neg (by omega), if_neg (by omega), if_pos (by omega)]; exact a108) b108 c108 d108 g108 h108
            · refine aw_zret F C dE_readLine_111 rfl (by decide) (Nat.le_refl _) (Nat.le_refl _) ?_
              exact hK.2 _ _ _ (by unfold pLine; rw [if_neg c9, if_neg h2, if_neg (by omega), if_neg (by omega), if_neg (by omega), if_pos (by omega)]; exact a108) b108 c108 d108
          | 4, _, c37 =>
            show AW X 112 _ _ _ _ _
            refine aw_aload_0 (q := 113) F dE_readLine_112 rfl ?_
            refine av_callV0 (q := 116) (ci := 3) F hm mE_readAjar_i mE_readAjar_n lE_75 dE_readLine_113 rfl rfl rfl (by first | exact hs.o | exact hs.to) (by decide) (Nat.le_refl _) (Nat.le_refl _) (Nat.le_of_ble_eq_true rfl) (wE_readAjar hs hX hT hok hR ho ⟨(fun v113 r113 q113 a113 b113 c113 d113 g113 h113 => ?_), (fun v113 f113 p113 a113 b113 c113 d113 => ?_)⟩)
            · refine aw_zret F C dE_readLine_116 rfl (by decide) (Nat.le_refl _) (Nat.le_refl _) ?_
              exact hK.1 _ _ _ (by unfold pLine; rw [if_neg c9, if_neg h2, if_neg (by omega), if_neg (by omega), if_neg (by omega), if_neg (by omega), if_pos (by omega)]; exact a113) b113 c113 d113 g113 h113
            · refine aw_zret F C dE_readLine_116 rfl (by decide) (Nat.le_refl _) (Nat.le_refl _) ?_
              exact hK.2 _ _ _ (by unfold pLine; rw [if_neg c9, if_neg h2, if_neg (by omega), if_neg (by omega), if_neg (by omega), if_neg (by omega), if_pos (by omega)]; exact a113) b113 c113 d113
          | 5, _, c37 =>
            show AW X 117 _ _ _ _ _
            refine aw_aload_0 (q := 118) F dE_readLine_117 rfl ?_
            refine av_callV0 (q := 121) (ci := 3) F hm mE_readPerson_i mE_readPerson_n lE_78 dE_readLine_118 rfl rfl rfl (by first | exact hs.o | exact hs.to) (by decide) (Nat.le_refl _) (Nat.le_refl _) (Nat.le_of_ble_eq_true rfl) (wE_readPerson hs hX hT hok hR ho ⟨(fun v118 r118 q118 a118 b118 c118 d118 g118 h118 => ?_), (fun v118 f118 p118 a118 b118 c118 d118 => ?_)⟩)
            · refine aw_zret F C dE_readLine_121 rfl (by decide) (Nat.le_refl _) (Nat.le_refl _) ?_
              exact hK.1 _ _ _ (by unfold pLine; rw [if_neg c9, if_neg h2, if_neg (by omega), if_neg (by omega), if_neg (by omega), if_neg (by omega), if_neg (by omega), if_pos (by omega)]; exact a118) b118 c118 d118 g118 h118
            · refine aw_zret F C dE_readLine_121 rfl (by decide) (Nat.le_refl _) (Nat.le_refl _) ?_
              exact hK.2 _ _ _ (by unfold pLine; rw [if_neg c9, if_neg h2, if_neg (by omega), if_neg (by omega), if_neg (by omega), if_neg (by omega), if_neg (by omega), if_pos (by omega)]; exact a118) b118 c118 d118
          | 6, _, c37 =>
            show AW X 122 _ _ _ _ _
            refine aw_aload_0 (q := 123) F dE_readLine_122 rfl ?_
            refine av_callV0 (q := 126) (ci := 3) F hm mE_readInside_i mE_readInside_n lE_81 dE_readLine_123 rfl rfl rfl (by first | exact hs.o | exact hs.to) (by decide) (Nat.le_refl _) (Nat.le_refl _) (Nat.le_of_ble_eq_true rfl) (wE_readInside hs hX hT hok hR ho ⟨(fun v123 r123 q123 a123 b123 c123 d123 g123 h123 => ?_), (fun v123 f123 p123 a123 b123 c123 d123 => ?_)⟩)
            · refine aw_zret F C dE_readLine_126 rfl (by decide) (Nat.le_refl _) (Nat.le_refl _) ?_
              exact hK.1 _ _ _ (by unfold pLine; rw [if_neg c9, if_neg h2, if_neg (by omega), if_neg (by omega), if_neg (by omega), if_neg (by omega), if_neg (by omega), if_neg (by omega), if_pos (by omega)]; exact a123) b123 c123 d123 g123 h123
            · refine aw_zret F C dE_readLine_126 rfl (by decide) (Nat.le_refl _) (Nat.le_refl _) ?_
              exact hK.2 _ _ _ (by unfold pLine; rw [if_neg c9, if_neg h2, if_neg (by omega), if_neg (by omega), if_neg (by omega), if_neg (by omega), if_neg (by omega), if_neg (by omega), if_pos (by omega)]; exact a123) b123 c123 d123
          | 7, _, c37 =>
            show AW X 127 _ _ _ _ _
            refine aw_aload_0 (q := 128) F dE_readLine_127 rfl ?_
            refine av_callV0 (q := 131) (ci := 3) F hm mE_readKey_i mE_readKey_n lE_84 dE_readLine_128 rfl rfl rfl (by first | exact hs.o | exact hs.to) (by decide) (Nat.le_refl _) (Nat.le_refl _) (Nat.le_of_ble_eq_true rfl) (wE_readKey hs hX hT hok hR ho ⟨(fun v128 r128 q128 a128 b128 c128 d128 g128 h128 => ?_), (fun v128 f128 p128 a128 b128 c128 d128 => ?_)⟩)
            · refine aw_zret F C dE_readLine_131 rfl (by decide) (Nat.le_refl _) (Nat.le_refl _) ?_
              exact hK.1 _ _ _ (by unfold pLine; rw [if_neg c9, if_neg h2, if_neg (by omega), if_neg (by omega), if_neg (by omega), if_neg (by omega), if_neg (by omega), if_neg (by omega), if_neg (by omega), if_pos (by omega)]; exact a128) b128 c128 d128 g128 h128
            · refine aw_zret F C dE_readLine_131 rfl (by decide) (Nat.le_refl _) (Nat.le_refl _) ?_
              exact hK.2 _ _ _ (by unfold pLine; rw [if_neg c9, if_neg h2, if_neg (by omega), if_neg (by omega), if_neg (by omega), if_neg (by omega), if_neg (by omega), if_neg (by omega), if_neg (by omega), if_pos (by omega)]; exact a128) b128 c128 d128
          | 8, _, c37 =>
            show AW X 132 _ _ _ _ _
            refine aw_aload_0 (q := 133) F dE_readLine_132 rfl ?_
            refine aw_aload_0 (q := 134) F dE_readLine_133 rfl ?_
            refine av_getaE (q := 137) F fE_12 dE_readLine_134 rfl rfl (by first | exact hs.o | exact hs.to) hs.p0 ?_
            refine av_getaE (q := 140) F fE_87 dE_readLine_137 rfl rfl (by first | exact hs.o | exact hs.to) hs.t.p9 ?_
            refine aw_iconst (q := 141) F dE_readLine_140 rfl (by decide) ?_
            refine av_callV2 (q := 144) (ci := 3) F hm mE_readPlace_i mE_readPlace_n lE_91 dE_readLine_141 rfl rfl rfl (by first | exact hs.o | exact hs.to) (by decide) (Nat.le_refl _) (Nat.le_refl _) (Nat.le_of_ble_eq_true rfl) (wE_readPlace (s := 0) (by omega) rfl hs hX hT hok hR ho ⟨(fun v141 r141 q141 a141 b141 c141 d141 g141 h141 => ?_), (fun v141 f141 p141 a141 b141 c141 d141 => ?_)⟩)
            · refine aw_zret F C dE_readLine_144 rfl (by decide) (Nat.le_refl _) (Nat.le_refl _) ?_
              exact hK.1 _ _ _ (by unfold pLine; rw [if_neg c9, if_neg h2, if_neg (by omega), if_neg (by omega), if_neg (by omega), if_neg (by omega), if_neg (by omega), if_neg (by omega), if_neg (by omega), if_neg (by omega), if_pos (by omega)]; exact a141) b141 c141 d141 g141 h141
            · refine aw_zret F C dE_readLine_144 rfl (by decide) (Nat.le_refl _) (Nat.le_refl _) ?_
              exact hK.2 _ _ _ (by unfold pLine; rw [if_neg c9, if_neg h2, if_neg (by omega), if_neg (by omega), if_neg (by omega), if_neg (by omega), if_neg (by omega), if_neg (by omega), if_neg (by omega), if_neg (by omega), if_pos (by omega)]; exact a141) b141 c141 d141
          | 9, _, c37 =>
            show AW X 145 _ _ _ _ _
            refine aw_aload_0 (q := 146) F dE_readLine_145 rfl ?_
            refine aw_aload_0 (q := 147) F dE_readLine_146 rfl ?_
            refine av_getaE (q := 150) F fE_12 dE_readLine_147 rfl rfl (by first | exact hs.o | exact hs.to) hs.p0 ?_
            refine av_getaE (q := 153) F fE_95 dE_readLine_150 rfl rfl (by first | exact hs.o | exact hs.to) hs.t.p10 ?_
            refine aw_iconst (q := 154) F dE_readLine_153 rfl (by decide) ?_
            refine av_callV2 (q := 157) (ci := 3) F hm mE_readPlace_i mE_readPlace_n lE_91 dE_readLine_154 rfl rfl rfl (by first | exact hs.o | exact hs.to) (by decide) (Nat.le_refl _) (Nat.le_refl _) (Nat.le_of_ble_eq_true rfl) (wE_readPlace (s := 1) (by omega) rfl hs hX hT hok hR ho ⟨(fun v154 r154 q154 a154 b154 c154 d154 g154 h154 => ?_), (fun v154 f154 p154 a154 b154 c154 d154 => ?_)⟩)
            · refine aw_zret F C dE_readLine_157 rfl (by decide) (Nat.le_refl _) (Nat.le_refl _) ?_
              exact hK.1 _ _ _ (by unfold pLine; rw [if_neg c9, if_neg h2, if_neg (by omega), if_neg (by omega), if_neg (by omega), if_neg (by omega), if_neg (by omega), if_neg (by omega), if_neg (by omega), if_neg (by omega), if_neg (by omega), if_pos (by omega)]; exact a154) b154 c154 d154 g154 h154
            · refine aw_zret F C dE_readLine_157 rfl (by decide) (Nat.le_refl _) (Nat.le_refl _) ?_
              exact hK.2 _ _ _ (by unfold pLine; rw [if_neg c9, if_neg h2, if_neg (by omega), if_neg (by omega), if_neg (by omega), if_neg (by omega), if_neg (by omega), if_neg (by omega), if_neg (by omega), if_neg (by omega), if_neg (by omega), if_pos (by omega)]; exact a154) b154 c154 d154
          | i + 10, hi, _ => exact absurd hi (by show ¬ i + 10 < 10; omega)
        · refine aw_aload_0 (q := 159) F dE_readLine_158 rfl ?_
          refine aw_aload_0 (q := 160) F dE_readLine_159 rfl ?_
          refine av_getaE (q := 163) F fE_12 dE_readLine_160 rfl rfl (by first | exact hs.o | exact hs.to) hs.p0 ?_
          refine av_getaE (q := 166) F fE_98 dE_readLine_163 rfl rfl (by first | exact hs.o | exact hs.to) hs.t.p11 ?_
          refine aw_iconst (q := 167) F dE_readLine_166 rfl (by decide) ?_
          refine av_callV2 (q := 170) (ci := 3) F hm mE_readPlace_i mE_readPlace_n lE_91 dE_readLine_167 rfl rfl rfl (by first | exact hs.o | exact hs.to) (by decide) (Nat.le_refl _) (Nat.le_refl _) (Nat.le_of_ble_eq_true rfl) (wE_readPlace (s := 2) (by omega) rfl hs hX hT hok hR ho ⟨(fun v167 r167 q167 a167 b167 c167 d167 g167 h167 => ?_), (fun v167 f167 p167 a167 b167 c167 d167 => ?_)⟩)
          · refine aw_zret F C dE_readLine_170 rfl (by decide) (Nat.le_refl _) (Nat.le_refl _) ?_
            exact hK.1 _ _ _ (by unfold pLine; rw [if_neg c9, if_neg h2, if_neg (by omega), if_neg (by omega), if_neg (by omega), if_neg (by omega), if_neg (by omega), if_neg (by omega), if_neg (by omega), if_neg (by omega), if_neg (by omega), if_neg (by omega)]; exact a167) b167 c167 d167 g167 h167
          · refine aw_zret F C dE_readLine_170 rfl (by decide) (Nat.le_refl _) (Nat.le_refl _) ?_
            exact hK.2 _ _ _ (by unfold pLine; rw [if_neg c9, if_neg h2, if_neg (by omega), if_neg (by omega), if_neg (by omega), if_neg (by omega), if_neg (by omega), if_neg (by omega), if_neg (by omega), if_neg (by omega), if_neg (by omega), if_neg (by omega)]; exact a167) b167 c167 d167
      · refine aw_aload_0 (q := 30) F dE_readLine_29 rfl ?_
        refine aw_bipush (q := 32) F dE_readLine_30 rfl (by decide) ?_
        refine av_callV1 (q := 35) (ci := 3) F hm mE_fail_i mE_fail_n lE_49 dE_readLine_32 rfl rfl rfl (by first | exact hs.o | exact hs.to) (by decide) (Nat.le_refl _) (Nat.le_refl _) (Nat.le_of_ble_eq_true rfl) (wE_fail hs ?_)
        refine aw_zret F C dE_readLine_35 rfl (by omega) (Nat.le_refl _) (Nat.le_refl _) ?_
        refine fl 6 _ rfl ?_
        unfold pLine
        rw [if_neg c9, if_pos ⟨by cases hq : r.2.1; rfl; rw [hq] at e9; rw [e9] at c22; exact absurd c22 (by decide), c26⟩]
  · refine aw_aload_0 (q := 13) F dE_readLine_12 rfl ?_
    refine aw_iconst (q := 14) F dE_readLine_13 rfl (by decide) ?_
    refine av_callV1 (q := 17) (ci := 3) F hm mE_fail_i mE_fail_n lE_49 dE_readLine_14 rfl rfl rfl (by first | exact hs.o | exact hs.to) (by decide) (Nat.le_refl _) (Nat.le_refl _) (Nat.le_of_ble_eq_true rfl) (wE_fail hs ?_)
    refine aw_zret F C dE_readLine_17 rfl (by omega) (Nat.le_refl _) (Nat.le_refl _) ?_
    refine fl 1 _ rfl ?_
    unfold pLine
    rw [if_pos c9]
/-- the ways on of a text's reading -/
def RtK (K : Option AV → Mem → Prop) (V : Nat → Nat → Int) (σ : Shp) (e : Nat) (po : TL ⊕ (Nat × Nat)) : Prop := (∀ (V' : Nat → Nat → Int) (T : TL), po = .inl T → rdF V V' e → TV V' (e + 1) T → okU T → 0 < tDn T → V' e 1 = V e 1 → K (some (vI 1)) (V', σ)) ∧ ∀ (V' : Nat → Nat → Int) (f a : Nat), po = .inr (f, a) → rdF V V' e → V' e 1 = f → V' e 2 = a → K (some (vI 0)) (V', σ)
theorem pAll_s {f : Nat} : pAll B n (f + 1) r t = match pLine B n r t with
    | .inr q => .inr q
    | .inl (r', t') => if t'.1 = 0 then (if 0 < tDn r'.1 then .inl r'.1 else .inr (6, t'.2.1)) else if t'.1 = 3 then pAll B n f r' (nxT B n t') else .inr (1, t'.2.1) := rfl
theorem wE_readText (hs : rdS σ e) (hX : TX V e n B) (h2 : V e 2 = 0) (h5 : V e 5 = 0) (hR : RER V e r) (ho : okN r) (hK : RtK K V σ e (pAll B n (n + 1) r (lexT B n 0))) : Wp G 9 mE_readText [vR e] (V, σ) 0 0 K := by
  have hn8 := hX.2.1
  refine wp_intro mE_readText_i.1 [some (vR e), none] rfl rfl (Nat.le_of_ble_eq_true rfl) ?_
  intro X hG F C
  have hm := C.rm
  have loop : ∀ (j i : Nat), n + 1 - i = j → i ≤ n + 1 → ∀ (V1 : Nat → Nat → Int) (r1 : PR) (t1 : TK) (w : Int), rdF V V1 e → RER V1 e r1 → okN r1 → TKR V1 e t1 → okTk n t1 → V1 e 1 = V e 1 → pAll B n (n + 1 - i) r1 t1 = pAll B n (n + 1) r (lexT B n 0) → w = i → AW X 7 [some (vR e), some (vI w)] [] (V1, σ) 0 0 := by
    intro j
    induction j using Nat.strongRecOn with
    | ind j ih =>
      intro i hj hi V1 r1 t1 w hF R1 o1 k1 ok1 hf1 hP hw
      have X1 := hX.rd hs hF
      have x4 := X1.1
      have es : i < n + 1 → pAll B n (n + 1 - i) r1 t1 = pAll B n ((n - i) + 1) r1 t1 := fun q => by rw [show n + 1 - i = (n - i) + 1 by omega]
      refine aw_iload_1 (q := 8) F dE_readText_7 rfl ?_
      refine aw_aload_0 (q := 9) F dE_readText_8 rfl ?_
      refine av_geti (q := 12) F fE_32 dE_readText_9 rfl rfl (by first | exact hs.o | exact hs.to) ?_
      refine aw_icmp_gt (q := 15) (t := 81) F dE_readText_12 rfl (by decide) (fun c12 => ?_) (fun c12 => ?_)
      · refine aw_aload_0 (q := 82) F dE_readText_81 rfl ?_
        refine aw_iconst (q := 83) F dE_readText_82 rfl (by decide) ?_
        refine av_callV1 (q := 86) (ci := 3) F hm mE_fail_i mE_fail_n lE_49 dE_readText_83 rfl rfl rfl (by first | exact hs.o | exact hs.to) (by decide) (Nat.le_refl _) (Nat.le_refl _) (Nat.le_of_ble_eq_true rfl) (wE_fail hs ?_)
        refine aw_zret F C dE_readText_86 rfl (by decide) (Nat.le_refl _) (Nat.le_refl _) ?_
        refine hK.2 _ 1 t1.2.1 ?_ (hF.up (by omega) (Or.inr (by decide))) (up2_same _ _ _ _) ((TK1 k1).1)
        rw [← hP, show n + 1 - i = 0 by omega]; rfl
      · refine aw_aload_0 (q := 16) F dE_readText_15 rfl ?_
        refine av_callV0 (q := 19) (ci := 3) F hm mE_readLine_i mE_readLine_n lE_40 dE_readText_16 rfl rfl rfl (by first | exact hs.o | exact hs.to) (by decide) (Nat.le_refl _) (Nat.le_refl _) (Nat.le_of_ble_eq_true rfl) (wE_readLine hs X1 k1 ok1 R1 o1 ⟨(fun v16 r16 q16 a16 b16 c16 d16 g16 h16 => ?_), (fun v16 f16 p16 a16 b16 c16 d16 => ?_)⟩)
        · refine aw_if_ne (q := 22) (t := 24) F dE_readText_19 rfl (by decide) (fun c19 => ?_) (fun c19 => absurd c19 (by decide))
          have o16 := pLine_ok o1 ok1 a16
          have e6 := d16.2.2.1
          have e1d : v16 (e + 1) 1 = tDn r16.1 := c16.1.1.2.1
          refine aw_aload_0 (q := 25) F dE_readText_24 rfl ?_
          refine av_geti (q := 28) F fE_43 dE_readText_25 rfl rfl (by first | exact hs.o | exact hs.to) ?_
          refine aw_if_ne (q := 31) (t := 56) F dE_readText_28 rfl (by decide) (fun c28 => ?_) (fun c28 => ?_)
          · refine aw_aload_0 (q := 57) F dE_readText_56 rfl ?_
            refine av_geti (q := 60) F fE_43 dE_readText_57 rfl rfl (by first | exact hs.o | exact hs.to) ?_
            refine aw_iconst (q := 61) F dE_readText_60 rfl (by decide) ?_
            refine aw_icmp_eq (q := 64) (t := 70) F dE_readText_61 rfl (by decide) (fun c61 => ?_) (fun c61 => ?_)
            · refine aw_aload_0 (q := 71) F dE_readText_70 rfl ?_
              refine av_callV0 (q := 74) (ci := 3) F hm mE_advance_i mE_advance_n lE_36 dE_readText_71 rfl rfl rfl (by first | exact hs.o | exact hs.to) (by decide) (Nat.le_refl _) (Nat.le_refl _) (Nat.le_of_ble_eq_true rfl) (wE_advance hs (hX.rd hs (hF.tr b16)) (d16.p g16) g16.2.1 (fun v71 f71 k71 => ?_))
              refine aw_pop (q := 75) F dE_readText_74 rfl trivial ?_
              refine aw_iinc_1 (q := 78) F dE_readText_75 rfl trivial (by constructor <;> omega) ?_
              refine aw_goto (t := 7) F dE_readText_78 (by decide) ?_
              refine ih _ (by omega) (i + 1) rfl (by omega) v71 r16 (nxT B n q16) _ ((hF.tr b16).tr f71.rd) (c16.tk f71) o16 k71 (lex_ok g16.2.1) ?_ ?_ (by omega)
              · rw [f71.2 1 (by decide) (by decide) (by decide) (by decide) (by decide)]; exact h16.trans hf1
              · rw [← hP, es (by omega), pAll_s, a16]
                show _ = (if q16.1 = 0 then (if 0 < tDn r16.1 then Sum.inl r16.1 else Sum.inr (6, q16.2.1)) else if q16.1 = 3 then _ else _)
                rw [if_neg (by omega), if_pos (by omega), show n + 1 - (i + 1) = n - i by omega]
            · refine aw_aload_0 (q := 65) F dE_readText_64 rfl ?_
              refine aw_iconst (q := 66) F dE_readText_65 rfl (by decide) ?_
              refine av_callV1 (q := 69) (ci := 3) F hm mE_fail_i mE_fail_n lE_49 dE_readText_66 rfl rfl rfl (by first | exact hs.o | exact hs.to) (by decide) (Nat.le_refl _) (Nat.le_refl _) (Nat.le_of_ble_eq_true rfl) (wE_fail hs ?_)
              refine aw_zret F C dE_readText_69 rfl (by decide) (Nat.le_refl _) (Nat.le_refl _) ?_
              refine hK.2 _ 1 q16.2.1 ?_ ((hF.tr b16).up (by omega) (Or.inr (by decide))) (up2_same _ _ _ _) ((TK1 d16).1)
              rw [← hP, es (by omega), pAll_s, a16]
              show (if q16.1 = 0 then (if 0 < tDn r16.1 then Sum.inl r16.1 else Sum.inr (6, q16.2.1)) else if q16.1 = 3 then _ else _) = _
              rw [if_neg (by omega), if_neg (by omega)]
          · refine aw_aload_0 (q := 32) F dE_readText_31 rfl ?_
            refine av_getaE (q := 35) F fE_12 dE_readText_32 rfl rfl (by first | exact hs.o | exact hs.to) hs.p0 ?_
            refine av_geti (q := 38) F fE_46 dE_readText_35 rfl rfl (by first | exact hs.o | exact hs.to) ?_
            refine aw_if_gt (q := 41) (t := 50) F dE_readText_38 rfl (by decide) (fun c38 => ?_) (fun c38 => ?_)
            · refine aw_iconst (q := 51) F dE_readText_50 rfl (by decide) ?_
              refine aw_goto (t := 55) F dE_readText_51 (by decide) ?_
              refine aw_zret F C dE_readText_55 rfl (by decide) (Nat.le_refl _) (Nat.le_refl _) ?_
              refine hK.1 v16 r16.1 ?_ (hF.tr b16) c16.1 o16.1 (by omega) (h16.trans hf1)
              rw [← hP, es (by omega), pAll_s, a16]
              show (if q16.1 = 0 then (if 0 < tDn r16.1 then Sum.inl r16.1 else Sum.inr (6, q16.2.1)) else _) = _
              rw [if_pos (by omega), if_pos (by omega)]
            · refine aw_aload_0 (q := 42) F dE_readText_41 rfl ?_
              refine aw_bipush (q := 44) F dE_readText_42 rfl (by decide) ?_
              refine av_callV1 (q := 47) (ci := 3) F hm mE_fail_i mE_fail_n lE_49 dE_readText_44 rfl rfl rfl (by first | exact hs.o | exact hs.to) (by decide) (Nat.le_refl _) (Nat.le_refl _) (Nat.le_of_ble_eq_true rfl) (wE_fail hs ?_)
              refine aw_if_eq (q := 50) (t := 54) F dE_readText_47 rfl (by decide) (fun c47 => ?_) (fun c47 => absurd c47 (by decide))
              refine aw_iconst (q := 55) F dE_readText_54 rfl (by decide) ?_
              refine aw_zret F C dE_readText_55 rfl (by decide) (Nat.le_refl _) (Nat.le_refl _) ?_
              refine hK.2 _ 6 q16.2.1 ?_ ((hF.tr b16).up (by omega) (Or.inr (by decide))) (up2_same _ _ _ _) ((TK1 d16).1)
              rw [← hP, es (by omega), pAll_s, a16]
              show (if q16.1 = 0 then (if 0 < tDn r16.1 then Sum.inl r16.1 else Sum.inr (6, q16.2.1)) else _) = _
              rw [if_pos (by omega), if_neg (by omega)]
        · refine aw_if_ne (q := 22) (t := 24) F dE_readText_19 rfl (by decide) (fun c19 => absurd c19 (by decide)) (fun c19 => ?_)
          refine aw_iconst (q := 23) F dE_readText_22 rfl (by decide) ?_
          refine aw_zret F C dE_readText_23 rfl (by decide) (Nat.le_refl _) (Nat.le_refl _) ?_
          refine hK.2 v16 f16 p16 ?_ (hF.tr b16) c16 d16
          rw [← hP, es (by omega), pAll_s, a16]
  refine aw_aload_0 (q := 1) F dE_readText_0 rfl ?_
  refine av_callV0 (q := 4) (ci := 3) F hm mE_advance_i mE_advance_n lE_36 dE_readText_1 rfl rfl rfl (by first | exact hs.o | exact hs.to) (by decide) (Nat.le_refl _) (Nat.le_refl _) (Nat.le_of_ble_eq_true rfl) (wE_advance (p := 0) hs hX (by rw [h2, h5]; rfl) (Nat.zero_le _) (fun v1 f1 k1 => ?_))
  refine aw_pop (q := 5) F dE_readText_4 rfl trivial ?_
  refine aw_iconst (q := 6) F dE_readText_5 rfl (by decide) ?_
  refine aw_istore_1 (q := 7) F dE_readText_6 rfl trivial ?_
  exact loop _ 0 rfl (by omega) v1 r (lexT B n 0) _ f1.rd (hR.tk f1) ho k1 (lex_ok (Nat.zero_le _)) (f1.2 1 (by decide) (by decide) (by decide) (by decide) (by decide)) rfl rfl
end Read7
