section Rows2
variable {G : GE} {V : Nat → Nat → Int} {σ : Shp} {s qn kn Q : Nat} {K : Option AV → Mem → Prop} {c : Cfg} {L : List (Nat × Nat)} {r rn vn ln A B C : Nat}
theorem wR_howMany {x : Int} {n v : Nat} (hx : x = n) (hn : n < 7) (hr : rS σ r rn vn ln A B C) (hv : V (r + 1) n = v) (hv2 : v < 2147483648) (hK : K (some (vI (v / 16 : Nat))) (V, σ)) : Wp G 0 mR_howMany [vR r, vI x] (V, σ) 0 0 K := by
  refine wp_intro mR_howMany_i.1 [some (vR r), some (vI x)] rfl rfl (Nat.le_of_ble_eq_true rfl) ?_
  intro X hG F C
  have hm := C.rm
  refine aw_iload_1 (q := 1) F dR_howMany_0 rfl ?_
  refine aw_if_lt (q := 4) (t := 21) F dR_howMany_1 rfl (by decide) (fun c1 => by omega) (fun c1 => ?_)
  refine aw_iload_1 (q := 5) F dR_howMany_4 rfl ?_
  refine aw_bipush (q := 7) F dR_howMany_5 rfl (by decide) ?_
  refine aw_icmp_ge (q := 10) (t := 21) F dR_howMany_7 rfl (by decide) (fun c7 => by omega) (fun c7 => ?_)
  refine aw_aload_0 (q := 11) F dR_howMany_10 rfl ?_
  refine av_getaE (q := 14) F fR_11 dR_howMany_11 rfl rfl (by first | exact hr.o | exact hr.a1) hr.p1 ?_
  refine aw_iload_1 (q := 15) F dR_howMany_14 rfl ?_
  refine av_iaload (q := 16) F dR_howMany_15 rfl (by first | exact hr.o | exact hr.a1) (by omega) (by omega) ?_
  refine aw_iconst (q := 17) F dR_howMany_16 rfl (by decide) ?_
  refine aw_ishr (q := 18) F dR_howMany_17 rfl ?_
  rw [show x.toNat = n by omega, hv, show zshr (v : Int) 4 = ((v / 16 : Nat) : Int) by rw [show (4 : Int) = ((4 : Nat) : Int) from rfl, zshr_i ⟨by omega, by omega⟩ (by decide)]; simp]
  refine aw_goto (t := 22) F dR_howMany_18 (by decide) ?_
  refine aw_iret F C dR_howMany_22 rfl (Nat.le_refl _) (Nat.le_refl _) ?_
  exact hK
theorem wR_lastDoors {x : Int} {n v : Nat} (hx : x = n) (hn : n < 7) (hr : rS σ r rn vn ln A B C) (hv : V (r + 1) n = v) (hv2 : v < 2147483648) (hK : K (some (vI (v % 16 : Nat))) (V, σ)) : Wp G 0 mR_lastDoors [vR r, vI x] (V, σ) 0 0 K := by
  refine wp_intro mR_lastDoors_i.1 [some (vR r), some (vI x)] rfl rfl (Nat.le_of_ble_eq_true rfl) ?_
  intro X hG F C
  have hm := C.rm
  refine aw_iload_1 (q := 1) F dR_lastDoors_0 rfl ?_
  refine aw_if_lt (q := 4) (t := 22) F dR_lastDoors_1 rfl (by decide) (fun c1 => by omega) (fun c1 => ?_)
  refine aw_iload_1 (q := 5) F dR_lastDoors_4 rfl ?_
  refine aw_bipush (q := 7) F dR_lastDoors_5 rfl (by decide) ?_
  refine aw_icmp_ge (q := 10) (t := 22) F dR_lastDoors_7 rfl (by decide) (fun c7 => by omega) (fun c7 => ?_)
  refine aw_aload_0 (q := 11) F dR_lastDoors_10 rfl ?_
  refine av_getaE (q := 14) F fR_11 dR_lastDoors_11 rfl rfl (by first | exact hr.o | exact hr.a1) hr.p1 ?_
  refine aw_iload_1 (q := 15) F dR_lastDoors_14 rfl ?_
  refine av_iaload (q := 16) F dR_lastDoors_15 rfl (by first | exact hr.o | exact hr.a1) (by omega) (by omega) ?_
  refine aw_bipush (q := 18) F dR_lastDoors_16 rfl (by decide) ?_
  refine aw_iand (q := 19) F dR_lastDoors_18 rfl ?_
  rw [show x.toNat = n by omega, hv, show zand (v : Int) 15 = ((v % 16 : Nat) : Int) by rw [show (15 : Int) = ((15 : Nat) : Int) from rfl, zand_mask 4 (by decide) rfl]; simp]
  refine aw_goto (t := 23) F dR_lastDoors_19 (by decide) ?_
  refine aw_iret F C dR_lastDoors_23 rfl (Nat.le_refl _) (Nat.le_refl _) ?_
  exact hK
theorem wR_beginningWith {x y : Int} {n k v : Nat} (hx : x = k) (hy : y = n) (hn : n < 7) (hk : k < 16) (hr : rS σ r rn vn ln A B C) (hv : V (r + 2) (k * 7 + n) = v) (hv2 : v < 2147483648) (hK : K (some (vI (v / 16 : Nat))) (V, σ)) : Wp G 0 mR_beginningWith [vR r, vI x, vI y] (V, σ) 0 0 K := by
  refine wp_intro mR_beginningWith_i.1 [some (vR r), some (vI x), some (vI y), none] rfl rfl (Nat.le_of_ble_eq_true rfl) ?_
  intro X hG F C
  have hm := C.rm
  refine aw_iload_1 (q := 1) F dR_beginningWith_0 rfl ?_
  refine aw_bipush (q := 3) F dR_beginningWith_1 rfl (by decide) ?_
  refine aw_imul (q := 4) F dR_beginningWith_3 rfl (by constructor <;> omega) ?_
  refine aw_iload_2 (q := 5) F dR_beginningWith_4 rfl ?_
  refine aw_iadd (q := 6) F dR_beginningWith_5 rfl (by constructor <;> omega) ?_
  refine aw_istore_3 (q := 7) F dR_beginningWith_6 rfl trivial ?_
  refine aw_iload_3 (q := 8) F dR_beginningWith_7 rfl ?_
  refine aw_if_lt (q := 11) (t := 31) F dR_beginningWith_8 rfl (by decide) (fun c8 => by omega) (fun c8 => ?_)
  refine aw_iload_3 (q := 12) F dR_beginningWith_11 rfl ?_
  refine aw_aload_0 (q := 13) F dR_beginningWith_12 rfl ?_
  refine av_getaE (q := 16) F fR_15 dR_beginningWith_13 rfl rfl (by first | exact hr.o | exact hr.a2) hr.p2 ?_
  refine av_alen (q := 17) F dR_beginningWith_16 rfl (by first | exact hr.o | exact hr.a2) (by decide) (by omega) ?_
  refine aw_icmp_ge (q := 20) (t := 31) F dR_beginningWith_17 rfl (by decide) (fun c17 => by omega) (fun c17 => ?_)
  refine aw_aload_0 (q := 21) F dR_beginningWith_20 rfl ?_
  refine av_getaE (q := 24) F fR_15 dR_beginningWith_21 rfl rfl (by first | exact hr.o | exact hr.a2) hr.p2 ?_
  refine aw_iload_3 (q := 25) F dR_beginningWith_24 rfl ?_
  refine av_iaload (q := 26) F dR_beginningWith_25 rfl (by first | exact hr.o | exact hr.a2) (by omega) (by omega) ?_
  refine aw_iconst (q := 27) F dR_beginningWith_26 rfl (by decide) ?_
  refine aw_ishr (q := 28) F dR_beginningWith_27 rfl ?_
  rw [show (x * 7 + y).toNat = k * 7 + n by omega, hv, show zshr (v : Int) 4 = ((v / 16 : Nat) : Int) by rw [show (4 : Int) = ((4 : Nat) : Int) from rfl, zshr_i ⟨by omega, by omega⟩ (by decide)]; simp]
  refine aw_goto (t := 32) F dR_beginningWith_28 (by decide) ?_
  refine aw_iret F C dR_beginningWith_32 rfl (Nat.le_refl _) (Nat.le_refl _) ?_
  exact hK
def nfV (c : Cfg) (m n : Nat) (g : Nat → Nat) (f : Nat → Int) (k : Nat) : Nat → Int := fun e => if e % 7 = n ∧ e / 7 < k ∧ mayN c m (allP c) (e / 7) = true then ((g (aftN c m (e / 7)) : Nat) : Int) else f e
theorem nfV_0 (c : Cfg) (m n : Nat) (g : Nat → Nat) (f : Nat → Int) : nfV c m n g f 0 = f := by
  funext e
  unfold nfV
  rw [if_neg (by omega)]
theorem nfV_no {c : Cfg} {m n : Nat} {g : Nat → Nat} {f : Nat → Int} {k : Nat} (h : mayN c m (allP c) k = false) : nfV c m n g f (k + 1) = nfV c m n g f k := by
  funext e
  unfold nfV
  by_cases he : e / 7 = k
  · rw [if_neg (fun q => by rw [he, h] at q; exact absurd q.2.2 (by decide)), if_neg (by omega)]
  · have : e / 7 < k + 1 ↔ e / 7 < k := by omega
    simp only [this]
theorem nfV_yes {c : Cfg} {m n : Nat} {g : Nat → Nat} {f : Nat → Int} {k e : Nat} (hn : n < 7) (h : mayN c m (allP c) k = true) : nfV c m n g f (k + 1) e = if e = k * 7 + n then ((g (aftN c m k) : Nat) : Int) else nfV c m n g f k e := by
  unfold nfV
  by_cases he : e = k * 7 + n
  · rw [if_pos he, show e / 7 = k by omega, if_pos ⟨by omega, by omega, h⟩]
  · rw [if_neg he]
    by_cases hk : e / 7 = k
    · rw [if_neg (by omega), if_neg (by omega)]
    · have : e / 7 < k + 1 ↔ e / 7 < k := by omega
      simp only [this]
theorem wR_noteFirsts {x : Int} {n m D : Nat} {q : Nat × Nat} {g : Nat → Nat} (hx : x = n) (hn : n < 7) (hq : L[0]? = some q) (hs : sS σ s qn kn Q) (hE : SE V s qn kn Q c L m D) (hr : rS σ r rn vn ln A B C) (hk : rkOK V rn A Q L) (hrn : rn < s ∨ s + 6 < rn) (hvn : vn < s ∨ s + 6 < vn) (hr2 : r + 2 < s ∨ s + 6 < r + 2) (hd : r + 2 ≠ rn ∧ r + 2 ≠ vn ∧ r + 2 ≠ qn ∧ r + 2 ≠ kn) (hB : B < 2147483648) (hg : ∀ k, k < stN c → mayN c q.1 (allP c) k = true → rkL L (aftN c q.1 k) < B ∧ V vn (rkL L (aftN c q.1 k)) = g (aftN c q.1 k)) (hK : ∀ V', (∀ b, b < s + 1 ∨ s + 6 < b → b ≠ r + 2 → V' b = V b) → HH V' (s + 1) c q.1 → V' (r + 2) = nfV c q.1 n g (V (r + 2)) (stN c) → K none (V', σ)) : Wp G 3 mR_noteFirsts [vR r, vR s, vI x] (V, σ) 0 0 K := by
  have hc := hE.2.1.1
  have hb := hE.1.2.2.2.2.2.1 q (List.mem_of_getElem? hq)
  have hvs := hE.1.2.2.2.2.2.2
  have hsp := spc_le hc
  have hst := stN_le hc
  have h4 := allP_lt hc
  have hqs := hs.qs
  have hks := hs.ks
  refine wp_intro mR_noteFirsts_i.1 [some (vR r), some (vR s), some (vI x), none, none, none] rfl rfl (Nat.le_of_ble_eq_true rfl) ?_
  intro X hG F C
  have hm := C.rm
  have loop : ∀ (j k : Nat), stN c - k = j → k ≤ stN c → ∀ (V1 : Nat → Nat → Int) (w : Int) (u : Option AV), (∀ b, b < s + 1 ∨ s + 6 < b → b ≠ r + 2 → V1 b = V b) → HH V1 (s + 1) c q.1 → V1 (r + 2) = nfV c q.1 n g (V (r + 2)) k → w = k → AW X 17 [some (vR r), some (vR s), some (vI x), some (vR (s + 1)), some (vI w), u] [] (V1, σ) 0 0 := by
    intro j
    induction j using Nat.strongRecOn with
    | ind j ih =>
      intro k hj hk1 V1 w u hF hh hnf hw
      have hV1 : SV V1 s qn kn Q c L := hE.1.same (by rw [hF s (by omega) (by omega)]) (by rw [hF s (by omega) (by omega)]) (hF qn (by omega) (by omega)) (hF kn (by omega) (by omega))
      have hk2 : rkOK V1 rn A Q L := ⟨hk.1, by rw [hF rn (by omega) (by omega)]; exact hk.2⟩
      have v2 : V1 (s + 1) 2 = stN c := hh.2.1.2.2.1
      have ew : w.toNat = k := by omega
      refine aw_iload_4 (q := 19) F dR_noteFirsts_17 rfl ?_
      refine aw_aload_3 (q := 20) F dR_noteFirsts_19 rfl ?_
      refine av_geti (q := 23) F fR_111 dR_noteFirsts_20 rfl rfl (by first | exact hs.o | exact hs.ho | exact hr.o | exact hr.a1 | exact hr.a2 | exact hr.a3 | exact hr.a5 | exact hr.a6) ?_
      refine aw_icmp_ge (q := 26) (t := 82) F dR_noteFirsts_23 rfl (by decide) (fun c23 => ?_) (fun c23 => ?_)
      · refine aw_vret F C dR_noteFirsts_82 rfl (Nat.le_refl _) (Nat.le_refl _) ?_
        rw [show k = stN c by omega] at hnf; exact hK V1 hF hh hnf
      · refine aw_iload_4 (q := 28) F dR_noteFirsts_26 rfl ?_
        refine aw_bipush (q := 30) F dR_noteFirsts_28 rfl (by decide) ?_
        refine aw_imul (q := 31) F dR_noteFirsts_30 rfl (by constructor <;> omega) ?_
        refine aw_iload_2 (q := 32) F dR_noteFirsts_31 rfl ?_
        refine aw_iadd (q := 33) F dR_noteFirsts_32 rfl (by constructor <;> omega) ?_
        refine aw_istore_5 (q := 35) F dR_noteFirsts_33 rfl trivial ?_
        refine aw_aload_3 (q := 36) F dR_noteFirsts_35 rfl ?_
        refine aw_iload_4 (q := 38) F dR_noteFirsts_36 rfl ?_
        refine aw_aload_3 (q := 39) F dR_noteFirsts_38 rfl ?_
        refine av_callV0 (q := 42) (ci := 2) F hm mH_everybody_i mH_everybody_n lR_114 dR_noteFirsts_39 rfl rfl rfl (by first | exact hs.o | exact hs.ho | exact hr.o | exact hr.a1 | exact hr.a2 | exact hr.a3 | exact hr.a5 | exact hr.a6) (by decide) (Nat.le_refl _) (Nat.le_refl _) (Nat.le_of_ble_eq_true rfl) (wH_everybody hs.h hh ?_)
        refine av_callV2 (q := 45) (ci := 2) F hm mH_may_i mH_may_n lR_117 dR_noteFirsts_42 rfl rfl rfl (by first | exact hs.o | exact hs.ho | exact hr.o | exact hr.a1 | exact hr.a2 | exact hr.a3 | exact hr.a5 | exact hr.a6) (by decide) (Nat.le_refl _) (Nat.le_refl _) (Nat.le_of_ble_eq_true rfl) (wH_may (c := c) (n := q.1) (th := allP c) rfl h4 hs.h hh (fun a42 b42 m42 => ?_) (fun m42 => ?_))
        · refine aw_if_eq (q := 48) (t := 76) F dR_noteFirsts_45 rfl (by decide) (fun c45 => absurd c45 (by decide)) (fun c45 => ?_)
          refine aw_iload_5 (q := 50) F dR_noteFirsts_48 rfl ?_
          refine aw_aload_0 (q := 51) F dR_noteFirsts_50 rfl ?_
          refine av_getaE (q := 54) F fR_15 dR_noteFirsts_51 rfl rfl (by first | exact hs.o | exact hs.ho | exact hr.o | exact hr.a1 | exact hr.a2 | exact hr.a3 | exact hr.a5 | exact hr.a6) hr.p2 ?_
          refine av_alen (q := 55) F dR_noteFirsts_54 rfl (by first | exact hs.o | exact hs.ho | exact hr.o | exact hr.a1 | exact hr.a2 | exact hr.a3 | exact hr.a5 | exact hr.a6) (by decide) (by omega) ?_
          refine aw_icmp_ge (q := 58) (t := 76) F dR_noteFirsts_55 rfl (by decide) (fun c55 => by omega) (fun c55 => ?_)
          rw [ew] at m42
          obtain ⟨g1, g2⟩ := hg k (by omega) m42
          have hal := aft_lt hb.1 (by omega) m42
          have hv1 : V1 vn (rkL L (aftN c q.1 k)) = g (aftN c q.1 k) := by rw [hF vn (by omega) (by omega)]; exact g2
          refine aw_aload_0 (q := 59) F dR_noteFirsts_58 rfl ?_
          refine av_getaE (q := 62) F fR_15 dR_noteFirsts_59 rfl rfl (by first | exact hs.o | exact hs.ho | exact hr.o | exact hr.a1 | exact hr.a2 | exact hr.a3 | exact hr.a5 | exact hr.a6) hr.p2 ?_
          refine aw_iload_5 (q := 64) F dR_noteFirsts_62 rfl ?_
          refine aw_aload_0 (q := 65) F dR_noteFirsts_64 rfl ?_
          refine aw_aload_3 (q := 66) F dR_noteFirsts_65 rfl ?_
          refine aw_iload_4 (q := 68) F dR_noteFirsts_66 rfl ?_
          refine av_callV1 (q := 71) (ci := 2) F hm mH_after_i mH_after_n lR_121 dR_noteFirsts_68 rfl rfl rfl (by first | exact hs.o | exact hs.ho | exact hr.o | exact hr.a1 | exact hr.a2 | exact hr.a3 | exact hr.a5 | exact hr.a6) (by decide) (Nat.le_refl _) (Nat.le_refl _) (Nat.le_of_ble_eq_true rfl) (wH_after (by omega) hb.1 hs.h hh ?_)
          refine aw_aload_1 (q := 72) F dR_noteFirsts_71 rfl ?_
          refine av_callV2 (q := 75) (ci := 4) F hm mR_valueOf_i mR_valueOf_n lR_69 dR_noteFirsts_72 rfl rfl rfl (by first | exact hs.o | exact hs.ho | exact hr.o | exact hr.a1 | exact hr.a2 | exact hr.a3 | exact hr.a5 | exact hr.a6) (by decide) (Nat.le_refl _) (Nat.le_refl _) (Nat.le_of_ble_eq_true rfl) (wR_valueOf (L := L) (a := aftN c q.1 k) (by rw [ew]) (by omega) g1 hB hs hV1 hr hk2 ?_)
          rw [hv1]
          refine av_iastore (q := 76) F dR_noteFirsts_75 rfl (by first | exact hs.o | exact hs.ho | exact hr.o | exact hr.a1 | exact hr.a2 | exact hr.a3 | exact hr.a5 | exact hr.a6) (by omega) (by omega) ?_
          first | rw [show (w * 7 + x).toNat = k * 7 + n by omega] | skip
          refine aw_iinc_4 (q := 79) F dR_noteFirsts_76 rfl trivial (by constructor <;> omega) ?_
          refine aw_goto (t := 17) F dR_noteFirsts_79 (by decide) ?_
          first
          | (refine ih _ (by omega) (k + 1) rfl (by omega) _ _ _ (fun b h1 h2 => by rw [up2_nea _ _ h2]; exact hF b h1 h2) (hh.same (fun b h1 h2 => up2_nea _ _ (by omega))) ?_ (by omega)
             funext e
             rw [nfV_yes hn m42, ← hnf, up2_at])
          | (have m42 := m42 (by omega) (by omega); rw [ew] at m42; exact ih _ (by omega) (k + 1) rfl (by omega) _ _ _ hF hh (by rw [nfV_no m42]; exact hnf) (by omega))
        · refine aw_if_eq (q := 48) (t := 76) F dR_noteFirsts_45 rfl (by decide) (fun c45 => ?_) (fun c45 => absurd c45 (by decide))
          first | rw [show (w * 7 + x).toNat = k * 7 + n by omega] | skip
          refine aw_iinc_4 (q := 79) F dR_noteFirsts_76 rfl trivial (by constructor <;> omega) ?_
          refine aw_goto (t := 17) F dR_noteFirsts_79 (by decide) ?_
          first
          | (refine ih _ (by omega) (k + 1) rfl (by omega) _ _ _ (fun b h1 h2 => by rw [up2_nea _ _ h2]; exact hF b h1 h2) (hh.same (fun b h1 h2 => up2_nea _ _ (by omega))) ?_ (by omega)
             funext e
             rw [nfV_yes hn m42, ← hnf, up2_at])
          | (have m42 := m42 (by omega) (by omega); rw [ew] at m42; exact ih _ (by omega) (k + 1) rfl (by omega) _ _ _ hF hh (by rw [nfV_no m42]; exact hnf) (by omega))
  refine aw_aload_1 (q := 1) F dR_noteFirsts_0 rfl ?_
  refine av_getaE (q := 4) F fR_92 dR_noteFirsts_1 rfl rfl (by first | exact hs.o | exact hs.ho | exact hr.o | exact hr.a1 | exact hr.a2 | exact hr.a3 | exact hr.a5 | exact hr.a6) hs.p0 ?_
  refine aw_astore_3 (q := 5) F dR_noteFirsts_4 rfl trivial ?_
  refine aw_aload_3 (q := 6) F dR_noteFirsts_5 rfl ?_
  refine aw_aload_1 (q := 7) F dR_noteFirsts_6 rfl ?_
  refine aw_iconst (q := 8) F dR_noteFirsts_7 rfl (by decide) ?_
  refine av_callV1 (q := 11) (ci := 5) F hm mS_arrangementAt_i mS_arrangementAt_n lR_65 dR_noteFirsts_8 rfl rfl rfl (by first | exact hs.o | exact hs.ho | exact hr.o | exact hr.a1 | exact hr.a2 | exact hr.a3 | exact hr.a5 | exact hr.a6) (by decide) (Nat.le_refl _) (Nat.le_refl _) (Nat.le_of_ble_eq_true rfl) (wS_arrangementAt (i := 0) rfl hq hs hE.1 ?_)
  refine av_callV1 (q := 14) (ci := 2) F hm mH_put_i mH_put_n lR_96 dR_noteFirsts_11 rfl rfl rfl (by first | exact hs.o | exact hs.ho | exact hr.o | exact hr.a1 | exact hr.a2 | exact hr.a3 | exact hr.a5 | exact hr.a6) (by decide) (Nat.le_refl _) (Nat.le_refl _) (Nat.le_of_ble_eq_true rfl) (wH_put (c := c) rfl (by omega) hs.h hc hE.2.1.2.1 (fun v11 f11 g11 => ?_))
  refine aw_iconst (q := 15) F dR_noteFirsts_14 rfl (by decide) ?_
  refine aw_istore_4 (q := 17) F dR_noteFirsts_15 rfl trivial ?_
  exact loop _ 0 rfl (by omega) v11 _ none (fun b h1 h2 => f11.1 b (by omega) (by omega) (by omega)) (hE.2.1.put f11 g11) (by rw [nfV_0]; exact f11.1 _ (by omega) (by omega) (by omega)) rfl
end Rows2
