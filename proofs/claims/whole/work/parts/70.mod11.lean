section Mod11
variable {G : GE} {V : Nat → Nat → Int} {σ : Shp} {K : Option AV → Mem → Prop} {l : Nat} {c : Cfg} {n : Nat}
theorem wM_lays {w : Int} {m : Nat} (hw : w = mnN c n) (hn : n < spc c) (hM : moS σ l) (hl : laS σ l) (hC : LC V l c) (hA : AR (V 56) c m) (hc : okC c) (hl56 : l ≠ 56) (hK : ∀ V', XF V V' → AR (V' 56) c n → K none (V', σ)) : Wp G 0 mM_lays [vR 53, vI w] (V, σ) 0 0 K := by
  have h1 := hC.1
  have h2 := hC.2.1
  have hd4 : dN c ≤ 4 := hc.1
  have hp2 : pN c ≤ 2 := hc.2.1
  have hBs : (Bs c : Int) = (dN c : Int) + 1 := by unfold Bs; omega
  have hN := mnN_lt hn
  have hsp := spc_le hc
  have hll := lst_lt hn
  obtain ⟨m1, m2⟩ := dig_mod (a := mnB c n (dN c)) hll
  obtain ⟨q1, q2⟩ := tdm (s := w) (D := dN c) (by omega)
  rw [show w.toNat = mnN c n by omega] at q1 q2
  rw [show mnN c n / dN c = mnB c n (dN c) from m2] at q1
  rw [show mnN c n % dN c = lst c n from m1] at q2
  refine wp_intro mM_lays_i.1 [some (vR 53), some (vI w), none, none, none] rfl rfl (Nat.le_of_ble_eq_true rfl) ?_
  intro X hG F C
  have hm := C.rm
  have loopA : ∀ (p : Nat) (V1 : Nat → Nat → Int), p ≤ pN c → XF V V1 → LY (V1 56) c n 0 p → ∀ (y z : Int), y = (mnA c n p : Nat) → z = (p : Int) - 1 → AW X 85 [some (vR 53), some (vI w), some (vI (Bs c)), some (vI y), some (vI z)] [] (V1, σ) 0 0 := by
    intro p
    induction p with
    | zero =>
      intro V1 hp f g y z hy hz
      refine aw_iload_4 (q := 87) F dM_lays_85 rfl ?_
      refine aw_if_lt (q := 90) (t := 110) F dM_lays_87 rfl (by decide) (fun c87 => ?_) (fun c87 => by omega)
      refine aw_vret F C dM_lays_110 rfl (Nat.le_refl _) (Nat.le_refl _) ?_
      exact hK _ f g.ar
    | succ p ih =>
      intro V1 hp f g y z hy hz
      obtain ⟨t1, t2⟩ := tdm (s := y) (D := Bs c) (by omega)
      obtain ⟨a1, a2⟩ := dig_mod (a := mnA c n p) (pl_lt c n p)
      rw [show y.toNat = mnA c n (p + 1) by omega] at t1 t2
      rw [show mnA c n (p + 1) / Bs c = mnA c n p from a2] at t1
      rw [show mnA c n (p + 1) % Bs c = pl c n p from a1] at t2
      refine aw_iload_4 (q := 87) F dM_lays_85 rfl ?_
      refine aw_if_lt (q := 90) (t := 110) F dM_lays_87 rfl (by decide) (fun c87 => by omega) (fun c87 => ?_)
      refine aw_aload_0 (q := 91) F dM_lays_90 rfl ?_
      refine av_getaE (q := 94) F fM_21 dM_lays_91 rfl rfl (by first | exact hM.o | exact hl.o | exact hM.a55 | exact hM.a56) hM.p16 ?_
      refine aw_iload_4 (q := 96) F dM_lays_94 rfl ?_
      refine aw_iload_3 (q := 97) F dM_lays_96 rfl ?_
      refine aw_iload_2 (q := 98) F dM_lays_97 rfl ?_
      refine aw_irem (q := 99) F dM_lays_98 rfl (by omega) (by omega) ?_
      rw [t2]
      refine av_iastore (q := 100) F dM_lays_99 rfl (by first | exact hM.o | exact hl.o | exact hM.a55 | exact hM.a56) (by omega) (by omega) ?_
      refine aw_iload_3 (q := 101) F dM_lays_100 rfl ?_
      refine aw_iload_2 (q := 102) F dM_lays_101 rfl ?_
      refine aw_idiv (q := 103) F dM_lays_102 rfl (by omega) (by omega) ?_
      rw [t1]
      refine aw_istore_3 (q := 104) F dM_lays_103 rfl trivial ?_
      refine aw_iinc_4 (q := 107) F dM_lays_104 rfl trivial (by constructor <;> omega) ?_
      refine aw_goto (t := 85) F dM_lays_107 (by decide) ?_
      refine ih _ (by omega) f.up (g.pers hc (by omega) fun j => ?_) _ _ rfl (by omega)
      rw [up2_at, show z.toNat = p by omega]
  have loopB : ∀ (d : Nat) (V1 : Nat → Nat → Int), d ≤ dN c → XF V V1 → LY (V1 56) c n d (pN c) → ∀ (y z : Int), y = (mnB c n d : Nat) → z = (d : Int) - 1 → AW X 47 [some (vR 53), some (vI w), some (vI (Bs c)), some (vI y), some (vI z)] [] (V1, σ) 0 0 := by
    intro d
    induction d with
    | zero =>
      intro V1 hp f g y z hy hz
      have h2' : V1 l 2 = pN c := by rw [f l hl56, h2]
      refine aw_iload_4 (q := 49) F dM_lays_47 rfl ?_
      refine aw_if_lt (q := 52) (t := 74) F dM_lays_49 rfl (by decide) (fun c49 => ?_) (fun c49 => by omega)
      refine aw_aload_0 (q := 75) F dM_lays_74 rfl ?_
      refine av_getaE (q := 78) F fM_281 dM_lays_75 rfl rfl (by first | exact hM.o | exact hl.o | exact hM.a55 | exact hM.a56) hM.p3 ?_
      refine av_geti (q := 81) F fM_253 dM_lays_78 rfl rfl (by first | exact hM.o | exact hl.o | exact hM.a55 | exact hM.a56) ?_
      refine aw_iconst (q := 82) F dM_lays_81 rfl (by decide) ?_
      refine aw_isub (q := 83) F dM_lays_82 rfl (by rw [h2']; omega) ?_
      refine aw_istore_4 (q := 85) F dM_lays_83 rfl trivial ?_
      exact loopA (pN c) V1 (Nat.le_refl _) f g _ _ hy (by rw [h2'])
    | succ d ih =>
      intro V1 hp f g y z hy hz
      obtain ⟨t1, t2⟩ := tdm (s := y) (D := Bs c) (by omega)
      obtain ⟨a1, a2⟩ := dig_mod (a := mnB c n d) (ld_lt c n d)
      rw [show y.toNat = mnB c n (d + 1) by omega] at t1 t2
      rw [show mnB c n (d + 1) / Bs c = mnB c n d from a2] at t1
      rw [show mnB c n (d + 1) % Bs c = ld c n d from a1] at t2
      refine aw_iload_4 (q := 49) F dM_lays_47 rfl ?_
      refine aw_if_lt (q := 52) (t := 74) F dM_lays_49 rfl (by decide) (fun c49 => by omega) (fun c49 => ?_)
      refine aw_aload_0 (q := 53) F dM_lays_52 rfl ?_
      refine av_getaE (q := 56) F fM_21 dM_lays_53 rfl rfl (by first | exact hM.o | exact hl.o | exact hM.a55 | exact hM.a56) hM.p16 ?_
      refine aw_iconst (q := 57) F dM_lays_56 rfl (by decide) ?_
      refine aw_iload_4 (q := 59) F dM_lays_57 rfl ?_
      refine aw_iadd (q := 60) F dM_lays_59 rfl (by constructor <;> omega) ?_
      refine aw_iload_3 (q := 61) F dM_lays_60 rfl ?_
      refine aw_iload_2 (q := 62) F dM_lays_61 rfl ?_
      refine aw_irem (q := 63) F dM_lays_62 rfl (by omega) (by omega) ?_
      rw [t2]
      refine av_iastore (q := 64) F dM_lays_63 rfl (by first | exact hM.o | exact hl.o | exact hM.a55 | exact hM.a56) (by omega) (by omega) ?_
      refine aw_iload_3 (q := 65) F dM_lays_64 rfl ?_
      refine aw_iload_2 (q := 66) F dM_lays_65 rfl ?_
      refine aw_idiv (q := 67) F dM_lays_66 rfl (by omega) (by omega) ?_
      rw [t1]
      refine aw_istore_3 (q := 68) F dM_lays_67 rfl trivial ?_
      refine aw_iinc_4 (q := 71) F dM_lays_68 rfl trivial (by constructor <;> omega) ?_
      refine aw_goto (t := 47) F dM_lays_71 (by decide) ?_
      refine ih _ (by omega) f.up (g.door hc (by omega) fun j => ?_) _ _ rfl (by omega)
      rw [up2_at, show (2 + z).toNat = 2 + d by omega]
  refine aw_aload_0 (q := 1) F dM_lays_0 rfl ?_
  refine av_getaE (q := 4) F fM_281 dM_lays_1 rfl rfl (by first | exact hM.o | exact hl.o | exact hM.a55 | exact hM.a56) hM.p3 ?_
  refine av_geti (q := 7) F fM_183 dM_lays_4 rfl rfl (by first | exact hM.o | exact hl.o | exact hM.a55 | exact hM.a56) ?_
  refine aw_iconst (q := 8) F dM_lays_7 rfl (by decide) ?_
  refine aw_iadd (q := 9) F dM_lays_8 rfl (by rw [h1]; omega) ?_
  rw [h1, ← hBs]
  refine aw_istore_2 (q := 10) F dM_lays_9 rfl trivial ?_
  refine aw_aload_0 (q := 11) F dM_lays_10 rfl ?_
  refine av_getaE (q := 14) F fM_21 dM_lays_11 rfl rfl (by first | exact hM.o | exact hl.o | exact hM.a55 | exact hM.a56) hM.p16 ?_
  refine aw_bipush (q := 16) F dM_lays_14 rfl (by decide) ?_
  refine aw_iload_1 (q := 17) F dM_lays_16 rfl ?_
  refine aw_aload_0 (q := 18) F dM_lays_17 rfl ?_
  refine av_getaE (q := 21) F fM_281 dM_lays_18 rfl rfl (by first | exact hM.o | exact hl.o | exact hM.a55 | exact hM.a56) hM.p3 ?_
  refine av_geti (q := 24) F fM_183 dM_lays_21 rfl rfl (by first | exact hM.o | exact hl.o | exact hM.a55 | exact hM.a56) ?_
  rw [h1]
  refine aw_irem (q := 25) F dM_lays_24 rfl (by omega) (by omega) ?_
  rw [q2]
  refine av_iastore (q := 26) F dM_lays_25 rfl (by first | exact hM.o | exact hl.o | exact hM.a55 | exact hM.a56) (by omega) (by omega) ?_
  refine aw_iload_1 (q := 27) F dM_lays_26 rfl ?_
  refine aw_aload_0 (q := 28) F dM_lays_27 rfl ?_
  refine av_getaE (q := 31) F fM_281 dM_lays_28 rfl rfl (by first | exact hM.o | exact hl.o | exact hM.a55 | exact hM.a56) hM.p3 ?_
  refine av_geti (q := 34) F fM_183 dM_lays_31 rfl rfl (by first | exact hM.o | exact hl.o | exact hM.a55 | exact hM.a56) ?_
  rw [up2_nea _ _ hl56, h1]
  refine aw_idiv (q := 35) F dM_lays_34 rfl (by omega) (by omega) ?_
  rw [q1]
  refine aw_istore_3 (q := 36) F dM_lays_35 rfl trivial ?_
  refine aw_aload_0 (q := 37) F dM_lays_36 rfl ?_
  refine av_getaE (q := 40) F fM_281 dM_lays_37 rfl rfl (by first | exact hM.o | exact hl.o | exact hM.a55 | exact hM.a56) hM.p3 ?_
  refine av_geti (q := 43) F fM_183 dM_lays_40 rfl rfl (by first | exact hM.o | exact hl.o | exact hM.a55 | exact hM.a56) ?_
  refine aw_iconst (q := 44) F dM_lays_43 rfl (by decide) ?_
  rw [up2_nea _ _ hl56, h1]
  refine aw_isub (q := 45) F dM_lays_44 rfl (by constructor <;> omega) ?_
  refine aw_istore_4 (q := 47) F dM_lays_45 rfl trivial ?_
  exact loopB (dN c) _ (Nat.le_refl _) (XF.up fun _ _ => rfl) (LY.fst hA hc fun j => by rw [up2_at]; rfl) _ _ rfl (by omega)
end Mod11
