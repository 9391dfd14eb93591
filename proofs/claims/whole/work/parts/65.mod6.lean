section Mod6
variable {G : GE} {V : Nat → Nat → Int} {σ : Shp} {K : Option AV → Mem → Prop} {l : Nat} {c : Cfg} {n : Nat}
theorem XF.trans {V V1 V2 : Nat → Nat → Int} (h : XF V V1) (g : XF V1 V2) : XF V V2 := fun a ha => by rw [g a ha, h a ha]
theorem wM_goes {w x : Int} {p d : Nat} (hw : w = p) (hp : p < pN c) (hx : x = d) (hd : d < dN c) (hM : moS σ l) (hA : AR (V 56) c n) (hc : okC c) (hK : ∀ V', XF V V' → AR (V' 56) c (aG c n p d) → K none (V', σ)) : Wp G 1 mM_goes [vR 53, vI w, vI x] (V, σ) 0 0 K := by
  have hd4 : dN c ≤ 4 := hc.1
  have hp2 : pN c ≤ 2 := hc.2.1
  have e2 : V 56 (2 + d) = (ld c n d : Int) := ar_ld hA (by omega) hd
  have e0 : V 56 p = (pl c n p : Int) := ar_pl hA (by omega) hp
  have hwp : w.toNat = p := by omega
  have h2d : (2 + x).toNat = 2 + d := by omega
  have key : ∀ z : Int, z = ((if pl c n p = 0 then ld c n d else 0 : Nat) : Int) → AR (up2 V 56 p z 56) c (aG1 c n p d) := fun z hz => hA.gon hc hp fun j => by rw [up2_at, hz]
  have hkd : ∀ z : Int, up2 V 56 p z 56 (7 + d) = kdC c d := fun z => by rw [up2_nek _ _ (by omega)]; exact hA.2.2.2.1 d (by omega)
  refine wp_intro mM_goes_i.1 [some (vR 53), some (vI w), some (vI x)] rfl rfl (Nat.le_of_ble_eq_true rfl) ?_
  intro X hG F C
  have hm := C.rm
  refine aw_aload_0 (q := 1) F dM_goes_0 rfl ?_
  refine av_getaE (q := 4) F fM_21 dM_goes_1 rfl rfl (by first | exact hM.o | exact hl.o | exact hM.a55 | exact hM.a56) hM.p16 ?_
  refine aw_iload_1 (q := 5) F dM_goes_4 rfl ?_
  refine aw_aload_0 (q := 6) F dM_goes_5 rfl ?_
  refine av_getaE (q := 9) F fM_21 dM_goes_6 rfl rfl (by first | exact hM.o | exact hl.o | exact hM.a55 | exact hM.a56) hM.p16 ?_
  refine aw_iload_1 (q := 10) F dM_goes_9 rfl ?_
  refine av_iaload (q := 11) F dM_goes_10 rfl (by first | exact hM.o | exact hl.o | exact hM.a55 | exact hM.a56) (by omega) (by omega) ?_
  rw [hwp, e0]
  refine aw_if_ne (q := 14) (t := 25) F dM_goes_11 rfl (by decide) (fun c11 => ?_) (fun c11 => ?_)
  · refine aw_iconst (q := 26) F dM_goes_25 rfl (by decide) ?_
    refine av_iastore (q := 27) F dM_goes_26 rfl (by first | exact hM.o | exact hl.o | exact hM.a55 | exact hM.a56) (by omega) (by omega) ?_
    rw [hwp]
    refine aw_aload_0 (q := 28) F dM_goes_27 rfl ?_
    refine av_getaE (q := 31) F fM_21 dM_goes_28 rfl rfl (by first | exact hM.o | exact hl.o | exact hM.a55 | exact hM.a56) hM.p16 ?_
    refine aw_bipush (q := 33) F dM_goes_31 rfl (by decide) ?_
    refine aw_iload_2 (q := 34) F dM_goes_33 rfl ?_
    refine aw_iadd (q := 35) F dM_goes_34 rfl (by constructor <;> omega) ?_
    refine av_iaload (q := 36) F dM_goes_35 rfl (by first | exact hM.o | exact hl.o | exact hM.a55 | exact hM.a56) (by omega) (by omega) ?_
    rw [show (7 + x).toNat = 7 + d by omega, hkd]
    refine aw_iconst (q := 37) F dM_goes_36 rfl (by decide) ?_
    refine aw_icmp_ne (q := 40) (t := 45) F dM_goes_37 rfl (by decide) (fun c37 => ?_) (fun c37 => ?_)
    · refine aw_vret F C dM_goes_45 rfl (Nat.le_refl _) (Nat.le_refl _) ?_
      first
      | (refine hK _ ((XF.up fun _ _ => rfl).trans f42) ?_; unfold aG; rw [if_pos (by omega)]; exact g42)
      | (refine hK _ (XF.up fun _ _ => rfl) ?_; unfold aG; rw [if_neg (by omega)]; exact key _ (by first | rw [if_pos (by omega)] | (rw [if_neg (by omega)]; rfl)))
    · refine aw_aload_0 (q := 41) F dM_goes_40 rfl ?_
      refine aw_iload_2 (q := 42) F dM_goes_41 rfl ?_
      refine av_callV1 (q := 45) (ci := 9) F hm mM_shuts_i mM_shuts_n lM_317 dM_goes_42 rfl rfl rfl (by first | exact hM.o | exact hl.o | exact hM.a55 | exact hM.a56) (by decide) (Nat.le_refl _) (Nat.le_refl _) (Nat.le_of_ble_eq_true rfl) (wM_shuts (n := aG1 c n p d) hx hd hM (key _ (by first | rw [if_pos (by omega)] | (rw [if_neg (by omega)]; rfl))) hc (fun V2 f42 g42 => ?_))
      refine aw_vret F C dM_goes_45 rfl (Nat.le_refl _) (Nat.le_refl _) ?_
      first
      | (refine hK _ ((XF.up fun _ _ => rfl).trans f42) ?_; unfold aG; rw [if_pos (by omega)]; exact g42)
      | (refine hK _ (XF.up fun _ _ => rfl) ?_; unfold aG; rw [if_neg (by omega)]; exact key _ (by first | rw [if_pos (by omega)] | (rw [if_neg (by omega)]; rfl)))
  · refine aw_aload_0 (q := 15) F dM_goes_14 rfl ?_
    refine av_getaE (q := 18) F fM_21 dM_goes_15 rfl rfl (by first | exact hM.o | exact hl.o | exact hM.a55 | exact hM.a56) hM.p16 ?_
    refine aw_iconst (q := 19) F dM_goes_18 rfl (by decide) ?_
    refine aw_iload_2 (q := 20) F dM_goes_19 rfl ?_
    refine aw_iadd (q := 21) F dM_goes_20 rfl (by constructor <;> omega) ?_
    refine av_iaload (q := 22) F dM_goes_21 rfl (by first | exact hM.o | exact hl.o | exact hM.a55 | exact hM.a56) (by omega) (by omega) ?_
    rw [h2d, e2]
    refine aw_goto (t := 26) F dM_goes_22 (by decide) ?_
    refine av_iastore (q := 27) F dM_goes_26 rfl (by first | exact hM.o | exact hl.o | exact hM.a55 | exact hM.a56) (by omega) (by omega) ?_
    rw [hwp]
    refine aw_aload_0 (q := 28) F dM_goes_27 rfl ?_
    refine av_getaE (q := 31) F fM_21 dM_goes_28 rfl rfl (by first | exact hM.o | exact hl.o | exact hM.a55 | exact hM.a56) hM.p16 ?_
    refine aw_bipush (q := 33) F dM_goes_31 rfl (by decide) ?_
    refine aw_iload_2 (q := 34) F dM_goes_33 rfl ?_
    refine aw_iadd (q := 35) F dM_goes_34 rfl (by constructor <;> omega) ?_
    refine av_iaload (q := 36) F dM_goes_35 rfl (by first | exact hM.o | exact hl.o | exact hM.a55 | exact hM.a56) (by omega) (by omega) ?_
    rw [show (7 + x).toNat = 7 + d by omega, hkd]
    refine aw_iconst (q := 37) F dM_goes_36 rfl (by decide) ?_
    refine aw_icmp_ne (q := 40) (t := 45) F dM_goes_37 rfl (by decide) (fun c37 => ?_) (fun c37 => ?_)
    · refine aw_vret F C dM_goes_45 rfl (Nat.le_refl _) (Nat.le_refl _) ?_
      first
      | (refine hK _ ((XF.up fun _ _ => rfl).trans f42) ?_; unfold aG; rw [if_pos (by omega)]; exact g42)
      | (refine hK _ (XF.up fun _ _ => rfl) ?_; unfold aG; rw [if_neg (by omega)]; exact key _ (by first | rw [if_pos (by omega)] | (rw [if_neg (by omega)]; rfl)))
    · refine aw_aload_0 (q := 41) F dM_goes_40 rfl ?_
      refine aw_iload_2 (q := 42) F dM_goes_41 rfl ?_
      refine av_callV1 (q := 45) (ci := 9) F hm mM_shuts_i mM_shuts_n lM_317 dM_goes_42 rfl rfl rfl (by first | exact hM.o | exact hl.o | exact hM.a55 | exact hM.a56) (by decide) (Nat.le_refl _) (Nat.le_refl _) (Nat.le_of_ble_eq_true rfl) (wM_shuts (n := aG1 c n p d) hx hd hM (key _ (by first | rw [if_pos (by omega)] | (rw [if_neg (by omega)]; rfl))) hc (fun V2 f42 g42 => ?_))
      refine aw_vret F C dM_goes_45 rfl (Nat.le_refl _) (Nat.le_refl _) ?_
      first
      | (refine hK _ ((XF.up fun _ _ => rfl).trans f42) ?_; unfold aG; rw [if_pos (by omega)]; exact g42)
      | (refine hK _ (XF.up fun _ _ => rfl) ?_; unfold aG; rw [if_neg (by omega)]; exact key _ (by first | rw [if_pos (by omega)] | (rw [if_neg (by omega)]; rfl)))
end Mod6
