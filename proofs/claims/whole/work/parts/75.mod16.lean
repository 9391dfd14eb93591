section Mod16
variable {G : GE} {V : Nat → Nat → Int} {σ : Shp} {K : Option AV → Mem → Prop} {l : Nat} {c : Cfg} {n : Nat} {S : PS}
/-- all is searched, from now -/
def FN (V V' : Nat → Nat → Int) (S : PS) : Prop := MF V V' ∧ V' 53 26 = 1 ∧ RQ V' (psC S) (fuS (psC S) (psA S)).1
theorem FN.xf {V V1 V2 : Nat → Nat → Int} (h : FN V V1 S) (g : XF V1 V2) : FN V V2 S := ⟨h.1.xf g, by rw [g 53 (by decide)]; exact h.2.1, h.2.2.xf g⟩
theorem FN.q {V V1 : Nat → Nat → Int} (h : FN V V1 S) : MWq V1 S := Or.inr h.2
theorem MF.lv {V V1 : Nat → Nat → Int} {T : TL} (h : MF V V1) (h64 : 64 ≤ l) (g : LV V l T) : LV V1 l T := g.same fun i hi => h.1 _ (by omega) (scr_hi (by omega))
theorem wM_errandEnd {w : Int} (hw : 0 ≤ w ∧ w ≤ 2) (h : MW V σ l S) (hd : 0 < tDn (psT S)) (hN : ∀ V', FN V V' S → ffO (psC S) (goN S w) (fuS (psC S) (psA S)).1 = none → K (some (vI (-1))) (V', σ)) (hS : ∀ V' i q, FN V V' S → ffO (psC S) (goN S w) (fuS (psC S) (psA S)).1 = some i → (fuS (psC S) (psA S)).1[i]? = some q → K (some (vI (mnN (psC S) q.1))) (V', σ)) : Wp G 5 mM_errandEnd [vR 53, vI w] (V, σ) 0 0 K := by
  have hM := h.mo
  have hl := h.la hd
  have h64 := h.h64 hd
  have hc := h.hc
  have hn := h.hn hd
  have hok := fu_ok hn
  have hlen := okQ_len hok
  have hsp := spc_le hc
  refine wp_intro mM_errandEnd_i.1 [some (vR 53), some (vI w), none] rfl rfl (Nat.le_of_ble_eq_true rfl) ?_
  intro X hG F C
  have hm := C.rm
  have loop : ∀ (j i : Nat), i + j = (fuS (psC S) (psA S)).1.length → ∀ (V1 : Nat → Nat → Int) (z : Int) (m : Nat), FN V V1 S → AR (V1 56) (psC S) m → z = i → (∀ j q, j < i → (fuS (psC S) (psA S)).1[j]? = some q → fitP (psC S) (goN S w) q = false) → AW X 6 [some (vR 53), some (vI w), some (vI z)] [] (V1, σ) 0 0 := by
    intro j
    induction j with
    | zero =>
      intro i hi V1 z m hF hA hz hI
      have h25 := hF.2.2.1
      refine aw_iload_2 (q := 7) F dM_errandEnd_6 rfl ?_
      refine aw_aload_0 (q := 8) F dM_errandEnd_7 rfl ?_
      refine av_geti (q := 11) F fM_333 dM_errandEnd_8 rfl rfl (by first | exact hM.o | exact hl.o | exact hM.a55 | exact hM.a56 | exact hM.a59 | exact hM.a60 | exact hM.a61 | exact hM.a62 | exact hl.a4) ?_
      rw [h25]
      refine aw_icmp_ge (q := 14) (t := 45) F dM_errandEnd_11 rfl (by decide) (fun c11 => ?_) (fun c11 => by omega)
      refine aw_iconst (q := 46) F dM_errandEnd_45 rfl (by decide) ?_
      refine aw_iret F C dM_errandEnd_46 rfl (Nat.le_refl _) (Nat.le_refl _) ?_
      exact hN V1 hF (ffO_all fun j q hq => hI j q (by have := (List.getElem?_eq_some_iff.mp hq).1; omega) hq)
    | succ j ih =>
      intro i hi V1 z m hF hA hz hI
      have h25 := hF.2.2.1
      have hq : (fuS (psC S) (psA S)).1[i]? = some (fuS (psC S) (psA S)).1[i] := List.getElem?_eq_getElem (by omega)
      generalize (fuS (psC S) (psA S)).1[i] = q at hq
      have hqs := hok.2.1 q (List.mem_of_getElem? hq)
      have e61 : V1 61 z.toNat = mnN (psC S) q.1 := by rw [show z.toNat = i by omega]; exact (hF.2.2.2.2 i q hq).1
      refine aw_iload_2 (q := 7) F dM_errandEnd_6 rfl ?_
      refine aw_aload_0 (q := 8) F dM_errandEnd_7 rfl ?_
      refine av_geti (q := 11) F fM_333 dM_errandEnd_8 rfl rfl (by first | exact hM.o | exact hl.o | exact hM.a55 | exact hM.a56 | exact hM.a59 | exact hM.a60 | exact hM.a61 | exact hM.a62 | exact hl.a4) ?_
      rw [h25]
      refine aw_icmp_ge (q := 14) (t := 45) F dM_errandEnd_11 rfl (by decide) (fun c11 => by omega) (fun c11 => ?_)
      refine aw_aload_0 (q := 15) F dM_errandEnd_14 rfl ?_
      refine aw_aload_0 (q := 16) F dM_errandEnd_15 rfl ?_
      refine av_getaE (q := 19) F fM_37 dM_errandEnd_16 rfl rfl (by first | exact hM.o | exact hl.o | exact hM.a55 | exact hM.a56 | exact hM.a59 | exact hM.a60 | exact hM.a61 | exact hM.a62 | exact hl.a4) hM.p23 ?_
      refine aw_iload_2 (q := 20) F dM_errandEnd_19 rfl ?_
      refine av_iaload (q := 21) F dM_errandEnd_20 rfl (by first | exact hM.o | exact hl.o | exact hM.a55 | exact hM.a56 | exact hM.a59 | exact hM.a60 | exact hM.a61 | exact hM.a62 | exact hl.a4) (by omega) (by omega) ?_
      rw [e61]
      refine av_callV1 (q := 24) (ci := 9) F hm mM_lays_i mM_lays_n lM_339 dM_errandEnd_21 rfl rfl rfl (by first | exact hM.o | exact hl.o | exact hM.a55 | exact hM.a56 | exact hM.a59 | exact hM.a60 | exact hM.a61 | exact hM.a62 | exact hl.a4) (by decide) (Nat.le_refl _) (Nat.le_refl _) (Nat.le_of_ble_eq_true rfl) (wM_lays (n := q.1) rfl hqs hM hl (hF.1.lc h64 (h.lc hd)) hA hc (by omega) (fun V2 f21 g21 => ?_))
      refine aw_aload_0 (q := 25) F dM_errandEnd_24 rfl ?_
      refine aw_iload_1 (q := 26) F dM_errandEnd_25 rfl ?_
      refine av_callV1 (q := 29) (ci := 9) F hm mM_isDone_i mM_isDone_n lM_376 dM_errandEnd_26 rfl rfl rfl (by first | exact hM.o | exact hl.o | exact hM.a55 | exact hM.a56 | exact hM.a59 | exact hM.a60 | exact hM.a61 | exact hM.a62 | exact hl.a4) (by decide) (Nat.le_refl _) (Nat.le_refl _) (Nat.le_of_ble_eq_true rfl) (wM_isDone (n := q.1) hw hM hl ((hF.xf f21).1.lc h64 (h.lc hd)) ((hF.xf f21).1.lv h64 (h.lv hd)) g21 hc (fun c26 => ?_) (fun c26 => ?_))
      · refine aw_if_eq (q := 32) (t := 39) F dM_errandEnd_29 rfl (by decide) (fun c29 => absurd c29 (by decide)) (fun c29 => ?_)
        refine aw_aload_0 (q := 33) F dM_errandEnd_32 rfl ?_
        refine av_getaE (q := 36) F fM_37 dM_errandEnd_33 rfl rfl (by first | exact hM.o | exact hl.o | exact hM.a55 | exact hM.a56 | exact hM.a59 | exact hM.a60 | exact hM.a61 | exact hM.a62 | exact hl.a4) hM.p23 ?_
        refine aw_iload_2 (q := 37) F dM_errandEnd_36 rfl ?_
        refine av_iaload (q := 38) F dM_errandEnd_37 rfl (by first | exact hM.o | exact hl.o | exact hM.a55 | exact hM.a56 | exact hM.a59 | exact hM.a60 | exact hM.a61 | exact hM.a62 | exact hl.a4) (by omega) (by omega) ?_
        rw [f21 61 (by decide), e61]
        refine aw_iret F C dM_errandEnd_38 rfl (Nat.le_refl _) (Nat.le_refl _) ?_
        exact hS V2 i q (hF.xf f21) (ffO_some hq c26 hI) hq
      · refine aw_if_eq (q := 32) (t := 39) F dM_errandEnd_29 rfl (by decide) (fun c29 => ?_) (fun c29 => absurd c29 (by decide))
        refine aw_iinc_2 (q := 42) F dM_errandEnd_39 rfl trivial (by constructor <;> omega) ?_
        refine aw_goto (t := 6) F dM_errandEnd_42 (by decide) ?_
        refine ih (i + 1) (by omega) V2 _ q.1 (hF.xf f21) g21 (by omega) (fun j' q' hj hq' => ?_)
        by_cases e : j' = i
        · rw [e, hq] at hq'; cases hq'; exact c26
        · exact hI j' q' (by omega) hq'
  refine aw_aload_0 (q := 1) F dM_errandEnd_0 rfl ?_
  refine av_callV0 (q := 4) (ci := 9) F hm mM_reachesNow_i mM_reachesNow_n lM_373 dM_errandEnd_1 rfl rfl rfl (by first | exact hM.o | exact hl.o | exact hM.a55 | exact hM.a56 | exact hM.a59 | exact hM.a60 | exact hM.a61 | exact hM.a62 | exact hl.a4) (by decide) (Nat.le_refl _) (Nat.le_refl _) (Nat.le_of_ble_eq_true rfl) (wM_reachesNow h hd (fun V2 m1 f1 o1 A z1 R => ?_))
  refine aw_iconst (q := 5) F dM_errandEnd_4 rfl (by decide) ?_
  refine aw_istore_2 (q := 6) F dM_errandEnd_5 rfl trivial ?_
  exact loop _ 0 (Nat.zero_add _) V2 _ m1 ⟨f1, o1, R⟩ A rfl (fun j q hj => absurd hj (by omega))
theorem wM_errand {w : Int} (h : MW V σ l S) (hK : MK K V σ l (setR S (wy (0 < tDn (psT S)) (0 ≤ w ∧ w ≤ 2))) (some (vI (rfD (wy (0 < tDn (psT S)) (0 ≤ w ∧ w ≤ 2)) (erF (psC S) (psA S) (goN S w)) (-1))))) : Wp G 6 mM_errand [vR 53, vI w] (V, σ) 0 0 K := by
  obtain ⟨g, r1, r2⟩ := m3 vI hK
  have hM := h.mo
  refine wp_intro mM_errand_i.1 [some (vR 53), some (vI w), none, none] rfl rfl (Nat.le_of_ble_eq_true rfl) ?_
  intro X hG F C
  have hm := C.rm
  refine aw_aload_0 (q := 1) F dM_errand_0 rfl ?_
  refine aw_iconst (q := 2) F dM_errand_1 rfl (by decide) ?_
  refine av_puti (q := 5) F fM_46 dM_errand_2 rfl rfl (wr_9_0 _) (by first | exact hM.o | exact hl.o | exact hM.a55 | exact hM.a56 | exact hM.a59 | exact hM.a60 | exact hM.a61 | exact hM.a62 | exact hl.a4) ?_
  refine aw_aload_0 (q := 6) F dM_errand_5 rfl ?_
  refine aw_iload_1 (q := 7) F dM_errand_6 rfl ?_
  refine av_callV1 (q := 10) (ci := 9) F hm mM_refusesWhat_i mM_refusesWhat_n lM_379 dM_errand_7 rfl rfl rfl (by first | exact hM.o | exact hl.o | exact hM.a55 | exact hM.a56 | exact hM.a59 | exact hM.a60 | exact hM.a61 | exact hM.a62 | exact hl.a4) (by decide) (Nat.le_refl _) (Nat.le_refl _) (Nat.le_of_ble_eq_true rfl) (wM_refusesWhat h.th (fun d7 w7 => ?_) (fun d7 => ?_) (fun d7 w7 => ?_))
  · refine aw_istore_2 (q := 11) F dM_errand_10 rfl trivial ?_
    refine aw_iload_2 (q := 12) F dM_errand_11 rfl ?_
    refine aw_if_le (q := 15) (t := 21) F dM_errand_12 rfl (by decide) (fun c12 => ?_) (fun c12 => absurd c12 (by decide))
    refine aw_aload_0 (q := 22) F dM_errand_21 rfl ?_
    refine aw_iload_1 (q := 23) F dM_errand_22 rfl ?_
    refine av_callV1 (q := 26) (ci := 9) F hm mM_errandEnd_i mM_errandEnd_n lM_382 dM_errand_23 rfl rfl rfl (by first | exact hM.o | exact hl.o | exact hM.a55 | exact hM.a56 | exact hM.a59 | exact hM.a60 | exact hM.a61 | exact hM.a62 | exact hl.a4) (by decide) (Nat.le_refl _) (Nat.le_refl _) (Nat.le_of_ble_eq_true rfl) (wM_errandEnd w7 h.th d7 (fun V2 f23 e23 => ?_) (fun V2 i23 q23 f23 e23 u23 => ?_))
    · refine aw_istore_3 (q := 27) F dM_errand_26 rfl trivial ?_
      refine aw_aload_0 (q := 28) F dM_errand_27 rfl ?_
      refine aw_iload_3 (q := 29) F dM_errand_28 rfl ?_
      refine aw_iconst (q := 30) F dM_errand_29 rfl (by decide) ?_
      refine aw_icmp_ne (q := 33) (t := 38) F dM_errand_30 rfl (by decide) (fun c30 => absurd c30 (by decide)) (fun c30 => ?_)
      refine aw_bipush (q := 35) F dM_errand_33 rfl (by decide) ?_
      refine aw_goto (t := 44) F dM_errand_35 (by decide) ?_
      try rw [Int.toNat_natCast, f23.2.2.dp (fu_ok (h.hn d7)) i23 q23 u23]
      refine av_callV1 (q := 47) (ci := 9) F hm mM_good_i mM_good_n lM_56 dM_errand_44 rfl rfl rfl (by first | exact hM.o | exact hl.o | exact hM.a55 | exact hM.a56 | exact hM.a59 | exact hM.a60 | exact hM.a61 | exact hM.a62 | exact hl.a4) (by decide) (Nat.le_refl _) (Nat.le_refl _) (Nat.le_of_ble_eq_true rfl) (wM_good hM ?_)
      refine aw_iret F C dM_errand_47 rfl (Nat.le_refl _) (Nat.le_refl _) ?_
      first | (refine MK.fin (S := S) ?_ h (by decide) f23.1 f23.q; rw [← erF_n e23]; exact g d7 w7) | (refine MK.fin (S := S) ?_ h (by decide) f23.1 f23.q; rw [← erF_s e23]; exact g d7 w7)
    · refine aw_istore_3 (q := 27) F dM_errand_26 rfl trivial ?_
      refine aw_aload_0 (q := 28) F dM_errand_27 rfl ?_
      refine aw_iload_3 (q := 29) F dM_errand_28 rfl ?_
      refine aw_iconst (q := 30) F dM_errand_29 rfl (by decide) ?_
      refine aw_icmp_ne (q := 33) (t := 38) F dM_errand_30 rfl (by decide) (fun c30 => ?_) (fun c30 => by omega)
      have hq1 := mnN_lt ((fu_ok (h.hn d7)).2.1 q23 (List.mem_of_getElem? u23))
      have hsp := spc_le h.hc
      refine aw_aload_0 (q := 39) F dM_errand_38 rfl ?_
      refine av_getaE (q := 42) F fM_31 dM_errand_39 rfl rfl (by first | exact hM.o | exact hl.o | exact hM.a55 | exact hM.a56 | exact hM.a59 | exact hM.a60 | exact hM.a61 | exact hM.a62 | exact hl.a4) hM.p21 ?_
      refine aw_iload_3 (q := 43) F dM_errand_42 rfl ?_
      refine av_iaload (q := 44) F dM_errand_43 rfl (by first | exact hM.o | exact hl.o | exact hM.a55 | exact hM.a56 | exact hM.a59 | exact hM.a60 | exact hM.a61 | exact hM.a62 | exact hl.a4) (by omega) (by omega) ?_
      try rw [Int.toNat_natCast, f23.2.2.dp (fu_ok (h.hn d7)) i23 q23 u23]
      refine av_callV1 (q := 47) (ci := 9) F hm mM_good_i mM_good_n lM_56 dM_errand_44 rfl rfl rfl (by first | exact hM.o | exact hl.o | exact hM.a55 | exact hM.a56 | exact hM.a59 | exact hM.a60 | exact hM.a61 | exact hM.a62 | exact hl.a4) (by decide) (Nat.le_refl _) (Nat.le_refl _) (Nat.le_of_ble_eq_true rfl) (wM_good hM ?_)
      refine aw_iret F C dM_errand_47 rfl (Nat.le_refl _) (Nat.le_refl _) ?_
      first | (refine MK.fin (S := S) ?_ h (by decide) f23.1 f23.q; rw [← erF_n e23]; exact g d7 w7) | (refine MK.fin (S := S) ?_ h (by decide) f23.1 f23.q; rw [← erF_s e23]; exact g d7 w7)
  · refine aw_istore_2 (q := 11) F dM_errand_10 rfl trivial ?_
    refine aw_iload_2 (q := 12) F dM_errand_11 rfl ?_
    refine aw_if_le (q := 15) (t := 21) F dM_errand_12 rfl (by decide) (fun c12 => absurd c12 (by decide)) (fun c12 => ?_)
    refine aw_aload_0 (q := 16) F dM_errand_15 rfl ?_
    refine aw_iload_2 (q := 17) F dM_errand_16 rfl ?_
    refine av_callV1 (q := 20) (ci := 9) F hm mM_refused_i mM_refused_n lM_52 dM_errand_17 rfl rfl rfl (by first | exact hM.o | exact hl.o | exact hM.a55 | exact hM.a56 | exact hM.a59 | exact hM.a60 | exact hM.a61 | exact hM.a62 | exact hl.a4) (by decide) (Nat.le_refl _) (Nat.le_refl _) (Nat.le_of_ble_eq_true rfl) (wM_refused hM ?_)
    refine aw_iret F C dM_errand_20 rfl (Nat.le_refl _) (Nat.le_refl _) ?_
    first | exact MK.fin0 (r1 d7) h (by decide) | exact MK.fin0 (r2 d7 w7) h (by decide)
  · refine aw_istore_2 (q := 11) F dM_errand_10 rfl trivial ?_
    refine aw_iload_2 (q := 12) F dM_errand_11 rfl ?_
    refine aw_if_le (q := 15) (t := 21) F dM_errand_12 rfl (by decide) (fun c12 => absurd c12 (by decide)) (fun c12 => ?_)
    refine aw_aload_0 (q := 16) F dM_errand_15 rfl ?_
    refine aw_iload_2 (q := 17) F dM_errand_16 rfl ?_
    refine av_callV1 (q := 20) (ci := 9) F hm mM_refused_i mM_refused_n lM_52 dM_errand_17 rfl rfl rfl (by first | exact hM.o | exact hl.o | exact hM.a55 | exact hM.a56 | exact hM.a59 | exact hM.a60 | exact hM.a61 | exact hM.a62 | exact hl.a4) (by decide) (Nat.le_refl _) (Nat.le_refl _) (Nat.le_of_ble_eq_true rfl) (wM_refused hM ?_)
    refine aw_iret F C dM_errand_20 rfl (Nat.le_refl _) (Nat.le_refl _) ?_
    first | exact MK.fin0 (r1 d7) h (by decide) | exact MK.fin0 (r2 d7 w7) h (by decide)
end Mod16
