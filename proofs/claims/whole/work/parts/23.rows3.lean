-- rows make room
def rA (A M : Nat) : Nat := if A < M then M else A
def rC (A M : Nat) : Nat := if A < M then 1 else 0
def rW (A M : Nat) : Nat := if A < M then M else 0
def vA (B C T X : Nat) : Nat := if B < T ∨ C < T then T else X
def vC (B C T : Nat) : Nat := if B < T ∨ C < T then 2 else 0
def vW (B C T : Nat) : Nat := if B < T ∨ C < T then T + T else 0
abbrev zR (r : Nat) : Nat → Nat → Prop := fun b j => b = r ∧ (j = 4 ∨ j = 5 ∨ j = 6)
abbrev zV (r : Nat) : Nat → Nat → Prop := fun b j => b = r ∧ (j = 5 ∨ j = 6)
section Rows3
variable {G : GE} {V : Nat → Nat → Int} {σ : Shp} {s qn kn Q : Nat} {K : Option AV → Mem → Prop} {c : Cfg} {L : List (Nat × Nat)} {r rn vn ln A B C : Nat}
theorem rS.eS' {σ σ' : Shp} {r rn vn ln A B C : Nat} {Z : Nat → Nat → Prop} (e : eS σ σ' Z) (h : rS σ r rn vn ln A B C) (h1 : ∀ j, j ≤ 3 → ¬ Z r j) {rn' vn' ln' A' B' C' : Nat} (p4 : sP σ' r 4 = rn') (p5 : sP σ' r 5 = vn') (p6 : sP σ' r 6 = ln') (a4 : sA σ' rn' 11 A') (a5 : sA σ' vn' 11 B') (a6 : sA σ' ln' 11 C') : rS σ' r rn' vn' ln' A' B' C' :=
  ⟨e.o h.o, ⟨(e.p h.o (h1 _ (by omega))).trans h.p1, (e.p h.o (h1 _ (by omega))).trans h.p2, (e.p h.o (h1 _ (by omega))).trans h.p3, p4, p5, p6⟩, e.a h.a1, e.a h.a2, e.a h.a3, a4, a5, a6⟩
theorem wR_makeRoomV {T k0 n0 MC MS : Nat} {X : CT} (F : Fx X mR_makeRoom) (hm : Rm X 1 MC MS) (hs : sO σ s 5) (hT : V s 1 = T) (hT2 : T ≤ 62500) (hr : rS σ r rn vn ln A B C) (hBC : B < 2147483648 ∧ C < 2147483648) (hBG : sX σ + 2 < BG) (hrx : r < sX σ) (hsx : s < sX σ) (hk : k0 + vC B C T ≤ MC) (hn : n0 + vW B C T ≤ MS) (kk : ∀ V' σ' vn' ln', rS σ' r rn vn' ln' A (vA B C T B) (vA B C T C) → eS σ σ' (zV r) → (∀ b, b < sX σ → V' b = V b) → (vn' = vn ∧ ln' = ln ∧ σ' = σ ∨ vn' = sX σ ∧ ln' = sX σ + 1) → sX σ' = sX σ + vC B C T → AW X 66 [some (vR r), some (vR s)] [] (V', σ') (k0 + vC B C T) (n0 + vW B C T)) : AW X 22 [some (vR r), some (vR s)] [] (V, σ) k0 n0 := by
  by_cases hq : B < T ∨ C < T
  · have en : vC B C T = 2 := if_pos hq
    have ew : vW B C T = T + T := if_pos hq
    have eB : vA B C T B = T := if_pos hq
    have eC : vA B C T C = T := if_pos hq
    rw [en, ew, eB, eC] at kk
    rw [en] at hk
    rw [ew] at hn
    have e1 := eS_new σ 11 T (zV r)
    have o1 := e1.o hr.o
    have s1 := e1.o hs
    have e2 := eS_put (newS σ 11 T) r 5 (sX σ) (Z := zV r) ⟨rfl, by omega⟩
    have o2 := e2.o o1
    have s2 := e2.o s1
    have e3 := eS_new (up2 (sP (newS σ 11 T)) r 5 (sX σ), (newS σ 11 T).2) 11 T (zV r)
    have o3 := e3.o o2
    have s3 := e3.o s2
    have e4 := eS_put (newS (up2 (sP (newS σ 11 T)) r 5 (sX σ), (newS σ 11 T).2) 11 T) r 6 (sX σ + 1) (Z := zV r) ⟨rfl, by omega⟩
    have e := ((e1.tr e2).tr e3).tr e4
    have ht : ∀ V1 : Nat → Nat → Int, V1 s 1 = T → (V1 s 1).toNat = T := fun V1 h => by omega
    have hv1 : newV V (sX σ) s 1 = T := by show (if s = sX σ then 0 else V s 1) = _; rw [if_neg (by omega)]; exact hT
    have go : AW X 46 [some (vR r), some (vR s)] [] (V, σ) k0 n0 := by
      refine aw_aload_0 (q := 47) F dR_makeRoom_46 rfl ?_
      refine aw_aload_1 (q := 48) F dR_makeRoom_47 rfl ?_
      refine av_geti (q := 51) F fR_49 dR_makeRoom_48 rfl rfl (by first | exact hs | exact hr.o | exact o1 | exact o2 | exact o3 | exact s1 | exact s2 | exact s3) ?_
      rw [hT]
      refine av_newarr (q := 53) (t := 11) F hm dR_makeRoom_51 rfl (Or.inr (Or.inl ⟨rfl, rfl⟩)) (by omega) (by omega) (by omega) (by first | omega | decide) (by first | omega | decide) ?_
      rw [Int.toNat_natCast]
      refine av_puta (q := 56) F fR_24 dR_makeRoom_53 rfl rfl (wr_4_5 _) (by first | exact hs | exact hr.o | exact o1 | exact o2 | exact o3 | exact s1 | exact s2 | exact s3) ?_
      refine aw_aload_0 (q := 57) F dR_makeRoom_56 rfl ?_
      refine aw_aload_1 (q := 58) F dR_makeRoom_57 rfl ?_
      refine av_geti (q := 61) F fR_49 dR_makeRoom_58 rfl rfl (by first | exact hs | exact hr.o | exact o1 | exact o2 | exact o3 | exact s1 | exact s2 | exact s3) ?_
      rw [hv1]
      refine av_newarr (q := 63) (t := 11) F hm dR_makeRoom_61 rfl (Or.inr (Or.inl ⟨rfl, rfl⟩)) (by show sX σ + 1 < BG; omega) (by first | omega) (by first | omega) (by first | omega) (by first | omega) ?_
      rw [Int.toNat_natCast]
      refine av_puta (q := 66) F fR_27 dR_makeRoom_63 rfl rfl (wr_4_6 _) (by first | exact hs | exact hr.o | exact o1 | exact o2 | exact o3 | exact s1 | exact s2 | exact s3) ?_
      rw [Nat.add_assoc n0 T T]
      refine kk _ _ (sX σ) (sX σ + 1) (hr.eS' e (fun j hj hz => by have := hz.2; omega) ?_ ?_ ?_ (e.a hr.a4) ?_ ?_) e (fun b hb => ?_) (Or.inr ⟨rfl, rfl⟩) rfl
      · exact (e.p hr.o (fun hz => by have := hz.2; omega)).trans hr.p4
      · show up2 (sP (newS (up2 (sP (newS σ 11 T)) r 5 (sX σ), (newS σ 11 T).2) 11 T)) r 6 (sX σ + 1) r 5 = sX σ
        rw [up2_nek _ _ (by decide)]
        show (if r = sX σ + 1 then 0 else up2 (sP (newS σ 11 T)) r 5 (sX σ) r 5) = sX σ
        rw [if_neg (by omega), up2_same]
      · exact up2_same _ _ _ _
      · exact ((e2.tr e3).tr e4).a (sA_new σ 11 T (by omega))
      · exact e4.a (sA_new (up2 (sP (newS σ 11 T)) r 5 (sX σ), (newS σ 11 T).2) 11 T (by show 0 < sX σ + 1; omega))
      · funext j
        show (if b = sX σ + 1 then 0 else if b = sX σ then 0 else V b j) = V b j
        rw [if_neg (by omega), if_neg (by omega)]
    refine aw_aload_0 (q := 23) F dR_makeRoom_22 rfl ?_
    refine av_getaE (q := 26) F fR_24 dR_makeRoom_23 rfl rfl (by first | exact hs | exact hr.o | exact hr.a5 | exact hr.a6) (by first | exact hr.p5 | exact q1) ?_
    refine av_alen (q := 27) F dR_makeRoom_26 rfl (by first | exact hs | exact hr.o | exact hr.a5 | exact hr.a6) (by decide) (by omega) ?_
    refine aw_aload_1 (q := 28) F dR_makeRoom_27 rfl ?_
    refine av_geti (q := 31) F fR_49 dR_makeRoom_28 rfl rfl (by first | exact hs | exact hr.o | exact hr.a5 | exact hr.a6) ?_
    refine aw_icmp_lt (q := 34) (t := 46) F dR_makeRoom_31 rfl (by decide) (fun c31 => ?_) (fun c31 => ?_)
    · exact go
    · refine aw_aload_0 (q := 35) F dR_makeRoom_34 rfl ?_
      refine av_getaE (q := 38) F fR_27 dR_makeRoom_35 rfl rfl (by first | exact hs | exact hr.o | exact hr.a5 | exact hr.a6) (by first | exact hr.p6 | exact q2) ?_
      refine av_alen (q := 39) F dR_makeRoom_38 rfl (by first | exact hs | exact hr.o | exact hr.a5 | exact hr.a6) (by decide) (by omega) ?_
      refine aw_aload_1 (q := 40) F dR_makeRoom_39 rfl ?_
      refine av_geti (q := 43) F fR_49 dR_makeRoom_40 rfl rfl (by first | exact hs | exact hr.o | exact hr.a5 | exact hr.a6) ?_
      refine aw_icmp_ge (q := 46) (t := 66) F dR_makeRoom_43 rfl (by decide) (fun c43 => by omega) (fun c43 => ?_)
      exact go
  · have en : vC B C T = 0 := if_neg hq
    have ew : vW B C T = 0 := if_neg hq
    have eB : vA B C T B = B := if_neg hq
    have eC : vA B C T C = C := if_neg hq
    rw [en, ew, eB, eC] at kk
    refine aw_aload_0 (q := 23) F dR_makeRoom_22 rfl ?_
    refine av_getaE (q := 26) F fR_24 dR_makeRoom_23 rfl rfl (by first | exact hs | exact hr.o | exact hr.a5 | exact hr.a6) (by first | exact hr.p5 | exact q1) ?_
    refine av_alen (q := 27) F dR_makeRoom_26 rfl (by first | exact hs | exact hr.o | exact hr.a5 | exact hr.a6) (by decide) (by omega) ?_
    refine aw_aload_1 (q := 28) F dR_makeRoom_27 rfl ?_
    refine av_geti (q := 31) F fR_49 dR_makeRoom_28 rfl rfl (by first | exact hs | exact hr.o | exact hr.a5 | exact hr.a6) ?_
    refine aw_icmp_lt (q := 34) (t := 46) F dR_makeRoom_31 rfl (by decide) (fun c31 => by omega) (fun c31 => ?_)
    refine aw_aload_0 (q := 35) F dR_makeRoom_34 rfl ?_
    refine av_getaE (q := 38) F fR_27 dR_makeRoom_35 rfl rfl (by first | exact hs | exact hr.o | exact hr.a5 | exact hr.a6) (by first | exact hr.p6 | exact q2) ?_
    refine av_alen (q := 39) F dR_makeRoom_38 rfl (by first | exact hs | exact hr.o | exact hr.a5 | exact hr.a6) (by decide) (by omega) ?_
    refine aw_aload_1 (q := 40) F dR_makeRoom_39 rfl ?_
    refine av_geti (q := 43) F fR_49 dR_makeRoom_40 rfl rfl (by first | exact hs | exact hr.o | exact hr.a5 | exact hr.a6) ?_
    refine aw_icmp_ge (q := 46) (t := 66) F dR_makeRoom_43 rfl (by decide) (fun c43 => ?_) (fun c43 => by omega)
    exact kk V σ vn ln hr (eS.rf σ _) (fun _ _ => rfl) (Or.inl ⟨rfl, rfl, rfl⟩) rfl
theorem wR_makeRoom {T M : Nat} (hs : sS0 σ s qn kn Q M) (hM : M ≤ 1000) (hT : V s 1 = T) (hT2 : T ≤ 62500) (hr : rS σ r rn vn ln A B C) (hL : A < 2147483648 ∧ B < 2147483648 ∧ C < 2147483648) (hBG : sX σ + 3 < BG) (hK : ∀ V' σ' rn' vn' ln', rS σ' r rn' vn' ln' (rA A M) (vA B C T B) (vA B C T C) → eS σ σ' (zR r) → (∀ b, b < sX σ → V' b = V b) → (rn' = rn ∨ sX σ ≤ rn') → (vn' = vn ∧ ln' = ln ∨ sX σ ≤ vn' ∧ ln' = vn' + 1 ∧ (rn' = rn ∨ rn' < vn')) → sX σ' = sX σ + rC A M + vC B C T → K none (V', σ')) : Wp G 1 mR_makeRoom [vR r, vR s] (V, σ) (rC A M + vC B C T) (rW A M + vW B C T) K := by
  have hsx : s + 6 < sX σ := hs.h.a5.2.2.2
  have hrx : r < sX σ := hr.o.2.2
  refine wp_intro mR_makeRoom_i.1 [some (vR r), some (vR s)] rfl rfl (Nat.le_of_ble_eq_true rfl) ?_
  intro X hG F C
  have hm := C.rm
  by_cases hq : A < M
  · have e1 : rC A M = 1 := if_pos hq
    have e2 : rW A M = M := if_pos hq
    have e3 : rA A M = M := if_pos hq
    rw [e1, e3] at hK
    rw [e1, e2] at C hm
    have n1 := eS_new σ 11 M (fun b j => b = r ∧ j = 4)
    have o1 := n1.o hr.o
    have n2 := eS_put (newS σ 11 M) r 4 (sX σ) (Z := fun b j => b = r ∧ j = 4) ⟨rfl, rfl⟩
    have n := n1.tr n2
    have hr2 : rS (up2 (sP (newS σ 11 M)) r 4 (sX σ), (newS σ 11 M).2) r (sX σ) vn ln M B _ := hr.eS' n (fun j hj hz => by have := hz.2; omega) (up2_same _ _ _ _) ((n.p hr.o (fun hz => by have := hz.2; omega)).trans hr.p5) ((n.p hr.o (fun hz => by have := hz.2; omega)).trans hr.p6) (n2.a (sA_new σ 11 M (by omega))) (n.a hr.a5) (n.a hr.a6)
    have hv2 : newV V (sX σ) s 1 = T := by show (if s = sX σ then 0 else V s 1) = _; rw [if_neg (by omega)]; exact hT
    refine aw_aload_0 (q := 1) F dR_makeRoom_0 rfl ?_
    refine av_getaE (q := 4) F fR_21 dR_makeRoom_1 rfl rfl (by first | exact hs.o | exact hr.o | exact hr.a4 | exact hr.a5 | exact hr.a6 | exact s1 | exact s2 | exact s3 | exact s4 | exact s5 | exact s6 | exact o1 | exact o2 | exact o3 | exact o4 | exact o5 | exact o6 | exact k1 | exact k2 | exact k3 | exact k4 | exact l1 | exact l2) hr.p4 ?_
    refine av_alen (q := 5) F dR_makeRoom_4 rfl (by first | exact hs.o | exact hr.o | exact hr.a4 | exact hr.a5 | exact hr.a6 | exact s1 | exact s2 | exact s3 | exact s4 | exact s5 | exact s6 | exact o1 | exact o2 | exact o3 | exact o4 | exact o5 | exact o6 | exact k1 | exact k2 | exact k3 | exact k4 | exact l1 | exact l2) (by decide) (by omega) ?_
    refine aw_aload_1 (q := 6) F dR_makeRoom_5 rfl ?_
    refine av_callV0 (q := 9) (ci := 5) F hm mS_markWords_i mS_markWords_n lR_84 dR_makeRoom_6 rfl rfl rfl (by first | exact hs.o | exact hr.o | exact hr.a4 | exact hr.a5 | exact hr.a6 | exact s1 | exact s2 | exact s3 | exact s4 | exact s5 | exact s6 | exact o1 | exact o2 | exact o3 | exact o4 | exact o5 | exact o6 | exact k1 | exact k2 | exact k3 | exact k4 | exact l1 | exact l2) (by decide) (by omega) (by omega) (Nat.le_of_ble_eq_true rfl) (wS_markWords (by omega) hs ?_)
    refine aw_icmp_ge (q := 12) (t := 22) F dR_makeRoom_9 rfl (by decide) (fun c9 => by omega) (fun c9 => ?_)
    refine aw_aload_0 (q := 13) F dR_makeRoom_12 rfl ?_
    refine aw_aload_1 (q := 14) F dR_makeRoom_13 rfl ?_
    refine av_callV0 (q := 17) (ci := 5) F hm mS_markWords_i mS_markWords_n lR_84 dR_makeRoom_14 rfl rfl rfl (by first | exact hs.o | exact hr.o | exact hr.a4 | exact hr.a5 | exact hr.a6 | exact s1 | exact s2 | exact s3 | exact s4 | exact s5 | exact s6 | exact o1 | exact o2 | exact o3 | exact o4 | exact o5 | exact o6 | exact k1 | exact k2 | exact k3 | exact k4 | exact l1 | exact l2) (by decide) (by omega) (by omega) (Nat.le_of_ble_eq_true rfl) (wS_markWords (by omega) hs ?_)
    refine av_newarr (q := 19) (t := 11) F hm dR_makeRoom_17 rfl (Or.inr (Or.inl ⟨rfl, rfl⟩)) (by first | omega) (by first | omega) (by first | omega) (by first | omega) (by first | omega) ?_
    rw [Int.toNat_natCast]
    refine av_puta (q := 22) F fR_21 dR_makeRoom_19 rfl rfl (wr_4_4 _) (by exact o1) ?_
    refine wR_makeRoomV (T := T) F hm (n.o hs.o) hv2 hT2 hr2 ⟨hL.2.1, hL.2.2⟩ (by show sX σ + 1 + 2 < BG; omega) (by show r < sX σ + 1; omega) (by show s < sX σ + 1; omega) (by omega) (by omega) (fun V' σ' vn' ln' h1 h2 h3 h4 h5 => ?_)
    refine aw_vret F C dR_makeRoom_66 rfl (by omega) (by omega) ?_
    refine hK V' σ' _ vn' ln' h1 ((n.mono (fun b j h => ⟨h.1, Or.inl h.2⟩)).tr (h2.mono (fun b j h => ⟨h.1, Or.inr h.2⟩))) (fun b hb => ?_) (Or.inr (Nat.le_refl _)) ?_ (h5.trans (by show sX σ + 1 + _ = _; omega))
    · rw [h3 b (by show b < sX σ + 1; omega)]
      funext j
      exact if_neg (by omega)
    · rcases h4 with h4 | h4
      · exact Or.inl ⟨h4.1, h4.2.1⟩
      · refine Or.inr ⟨?_, ?_, Or.inr ?_⟩
        · rw [h4.1]; show sX σ ≤ sX σ + 1; omega
        · rw [h4.2, h4.1]
        · rw [h4.1]; show sX σ < sX σ + 1; omega
  · have e1 : rC A M = 0 := if_neg hq
    have e2 : rW A M = 0 := if_neg hq
    have e3 : rA A M = A := if_neg hq
    rw [e1, e3] at hK
    rw [e1, e2] at C hm
    refine aw_aload_0 (q := 1) F dR_makeRoom_0 rfl ?_
    refine av_getaE (q := 4) F fR_21 dR_makeRoom_1 rfl rfl (by first | exact hs.o | exact hr.o | exact hr.a4 | exact hr.a5 | exact hr.a6 | exact s1 | exact s2 | exact s3 | exact s4 | exact s5 | exact s6 | exact o1 | exact o2 | exact o3 | exact o4 | exact o5 | exact o6 | exact k1 | exact k2 | exact k3 | exact k4 | exact l1 | exact l2) hr.p4 ?_
    refine av_alen (q := 5) F dR_makeRoom_4 rfl (by first | exact hs.o | exact hr.o | exact hr.a4 | exact hr.a5 | exact hr.a6 | exact s1 | exact s2 | exact s3 | exact s4 | exact s5 | exact s6 | exact o1 | exact o2 | exact o3 | exact o4 | exact o5 | exact o6 | exact k1 | exact k2 | exact k3 | exact k4 | exact l1 | exact l2) (by decide) (by omega) ?_
    refine aw_aload_1 (q := 6) F dR_makeRoom_5 rfl ?_
    refine av_callV0 (q := 9) (ci := 5) F hm mS_markWords_i mS_markWords_n lR_84 dR_makeRoom_6 rfl rfl rfl (by first | exact hs.o | exact hr.o | exact hr.a4 | exact hr.a5 | exact hr.a6 | exact s1 | exact s2 | exact s3 | exact s4 | exact s5 | exact s6 | exact o1 | exact o2 | exact o3 | exact o4 | exact o5 | exact o6 | exact k1 | exact k2 | exact k3 | exact k4 | exact l1 | exact l2) (by decide) (by omega) (by omega) (Nat.le_of_ble_eq_true rfl) (wS_markWords (by omega) hs ?_)
    refine aw_icmp_ge (q := 12) (t := 22) F dR_makeRoom_9 rfl (by decide) (fun c9 => ?_) (fun c9 => by omega)
    refine wR_makeRoomV (T := T) F hm hs.o hT hT2 hr ⟨hL.2.1, hL.2.2⟩ (by omega) hrx (by omega) (by omega) (by omega) (fun V' σ' vn' ln' h1 h2 h3 h4 h5 => ?_)
    refine aw_vret F C dR_makeRoom_66 rfl (by omega) (by omega) ?_
    refine hK V' σ' _ vn' ln' h1 (h2.mono (fun b j h => ⟨h.1, Or.inr h.2⟩)) h3 (Or.inl rfl) ?_ (h5.trans (by omega))
    rcases h4 with h4 | h4
    · exact Or.inl ⟨h4.1, h4.2.1⟩
    · exact Or.inr ⟨by omega, by omega, Or.inl rfl⟩
end Rows3
