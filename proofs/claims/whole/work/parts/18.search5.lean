-- shapes grow: nothing that was there changes but pointers in Z
def eS (σ σ' : Shp) (Z : Nat → Nat → Prop) : Prop := sX σ ≤ sX σ' ∧ ∀ b, b < sX σ → sT σ' b = sT σ b ∧ sN σ' b = sN σ b ∧ ∀ j, ¬ Z b j → sP σ' b j = sP σ b j
theorem eS.rf (σ : Shp) (Z : Nat → Nat → Prop) : eS σ σ Z := ⟨Nat.le_refl _, fun _ _ => ⟨rfl, rfl, fun _ _ => rfl⟩⟩
theorem eS.tr {σ σ1 σ2 : Shp} {Z : Nat → Nat → Prop} (h : eS σ σ1 Z) (g : eS σ1 σ2 Z) : eS σ σ2 Z :=
  ⟨Nat.le_trans h.1 g.1, fun b hb => have h1 := h.2 b hb; have g1 := g.2 b (Nat.lt_of_lt_of_le hb h.1); ⟨g1.1.trans h1.1, g1.2.1.trans h1.2.1, fun j hj => (g1.2.2 j hj).trans (h1.2.2 j hj)⟩⟩
theorem eS.mono {σ σ' : Shp} {Z Z' : Nat → Nat → Prop} (h : eS σ σ' Z) (hz : ∀ b j, Z b j → Z' b j) : eS σ σ' Z' := ⟨h.1, fun b hb => have h1 := h.2 b hb; ⟨h1.1, h1.2.1, fun j hj => h1.2.2 j (fun q => hj (hz b j q))⟩⟩
theorem eS_new (σ : Shp) (t n : Nat) (Z : Nat → Nat → Prop) : eS σ (newS σ t n) Z := ⟨Nat.le_succ _, fun b hb => ⟨if_neg (Nat.ne_of_lt hb), if_neg (Nat.ne_of_lt hb), fun _ _ => if_neg (Nat.ne_of_lt hb)⟩⟩
theorem eS_put (σ : Shp) (a f r : Nat) {Z : Nat → Nat → Prop} (hz : Z a f) : eS σ (up2 (sP σ) a f r, σ.2) Z := ⟨Nat.le_refl _, fun b _ => ⟨rfl, rfl, fun j hj => up2_ne _ _ (fun e => hj (by rw [e.1, e.2]; exact hz))⟩⟩
theorem eS.o {σ σ' : Shp} {Z : Nat → Nat → Prop} {a c : Nat} (h : eS σ σ' Z) (g : sO σ a c) : sO σ' a c := ⟨(h.2 a g.2.2).1.trans g.1, g.2.1, Nat.lt_of_lt_of_le g.2.2 h.1⟩
theorem eS.a {σ σ' : Shp} {Z : Nat → Nat → Prop} {a t n : Nat} (h : eS σ σ' Z) (g : sA σ a t n) : sA σ' a t n := ⟨(h.2 a g.2.2.2).1.trans g.1, (h.2 a g.2.2.2).2.1.trans g.2.1, g.2.2.1, Nat.lt_of_lt_of_le g.2.2.2 h.1⟩
theorem eS.p {σ σ' : Shp} {Z : Nat → Nat → Prop} {a c j : Nat} (h : eS σ σ' Z) (g : sO σ a c) (hj : ¬ Z a j) : sP σ' a j = sP σ a j := (h.2 a g.2.2).2.2 j hj
theorem sA_new (σ : Shp) (t n : Nat) (h : 0 < sX σ) : sA (newS σ t n) (sX σ) t n := ⟨if_pos rfl, if_pos rfl, h, Nat.lt_succ_self _⟩
theorem hS.eS {σ σ' : Shp} {Z : Nat → Nat → Prop} {a : Nat} (h : eS σ σ' Z) (g : hS σ a) (hz : ∀ j, ¬ Z a j) : hS σ' a :=
  ⟨h.o g.o, ⟨(h.p g.o (hz _)).trans g.p8, (h.p g.o (hz _)).trans g.p14, (h.p g.o (hz _)).trans g.p15, (h.p g.o (hz _)).trans g.p16, (h.p g.o (hz _)).trans g.p17⟩, h.a g.a1, h.a g.a2, h.a g.a3, h.a g.a4, h.a g.a5⟩
def mxQ (Q A : Nat) : Nat := if Q < A then A else Q
def nC (Q A : Nat) : Nat := if Q < A then 2 else 0
def nSl (Q A : Nat) : Nat := if Q < A then A + (A / 64 + 1) else 0
abbrev zS (s : Nat) : Nat → Nat → Prop := fun b j => b = s ∧ (j = 5 ∨ j = 6)
section Search5
variable {G : GE} {V : Nat → Nat → Int} {σ : Shp} {s qn kn Q M : Nat} {K : Option AV → Mem → Prop} {c : Cfg}
theorem wS_makeRoom {x : Int} {A : Nat} (hx : x = A) (hA : 0 < A) (hA2 : A ≤ 62500) (hB : sX σ + 2 < BG) (hM : M = Q / 64 + 1 ∨ (Q = 0 ∧ M = 0)) (hs : sS0 σ s qn kn Q M) (hK : ∀ V' σ' qn' kn', sS σ' s qn' kn' (mxQ Q A) → eS σ σ' (zS s) → (∀ b, b < sX σ → b ≠ kn → V' b = V b) → (∀ w, w < mxQ Q A / 64 + 1 → V' kn' w = 0) → (qn' = qn ∨ sX σ ≤ qn') ∧ (kn' = kn ∨ sX σ ≤ kn') → sX σ' = sX σ + nC Q A → K none (V', σ')) : Wp G 1 mS_makeRoom [vR s, vI x] (V, σ) (nC Q A) (nSl Q A) K := by
  have hQ := hs.le
  have hsx : s + 6 < sX σ := hs.h.a5.2.2.2
  by_cases hq : Q < A
  · have en : nC Q A = 2 := if_pos hq
    rw [show nSl Q A = A + (A / 64 + 1) from if_pos hq, en]
    have em : mxQ Q A = A := if_pos hq
    rw [em, en] at hK
    have e1 := eS_new σ 11 A (zS s)
    have o1 := e1.o hs.o
    have e2 := eS_put (newS σ 11 A) s 5 (sX σ) (Z := zS s) ⟨rfl, Or.inl rfl⟩
    have o2 := e2.o o1
    have e3 := eS_new (up2 (sP (newS σ 11 A)) s 5 (sX σ), (newS σ 11 A).2) 12 (A / 64 + 1) (zS s)
    have o3 := e3.o o2
    have e4 := eS_put (newS (up2 (sP (newS σ 11 A)) s 5 (sX σ), (newS σ 11 A).2) 12 (A / 64 + 1)) s 6 (sX σ + 1) (Z := zS s) ⟨rfl, Or.inr rfl⟩
    have e := ((e1.tr e2).tr e3).tr e4
    have ex : x.toNat = A := by omega
    have ed : (x / 64 + 1).toNat = A / 64 + 1 := by omega
    have hsX1 : sX (newS σ 11 A) = sX σ + 1 := rfl
    refine wp_intro mS_makeRoom_i.1 [some (vR s), some (vI x)] rfl rfl (Nat.le_of_ble_eq_true rfl) ?_
    intro X hG F C
    have hm := C.rm
    refine aw_aload_0 (q := 1) F dS_makeRoom_0 rfl ?_
    refine av_getaE (q := 4) F fS_18 dS_makeRoom_1 rfl rfl (by first | exact hs.o | exact hs.q | exact hs.k | exact o1 | exact o2 | exact o3) hs.p5 ?_
    refine av_alen (q := 5) F dS_makeRoom_4 rfl (by first | exact hs.o | exact hs.q | exact hs.k | exact o1 | exact o2 | exact o3) (by decide) (by omega) ?_
    refine aw_iload_1 (q := 6) F dS_makeRoom_5 rfl ?_
    refine aw_icmp_ge (q := 9) (t := 31) F dS_makeRoom_6 rfl (by decide) (fun c6 => by omega) (fun c6 => ?_)
    refine aw_aload_0 (q := 10) F dS_makeRoom_9 rfl ?_
    refine aw_iload_1 (q := 11) F dS_makeRoom_10 rfl ?_
    refine av_newarr (q := 13) (t := 11) F hm dS_makeRoom_11 rfl (Or.inr (Or.inl ⟨rfl, rfl⟩)) (by omega) (by omega) (by omega) (by first | omega | decide) (by first | omega | decide) ?_
    rw [ex]
    refine av_puta (q := 16) F fS_18 dS_makeRoom_13 rfl rfl (wr_5_5 _) (by first | exact hs.o | exact hs.q | exact hs.k | exact o1 | exact o2 | exact o3) ?_
    refine aw_aload_0 (q := 17) F dS_makeRoom_16 rfl ?_
    refine aw_iload_1 (q := 18) F dS_makeRoom_17 rfl ?_
    refine aw_bipush (q := 20) F dS_makeRoom_18 rfl (by decide) ?_
    refine aw_idiv (q := 21) F dS_makeRoom_20 rfl (by omega) (by omega) ?_
    refine aw_iconst (q := 22) F dS_makeRoom_21 rfl (by decide) ?_
    refine aw_iadd (q := 23) F dS_makeRoom_22 rfl (by constructor <;> omega) ?_
    refine av_newarr (q := 25) (t := 12) F hm dS_makeRoom_23 rfl (Or.inr (Or.inr ⟨rfl, rfl⟩)) (by show sX σ + 1 < BG; omega) (by first | omega) (by first | omega) (by first | omega) (by rw [ed]; omega) ?_
    rw [ed]
    refine av_puta (q := 28) F fS_22 dS_makeRoom_25 rfl rfl (wr_5_6 _) (by first | exact hs.o | exact hs.q | exact hs.k | exact o1 | exact o2 | exact o3) ?_
    refine aw_goto (t := 39) F dS_makeRoom_28 (by decide) ?_
    refine aw_vret F C dS_makeRoom_39 rfl (by omega) (by omega) ?_
    refine hK _ _ (sX σ) (sX σ + 1) ⟨e.o hs.o, ?_, hs.h.eS e (fun j hz => by have := hz.1; omega), ?_, ?_, ?_, ?_, by omega, Or.inr (by omega), Or.inr (by omega), by omega⟩ e (fun b h1 h2 => ?_) (fun w hw => ?_) ⟨Or.inr (by omega), Or.inr (by omega)⟩ rfl
    · exact (e.p hs.o (fun hz => by have := hz.2; omega)).trans hs.p0
    · show up2 (sP (newS (up2 (sP (newS σ 11 A)) s 5 (sX σ), (newS σ 11 A).2) 12 (A / 64 + 1))) s 6 (sX σ + 1) s 5 = sX σ
      rw [up2_nek _ _ (by decide)]
      show (if s = sX σ + 1 then 0 else up2 (sP (newS σ 11 A)) s 5 (sX σ) s 5) = sX σ
      rw [if_neg (by omega), up2_same]
    · exact up2_same _ _ _ _
    · exact ((e2.tr e3).tr e4).a (sA_new σ 11 A (by omega))
    · exact e4.a (sA_new (up2 (sP (newS σ 11 A)) s 5 (sX σ), (newS σ 11 A).2) 12 (A / 64 + 1) (by show 0 < sX σ + 1; omega))
    · funext j
      show (if b = sX σ + 1 then 0 else if b = sX σ then 0 else V b j) = V b j
      rw [if_neg (by omega), if_neg (by omega)]
    · show (if sX σ + 1 = sX σ + 1 then (0 : Int) else _) = 0
      rw [if_pos rfl]
  · have en : nC Q A = 0 := if_neg hq
    rw [show nSl Q A = 0 from if_neg hq, en]
    have em : mxQ Q A = Q := if_neg hq
    rw [em, en] at hK
    have hM1 : M = Q / 64 + 1 := by omega
    subst hM1
    refine wp_intro mS_makeRoom_i.1 [some (vR s), some (vI x)] rfl rfl (Nat.le_of_ble_eq_true rfl) ?_
    intro X hG F C
    have hm := C.rm
    refine aw_aload_0 (q := 1) F dS_makeRoom_0 rfl ?_
    refine av_getaE (q := 4) F fS_18 dS_makeRoom_1 rfl rfl (by first | exact hs.o | exact hs.q | exact hs.k | exact o1 | exact o2 | exact o3) hs.p5 ?_
    refine av_alen (q := 5) F dS_makeRoom_4 rfl (by first | exact hs.o | exact hs.q | exact hs.k | exact o1 | exact o2 | exact o3) (by decide) (by omega) ?_
    refine aw_iload_1 (q := 6) F dS_makeRoom_5 rfl ?_
    refine aw_icmp_ge (q := 9) (t := 31) F dS_makeRoom_6 rfl (by decide) (fun c6 => ?_) (fun c6 => by omega)
    refine aw_aload_0 (q := 32) F dS_makeRoom_31 rfl ?_
    refine av_getaE (q := 35) F fS_22 dS_makeRoom_32 rfl rfl (by first | exact hs.o | exact hs.q | exact hs.k | exact o1 | exact o2 | exact o3) hs.p6 ?_
    refine aw_lconst (q := 36) (z := 0) F dS_makeRoom_35 rfl rfl ?_
    refine av_callS2 (q := 39) F hm mJA_fillJ_i mJA_fillJ_n lS_61 dS_makeRoom_36 rfl (by decide) (Nat.le_refl _) (Nat.le_refl _) (Nat.le_of_ble_eq_true rfl) (wJA_fillJ hs.k (by omega) ?_)
    refine aw_vret F C dS_makeRoom_39 rfl (Nat.le_refl _) (Nat.le_refl _) ?_
    refine hK _ σ qn kn hs (eS.rf σ _) (fun b h1 h2 => ?_) (fun w hw => ?_) ⟨Or.inl rfl, Or.inl rfl⟩ rfl
    · funext j; unfold fillV; rw [if_neg (fun e => h2 e.1)]
    · unfold fillV; rw [if_pos ⟨rfl, hw⟩]
theorem SV_nil {V : Nat → Nat → Int} (h1 : V s 1 = 0) (h2 : V s 2 = 0) (hk : ∀ w, w < Q / 64 + 1 → V kn w = 0) (hq : spc c ≤ Q) : SV V s qn kn Q c [] := by
  refine ⟨h1, h2, fun i q h => by simp at h, ⟨fun _ => 0, fun w hw => ⟨by rw [hk w hw, sg_0], by show 0 < _; decide⟩, fun x hx => by simp⟩, by simp, fun q h => by simp at h, hq⟩
theorem addL_nil (n f : Nat) : addL [] n f = [(n, f)] := by simp [addL]
theorem wS_begin {x : Int} {t n : Nat} (hx : x = scN c n) (hn : n < spc c) (hc : okC c) (hd : 0 < dN c) (hB : sX σ + 2 < BG) (hM : M = Q / 64 + 1 ∨ (Q = 0 ∧ M = 0)) (hs : sS0 σ s qn kn Q M) (hT : tS σ t) (hta : t < s ∨ s + 6 < t) (h1 : V t 1 = dN c) (h2 : V t 2 = pN c) (h3 : V t 3 = lkC c) (h4 : V t 4 = kyC c) (hK : ∀ V' σ' qn' kn', sS σ' s qn' kn' (mxQ Q (spc c)) → eS σ σ' (zS s) → (∀ b, b < sX σ → b < s ∨ s + 6 < b → b ≠ qn → b ≠ kn → V' b = V b) → SQ V' s qn' kn' (mxQ Q (spc c)) c ([(n, 0)], 0, 0) n → (qn' = qn ∨ sX σ ≤ qn') ∧ (kn' = kn ∨ sX σ ≤ kn') → sX σ' = sX σ + nC Q (spc c) → K none (V', σ')) : Wp G 2 mS_begin [vR s, vR t, vI x] (V, σ) (nC Q (spc c)) (nSl Q (spc c)) K := by
  have hsp := spc_le hc
  have hsp0 : 0 < spc c := by omega
  have hq0 : spc c ≤ mxQ Q (spc c) := by unfold mxQ; split <;> omega
  have hsx : s + 6 < sX σ := hs.h.a5.2.2.2
  have hqs := hs.qs
  have hks := hs.ks
  refine wp_intro mS_begin_i.1 [some (vR s), some (vR t), some (vI x)] rfl rfl (Nat.le_of_ble_eq_true rfl) ?_
  intro X hG F C
  have hm := C.rm
  refine aw_aload_0 (q := 1) F dS_begin_0 rfl ?_
  refine av_getaE (q := 4) F fS_12 dS_begin_1 rfl rfl (by first | exact hs.o | exact hs.ho | exact hs24.o | exact hs24.ho | exact hT.o) (by first | exact hs.p0 | exact hs24.p0) ?_
  refine aw_aload_1 (q := 5) F dS_begin_4 rfl ?_
  refine av_callV1 (q := 8) (ci := 2) F hm mH_fit_i mH_fit_n lS_26 dS_begin_5 rfl rfl rfl (by first | exact hs.o | exact hs.ho | exact hs24.o | exact hs24.ho | exact hT.o) (by decide) (by omega) (by omega) (Nat.le_of_ble_eq_true rfl) (wH_fit (c := c) hs.h hT (by omega) hc h1 h2 h3 h4 (fun v5 f5 g5 => ?_))
  refine aw_aload_0 (q := 9) F dS_begin_8 rfl ?_
  refine av_getaE (q := 12) F fS_12 dS_begin_9 rfl rfl (by first | exact hs.o | exact hs.ho | exact hs24.o | exact hs24.ho | exact hT.o) (by first | exact hs.p0 | exact hs24.p0) ?_
  refine aw_iload_2 (q := 13) F dS_begin_12 rfl ?_
  refine av_callV1 (q := 16) (ci := 2) F hm mH_load_i mH_load_n lS_30 dS_begin_13 rfl rfl rfl (by first | exact hs.o | exact hs.ho | exact hs24.o | exact hs24.ho | exact hT.o) (by decide) (by omega) (by omega) (Nat.le_of_ble_eq_true rfl) (wH_load (c := c) hx (by omega) hs.h hc g5 (fun v13 f13 g13 => ?_))
  refine aw_aload_0 (q := 17) F dS_begin_16 rfl ?_
  refine aw_aload_0 (q := 18) F dS_begin_17 rfl ?_
  refine av_getaE (q := 21) F fS_12 dS_begin_18 rfl rfl (by first | exact hs.o | exact hs.ho | exact hs24.o | exact hs24.ho | exact hT.o) (by first | exact hs.p0 | exact hs24.p0) ?_
  refine av_geti (q := 24) F fS_34 dS_begin_21 rfl rfl (by first | exact hs.o | exact hs.ho | exact hs24.o | exact hs24.ho | exact hT.o) ?_
  rw [g13.2.1.2.2.2.2.2.1]
  refine av_callV1 (q := 27) (ci := 5) F hm mS_makeRoom_i mS_makeRoom_n lS_38 dS_begin_24 rfl rfl rfl (by first | exact hs.o | exact hs.ho | exact hs24.o | exact hs24.ho | exact hT.o) (by decide) (by omega) (by omega) (Nat.le_of_ble_eq_true rfl) (wS_makeRoom (A := spc c) rfl hsp0 hsp hB hM hs (fun v24 t24 q24 k24 hs24 e24 f24 z24 p24 x24 => ?_))
  have hqs2 := hs24.qs; have hks2 := hs24.ks
  refine aw_aload_0 (q := 28) F dS_begin_27 rfl ?_
  refine aw_iconst (q := 29) F dS_begin_28 rfl (by decide) ?_
  refine av_puti (q := 32) F fS_41 dS_begin_29 rfl rfl (wr_5_4 _) (by first | exact hs.o | exact hs.ho | exact hs24.o | exact hs24.ho | exact hT.o) ?_
  refine aw_aload_0 (q := 33) F dS_begin_32 rfl ?_
  refine aw_iconst (q := 34) F dS_begin_33 rfl (by decide) ?_
  refine av_puti (q := 37) F fS_44 dS_begin_34 rfl rfl (wr_5_1 _) (by first | exact hs.o | exact hs.ho | exact hs24.o | exact hs24.ho | exact hT.o) ?_
  refine aw_aload_0 (q := 38) F dS_begin_37 rfl ?_
  refine aw_iconst (q := 39) F dS_begin_38 rfl (by decide) ?_
  refine av_puti (q := 42) F fS_47 dS_begin_39 rfl rfl (wr_5_2 _) (by first | exact hs.o | exact hs.ho | exact hs24.o | exact hs24.ho | exact hT.o) ?_
  refine aw_aload_0 (q := 43) F dS_begin_42 rfl ?_
  refine aw_iconst (q := 44) F dS_begin_43 rfl (by decide) ?_
  refine av_puti (q := 47) F fS_50 dS_begin_44 rfl rfl (wr_5_3 _) (by first | exact hs.o | exact hs.ho | exact hs24.o | exact hs24.ho | exact hT.o) ?_
  have hh : HH (up2 (up2 (up2 (up2 v24 s 4 0) s 1 0) s 2 0) s 3 0) (s + 1) c n := g13.same (fun b h5 h6 => by rw [up2_nea _ _ (by omega), up2_nea _ _ (by omega), up2_nea _ _ (by omega), up2_nea _ _ (by omega)]; exact f24 b (by omega) (by omega))
  refine aw_aload_0 (q := 48) F dS_begin_47 rfl ?_
  refine aw_aload_0 (q := 49) F dS_begin_48 rfl ?_
  refine av_getaE (q := 52) F fS_12 dS_begin_49 rfl rfl (by first | exact hs.o | exact hs.ho | exact hs24.o | exact hs24.ho | exact hT.o) (by first | exact hs.p0 | exact hs24.p0) ?_
  refine av_callV0 (q := 55) (ci := 2) F hm mH_arrangement_i mH_arrangement_n lS_53 dS_begin_52 rfl rfl rfl (by first | exact hs.o | exact hs.ho | exact hs24.o | exact hs24.ho | exact hT.o) (by decide) (by omega) (by omega) (Nat.le_of_ble_eq_true rfl) (wH_arrangement (c := c) (n := n) hs24.h hh ?_)
  refine aw_iconst (q := 56) F dS_begin_55 rfl (by decide) ?_
  have hv0 : SV (up2 (up2 (up2 (up2 v24 s 4 0) s 1 0) s 2 0) s 3 0) s q24 k24 (mxQ Q (spc c)) c [] := SV_nil (by rw [up2_nek _ _ (by decide), up2_nek _ _ (by decide), up2_same]) (by rw [up2_nek _ _ (by decide), up2_same]) (fun w hw => by rw [up2_nea _ _ (by omega), up2_nea _ _ (by omega), up2_nea _ _ (by omega), up2_nea _ _ (by omega)]; exact z24 w hw) hq0
  refine av_callV2 (q := 59) (ci := 5) F hm mS_add_i mS_add_n lS_57 dS_begin_56 rfl rfl rfl (by first | exact hs.o | exact hs.ho | exact hs24.o | exact hs24.ho | exact hT.o) (by decide) (by omega) (by omega) (Nat.le_of_ble_eq_true rfl) (wS_add (c := c) (L := []) (n := n) (f := 0) (m := n) rfl rfl hn (by decide) hs24 hh hv0 (fun v56 f56 g56 => ?_))
  refine aw_vret F C dS_begin_59 rfl (by omega) (by omega) ?_
  rw [addL_nil] at g56
  refine hK v56 _ q24 k24 hs24 e24 (fun b b1 b2 b3 b4 => ?_) ⟨⟨g56, f56.hh hs24 hh, ?_⟩, ?_, Nat.le_refl _⟩ p24 x24
  · have hp1 := p24.1
    have hp2 := p24.2
    rw [f56.1 b (by omega) (by omega) (by omega), up2_nea _ _ (by omega), up2_nea _ _ (by omega), up2_nea _ _ (by omega), up2_nea _ _ (by omega), f24 b b1 b4, f13.1 b (by omega) (by omega) (by omega) (by omega), f5.1 b (by omega) (by omega) (by omega)]
  · rw [f56.2 3 (by decide) (by decide), up2_same]; rfl
  · rw [f56.2 4 (by decide) (by decide), up2_nek _ _ (by decide), up2_nek _ _ (by decide), up2_nek _ _ (by decide), up2_same]; rfl
end Search5
