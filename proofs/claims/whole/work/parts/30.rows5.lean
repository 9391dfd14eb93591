theorem sS0.eS' {σ σ' : Shp} {s qn kn Q M : Nat} {Z : Nat → Nat → Prop} (e : eS σ σ' Z) (h : sS0 σ s qn kn Q M) (h1 : ∀ j, ¬ Z s j) (h2 : ∀ j, ¬ Z (s + 1) j) : sS0 σ' s qn kn Q M :=
  ⟨e.o h.o, (e.p h.o (h1 _)).trans h.p0, h.h.eS e h2, (e.p h.o (h1 _)).trans h.p5, (e.p h.o (h1 _)).trans h.p6, e.a h.q, e.a h.k, h.qk, h.qs, h.ks, h.le⟩
theorem SQ.same {V V' : Nat → Nat → Int} {s qn kn Q n : Nat} {c : Cfg} {t : ST} (h : SQ V s qn kn Q c t n) (e : ∀ b, (s ≤ b ∧ b ≤ s + 6) ∨ b = qn ∨ b = kn → V' b = V b) : SQ V' s qn kn Q c t n := by
  obtain ⟨⟨h1, h2, h3⟩, h4, h5⟩ := h
  have es := e s (Or.inl ⟨by omega, by omega⟩)
  exact ⟨⟨h1.same (by rw [es]) (by rw [es]) (e qn (Or.inr (Or.inl rfl))) (e kn (Or.inr (Or.inr rfl))), h2.same (fun b q1 q2 => e b (Or.inl ⟨by omega, by omega⟩)), by rw [es]; exact h3⟩, by rw [es]; exact h4, h5⟩
theorem rS.sw {σ : Shp} {r rn vn ln A B C : Nat} (h : rS σ r rn vn ln A B C) : rS (up2 (up2 (sP σ) r 5 ln) r 6 vn, σ.2) r rn ln vn A C B := by
  refine ⟨h.o, ⟨?_, ?_, ?_, ?_, ?_, ?_⟩, h.a1, h.a2, h.a3, h.a4, h.a6, h.a5⟩
  · show up2 (up2 (sP σ) r 5 ln) r 6 vn r 1 = _; rw [up2_nek _ _ (by decide), up2_nek _ _ (by decide)]; exact h.p1
  · show up2 (up2 (sP σ) r 5 ln) r 6 vn r 2 = _; rw [up2_nek _ _ (by decide), up2_nek _ _ (by decide)]; exact h.p2
  · show up2 (up2 (sP σ) r 5 ln) r 6 vn r 3 = _; rw [up2_nek _ _ (by decide), up2_nek _ _ (by decide)]; exact h.p3
  · show up2 (up2 (sP σ) r 5 ln) r 6 vn r 4 = _; rw [up2_nek _ _ (by decide), up2_nek _ _ (by decide)]; exact h.p4
  · show up2 (up2 (sP σ) r 5 ln) r 6 vn r 5 = _; rw [up2_nek _ _ (by decide), up2_same]
  · exact up2_same _ _ _ _
theorem fsV_s {c : Cfg} {P m n e : Nat} : fsV c P m (n + 2) e = if e % 7 = n + 1 ∧ e / 7 < stN c ∧ mayN c m (allP c) (e / 7) = true then vlN c P n (aftN c m (e / 7)) else fsV c P m (n + 1) e := by
  unfold fsV
  by_cases h : e % 7 = n + 1
  · by_cases h2 : e / 7 < stN c ∧ mayN c m (allP c) (e / 7) = true
    · rw [if_pos ⟨by omega, h2⟩, if_pos ⟨h, h2⟩, h]; rfl
    · rw [if_neg (fun q => h2 q.2), if_neg (fun q => h2 q.2), if_neg (fun q => h2 q.2)]
  · rw [if_neg (show ¬ (e % 7 = n + 1 ∧ _) from fun q => h q.1)]
    by_cases h2 : (1 ≤ e % 7 ∧ e % 7 < n + 1) ∧ e / 7 < stN c ∧ mayN c m (allP c) (e / 7) = true
    · rw [if_pos h2, if_pos ⟨by omega, h2.2⟩]
    · rw [if_neg h2, if_neg (fun q => h2 ⟨by omega, q.2⟩)]
section Rows5
variable {V : Nat → Nat → Int} {σ : Shp} {s qn kn Q : Nat} {c : Cfg} {m P r rn vn ln A B C : Nat}
theorem wR_fill3 {X : CT} {kc nc MC MS : Nat} {x : Int} (F : Fx X mR_fill) (hm : Rm X 5 MC MS) (hkc : kc ≤ MC) (hnc : nc ≤ MS) (hs0 : sS σ s qn kn Q) (hr0 : rS σ r rn vn ln A B C) (hd0 : rD r rn vn ln s qn kn) (hB0 : (rLl c m).length ≤ B ∧ B < 2147483648) (hC0 : (rLl c m).length ≤ C ∧ C < 2147483648) (u0 : Option AV) (hR0 : RF V s qn kn Q c m r rn A) (hV0 : VL V vn c m P 0 (rLn c m 6)) (hl0 : V (r + 1) 0 = vlN c P 0 m) (hf0 : ∀ e, e < 112 → V (r + 2) e = fsV c P m 1 e)
    (kk : ∀ (V1 : Nat → Nat → Int) (σ1 : Shp) (vn1 ln1 B1 C1 : Nat) (z : Int) (u : Option AV), rS σ1 r rn vn1 ln1 A B1 C1 → (vn1 = vn ∧ ln1 = ln ∧ B1 = B ∧ C1 = C ∨ vn1 = ln ∧ ln1 = vn ∧ B1 = C ∧ C1 = B) → eS σ σ1 (zR r) → sX σ1 = sX σ → rFr V V1 r rn vn ln s qn kn → (∃ m' D, SE V1 s qn kn Q c (rLl c m) m' D) → (∀ n, n < 7 → V1 (r + 1) n = vlN c P n m) → (∀ e, e < 112 → V1 (r + 2) e = fsV c P m 7 e) → AW X 180 [some (vR r), some (vR s), some (vI x), some (vI z), u] [] (V1, σ1) kc nc) : AW X 82 [some (vR r), some (vR s), some (vI x), some (vI 1), u0] [] (V, σ) kc nc := by
  have loop : ∀ (j n : Nat), 6 - n = j → n ≤ 6 → ∀ (V1 : Nat → Nat → Int) (σ1 : Shp) (vn1 ln1 B1 C1 : Nat) (z : Int) (u : Option AV), rS σ1 r rn vn1 ln1 A B1 C1 → (vn1 = vn ∧ ln1 = ln ∧ B1 = B ∧ C1 = C ∨ vn1 = ln ∧ ln1 = vn ∧ B1 = C ∧ C1 = B) → eS σ σ1 (zR r) → sX σ1 = sX σ → rFr V V1 r rn vn1 ln1 s qn kn → rD r rn vn1 ln1 s qn kn → ((rLl c m).length ≤ B1 ∧ B1 < 2147483648) → ((rLl c m).length ≤ C1 ∧ C1 < 2147483648) → RF V1 s qn kn Q c m r rn A → VL V1 vn1 c m P n (rLn c m (6 - n)) → (∀ n', n' ≤ n → V1 (r + 1) n' = vlN c P n' m) → (∀ e, e < 112 → V1 (r + 2) e = fsV c P m (n + 1) e) → z = (n + 1 : Nat) → AW X 82 [some (vR r), some (vR s), some (vI x), some (vI z), u] [] (V1, σ1) kc nc := by
    intro j
    induction j using Nat.strongRecOn with
    | ind j ih =>
      intro n hj hn V1 σ1 vn1 ln1 B1 C1 z u hr hwh he hx1 hF hd hB hC hR hV hl hf hz
      have hs : sS σ1 s qn kn Q := hs0.eS' he (fun j hj => by have := hj.1; have := hd.ra; omega) (fun j hj => by have := hj.1; have := hd.ra; omega)
      have hRR := hR
      obtain ⟨⟨m', D, hE⟩, hk, hen⟩ := hR
      have hc : okC c := hE.2.1.1
      have hQ := hE.1.2.2.2.2.2.2
      have hpos := rL_pos c m (6 - (n + 1))
      have hmsp : m < spc c := (hE.1.2.2.2.2.2.1 _ (List.mem_of_getElem? (rL_get c m))).1
      have hrl0 : rkL (rLl c m) m < (rLl c m).length := rk_lt_len (List.mem_map_of_mem (f := Prod.fst) (List.mem_of_getElem? (rL_get c m)))
      have hr2 := hr.sw
      have hs2 : sS (up2 (up2 (sP σ1) r 5 ln1) r 6 vn1, σ1.2) s qn kn Q := hs.eS' ((eS_put σ1 r 5 ln1 (Z := zR r) ⟨rfl, by omega⟩).tr (eS_put _ r 6 vn1 ⟨rfl, by omega⟩)) (fun j hj => by have := hj.1; have := hd.ra; omega) (fun j hj => by have := hj.1; have := hd.ra; omega)
      have hdr : r + 2 ≠ rn ∧ r + 2 ≠ vn1 ∧ r + 2 ≠ qn ∧ r + 2 ≠ kn := ⟨hd.rr (by omega), hd.rv (by omega), (hd.rq (by omega)).1, (hd.rq (by omega)).2⟩
      have go : n + 1 ≤ 6 → ∀ (V2 : Nat → Nat → Int) (z2 : Int), RF V2 s qn kn Q c m r rn A → rFr V V2 r rn vn1 ln1 s qn kn → (∀ n', n' ≤ n → V2 (r + 1) n' = vlN c P n' m) → (∀ e, e < 112 → V2 (r + 2) e = fsV c P m (n + 2) e) → VL V2 ln1 c m P (n + 1) (rLn c m (6 - (n + 1))) → AW X 138 [some (vR r), some (vR s), some (vI x), some (vI z), some (vI z2)] [] (V2, σ1) kc nc := by
        intro hn6 V2 z2 hR2 hF2 hl2 hf2 hL2
        have hRR2 := hR2
        obtain ⟨⟨m2, D2, hE2⟩, hk2, hen2⟩ := hR2
        refine aw_aload_0 (q := 139) F dR_fill_138 rfl ?_
        refine av_getaE (q := 142) F fR_24 dR_fill_139 rfl rfl (by first | exact hs.o | exact hr.o | exact hr.a1 | exact hr.a2 | exact hr.a3 | exact hr.a4 | exact hr.a5 | exact hr.a6 | exact hs2.o | exact hr2.o | exact hr2.a1) hr.p5 ?_
        refine aw_astore_4 (q := 144) F dR_fill_142 rfl trivial ?_
        refine aw_aload_0 (q := 145) F dR_fill_144 rfl ?_
        refine aw_aload_0 (q := 146) F dR_fill_145 rfl ?_
        refine av_getaE (q := 149) F fR_27 dR_fill_146 rfl rfl (by first | exact hs.o | exact hr.o | exact hr.a1 | exact hr.a2 | exact hr.a3 | exact hr.a4 | exact hr.a5 | exact hr.a6 | exact hs2.o | exact hr2.o | exact hr2.a1) hr.p6 ?_
        refine av_puta (q := 152) F fR_24 dR_fill_149 rfl rfl (wr_4_5 _) (by first | exact hs.o | exact hr.o | exact hr.a1 | exact hr.a2 | exact hr.a3 | exact hr.a4 | exact hr.a5 | exact hr.a6 | exact hs2.o | exact hr2.o | exact hr2.a1) ?_
        refine aw_aload_0 (q := 153) F dR_fill_152 rfl ?_
        refine aw_aload_4 (q := 155) F dR_fill_153 rfl ?_
        refine av_puta (q := 158) F fR_27 dR_fill_155 rfl rfl (wr_4_6 _) (by first | exact hs.o | exact hr.o | exact hr.a1 | exact hr.a2 | exact hr.a3 | exact hr.a4 | exact hr.a5 | exact hr.a6 | exact hs2.o | exact hr2.o | exact hr2.a1) ?_
        refine aw_aload_0 (q := 159) F dR_fill_158 rfl ?_
        refine av_getaE (q := 162) F fR_11 dR_fill_159 rfl rfl (by first | exact hs.o | exact hr.o | exact hr.a1 | exact hr.a2 | exact hr.a3 | exact hr.a4 | exact hr.a5 | exact hr.a6 | exact hs2.o | exact hr2.o | exact hr2.a1) (by first | exact hr.p1 | exact hr2.p1) ?_
        refine aw_iload_3 (q := 163) F dR_fill_162 rfl ?_
        refine aw_aload_0 (q := 164) F dR_fill_163 rfl ?_
        refine aw_aload_1 (q := 165) F dR_fill_164 rfl ?_
        refine aw_iconst (q := 166) F dR_fill_165 rfl (by decide) ?_
        refine av_callV1 (q := 169) (ci := 5) F hm mS_arrangementAt_i mS_arrangementAt_n lR_65 dR_fill_166 rfl rfl rfl (by first | exact hs.o | exact hr.o | exact hr.a1 | exact hr.a2 | exact hr.a3 | exact hr.a4 | exact hr.a5 | exact hr.a6 | exact hs2.o | exact hr2.o | exact hr2.a1) (by decide) (by omega) (by omega) (Nat.le_of_ble_eq_true rfl) (wS_arrangementAt (i := 0) (q := (m, 0)) rfl (rL_get c m) hs2 hE2.1 ?_)
        refine aw_aload_1 (q := 170) F dR_fill_169 rfl ?_
        refine av_callV2 (q := 173) (ci := 4) F hm mR_valueOf_i mR_valueOf_n lR_69 dR_fill_170 rfl rfl rfl (by first | exact hs.o | exact hr.o | exact hr.a1 | exact hr.a2 | exact hr.a3 | exact hr.a4 | exact hr.a5 | exact hr.a6 | exact hs2.o | exact hr2.o | exact hr2.a1) (by decide) (by omega) (by omega) (Nat.le_of_ble_eq_true rfl) (wR_valueOf (a := m) rfl (by omega) (by omega) hC.2 hs2 hE2.1 hr2 hk2 ?_)
        rw [hL2 0 _ hpos (rL_get c m)]
        refine av_iastore (q := 174) F dR_fill_173 rfl (by first | exact hs.o | exact hr.o | exact hr.a1 | exact hr.a2 | exact hr.a3 | exact hr.a4 | exact hr.a5 | exact hr.a6 | exact hs2.o | exact hr2.o | exact hr2.a1) (by omega) (by omega) ?_
        refine aw_iinc_3 (q := 177) F dR_fill_174 rfl trivial (by constructor <;> omega) ?_
        refine aw_goto (t := 82) F dR_fill_177 (by decide) ?_
        refine ih _ (by omega) (n + 1) rfl hn6 _ _ ln1 vn1 C1 B1 _ _ hr2 ?_ (he.tr ((eS_put σ1 r 5 ln1 (Z := zR r) ⟨rfl, by omega⟩).tr (eS_put _ r 6 vn1 ⟨rfl, by omega⟩))) hx1 (hF2.sw.up (Or.inl ⟨by omega, by omega⟩)) hd.sw hC hB (hRR2.up hs2 (hd.rx (by omega)) (hd.rq (by omega)).1 (hd.rq (by omega)).2 (hd.rr (by omega)) (by omega)) (hL2.up (hd.rl (by omega))) (fun n' hn' => ?_) (fun e he => ?_) (by omega)
        · omega
        · rw [show z.toNat = n + 1 by omega]
          by_cases e1 : n' = n + 1
          · subst e1; rw [up2_same]
          · rw [up2_nek _ _ e1]; exact hl2 n' (by omega)
        · rw [up2_nea _ _ (by omega)]; exact hf2 e he
      have hg : n + 1 ≤ 6 → ∀ k, k < stN c → mayN c m (allP c) k = true → rkL (rLl c m) (aftN c m k) < B1 ∧ V1 vn1 (rkL (rLl c m) (aftN c m k)) = vlN c P n (aftN c m k) := fun hn6 k hk hmk => by
        obtain ⟨j, q', hj, hq', he'⟩ := rL_suc (n := 6 - (n + 1)) (by omega) hpos (rL_get c m) hk hmk
        rw [show 6 - (n + 1) + 1 = 6 - n by omega] at hj
        have he' : q'.1 = aftN c m k := he'
        have h1 := rk_lt_len (List.mem_map_of_mem (f := Prod.fst) (List.mem_of_getElem? hq'))
        have h2 := hV j q' hj hq'
        rw [he'] at h1 h2
        exact ⟨by omega, h2⟩
      refine aw_iload_3 (q := 83) F dR_fill_82 rfl ?_
      refine aw_bipush (q := 85) F dR_fill_83 rfl (by decide) ?_
      refine aw_icmp_gt (q := 88) (t := 180) F dR_fill_85 rfl (by decide) (fun c85 => ?_) (fun c85 => ?_)
      · have hn6 : n = 6 := by omega
        subst hn6
        refine kk V1 σ1 vn1 ln1 B1 C1 _ _ hr hwh he hx1 (fun b b1 b2 b3 b4 b5 b6 b7 => ?_) hRR.1 (fun n hn => hl n (by omega)) hf
        rcases hwh with ⟨w1, w2, -⟩ | ⟨w1, w2, -⟩
        · exact hF b b1 b2 b3 b4 b5 (w1 ▸ b6) (w2 ▸ b7)
        · exact hF b b1 b2 b3 b4 b5 (w1 ▸ b7) (w2 ▸ b6)
      · refine aw_aload_0 (q := 89) F dR_fill_88 rfl ?_
        refine aw_aload_1 (q := 90) F dR_fill_89 rfl ?_
        refine aw_iload_3 (q := 91) F dR_fill_90 rfl ?_
        refine av_callV2 (q := 94) (ci := 4) F hm mR_noteFirsts_i mR_noteFirsts_n lR_73 dR_fill_91 rfl rfl rfl (by first | exact hs.o | exact hr.o | exact hr.a1 | exact hr.a2 | exact hr.a3 | exact hr.a4 | exact hr.a5 | exact hr.a6 | exact hs2.o | exact hr2.o | exact hr2.a1) (by decide) (by omega) (by omega) (Nat.le_of_ble_eq_true rfl) (wR_noteFirsts (n := n + 1) (q := (m, 0)) (g := vlN c P n) hz (by omega) (rL_get c m) hs hE hr hk hd.rs hd.vs (hd.rx (by omega)) hdr hB.2 (hg (by omega)) (fun v91 f91 h91 w91 => ?_))
        refine aw_iconst (q := 95) F dR_fill_94 rfl (by decide) ?_
        refine aw_istore_4 (q := 97) F dR_fill_95 rfl trivial ?_
        have hsx : v91 s = V1 s := f91 s (by omega) (by have := hd.ra; omega)
        have hqx : v91 qn = V1 qn := f91 qn (by have := hs.qs; omega) (Ne.symm hdr.2.2.1)
        have hkx : v91 kn = V1 kn := f91 kn (by have := hs.ks; omega) (Ne.symm hdr.2.2.2)
        have hR3 : RF v91 s qn kn Q c m r rn A := ⟨⟨m, D, hE.1.same (by rw [hsx]) (by rw [hsx]) hqx hkx, h91, by rw [hsx]; exact hE.2.2⟩, ⟨hk.1, by rw [f91 rn (by have := hd.rs; omega) (Ne.symm hdr.1)]; exact hk.2⟩, by rw [f91 (r + 3) (by have := hd.ra; omega) (by omega)]; exact hen⟩
        refine wR_fill2 (n := n) (P := P) F hm hkc hnc hz (by omega) hs hr hd hB hC hR3 (fun j q hj hq => by rw [f91 vn1 (by have := hd.vs; omega) (Ne.symm hdr.2.1)]; exact hV j q hj hq) (fun V2 z2 q1 q2 q3 q4 q5 => go (by omega) V2 z2 q1 (fun b b1 b2 b3 b4 b5 b6 b7 => ?_) (fun n' hn' => ?_) (fun e he => ?_) q5)
        · rw [q2 b b1 b2 b3 b4 b5 b6 b7, f91 b (by omega) (by omega)]; exact hF b b1 b2 b3 b4 b5 b6 b7
        · rw [q3, f91 (r + 1) (by have := hd.ra; omega) (by omega)]; exact hl n' hn'
        · rw [q4, w91, fsV_s]
          unfold nfV
          by_cases h2 : e % 7 = n + 1 ∧ e / 7 < stN c ∧ mayN c m (allP c) (e / 7) = true
          · rw [if_pos h2, if_pos h2]
          · rw [if_neg h2, if_neg h2]; exact hf e he
  exact loop _ 0 rfl (by omega) V σ vn ln B C _ u0 hr0 (Or.inl ⟨rfl, rfl, rfl, rfl⟩) (eS.rf _ _) rfl (fun _ _ _ _ _ _ _ _ => rfl) hd0 hB0 hC0 hR0 hV0 (fun n' hn' => by rw [show n' = 0 by omega]; exact hl0) hf0 rfl
variable {G : GE} {K : Option AV → Mem → Prop}
theorem rD.new {X rn' vn' ln' : Nat} (h : rD r rn vn ln s qn kn) (hX : r + 3 < X ∧ s + 6 < X ∧ qn < X ∧ kn < X) (hX2 : rn < X ∧ vn < X ∧ ln < X) (h1 : rn' = rn ∨ X ≤ rn') (h2 : vn' = vn ∧ ln' = ln ∨ X ≤ vn' ∧ ln' = vn' + 1 ∧ (rn' = rn ∨ rn' < vn')) : rD r rn' vn' ln' s qn kn := by
  obtain ⟨e1, e2, e3, e4, e5, e6, e7, e8, e9, ⟨f1, f2, f3, f4, f5, f6⟩, e10, e11, e12⟩ := h
  refine ⟨e1, e2, e3, ?_, ?_, ?_, ?_, ?_, ?_, ⟨?_, ?_, ?_, ?_, ?_, ?_⟩, ?_, ?_, ?_⟩
  · clear e1 e2 e3 e5 e6 e7 e8 e9 h2; omega
  · clear e1 e2 e3 e4 e6 e7 e8 e9 h1; omega
  · clear e1 e2 e3 e4 e5 e7 e8 e9 h1; omega
  · clear e1 e2 e3 e4 e5 e6 e8 e9 h2; omega
  · clear e1 e2 e3 e4 e5 e6 e7 e9 h1; omega
  · clear e1 e2 e3 e4 e5 e6 e7 e8 h1; omega
  · clear e1 e2 e3 e4 e5 e6 e7 e8 e9 h2; omega
  · clear e1 e2 e3 e4 e5 e6 e7 e8 e9 h2; omega
  · clear e1 e2 e3 e4 e5 e6 e7 e8 e9 h1; omega
  · clear e1 e2 e3 e4 e5 e6 e7 e8 e9 h1; omega
  · clear e1 e2 e3 e4 e5 e6 e7 e8 e9 h1; omega
  · clear e1 e2 e3 e4 e5 e6 e7 e8 e9 h1; omega
  · clear e1 e2 e3 e4 e5 e6 e7 e8 e9; omega
  · clear e1 e2 e3 e4 e5 e6 e7 e8 e9; omega
  · clear e1 e2 e3 e4 e5 e6 e7 e8 e9 h1; omega
theorem wR_fill4 {X : CT} {kc nc MC MS : Nat} {x : Int} (F : Fx X mR_fill) (hm : Rm X 5 MC MS) (hkc : kc ≤ MC) (hnc : nc ≤ MS) (hx : x = P) (hP : P < 33554432) (hs : sS σ s qn kn Q) (hr : rS σ r rn vn ln A B C) (hd : rD r rn vn ln s qn kn) (hB : (rLl c m).length ≤ B ∧ B < 2147483648) (hC : (rLl c m).length ≤ C ∧ C < 2147483648) (u0 u1 : Option AV) (hR : RF V s qn kn Q c m r rn A) (hf0 : ∀ e, e < 112 → V (r + 2) e = 0)
    (kk : ∀ (V1 : Nat → Nat → Int) (σ1 : Shp) (vn1 ln1 B1 C1 : Nat) (z : Int) (u : Option AV), rS σ1 r rn vn1 ln1 A B1 C1 → (vn1 = vn ∧ ln1 = ln ∧ B1 = B ∧ C1 = C ∨ vn1 = ln ∧ ln1 = vn ∧ B1 = C ∧ C1 = B) → eS σ σ1 (zR r) → sX σ1 = sX σ → rFr V V1 r rn vn ln s qn kn → (∃ m' D, SE V1 s qn kn Q c (rLl c m) m' D) → (∀ n, n < 7 → V1 (r + 1) n = vlN c P n m) → (∀ e, e < 112 → V1 (r + 2) e = fsV c P m 7 e) → AW X 180 [some (vR r), some (vR s), some (vI x), some (vI z), u] [] (V1, σ1) kc nc) : AW X 29 [some (vR r), some (vR s), some (vI x), u0, u1] [] (V, σ) kc nc := by
  have go : ∀ (V1 : Nat → Nat → Int) (z : Int), RF V1 s qn kn Q c m r rn A → rFr V V1 r rn vn ln s qn kn → V1 (r + 1) = V (r + 1) → V1 (r + 2) = V (r + 2) → VL V1 vn c m P 0 (rLl c m).length → AW X 64 [some (vR r), some (vR s), some (vI x), some (vI z), u1] [] (V1, σ) kc nc := by
    intro V1 z hR1 hF1 e1 e2 hV
    have hRR := hR1
    obtain ⟨⟨m', D, hE⟩, hk, hen⟩ := hR1
    have hQ := hE.1.2.2.2.2.2.2
    have hmsp : m < spc c := (hE.1.2.2.2.2.2.1 _ (List.mem_of_getElem? (rL_get c m))).1
    have hrl0 : rkL (rLl c m) m < (rLl c m).length := rk_lt_len (List.mem_map_of_mem (f := Prod.fst) (List.mem_of_getElem? (rL_get c m)))
    refine aw_aload_0 (q := 65) F dR_fill_64 rfl ?_
    refine av_getaE (q := 68) F fR_11 dR_fill_65 rfl rfl (by first | exact hs.o | exact hr.o | exact hr.a1 | exact hr.a2 | exact hr.a3 | exact hr.a4 | exact hr.a5 | exact hr.a6 | exact hs2.o | exact hr2.o | exact hr2.a1) hr.p1 ?_
    refine aw_iconst (q := 69) F dR_fill_68 rfl (by decide) ?_
    refine aw_aload_0 (q := 70) F dR_fill_69 rfl ?_
    refine aw_aload_1 (q := 71) F dR_fill_70 rfl ?_
    refine aw_iconst (q := 72) F dR_fill_71 rfl (by decide) ?_
    refine av_callV1 (q := 75) (ci := 5) F hm mS_arrangementAt_i mS_arrangementAt_n lR_65 dR_fill_72 rfl rfl rfl (by first | exact hs.o | exact hr.o | exact hr.a1 | exact hr.a2 | exact hr.a3 | exact hr.a4 | exact hr.a5 | exact hr.a6 | exact hs2.o | exact hr2.o | exact hr2.a1) (by decide) (by omega) (by omega) (Nat.le_of_ble_eq_true rfl) (wS_arrangementAt (i := 0) (q := (m, 0)) rfl (rL_get c m) hs hE.1 ?_)
    refine aw_aload_1 (q := 76) F dR_fill_75 rfl ?_
    refine av_callV2 (q := 79) (ci := 4) F hm mR_valueOf_i mR_valueOf_n lR_69 dR_fill_76 rfl rfl rfl (by first | exact hs.o | exact hr.o | exact hr.a1 | exact hr.a2 | exact hr.a3 | exact hr.a4 | exact hr.a5 | exact hr.a6 | exact hs2.o | exact hr2.o | exact hr2.a1) (by decide) (by omega) (by omega) (Nat.le_of_ble_eq_true rfl) (wR_valueOf (a := m) rfl (by omega) (by omega) hB.2 hs hE.1 hr hk ?_)
    rw [hV 0 _ (by omega) (rL_get c m)]
    refine av_iastore (q := 80) F dR_fill_79 rfl (by first | exact hs.o | exact hr.o | exact hr.a1 | exact hr.a2 | exact hr.a3 | exact hr.a4 | exact hr.a5 | exact hr.a6 | exact hs2.o | exact hr2.o | exact hr2.a1) (by omega) (by omega) ?_
    refine aw_iconst (q := 81) F dR_fill_80 rfl (by decide) ?_
    refine aw_istore_3 (q := 82) F dR_fill_81 rfl trivial ?_
    refine wR_fill3 (P := P) F hm hkc hnc hs hr hd hB hC _ (hRR.up hs (hd.rx (by omega)) (hd.rq (by omega)).1 (hd.rq (by omega)).2 (hd.rr (by omega)) (by omega)) ((hV.mono (rL_le (by omega))).up (hd.rv (by omega))) (up2_same _ _ _ _) (fun e he => ?_) (fun V2 σ2 vn1 ln1 B1 C1 z2 u q1 q2 q3 q4 q5 q6 q7 q8 => kk V2 σ2 vn1 ln1 B1 C1 z2 u q1 q2 q3 q4 (fun b b1 b2 b3 b4 b5 b6 b7 => ?_) q6 q7 q8)
    · rw [up2_nea _ _ (by omega), e2, hf0 e he]
      unfold fsV
      rw [if_neg (fun q => by omega)]
      rfl
    · rw [q5 b b1 b2 b3 b4 b5 b6 b7, up2_nea _ _ (by omega)]
      exact hF1 b b1 b2 b3 b4 b5 b6 b7
  refine aw_iconst (q := 30) F dR_fill_29 rfl (by decide) ?_
  refine aw_istore_3 (q := 31) F dR_fill_30 rfl trivial ?_
  exact wR_fill1 F hm hkc hnc hx hP hs hr hd hB _ hR go
theorem wR_fill {x : Int} {m' C0 : Nat} (hx : x = P) (hP : P < 33554432) (hs : sS σ s qn kn Q) (hE0 : SQ V s qn kn Q c ([(m, 0)], 0, 0) m') (hr : rS σ r rn vn ln A B C0) (hd : rD r rn vn ln s qn kn) (hL : A ≤ 62500 ∧ B ≤ 62500 ∧ C0 ≤ 62500) (hBG : sX σ + 3 < BG)
    (hK : ∀ (V' : Nat → Nat → Int) (σ' : Shp) (rn' vn' ln' A' B' C0' : Nat), rS σ' r rn' vn' ln' A' B' C0' → (A' ≤ 62500 ∧ B' ≤ 62500 ∧ C0' ≤ 62500) → rD r rn' vn' ln' s qn kn → (rn' = rn ∨ sX σ ≤ rn') → (vn' = vn ∨ vn' = ln ∨ sX σ ≤ vn') → (ln' = vn ∨ ln' = ln ∨ sX σ ≤ ln') → eS σ σ' (zR r) → sX σ' = sX σ + rC A (Q / 64 + 1) + vC B C0 (rLl c m).length → (∀ b, b < sX σ → b < r ∨ r + 3 < b → b < s ∨ s + 6 < b → b ≠ qn → b ≠ kn → b ≠ rn → b ≠ vn → b ≠ ln → V' b = V b) → V' r 0 = 1 → (∀ n, n < 7 → V' (r + 1) n = vlN c P n m) → (∀ e, e < 112 → V' (r + 2) e = fsV c P m 7 e) → K none (V', σ')) :
    Wp G 5 mR_fill [vR r, vR s, vI x] (V, σ) (rC A (Q / 64 + 1) + vC B C0 (rLl c m).length) (rW A (Q / 64 + 1) + vW B C0 (rLl c m).length) K := by
  have hQ := hs.le
  have hX : r + 3 < sX σ ∧ s + 6 < sX σ ∧ qn < sX σ ∧ kn < sX σ := ⟨hr.a3.2.2.2, hs.h.a5.2.2.2, hs.q.2.2.2, hs.k.2.2.2⟩
  have hX2 : rn < sX σ ∧ vn < sX σ ∧ ln < sX σ := ⟨hr.a4.2.2.2, hr.a5.2.2.2, hr.a6.2.2.2⟩
  have hrr : (∀ i, i ≤ 3 → r + i < s ∨ s + 6 < r + i) ∧ (∀ i, i ≤ 3 → r + i ≠ qn ∧ r + i ≠ kn) := ⟨fun i hi => hd.rx hi, fun i hi => hd.rq hi⟩
  have hE1 : SQ (fillV V (r + 2) 112 0) s qn kn Q c ([(m, 0)], 0, 0) m' := hE0.same (fun b hb => by
    have h1 := hrr.1 2 (by omega)
    have h2 := hrr.2 2 (by omega)
    funext j
    unfold fillV
    rw [if_neg (fun q => by omega)])
  have hsp : spc c ≤ Q := hE0.1.1.2.2.2.2.2.2
  refine wp_intro mR_fill_i.1 [some (vR r), some (vR s), some (vI x), none, none] rfl rfl (Nat.le_of_ble_eq_true rfl) ?_
  intro X hG F C
  have hm := C.rm
  have go : ∀ (V3 : Nat → Nat → Int) (σ3 : Shp) (rn3 vn3 ln3 A3 B3 C3 k3 n3 : Nat), rS σ3 r rn3 vn3 ln3 A3 B3 C3 → sS σ3 s qn kn Q → rD r rn3 vn3 ln3 s qn kn → (∃ m' D, SE V3 s qn kn Q c (rLl c m) m' D) → (rLl c m).length ≤ B3 ∧ B3 ≤ 62500 → (rLl c m).length ≤ C3 ∧ C3 ≤ 62500 → Q / 64 + 1 ≤ A3 ∧ A3 ≤ 62500 → (∀ n, n < 7 → V3 (r + 3) n = rLn c m n) → (∀ e, e < 112 → V3 (r + 2) e = 0) → k3 ≤ rC A (Q / 64 + 1) + vC B C0 (rLl c m).length → n3 ≤ rW A (Q / 64 + 1) + vW B C0 (rLl c m).length →
      (rn3 = rn ∨ sX σ ≤ rn3) → (vn3 = vn ∧ ln3 = ln ∨ sX σ ≤ vn3 ∧ sX σ ≤ ln3) → eS σ σ3 (zR r) → sX σ3 = sX σ + rC A (Q / 64 + 1) + vC B C0 (rLl c m).length → (∀ b, b < sX σ → b < r ∨ r + 3 < b → b < s ∨ s + 6 < b → b ≠ qn → b ≠ kn → V3 b = V b) → AW X 21 [some (vR r), some (vR s), some (vI x), none, none] [] (V3, σ3) k3 n3 := by
    intro V3 σ3 rn3 vn3 ln3 A3 B3 C3 k3 n3 hr hs hd ⟨m3, D3, hE⟩ hB hC hA he h2 hk3 hn3 w1 w2 w3 w4 w5
    have kk : ∀ (V1 : Nat → Nat → Int) (σ1 : Shp) (vn1 ln1 B1 C1 : Nat) (z : Int) (u : Option AV), rS σ1 r rn3 vn1 ln1 A3 B1 C1 → (vn1 = vn3 ∧ ln1 = ln3 ∧ B1 = B3 ∧ C1 = C3 ∨ vn1 = ln3 ∧ ln1 = vn3 ∧ B1 = C3 ∧ C1 = B3) → eS σ3 σ1 (zR r) → sX σ1 = sX σ3 → rFr V3 V1 r rn3 vn3 ln3 s qn kn → (∃ m' D, SE V1 s qn kn Q c (rLl c m) m' D) → (∀ n, n < 7 → V1 (r + 1) n = vlN c P n m) → (∀ e, e < 112 → V1 (r + 2) e = fsV c P m 7 e) → AW X 180 [some (vR r), some (vR s), some (vI x), some (vI z), u] [] (V1, σ1) k3 n3 := by
      intro V1 σ1 vn1 ln1 B1 C1 z u hr q2 q3 q4 q5 q6 q7 q8
      refine aw_aload_0 (q := 181) F dR_fill_180 rfl ?_
      refine aw_iconst (q := 182) F dR_fill_181 rfl (by decide) ?_
      refine av_putz (q := 185) F fR_80 dR_fill_182 rfl rfl (wr_4_0 _) (by first | exact hs.o | exact hr.o | exact hr.a1 | exact hr.a2 | exact hr.a3 | exact hr.a4 | exact hr.a5 | exact hr.a6 | exact hs2.o | exact hr2.o | exact hr2.a1) (by first | exact Or.inl rfl | exact Or.inr rfl | omega) ?_
      refine aw_vret F C dR_fill_185 rfl hk3 hn3 ?_
      refine hK _ σ1 rn3 vn1 ln1 A3 B1 C1 hr ⟨hA.2, by omega, by omega⟩ ?_ w1 (by omega) (by omega) (w3.tr q3) (q4.trans w4) (fun b hb b1 b2 b3 b4 b5 b6 b7 => ?_) (up2_same _ _ _ _) (fun n hn => ?_) (fun e he => ?_)
      · rcases q2 with ⟨e1, e2, -⟩ | ⟨e1, e2, -⟩
        · rw [e1, e2]; exact hd
        · rw [e1, e2]; exact hd.sw
      · rw [up2_nea _ _ (by omega), q5 b b1 b2 b3 b4 (by omega) (by omega) (by omega)]; exact w5 b hb b1 b2 b3 b4
      · rw [up2_nea _ _ (by omega)]; exact q7 n hn
      · rw [up2_nea _ _ (by omega)]; exact q8 e he
    refine aw_aload_1 (q := 22) F dR_fill_21 rfl ?_
    refine aw_aload_0 (q := 23) F dR_fill_22 rfl ?_
    refine av_getaE (q := 26) F fR_21 dR_fill_23 rfl rfl (by first | exact hs.o | exact hr.o | exact hr.a1 | exact hr.a2 | exact hr.a3 | exact hr.a4 | exact hr.a5 | exact hr.a6 | exact hs2.o | exact hr2.o | exact hr2.a1) hr.p4 ?_
    refine av_callV1 (q := 29) (ci := 5) F hm mS_rank_i mS_rank_n lR_46 dR_fill_26 rfl rfl rfl (by first | exact hs.o | exact hr.o | exact hr.a1 | exact hr.a2 | exact hr.a3 | exact hr.a4 | exact hr.a5 | exact hr.a6 | exact hs2.o | exact hr2.o | exact hr2.a1) (by decide) (by omega) (by omega) (Nat.le_of_ble_eq_true rfl) (wS_rank (r := rn3) (R := A3) hr.a4 (by omega) hd.ne.2.1 (by have := hd.rs; omega) hs hE.1 (fun v26 f26 g26 => ?_))
    have hks := hs.ks
    have hqs := hs.qs
    refine wR_fill4 (P := P) (c := c) (m := m) F hm (by omega) (by omega) hx hP hs hr hd ⟨hB.1, by omega⟩ ⟨hC.1, by omega⟩ _ _ ⟨⟨m3, D3, hE.1.same ?_ ?_ ?_ ?_, hE.2.1.same (fun b b1 b2 => ?_), ?_⟩, ⟨⟨hA.1, by omega⟩, fun w hw => g26 w (by omega) hw⟩, ?_⟩ ?_ (fun V1 σ1 vn1 ln1 B1 C1 z u q1 q2 q3 q4 q5 => kk V1 σ1 vn1 ln1 B1 C1 z u q1 q2 q3 q4 (fun b b1 b2 b3 b4 b5 b6 b7 => ?_))
    · rw [f26 s (by have := hd.rs; omega)]
    · rw [f26 s (by have := hd.rs; omega)]
    · exact f26 qn (Ne.symm hd.ne.1)
    · exact f26 kn (Ne.symm hd.ne.2.1)
    · exact f26 b (by have := hd.rs; omega)
    · rw [f26 s (by have := hd.rs; omega)]; exact hE.2.2
    · rw [f26 (r + 3) (hd.rr (by omega))]; exact he
    · rw [f26 (r + 2) (hd.rr (by omega))]; exact h2
    · rw [q5 b b1 b2 b3 b4 b5 b6 b7]; exact f26 b b5
  refine aw_aload_0 (q := 1) F dR_fill_0 rfl ?_
  refine av_getaE (q := 4) F fR_15 dR_fill_1 rfl rfl (by first | exact hs.o | exact hr.o | exact hr.a1 | exact hr.a2 | exact hr.a3 | exact hr.a4 | exact hr.a5 | exact hr.a6 | exact hs2.o | exact hr2.o | exact hr2.a1) hr.p2 ?_
  refine aw_iconst (q := 5) F dR_fill_4 rfl (by decide) ?_
  refine av_callS2 (q := 8) F hm mJA_fillI_i mJA_fillI_n lR_30 dR_fill_5 rfl (by decide) (Nat.zero_le _) (Nat.zero_le _) (Nat.le_of_ble_eq_true rfl) (wJA_fillI hr.a2 (by decide) ?_)
  refine aw_aload_1 (q := 9) F dR_fill_8 rfl ?_
  refine aw_aload_0 (q := 10) F dR_fill_9 rfl ?_
  refine av_getaE (q := 13) F fR_18 dR_fill_10 rfl rfl (by first | exact hs.o | exact hr.o | exact hr.a1 | exact hr.a2 | exact hr.a3 | exact hr.a4 | exact hr.a5 | exact hr.a6 | exact hs2.o | exact hr2.o | exact hr2.a1) hr.p3 ?_
  refine av_callV1 (q := 16) (ci := 5) F hm mS_spread_i mS_spread_n lR_36 dR_fill_13 rfl rfl rfl (by first | exact hs.o | exact hr.o | exact hr.a1 | exact hr.a2 | exact hr.a3 | exact hr.a4 | exact hr.a5 | exact hr.a6 | exact hs2.o | exact hr2.o | exact hr2.a1) (by decide) (Nat.zero_le _) (Nat.zero_le _) (Nat.le_of_ble_eq_true rfl) (wS_spread (R := 7) (by decide) hr.a3 (hrr.1 3 (by omega)) (hrr.2 3 (by omega)).1 (hrr.2 3 (by omega)).2 hs hE1 (Nat.zero_le _) (fun v13 n13 f13 e13 g13 => ?_))
  have eT : v13 s 1 = (rLl c m).length := e13.1.1.1
  have lT : (rLl c m).length ≤ spc c := e13.1.1.len
  refine aw_aload_0 (q := 17) F dR_fill_16 rfl ?_
  refine aw_aload_1 (q := 18) F dR_fill_17 rfl ?_
  refine av_callV1 (q := 21) (ci := 4) F hm mR_makeRoom_i mR_makeRoom_n lR_42 dR_fill_18 rfl rfl rfl (by first | exact hs.o | exact hr.o | exact hr.a1 | exact hr.a2 | exact hr.a3 | exact hr.a4 | exact hr.a5 | exact hr.a6 | exact hs2.o | exact hr2.o | exact hr2.a1) (by decide) (by omega) (by omega) (Nat.le_of_ble_eq_true rfl) (wR_makeRoom (T := (rLl c m).length) (M := Q / 64 + 1) hs (by omega) eT (by omega) hr ⟨by omega, by omega, by omega⟩ hBG (fun v18 sg18 rn18 vn18 ln18 hr18 es18 f18 p18 q18 x18 => ?_))
  have r3 := hrr.1 3 (by omega)
  have r2 := hrr.1 2 (by omega)
  have z3 := hrr.2 3 (by omega)
  have z2 := hrr.2 2 (by omega)
  have bA : Q / 64 + 1 ≤ rA A (Q / 64 + 1) ∧ rA A (Q / 64 + 1) ≤ 62500 := by clear r3 r2 p18 q18; unfold rA; split <;> omega
  have bB : (rLl c m).length ≤ vA B C0 (rLl c m).length B ∧ vA B C0 (rLl c m).length B ≤ 62500 := by clear r3 r2 p18 q18; unfold vA; split <;> omega
  have bC : (rLl c m).length ≤ vA B C0 (rLl c m).length C0 ∧ vA B C0 (rLl c m).length C0 ≤ 62500 := by clear r3 r2 p18 q18; unfold vA; split <;> omega
  have hE3 : ∃ m' D, SE v18 s qn kn Q c (rLl c m) m' D := ⟨n13, _, (e13.same (fun b hb => f18 b (by clear r3 r2 p18 q18; omega))).1⟩
  refine go v18 sg18 rn18 vn18 ln18 _ _ _ _ _ hr18 (hs.eS' es18 (fun j hj => by have := hj.1; omega) (fun j hj => by have := hj.1; omega)) (hd.new hX hX2 p18 q18) hE3 bB bC bA (fun n hn => ?_) (fun e he => ?_) (by omega) (by omega) p18 (by clear r3 r2 p18; omega) es18 x18 (fun b hb b1 b2 b3 b4 => ?_)
  · rw [f18 (r + 3) hX.1]; exact g13 n hn
  · rw [f18 (r + 2) (by omega), f13 (r + 2) r2 z2.1 z2.2 (by omega)]
    unfold fillV
    rw [if_pos ⟨rfl, he⟩]
  · rw [f18 b hb, f13 b b2 b3 b4 (by clear r3 r2 p18 q18; omega)]
    funext j
    unfold fillV
    rw [if_neg (fun q => by clear r3 r2 p18 q18; omega)]
end Rows5
