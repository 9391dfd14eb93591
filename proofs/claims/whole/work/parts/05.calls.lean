section CallRows
variable {X : CT} {Y : MD} {pc q : Nat} {ls : List (Option AV)} {st : List AV} {μ : Mem} {k n : Nat}
def upA (ad : Nat → Nat) (x a : Nat) : Nat → Nat := fun i => if i = x then a else ad i
theorem upA_same (ad : Nat → Nat) (x a : Nat) : upA ad x a x = a := by simp [upA]
theorem upA_ne (ad : Nat → Nat) {x i : Nat} (a : Nat) (h : i ≠ x) : upA ad x a i = ad i := by simp [upA, h]
theorem fv_ad {ad ad' : Nat → Nat} {b j : Nat} {t : FieldType} (h : ad' (mP μ b j) = ad (mP μ b j)) : fv ad' μ b j t = fv ad μ b j t := by
  unfold fv
  simp only [trv]
  rw [h]
theorem cel_ad {G : GE} {ad ad' : Nat → Nat} {b : Nat} (h : ∀ j, ad' (mP μ b j) = ad (mP μ b j)) : cel G ad' μ b = cel G ad μ b := by
  unfold cel
  simp only [fun j t => fv_ad (t := t) (h j)]
theorem cel_new_old {G : GE} {ad : Nat → Nat} {t N b : Nat} (h : b ≠ mX μ) : cel G ad (newM μ t N) b = cel G ad μ b := by
  unfold cel fv
  simp only [newM, mV, mT, mN, mP, if_neg h]
theorem wrl_new {G : GE} {ad : Nat → Nat} {t N a : Nat} {e : va_E} (hM : okM μ) (hB : mX μ < BG) (he : cel G (upA ad (mX μ) a) (newM μ t N) (mX μ) = e) : wrl G ad μ ++ [(a, e)] = wrl G (upA ad (mX μ) a) (newM μ t N) := by
  have h0 := hM.1.1
  unfold wrl
  show _ = (List.range (mX μ + 1 - 1)).map _
  rw [show mX μ + 1 - 1 = (mX μ - 1) + 1 by omega, List.range_succ, List.map_append]
  congr 1
  · apply List.map_congr_left
    intro i hi
    have hi := List.mem_range.mp hi
    have hne : i + 1 ≠ mX μ := by omega
    rw [upA_ne _ _ hne, cel_new_old hne]
    congr 1
    refine (cel_ad fun j => ?_).symm
    have := hM.2.1 (i + 1) j
    refine upA_ne _ _ (fun h => ?_)
    rw [h] at this
    rcases this with h1 | h1 <;> omega
  · simp only [List.map_cons, List.map_nil]
    rw [show mX μ - 1 + 1 = mX μ by omega, upA_same, he]
theorem okV_new {t N : Nat} {v : AV} (h : okV μ v) : okV (newM μ t N) v := by
  rcases v with v | v | v
  · exact h
  · exact h
  · rcases h with h | h
    · exact Or.inl (show v < mX μ + 1 by omega)
    · exact Or.inr h
theorem okM_new {t N : Nat} (h : okM μ) (hB : mX μ < BG) : okM (newM μ t N) := by
  refine ⟨⟨by show 0 < mX μ + 1; omega, by show mX μ + 1 ≤ BG; omega⟩, fun b j => ?_, fun b j => ?_⟩
  · show okR (newM μ t N) (if b = mX μ then 0 else mP μ b j)
    split
    · exact Or.inl (show 0 < mX μ + 1 by omega)
    · exact okV_new (v := vR (mP μ b j)) (h.2.1 b j)
  · by_cases hb : b = mX μ
    · have e : mV (newM μ t N) b j = 0 := by show (if b = mX μ then 0 else mV μ b j) = 0; rw [if_pos hb]
      rw [e]
      exact ⟨fun _ => by decide, fun _ => by decide, fun _ => by decide⟩
    · have e : mV (newM μ t N) b j = mV μ b j := by show (if b = mX μ then 0 else mV μ b j) = _; rw [if_neg hb]
      have e2 : mT (newM μ t N) b = mT μ b := by show (if b = mX μ then t else mT μ b) = _; rw [if_neg hb]
      rw [e, e2]
      exact h.2.2 b j
theorem trv_upA {ad : Nat → Nat} {a : Nat} {v : AV} (h : okV μ v) (hB : mX μ < BG) : trv (upA ad (mX μ) a) v = trv ad v := by
  rcases v with v | v | v
  · rfl
  · rfl
  · have : v ≠ mX μ := by rcases h with h | h <;> omega
    simp only [trv]
    rw [upA_ne _ _ this]
theorem RP.new {ad : Nat → Nat} {H H1 : Heap} {locs : List Loc} {lsl : Array Slot} {t N a : Nat} {e : va_E} (R : RP X ls st μ ad H locs lsl) (hB : mX μ < BG) (he : cel (cG X) (upA ad (mX μ) a) (newM μ t N) (mX μ) = e) (hP : va_P (gD (cG X)) vwCl (wrl (cG X) ad μ ++ [(a, e)]) H1) (hD : va_D (cA X) (wrl (cG X) ad μ ++ [(a, e)])) (hS : va_S (cA X) (cS X).heap H1 locs) :
    RP X ls (vR (mX μ) :: st) (newM μ t N) (upA ad (mX μ) a) H1 locs lsl ∧ (vR (mX μ) :: st).map (trv (upA ad (mX μ) a)) = .ref a :: st.map (trv ad) := by
  obtain ⟨h1, h2, h3, h4, h5, h6, h7, h8, h9, h10, h11⟩ := R
  rw [wrl_new h1 hB he] at hP hD
  have h0 := h1.1.1
  refine ⟨⟨okM_new h1 hB, fun v hv => okV_new (h2 v hv), fun v hv => ?_, ⟨by show _ ≤ mX μ + 1; omega, fun i hi => ?_⟩, hP, hD, hS, h8, h9, h10, fun i v hv => ?_⟩, ?_⟩
  · rcases List.mem_cons.mp hv with rfl | hv
    · exact Or.inl (show mX μ < mX μ + 1 by omega)
    · exact okV_new (h3 v hv)
  · rw [upA_ne]
    · exact h4.2 i hi
    · rcases hi with hi | hi <;> omega
  · rw [trv_upA (h2 v (List.mem_of_getElem? hv)) hB]
    exact h11 i v hv
  · rw [List.map_cons]
    congr 1
    · simp only [trv]
      rw [if_neg (by omega), upA_same]
    · exact List.map_congr_left fun v hv => trv_upA (h3 v hv) hB
theorem tyF_ok : ∀ c, c < 10 → ∀ j, j < nF c → (intT (tyF c j) || lngT (tyF c j) || refT (tyF c j)) = true := by decide +kernel
theorem aw_new (F : Fx X Y) {h MC MS : Nat} (hm : Rm X h MC MS) {idx ci : Nat} {qc : vw_C} (hc : vwCl[ci]? = some qc) (hl : Cond.classLink Y.1.cls idx qc.1 ∈ TBL) (hd : decode Y.2.1 pc = .ok (.new idx, 3)) (hp : pc + 3 = q) (hB : mX μ < BG) (hk : k + 1 ≤ MC) (hn : n + nF ci ≤ MS) (kk : AW X q ls (vR (mX μ) :: st) (newM μ ci 0) (k + 1) (n + nF ci)) : AW X pc ls st μ k n := by
  intro ad H locs lsl R
  subst hp
  obtain ⟨c10, hnF, hin, hty, hnm, hinst, hini⟩ := cls_ok hc
  have hcell : ∀ a, cel (cG X) (upA ad (mX μ) a) (newM μ ci 0) (mX μ) = .inr (ci, (List.range (nF ci)).map (fun j => fv (upA ad (mX μ) a) (newM μ ci 0) (mX μ) j (tyF ci j))) := fun a => cel_obj (by show (if mX μ = mX μ then ci else _) = ci; rw [if_pos rfl]) c10
  have hfs : ∀ j, j < qc.2.2 → defaultValue (tyF ci j) = vp_V ((List.range (nF ci)).map (fun j => fv (upA ad (mX μ) 0) (newM μ ci 0) (mX μ) j (tyF ci j))) j := by
    intro j hj
    rw [← hnF] at hj
    have h3 := tyF_ok ci c10 j hj
    have e : vp_V ((List.range (nF ci)).map (fun j => fv (upA ad (mX μ) 0) (newM μ ci 0) (mX μ) j (tyF ci j))) j = fv (upA ad (mX μ) 0) (newM μ ci 0) (mX μ) j (tyF ci j) := by
      unfold vp_V
      rw [List.getD_eq_getElem?_getD, List.getElem?_map, List.getElem?_range hj]
      rfl
    rw [e]
    have eV : mV (newM μ ci 0) (mX μ) j = 0 := by show (if mX μ = mX μ then 0 else _) = 0; rw [if_pos rfl]
    have eP : mP (newM μ ci 0) (mX μ) j = 0 := by show (if mX μ = mX μ then 0 else _) = 0; rw [if_pos rfl]
    unfold fv
    rw [eV, eP]
    revert h3
    cases tyF ci j <;> simp [intT, lngT, refT, defaultValue, trv] <;> rfl
  have hcells : k + 1 ≤ (cR X).cells := Nat.le_trans hk hm.2.2.1
  have hslots : n + qc.2.2 ≤ (cR X).slots := by rw [← hnF]; exact Nat.le_trans hn hm.2.2.2
  refine va_new (ci := ci) F.1 F.2.1 F.2.2.2.2.1 hin (tyF ci) hty F.2.2.2.1 (F.2.2.2.2.1 _ hl) (F.2.2.2.2.1 _ hinst) (F.2.2.2.2.1 _ hini) F.2.2.2.2.2.1.1 R.2.2.2.2.1 R.2.2.2.2.2.1 R.2.2.2.2.2.2.1 F.2.2.2.2.2.2.1 hc hfs hcells hslots hd (fun a H1 hP hD hS => ?_)
  have e0 : (List.range (nF ci)).map (fun j => fv (upA ad (mX μ) 0) (newM μ ci 0) (mX μ) j (tyF ci j)) = (List.range (nF ci)).map (fun j => fv (upA ad (mX μ) a) (newM μ ci 0) (mX μ) j (tyF ci j)) := by
    apply List.map_congr_left
    intro j _
    have eP : mP (newM μ ci 0) (mX μ) j = 0 := by show (if mX μ = mX μ then 0 else _) = 0; rw [if_pos rfl]
    refine fv_ad ?_
    rw [eP]
    have := R.1.1.1
    rw [upA_ne _ _ (by omega), upA_ne _ _ (by omega)]
  rw [e0] at hP hD
  obtain ⟨R', es⟩ := R.new hB (hcell a) hP hD hS
  have := kk (upA ad (mX μ) a) H1 locs lsl R'
  rw [es] at this
  rw [← hnF]
  exact this
def cyT (t : Nat) : Nat := if t = 10 then 0 else if t = 11 then 1 else 2
theorem aw_newarr (F : Fx X Y) {h MC MS : Nat} (hm : Rm X h MC MS) {at' : ArrayType} {t : Nat} {x : Int} (hd : decode Y.2.1 pc = .ok (.newarray at', 2)) (hp : pc + 2 = q) (ht : (t = 10 ∧ newarray.typeOf at' = .byte) ∨ (t = 11 ∧ newarray.typeOf at' = .int) ∨ (t = 12 ∧ newarray.typeOf at' = .long)) (hB : mX μ < BG) (h0 : 0 ≤ x) (h1 : x ≤ 1000000) (hk : k + 1 ≤ MC) (hn : n + x.toNat ≤ MS) (kk : AW X q ls (vR (mX μ) :: st) (newM μ t x.toNat) (k + 1) (n + x.toNat)) : AW X pc ls (vI x :: st) μ k n := by
  intro ad H locs lsl R
  subst hp
  have hx : okI x := R.top
  have hcells : k + 1 ≤ (cR X).cells := Nat.le_trans hk hm.2.2.1
  have hslots : n + x.toNat ≤ (cR X).slots := Nat.le_trans hn hm.2.2.2
  have hneg : ¬ Int32.ofInt x < 0 := by
    rw [Int32.lt_iff_toInt_lt, Int32.toInt_ofInt_of_le hx.1 hx.2]
    show ¬ x < 0
    omega
  have eT : mT (newM μ t x.toNat) (mX μ) = t := by show (if mX μ = mX μ then t else _) = t; rw [if_pos rfl]
  have eN : mN (newM μ t x.toNat) (mX μ) = x.toNat := by show (if mX μ = mX μ then x.toNat else _) = _; rw [if_pos rfl]
  have eV : ∀ j, mV (newM μ t x.toNat) (mX μ) j = 0 := fun j => by show (if mX μ = mX μ then 0 else _) = 0; rw [if_pos rfl]
  have hK := F.2.2.2.2.2.1.1
  rw [List.map_cons]
  rcases ht with ⟨rfl, ht⟩ | ⟨rfl, ht⟩ | ⟨rfl, ht⟩
  · refine va_newa (a0 := (x.toNat, .inl (fun _ => 0))) F.1 F.2.1 (by rw [ht]; exact F.2.2.2.2.1 _ ac_B) ht hK R.2.2.2.2.1 R.2.2.2.2.2.1 R.2.2.2.2.2.2.1 F.2.2.2.2.2.2.1 (fun cA => by rw [vp_cell_i]; rfl) hneg (clampZ hx) (by show x.toNat * 1 ≤ _; omega) hcells hslots hd (fun a cA H1 hK1 hP hD hS => ?_)
    have ec : cA = gy (cG X) 0 := by
      have e1 := (hK1.2 3 (cA, .byte) rfl).2
      have e2 := (hK.2 0 (gy (cG X) 0, .byte) rfl).2
      exact Option.some.inj (Eq.trans (Eq.symm e1) e2)
    subst ec
    obtain ⟨R', es⟩ := RP.new (t := 10) (N := x.toNat) R.pop hB (by rw [cel_B eT, eN]; simp only [eV]; rfl) hP hD hS
    have := kk (upA ad (mX μ) a) H1 locs lsl R'
    rw [es] at this
    exact this
  · refine va_newa (a0 := (x.toNat, .inl (fun _ => 0))) F.1 F.2.1 (by rw [ht]; exact F.2.2.2.2.1 _ ac_I) ht hK R.2.2.2.2.1 R.2.2.2.2.2.1 R.2.2.2.2.2.2.1 F.2.2.2.2.2.2.1 (fun cA => by rw [vp_cell_i]; rfl) hneg (clampZ hx) (by show x.toNat * 4 ≤ _; omega) hcells hslots hd (fun a cA H1 hK1 hP hD hS => ?_)
    have ec : cA = gy (cG X) 1 := by
      have e1 := (hK1.2 3 (cA, .int) rfl).2
      have e2 := (hK.2 1 (gy (cG X) 1, .int) rfl).2
      exact Option.some.inj (Eq.trans (Eq.symm e1) e2)
    subst ec
    obtain ⟨R', es⟩ := RP.new (t := 11) (N := x.toNat) R.pop hB (by rw [cel_I eT, eN]; simp only [eV]; rfl) hP hD hS
    have := kk (upA ad (mX μ) a) H1 locs lsl R'
    rw [es] at this
    exact this
  · refine va_newa (a0 := (x.toNat, .inr (.inl (fun _ => 0)))) F.1 F.2.1 (by rw [ht]; exact F.2.2.2.2.1 _ ac_J) ht hK R.2.2.2.2.1 R.2.2.2.2.2.1 R.2.2.2.2.2.2.1 F.2.2.2.2.2.2.1 (fun cA => by rw [vp_cell_l]; rfl) hneg (clampZ hx) (by show x.toNat * 8 ≤ _; omega) hcells hslots hd (fun a cA H1 hK1 hP hD hS => ?_)
    have ec : cA = gy (cG X) 2 := by
      have e1 := (hK1.2 3 (cA, .long) rfl).2
      have e2 := (hK.2 2 (gy (cG X) 2, .long) rfl).2
      exact Option.some.inj (Eq.trans (Eq.symm e1) e2)
    subst ec
    obtain ⟨R', es⟩ := RP.new (t := 12) (N := x.toNat) R.pop hB (by rw [cel_J eT, eN]; simp only [eV]; rfl) hP hD hS
    have := kk (upA ad (mX μ) a) H1 locs lsl R'
    rw [es] at this
    exact this
-- calls
def avc : AV → Nat
  | .inr (.inl _) => 2
  | _ => 1
theorem trv_avc (ad : Nat → Nat) (v : AV) : (trv ad v).category = avc v := by
  rcases v with v | v | v
  · rfl
  · rfl
  · simp only [trv]; split <;> rfl
theorem avc_sum (ad : Nat → Nat) : ∀ st : List AV, ((st.map (trv ad)).map fun v => v.category).sum = (st.map avc).sum
  | [] => rfl
  | v :: st => by simp only [List.map_cons, List.sum_cons, trv_avc, avc_sum ad st]
/-- behind a call: its answer on the stack -/
def rK (X : CT) (q : Nat) (ls : List (Option AV)) (st : List AV) (k n : Nat) : Option AV → Mem → Prop := fun r μ' => match r with
  | some v => AW X q ls (v :: st) μ' k n
  | none => AW X q ls st μ' k n
theorem wsM_good {Z : MD} (hZ : MI Z) : ∀ w ∈ wsM Z, w ∈ TBL ∧ ((w.onTables && w.keeps) = true ∨ ∃ ty, w = .arrayClass ty) := by
  intro w hw
  have hm : w ∈ TBL := by
    rcases List.mem_cons.mp hw with rfl | hw
    · exact hZ.1
    · exact hw
  exact ⟨hm, good_of_word (List.mem_filter.mp hm).2⟩
theorem pW_blind (G : GE) (ad : Nat → Nat) (args : List AV) (μ : Mem) (sz : Nat) : FrameBlind (pW G ad args μ sz) := fun a U g mk h => by
  obtain ⟨h1, h2, h3, h4, h5⟩ := h
  exact ⟨h1, h2, h3, h4, KF.moved (u := U) (U := U.calling g mk a) (State.WarmedH.refl U) h5⟩
theorem RP.ex (F : Fx X Y) {ad : Nat → Nat} {H : Heap} {locs : List Loc} {lsl : Array Slot} (R : RP X ls st μ ad H locs lsl) : ∀ j, j < 39 → ad (BG + j) = gX (cG X) j := fun j hj => by
  rw [R.2.2.2.1.2 _ (Or.inr (by omega))]
  exact F.2.2.2.2.2.2.2.2.2.1 j hj
theorem RP.sub (F : Fx X Y) {ad : Nat → Nat} {H : Heap} {locs : List Loc} {lsl : Array Slot} (R : RP X ls st μ ad H locs lsl) : ∀ i, va_A (wrl (cG X) ad μ) H.size i → cA X i := by
  intro i h
  rcases h with ⟨j, e, h⟩ | h
  · exact R.2.2.2.2.2.1.2 j (i, e) h
  · exact F.2.2.2.2.2.2.1 i (Nat.le_trans R.2.2.2.2.2.2.1.1 h)
theorem RP.pre (F : Fx X Y) {ad : Nat → Nat} {H : Heap} {locs : List Loc} {lsl : Array Slot} (R : RP X ls st μ ad H locs lsl) (args : List AV) (U : State) (hU : U.heap = H) (hW : (cS X).WarmedH U.vm) : pW (cG X) ad args μ H.size (args.map (trv ad)).toArray U := by
  refine ⟨rfl, by rw [hU], by rw [hU]; exact R.2.2.2.2.1, R.2.2.2.2.2.1.weaken (fun _ _ _ _ => trivial), ?_⟩
  rw [hU]
  exact ((F.2.2.2.2.2.1.kept R.2.2.2.2.2.2.1.2.1).narrow (R.sub F)).moved hW
theorem okV_mono {μ' : Mem} (hx : mX μ ≤ mX μ') {v : AV} (h : okV μ v) : okV μ' v := by
  rcases v with v | v | v
  · exact h
  · exact h
  · rcases h with h | h
    · exact Or.inl (Nat.lt_of_lt_of_le h hx)
    · exact Or.inr h
theorem trv_ext {ad ad' : Nat → Nat} (had : ∀ i, (i < mX μ ∨ BG ≤ i) → ad' i = ad i) {v : AV} (h : okV μ v) : trv ad' v = trv ad v := by
  rcases v with v | v | v
  · rfl
  · rfl
  · simp only [trv]
    rw [had v h]
theorem call_fin (F : Fx X Y) {ad : Nat → Nat} {H : Heap} {locs : List Loc} {lsl : Array Slot} {st0 : List Value} {mc ms : Nat} {a : Array Value} {free : Addr → Prop} {ls0 : List AV} (R : RP X ls ls0 μ ad H locs lsl) (hst : ∀ v ∈ st, okV μ v) (hf : ∀ i, free i → cA X i)
    (hr : va_Run (cPr X) (gl (cG X)) (cE X) (cR X) (cS X) (cM X) (cAr X) (cBe X) (cMe X) (cC X) H locs k n mc ms (F0 (cM X) pc lsl st0) (st.map (trv ad)) (qW (cG X) ad μ H.size (rK X (pc + 3) ls st (k + mc) (n + ms)) a) free) :
    W (cPr X) (gl (cG X)) (cE X) (cR X) (cS X) (cM X) (cAr X) (cBe X) (cMe X) (cC X) H locs k n (cQ X) (F0 (cM X) pc lsl st0) := by
  intro T hT XS
  obtain ⟨v, st₀, t, T', L, h0, XS', hL, e1, e2, ⟨⟨r, μ', ad', hv, hK, hM', hr', hx', had', hP', hD'⟩, hz, hk⟩, stp⟩ := hr T hT XS
  rw [h0] at hz hk
  have hv : v = r.map (trv ad') := by injection hv
  have hsub := R.sub F
  obtain ⟨h1, h2, h3, h4, h5, h6, h7, h8, h9, h10, h11⟩ := R
  have RP' : ∀ st', (∀ v ∈ st', okV μ' v) → RP X ls st' μ' ad' T'.heap (locs ++ L) lsl := by
    intro st' hst'
    refine ⟨hM', fun v hv => okV_mono hx' (h2 v hv), hst', ⟨Nat.le_trans h4.1 hx', fun i hi => ?_⟩, by rw [e1]; exact hP', hD'.weaken (fun j i _ h => hsub _ h), ⟨Nat.le_trans h7.1 (by rw [e1]; exact hz), fun i hi1 hi2 => ?_, fun i hi => ?_⟩, h8, h9, h10, fun i v hv => ?_⟩
    · rw [had' i (by rcases hi with hi | hi; exact Or.inl (Nat.lt_of_lt_of_le hi h4.1); exact Or.inr hi)]
      exact h4.2 i hi
    · rw [e1, hk i (Nat.lt_of_lt_of_le hi1 h7.1) (fun z => hi2 (hsub i z))]
      exact h7.2.1 i hi1 hi2
    · rcases List.mem_append.mp hi with hi | hi
      · exact h7.2.2 i hi
      · exact hf _ (hL i hi)
    · rw [trv_ext had' (h2 v (List.mem_of_getElem? hv))]
      exact h11 i v hv
  have est : st.map (trv ad') = st.map (trv ad) := List.map_congr_left fun v hv => trv_ext had' (hst v hv)
  cases r with
  | none =>
    have hA : AW X (pc + 3) ls st μ' (k + mc) (n + ms) := hK
    have := hA ad' T'.heap (locs ++ L) lsl (RP' st (fun v hv => okV_mono hx' (hst v hv)))
    rw [est] at this
    obtain ⟨t2, a1, b1⟩ := this T' rfl XS'
    subst hv
    exact ⟨t2, stp t2 a1, b1⟩
  | some w =>
    have hA : AW X (pc + 3) ls (w :: st) μ' (k + mc) (n + ms) := hK
    have := hA ad' T'.heap (locs ++ L) lsl (RP' (w :: st) (fun v hv => by
      rcases List.mem_cons.mp hv with rfl | hv
      · exact hr' _ rfl
      · exact okV_mono hx' (hst v hv)))
    rw [List.map_cons, est] at this
    obtain ⟨t2, a1, b1⟩ := this T' rfl XS'
    subst hv
    exact ⟨t2, stp t2 a1, b1⟩
theorem nP.use {Z : MD} {N : Nat} (h : nP Z N) : ∀ sig, parseMethodDescriptor Z.1.desc = some sig → N = sig.parameters.length := fun sig hs => by
  unfold nP at h
  rw [hs] at h
  exact (Option.some.inj h).symm
theorem aw_callV (F : Fx X Y) {h MC MS : Nat} (hm : Rm X h MC MS) {Z : MD} (hi : MIV Z) {idx ci hz mc ms b : Nat} {As : List AV} {qc : vw_C} (hn : nP Z As.length) (hl : ML Y.1.cls idx Z.1) (hd : decode Y.2.1 pc = .ok (.invokevirtual idx, 3)) (hp : pc + 3 = q) (hcl : vwCl[ci]? = some qc) (hcn : qc.1 = Z.1.cls) (hb : isO μ b ci) (hh : hz + 1 ≤ h) (hk : k + mc ≤ MC) (hs : n + ms ≤ MS) (hcat : (st.map avc).sum ≤ 8) (w : Wp (cG X) hz Z (vR b :: As) μ mc ms (rK X q ls st (k + mc) (n + ms))) : AW X pc ls (As.reverse ++ vR b :: st) μ k n := by
  intro ad H locs lsl R
  subst hp
  have c10 := (cls_ok hcl).1
  have hargs : ∀ v ∈ vR b :: As, okV μ v := fun v hv => R.2.2.1 v (by
    rcases List.mem_cons.mp hv with rfl | hv
    · exact List.mem_append_right _ List.mem_cons_self
    · exact List.mem_append_left _ (List.mem_reverse.mpr hv))
  have hst : ∀ v ∈ st, okV μ v := fun v hv => R.2.2.1 v (List.mem_append_right _ (List.mem_cons_of_mem _ hv))
  have M := w ad H.size R.1 hargs (R.ex F)
  have e0 : ((vR b :: As).map (trv ad)) = .ref (ad b) :: As.map (trv ad) := by rw [List.map_cons, refA hb.2.1]
  have hpre : PreV (cS X) H qc.1 (ad b) (pW (cG X) ad (vR b :: As) μ H.size) (As.map (trv ad)) := by
    refine ⟨pW_blind _ _ _ _ _, ?_, fun U hU hW => ?_⟩
    · have he := wrl_get (G := cG X) (ad := ad) hb.2.1 hb.2.2
      rw [cel_obj hb.1 c10] at he
      exact va_recv F.2.2.2.2.2.1.1 R.2.2.2.2.1 hcl he
    · have := R.pre F (vR b :: As) U hU hW
      rw [e0] at this
      exact this
  have hfr : (rmN hz mc ms).frames + 1 ≤ (cR X).frames := by show hz + 1 + 1 ≤ _; have := hm.1; omega
  have hlo : 8 + (Z.2.2.1 + 11) + (rmN hz mc ms).locals ≤ (cR X).locals := by
    show 8 + (Z.2.2.1 + 11) + 100 * (hz + 1) ≤ _
    have := hm.2.1
    have := hi.1.2.2.2.2
    omega
  have hts := F.2.2.2.2.1
  have hws : ∀ w ∈ wsM Z, ∀ (a' : Array Value) (U : State), (cS X).WarmedH U.vm → w.before a' U = true := pay_in hts (wsM_good hi.1)
  have hf : k + mc ≤ (cR X).cells ∧ n + ms ≤ (cR X).slots := ⟨Nat.le_trans hk hm.2.2.1, Nat.le_trans hs hm.2.2.2⟩
  have hsz : (F0 (cM X) pc lsl ((As.reverse ++ vR b :: st).map (trv ad))).locals.size = cN X := R.2.2.2.2.2.2.2.1
  have hstk : (F0 (cM X) pc lsl ((As.reverse ++ vR b :: st).map (trv ad))).stack = (As.map (trv ad)).reverse ++ .ref (ad b) :: st.map (trv ad) := by
    show (As.reverse ++ vR b :: st).map (trv ad) = _
    rw [List.map_append, List.map_reverse, List.map_cons, refA hb.2.1]
  have hW0 : 2 * (F0 (cM X) pc lsl ((As.reverse ++ vR b :: st).map (trv ad))).monitorRoom + ((st.map (trv ad)).map fun v => v.category).sum ≤ 8 := by
    rw [avc_sum]
    exact Nat.le_trans (Nat.le_of_eq (Nat.zero_add _)) hcat
  have hlen : (As.map (trv ad)).length = As.length := by simp
  rcases hl with hl | ⟨host, hl⟩
  · have cw : CallW (cR X) (cS X) (cAr X) Y.1.cls qc.1 idx Z.1 Z.2.1 Z.2.2.1 Z.2.2.2 (wsM Z) (rmN hz mc ms) mc ms As.length := ⟨⟨rfl, rfl, hfr, hlo, hws, List.mem_cons_self, hts _ hi.1.1, hts _ hi.1.2.1, hi.1.2.2.2.1, hn.use, hts _ hl⟩, hts _ hi.2.1, by rw [hcn]; exact hts _ hi.2.2⟩
    exact call_fin F R hst (R.sub F) (va_runV (As := As.map (trv ad)) (b := ad b) ⟨F.1, F.2.1, F.2.2.1, F.2.2.2.1, hts⟩ M cw hpre rfl hlen hsz hstk hW0 hd hf)
  · have cw : va_CN (cR X) (cS X) (cAr X) Y.1.cls idx Z.1 host Z.2.1 Z.2.2.1 Z.2.2.2 (wsM Z) (rmN hz mc ms) mc ms As.length := ⟨⟨rfl, rfl, hfr, hlo, hws, List.mem_cons_self⟩, hts _ hi.1.1, hts _ hi.1.2.1, hi.1.2.2.2.1, hn.use, va_Nw.use rfl (F.2.2.2.2.2.1.2.1 _ hl)⟩
    exact call_fin F R hst (R.sub F) (va_runVN (As := As.map (trv ad)) (b := ad b) (C := qc.1) ⟨F.1, F.2.1, F.2.2.1, F.2.2.2.1, hts⟩ M ⟨cw, hts _ hi.2.1, by rw [hcn]; exact hts _ hi.2.2⟩ hpre rfl hlen hsz hstk hW0 hd hf)
theorem aw_callS (F : Fx X Y) {h MC MS : Nat} (hm : Rm X h MC MS) {Z : MD} (hi : MIS Z) {idx hz mc ms : Nat} {As : List AV} (hn : nP Z As.length) (hl : ML Y.1.cls idx Z.1) (hd : decode Y.2.1 pc = .ok (.invokestatic idx, 3)) (hp : pc + 3 = q) (hh : hz + 1 ≤ h) (hk : k + mc ≤ MC) (hs : n + ms ≤ MS) (hcat : (st.map avc).sum ≤ 8) (w : Wp (cG X) hz Z As μ mc ms (rK X q ls st (k + mc) (n + ms))) : AW X pc ls (As.reverse ++ st) μ k n := by
  intro ad H locs lsl R
  subst hp
  have hargs : ∀ v ∈ As, okV μ v := fun v hv => R.2.2.1 v (List.mem_append_left _ (List.mem_reverse.mpr hv))
  have hst : ∀ v ∈ st, okV μ v := fun v hv => R.2.2.1 v (List.mem_append_right _ hv)
  have M := w ad H.size R.1 hargs (R.ex F)
  have hpre : PreS (cS X) H (pW (cG X) ad As μ H.size) (As.map (trv ad)) := ⟨pW_blind _ _ _ _ _, fun U hU hW => R.pre F As U hU hW⟩
  have hfr : (rmN hz mc ms).frames + 1 ≤ (cR X).frames := by show hz + 1 + 1 ≤ _; have := hm.1; omega
  have hlo : 8 + (Z.2.2.1 + 11) + (rmN hz mc ms).locals ≤ (cR X).locals := by
    show 8 + (Z.2.2.1 + 11) + 100 * (hz + 1) ≤ _
    have := hm.2.1
    have := hi.1.2.2.2.2
    omega
  have hts := F.2.2.2.2.1
  have hws : ∀ w ∈ wsM Z, ∀ (a' : Array Value) (U : State), (cS X).WarmedH U.vm → w.before a' U = true := pay_in hts (wsM_good hi.1)
  have hf : k + mc ≤ (cR X).cells ∧ n + ms ≤ (cR X).slots := ⟨Nat.le_trans hk hm.2.2.1, Nat.le_trans hs hm.2.2.2⟩
  have hsz : (F0 (cM X) pc lsl ((As.reverse ++ st).map (trv ad))).locals.size = cN X := R.2.2.2.2.2.2.2.1
  have hstk : (F0 (cM X) pc lsl ((As.reverse ++ st).map (trv ad))).stack = (As.map (trv ad)).reverse ++ st.map (trv ad) := by
    show (As.reverse ++ st).map (trv ad) = _
    rw [List.map_append, List.map_reverse]
  have hW0 : 2 * (F0 (cM X) pc lsl ((As.reverse ++ st).map (trv ad))).monitorRoom + ((st.map (trv ad)).map fun v => v.category).sum ≤ 8 := by
    rw [avc_sum]
    exact Nat.le_trans (Nat.le_of_eq (Nat.zero_add _)) hcat
  have hlen : (As.map (trv ad)).length = As.length := by simp
  rcases hl with hl | ⟨host, hl⟩
  · have cw : CallB (cR X) (cS X) (cAr X) Y.1.cls idx Z.1 Z.2.1 Z.2.2.1 Z.2.2.2 (wsM Z) (rmN hz mc ms) mc ms As.length := ⟨rfl, rfl, hfr, hlo, hws, List.mem_cons_self, hts _ hi.1.1, hts _ hi.1.2.1, hi.1.2.2.2.1, hn.use, hts _ hl⟩
    exact call_fin F R hst (R.sub F) (va_runS (As := As.map (trv ad)) ⟨F.1, F.2.1, F.2.2.1, F.2.2.2.1, hts⟩ M ⟨cw, hts _ hi.2⟩ hpre rfl hlen hsz hstk hW0 hd hf)
  · have cw : va_CN (cR X) (cS X) (cAr X) Y.1.cls idx Z.1 host Z.2.1 Z.2.2.1 Z.2.2.2 (wsM Z) (rmN hz mc ms) mc ms As.length := ⟨⟨rfl, rfl, hfr, hlo, hws, List.mem_cons_self⟩, hts _ hi.1.1, hts _ hi.1.2.1, hi.1.2.2.2.1, hn.use, va_Nw.use rfl (F.2.2.2.2.2.1.2.1 _ hl)⟩
    exact call_fin F R hst (R.sub F) (va_runSN (As := As.map (trv ad)) ⟨F.1, F.2.1, F.2.2.1, F.2.2.2.1, hts⟩ M ⟨cw, hts _ hi.2, trivial⟩ hpre rfl hlen hsz hstk hW0 hd hf)
theorem aw_callI (F : Fx X Y) {h MC MS : Nat} (hm : Rm X h MC MS) {Z : MD} (hi : MII Z) {idx hz mc ms b : Nat} {As : List AV} (hn : nP Z As.length) (hl : ML Y.1.cls idx Z.1) (hd : decode Y.2.1 pc = .ok (.invokespecial idx, 3)) (hp : pc + 3 = q) (hb : 0 < b) (hh : hz + 1 ≤ h) (hk : k + mc ≤ MC) (hs : n + ms ≤ MS) (hcat : (st.map avc).sum ≤ 8) (w : Wp (cG X) hz Z (vR b :: As) μ mc ms (rK X q ls st (k + mc) (n + ms))) : AW X pc ls (As.reverse ++ vR b :: st) μ k n := by
  intro ad H locs lsl R
  subst hp
  have hargs : ∀ v ∈ vR b :: As, okV μ v := fun v hv => R.2.2.1 v (by
    rcases List.mem_cons.mp hv with rfl | hv
    · exact List.mem_append_right _ List.mem_cons_self
    · exact List.mem_append_left _ (List.mem_reverse.mpr hv))
  have hst : ∀ v ∈ st, okV μ v := fun v hv => R.2.2.1 v (List.mem_append_right _ (List.mem_cons_of_mem _ hv))
  have M := w ad H.size R.1 hargs (R.ex F)
  have e0 : ((vR b :: As).map (trv ad)) = .ref (ad b) :: As.map (trv ad) := by rw [List.map_cons, refA hb]
  have hpre : PreS (cS X) H (pW (cG X) ad (vR b :: As) μ H.size) (.ref (ad b) :: As.map (trv ad)) := ⟨pW_blind _ _ _ _ _, fun U hU hW => by
    have := R.pre F (vR b :: As) U hU hW
    rw [e0] at this
    exact this⟩
  have hfr : (rmN hz mc ms).frames + 1 ≤ (cR X).frames := by show hz + 1 + 1 ≤ _; have := hm.1; omega
  have hlo : 8 + (Z.2.2.1 + 11) + (rmN hz mc ms).locals ≤ (cR X).locals := by
    show 8 + (Z.2.2.1 + 11) + 100 * (hz + 1) ≤ _
    have := hm.2.1
    have := hi.1.2.2.2.2
    omega
  have hts := F.2.2.2.2.1
  have hws : ∀ w ∈ wsM Z, ∀ (a' : Array Value) (U : State), (cS X).WarmedH U.vm → w.before a' U = true := pay_in hts (wsM_good hi.1)
  have hf : k + mc ≤ (cR X).cells ∧ n + ms ≤ (cR X).slots := ⟨Nat.le_trans hk hm.2.2.1, Nat.le_trans hs hm.2.2.2⟩
  have hsz : (F0 (cM X) pc lsl ((As.reverse ++ vR b :: st).map (trv ad))).locals.size = cN X := R.2.2.2.2.2.2.2.1
  have hstk : (F0 (cM X) pc lsl ((As.reverse ++ vR b :: st).map (trv ad))).stack = (As.map (trv ad)).reverse ++ .ref (ad b) :: st.map (trv ad) := by
    show (As.reverse ++ vR b :: st).map (trv ad) = _
    rw [List.map_append, List.map_reverse, List.map_cons, refA hb]
  have hW0 : 2 * (F0 (cM X) pc lsl ((As.reverse ++ vR b :: st).map (trv ad))).monitorRoom + ((st.map (trv ad)).map fun v => v.category).sum ≤ 8 := by
    rw [avc_sum]
    exact Nat.le_trans (Nat.le_of_eq (Nat.zero_add _)) hcat
  have hlen : (As.map (trv ad)).length = As.length := by simp
  have hret := hi.2.2.2
  rcases hl with hl | ⟨host, hl⟩
  · have cw : CallB (cR X) (cS X) (cAr X) Y.1.cls idx Z.1 Z.2.1 Z.2.2.1 none (wsM Z) (rmN hz mc ms) mc ms As.length := ⟨rfl, rfl, hfr, hlo, hws, by rw [← hret]; exact List.mem_cons_self, by rw [← hret]; exact hts _ hi.1.1, hts _ hi.1.2.1, hi.1.2.2.2.1, hn.use, hts _ hl⟩
    exact call_fin F R hst (R.sub F) (va_runI (As := As.map (trv ad)) (b := ad b) ⟨F.1, F.2.1, F.2.2.1, F.2.2.2.1, hts⟩ M ⟨cw, hi.2.2.1, hts _ hi.2.1⟩ hpre rfl hlen hsz hstk hW0 hd hf)
  · have cw : va_CN (cR X) (cS X) (cAr X) Y.1.cls idx Z.1 host Z.2.1 Z.2.2.1 none (wsM Z) (rmN hz mc ms) mc ms As.length := ⟨⟨rfl, rfl, hfr, hlo, hws, by rw [← hret]; exact List.mem_cons_self⟩, by rw [← hret]; exact hts _ hi.1.1, hts _ hi.1.2.1, hi.1.2.2.2.1, hn.use, va_Nw.use rfl (F.2.2.2.2.2.1.2.1 _ hl)⟩
    exact call_fin F R hst (R.sub F) (va_runIN (As := As.map (trv ad)) (b := ad b) ⟨F.1, F.2.1, F.2.2.1, F.2.2.2.1, hts⟩ M ⟨cw, hi.2.2.1, hts _ hi.2.1⟩ hpre rfl hlen hsz hstk hW0 hd hf)
-- ends
theorem ret_q {h mc ms : Nat} {K : Option AV → Mem → Prop} {r : Option AV} {st : List AV} {ad : Nat → Nat} {H : Heap} {locs : List Loc} {lsl : Array Slot} (R : RP X ls st μ ad H locs lsl) {μ0 : Mem} {sz : Nat} (hA : cA X = va_A (wrl (cG X) (cAd X) μ0) sz) (hx : cX0 X = mX μ0) (hK : K r μ) (hr : ∀ v, r = some v → v ∈ st) :
    ∀ t : State, t.heap = H → (cS X).WarmedH t.vm → qW (cG X) (cAd X) μ0 sz K (cAr X) (cS X) (.returned (r.map (trv ad))) t := by
  intro t ht _
  refine ⟨⟨r, μ, ad, rfl, hK, R.1, fun v hv => R.2.2.1 v (hr v hv), by rw [← hx]; exact R.2.2.2.1.1, fun i hi => R.2.2.2.1.2 i (by rw [hx]; exact hi), by rw [ht]; exact R.2.2.2.2.1, by rw [← hA]; exact R.2.2.2.2.2.1⟩, ?_⟩
  rw [← hA]
  exact R.2.2.2.2.2.2.1.F ht
theorem aw_vret (F : Fx X Y) {h mc ms : Nat} {K : Option AV → Mem → Prop} (C : Rx X h mc ms K) (hd : decode Y.2.1 pc = .ok (.return_, 1)) (hr : Y.2.2.2 = none) (hk : k ≤ mc) (hn : n ≤ ms) (hK : K none μ) : AW X pc ls [] μ k n := by
  intro ad H locs lsl R
  obtain ⟨μ0, sz, -, hA, hx, hQ⟩ := C
  rw [hQ]
  refine W.widen hk hn ?_
  exact W.vret F.1 F.2.1 (F.2.2.2.2.2.2.2.2.2.2.trans hr) (ret_q (h := h) (mc := mc) (ms := ms) (r := none) R hA hx hK (fun v hv => by cases hv)) (fun i hi => R.2.2.2.2.2.2.1.2.2 i hi) hd F.2.2.2.2.2.2.2.1
theorem aw_iret (F : Fx X Y) {h mc ms : Nat} {K : Option AV → Mem → Prop} {z : Int} (C : Rx X h mc ms K) (hd : decode Y.2.1 pc = .ok (.ireturn, 1)) (hr : Y.2.2.2 = some .int) (hk : k ≤ mc) (hn : n ≤ ms) (hK : K (some (vI z)) μ) : AW X pc ls [vI z] μ k n := by
  intro ad H locs lsl R
  obtain ⟨μ0, sz, -, hA, hx, hQ⟩ := C
  rw [hQ]
  refine W.widen hk hn ?_
  exact W.iret F.1 F.2.1 (F.2.2.2.2.2.2.2.2.2.2.trans hr) (ret_q (h := h) (mc := mc) (ms := ms) (r := some (vI z)) R hA hx hK (fun v hv => by cases hv; exact List.mem_cons_self)) (fun i hi => R.2.2.2.2.2.2.1.2.2 i hi) hd F.2.2.2.2.2.2.2.1
theorem aw_zret (F : Fx X Y) {h mc ms : Nat} {K : Option AV → Mem → Prop} {z : Int} (C : Rx X h mc ms K) (hd : decode Y.2.1 pc = .ok (.ireturn, 1)) (hr : Y.2.2.2 = some .boolean) (hz : z = 0 ∨ z = 1) (hk : k ≤ mc) (hn : n ≤ ms) (hK : K (some (vI z)) μ) : AW X pc ls [vI z] μ k n := by
  intro ad H locs lsl R
  obtain ⟨μ0, sz, -, hA, hx, hQ⟩ := C
  rw [hQ]
  refine W.widen hk hn ?_
  exact W.zret F.1 F.2.1 (F.2.2.2.2.2.2.2.2.2.2.trans hr) (by rcases hz with rfl | rfl <;> rfl) (ret_q (h := h) (mc := mc) (ms := ms) (r := some (vI z)) R hA hx hK (fun v hv => by cases hv; exact List.mem_cons_self)) (fun i hi => R.2.2.2.2.2.2.1.2.2 i hi) hd F.2.2.2.2.2.2.2.1
theorem aw_lret (F : Fx X Y) {h mc ms : Nat} {K : Option AV → Mem → Prop} {z : Int} (C : Rx X h mc ms K) (hd : decode Y.2.1 pc = .ok (.lreturn, 1)) (hr : Y.2.2.2 = some .long) (hk : k ≤ mc) (hn : n ≤ ms) (hK : K (some (vL z)) μ) : AW X pc ls [vL z] μ k n := by
  intro ad H locs lsl R
  obtain ⟨μ0, sz, -, hA, hx, hQ⟩ := C
  rw [hQ]
  refine W.widen hk hn ?_
  exact W.lret F.1 F.2.1 (F.2.2.2.2.2.2.2.2.2.2.trans hr) (ret_q (h := h) (mc := mc) (ms := ms) (r := some (vL z)) R hA hx hK (fun v hv => by cases hv; exact List.mem_cons_self)) (fun i hi => R.2.2.2.2.2.2.1.2.2 i hi) hd F.2.2.2.2.2.2.2.1
theorem aw_aret (F : Fx X Y) {h mc ms : Nat} {K : Option AV → Mem → Prop} {r : Nat} {c0 : String} (C : Rx X h mc ms K) (hd : decode Y.2.1 pc = .ok (.areturn, 1)) (hr : Y.2.2.2 = some (.object c0)) (hk : k ≤ mc) (hn : n ≤ ms) (hK : K (some (vR r)) μ) : AW X pc ls [vR r] μ k n := by
  intro ad H locs lsl R
  obtain ⟨μ0, sz, -, hA, hx, hQ⟩ := C
  rw [hQ]
  refine W.widen hk hn ?_
  refine W.aret F.1 F.2.1 (F.2.2.2.2.2.2.2.2.2.2.trans hr) (Or.inl ⟨_, rfl⟩) ?_ (ret_q (h := h) (mc := mc) (ms := ms) (r := some (vR r)) R hA hx hK (fun v hv => by cases hv; exact List.mem_cons_self)) (fun i hi => R.2.2.2.2.2.2.1.2.2 i hi) hd F.2.2.2.2.2.2.2.1
  rw [trv_R]
  split
  · exact Or.inl rfl
  · exact Or.inr ⟨_, rfl⟩
theorem aw_oinit (F : Fx X Y) {h MC MS : Nat} (hm : Rm X h MC MS) {idx a : Nat} (hl : Cond.methodLink Y.1.cls idx Lib.objectInit ∈ TBL) (hd : decode Y.2.1 pc = .ok (.invokespecial idx, 3)) (hp : pc + 3 = q) (ha : 0 < a) (hcat : (st.map avc).sum ≤ 8) (kk : AW X q ls st μ k n) : AW X pc ls (vR a :: st) μ k n := by
  intro ad H locs lsl R
  subst hp
  have hts := F.2.2.2.2.1
  have h1 := kk ad H locs lsl R.pop
  rw [List.map_cons, refA ha]
  refine W.objInit F.1 F.2.1 F.2.2.2.1 (hts _ hl) (hts _ oi_ok.1) (hts _ oi_ok.2) (g := F0 (cM X) pc lsl (.ref (ad a) :: st.map (trv ad))) rfl (R.2.2.2.2.2.2.2.1.trans F.2.2.1.symm) rfl hd (by have := hm.1; omega) ?_ h1
  have := hm.2.1
  rw [avc_sum]
  have e : (F0 (cM X) pc lsl (.ref (ad a) :: st.map (trv ad))).monitorRoom = 0 := rfl
  rw [e]
  omega
theorem mm_ok : Cond.static Lib.Math.min.name ∈ TBL ∧ Cond.initialized "java/lang/Math" ∈ TBL ∧ Cond.code Lib.Math.min.name Lib.Math.min.code 2 (some .int) ∈ TBL := ⟨tb2 119 (by decide +kernel) rfl, tb1 10 (by decide +kernel) rfl, tb2 120 (by decide +kernel) rfl⟩
theorem mm_E : Cond.methodLink "LastLatch$Reader" 26 Lib.Math.min.name ∈ TBL := tb2 118 (by decide +kernel) rfl
theorem mm_H : Cond.methodLink "LastLatch$Hall" 39 Lib.Math.min.name ∈ TBL := tb3 74 (by decide +kernel) rfl
theorem aw_mmin (F : Fx X Y) {h MC MS : Nat} (hm : Rm X h MC MS) {idx : Nat} {x y : Int} (hl : Cond.methodLink Y.1.cls idx Lib.Math.min.name ∈ TBL) (hd : decode Y.2.1 pc = .ok (.invokestatic idx, 3)) (hp : pc + 3 = q) (hcat : (st.map avc).sum ≤ 8) (hk : k ≤ MC) (hn : n ≤ MS) (kk : AW X q ls (vI (min x y) :: st) μ k n) : AW X pc ls (vI y :: vI x :: st) μ k n := by
  intro ad H locs lsl R
  subst hp
  have hts := F.2.2.2.2.1
  have hy : okI y := R.top
  have hx : okI x := R.pop.top
  have h1 := kk ad H locs lsl (R.pop.pop.push (show okI (min x y) by rcases Int.le_total x y with h | h <;> simp only [Int.min_def] <;> split <;> assumption))
  have e : trv ad (vI (min x y)) = .int (if Int32.ofInt y < Int32.ofInt x then Int32.ofInt y else Int32.ofInt x) := by
    show Value.int (Int32.ofInt (min x y)) = _
    simp only [i32_lt hy hx, Int.min_def]
    congr 1
    split <;> split <;> first | rfl | omega
  rw [List.map_cons, e] at h1
  refine va_mmin F.1 F.2.1 (F.2.2.1.trans R.2.2.2.2.2.2.2.1.symm) F.2.2.2.1 (hts _ hl) (hts _ mm_ok.1) (hts _ mm_ok.2.1) (hts _ mm_ok.2.2) (by have := hm.1; omega) ?_ (Nat.le_trans hk hm.2.2.1) (Nat.le_trans hn hm.2.2.2) hd h1
  have := hm.2.1
  rw [avc_sum]
  omega
end CallRows
