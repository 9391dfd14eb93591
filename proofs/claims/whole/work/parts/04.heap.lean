section HeapRows
variable {X : CT} {Y : MD} {pc q : Nat} {ls : List (Option AV)} {st : List AV} {μ : Mem} {k n : Nat}
def intT (t : FieldType) : Bool := match t with
  | .int => true
  | .boolean => true
  | _ => false
def lngT (t : FieldType) : Bool := match t with
  | .long => true
  | _ => false
def refT (t : FieldType) : Bool := match t with
  | .object _ => true
  | .array _ => true
  | _ => false
theorem fv_int {ad : Nat → Nat} {i j : Nat} {t : FieldType} (h : intT t = true) : fv ad μ i j t = trv ad (vI (mV μ i j)) := by cases t <;> simp [intT] at h <;> rfl
theorem fv_lng {ad : Nat → Nat} {i j : Nat} {t : FieldType} (h : lngT t = true) : fv ad μ i j t = trv ad (vL (mV μ i j)) := by cases t <;> simp [lngT] at h <;> rfl
theorem fv_ref {ad : Nat → Nat} {i j : Nat} {t : FieldType} (h : refT t = true) : fv ad μ i j t = trv ad (vR (mP μ i j)) := by cases t <;> simp [refT] at h <;> rfl
theorem lgS_obj {c j : Nat} (hc : c < 10) : lgS c j ↔ lngT (tyF c j) = true := by
  unfold lgS
  constructor
  · rintro (h | ⟨-, h⟩)
    · omega
    · rw [h]; rfl
  · intro h
    refine Or.inr ⟨hc, ?_⟩
    cases ht : tyF c j <;> rw [ht] at h <;> simp [lngT] at h <;> rfl
theorem FL.use {own : String} {idx ci f : Nat} (h : FL own idx ci f) : ci < 10 ∧ f < nF ci := by
  obtain ⟨q, h1, h2, -⟩ := h
  have := cls_ok h1
  exact ⟨this.1, by rw [this.2.1]; exact h2⟩
theorem get_core (F : Fx X Y) {idx ci f a : Nat} {ad : Nat → Nat} {H : Heap} {locs : List Loc} {lsl : Array Slot} {rest : List Value} (hl : FL Y.1.cls idx ci f) (hd : decode Y.2.1 pc = .ok (.getfield idx, 3)) (ha : isO μ a ci) (hP : va_P (gD (cG X)) vwCl (wrl (cG X) ad μ) H)
    (h : W (cPr X) (gl (cG X)) (cE X) (cR X) (cS X) (cM X) (cAr X) (cBe X) (cMe X) (cC X) H locs k n (cQ X) (F0 (cM X) (pc + 3) lsl (fv ad μ a f (tyF ci f) :: rest))) : W (cPr X) (gl (cG X)) (cE X) (cR X) (cS X) (cM X) (cAr X) (cBe X) (cMe X) (cC X) H locs k n (cQ X) (F0 (cM X) pc lsl (trv ad (vR a) :: rest)) := by
  obtain ⟨qc, hc, hf, hdecl, hlk⟩ := hl
  obtain ⟨c10, hnF, hin, -⟩ := cls_ok hc
  have he : (wrl (cG X) ad μ)[a - 1]? = some (ad a, .inr (ci, (List.range (nF ci)).map (fun j => fv ad μ a j (tyF ci j)))) := by rw [wrl_get ha.2.1 ha.2.2, cel_obj ha.1 c10]
  have hv : ((List.range (nF ci)).map (fun j => fv ad μ a j (tyF ci j)))[f]? = some (fv ad μ a f (tyF ci f)) := by
    rw [List.getElem?_map, List.getElem?_range (by rw [hnF]; exact hf)]; rfl
  have hsame : ∀ x, (cS X).fieldFound? (qc.2.1 f).1 (qc.2.1 f).2.1 (qc.2.1 f).2.2.1 = some x → (cS X).fieldFound? qc.1 (qc.2.1 f).2.1 (qc.2.1 f).2.2.1 = some x := fun x hx => by rw [hdecl] at hx; exact hx
  have e : trv ad (vR a) = .ref (ad a) := by have := ha.2.1; simp [trv]; omega
  rw [e]
  rcases hlk with hlk | ⟨host, hlk⟩
  · exact va_get F.1 F.2.1 F.2.2.2.2.1 hin F.2.2.2.1 F.2.2.2.2.2.1.1 hP (a - 1) he hc f hf (F.2.2.2.2.1 _ hlk) hsame hv hd h
  · exact va_getN F.1 F.2.1 F.2.2.2.2.1 hin F.2.2.2.1 F.2.2.2.2.2.1.1 hP (a - 1) he hc f hf (va_Nw.use rfl (F.2.2.2.2.2.1.2.1 _ hlk)) hsame hv hd h
theorem aw_geti (F : Fx X Y) {idx ci f a : Nat} (hl : FL Y.1.cls idx ci f) (hd : decode Y.2.1 pc = .ok (.getfield idx, 3)) (hp : pc + 3 = q) (ht : intT (tyF ci f) = true) (ha : isO μ a ci) (kk : AW X q ls (vI (mV μ a f) :: st) μ k n) : AW X pc ls (vR a :: st) μ k n := by
  intro ad H locs lsl R
  subst hp
  refine get_core F hl hd ha R.2.2.2.2.1 ?_
  rw [fv_int ht]
  refine kk ad H locs lsl (R.pop.push ?_)
  refine (R.1.2.2 a f).2.1 (fun h => ?_)
  rw [ha.1, lgS_obj hl.use.1] at h
  revert ht h
  cases tyF ci f <;> simp [intT, lngT]
theorem aw_getl (F : Fx X Y) {idx ci f a : Nat} (hl : FL Y.1.cls idx ci f) (hd : decode Y.2.1 pc = .ok (.getfield idx, 3)) (hp : pc + 3 = q) (ht : lngT (tyF ci f) = true) (ha : isO μ a ci) (kk : AW X q ls (vL (mV μ a f) :: st) μ k n) : AW X pc ls (vR a :: st) μ k n := by
  intro ad H locs lsl R
  subst hp
  refine get_core F hl hd ha R.2.2.2.2.1 ?_
  rw [fv_lng ht]
  refine kk ad H locs lsl (R.pop.push ?_)
  refine (R.1.2.2 a f).1 ?_
  rw [ha.1, lgS_obj hl.use.1]
  exact ht
theorem aw_geta (F : Fx X Y) {idx ci f a : Nat} (hl : FL Y.1.cls idx ci f) (hd : decode Y.2.1 pc = .ok (.getfield idx, 3)) (hp : pc + 3 = q) (ht : refT (tyF ci f) = true) (ha : isO μ a ci) (kk : AW X q ls (vR (mP μ a f) :: st) μ k n) : AW X pc ls (vR a :: st) μ k n := by
  intro ad H locs lsl R
  subst hp
  refine get_core F hl hd ha R.2.2.2.2.1 ?_
  rw [fv_ref ht]
  exact kk ad H locs lsl (R.pop.push (R.1.2.1 a f))
theorem cel_setV_O {G : GE} {ad : Nat → Nat} {a c f : Nat} {z : Int} (h : mT μ a = c) (hc : c < 10) (hr : refT (tyF c f) = false) : cel G ad (setV μ a f z) a = .inr (c, ((List.range (nF c)).map (fun j => fv ad μ a j (tyF c j))).set f (fv ad (setV μ a f z) a f (tyF c f))) := by
  rw [cel_obj (μ := setV μ a f z) h hc]
  congr 2
  refine (range_set _ (fun j => fv ad (setV μ a f z) a j (tyF c j)) fun j hj => ?_).symm
  unfold fv
  simp only [setV, mV, mP, up2_nek _ _ hj]
theorem cel_setP_O {G : GE} {ad : Nat → Nat} {a c f r : Nat} (h : mT μ a = c) (hc : c < 10) : cel G ad (setP μ a f r) a = .inr (c, ((List.range (nF c)).map (fun j => fv ad μ a j (tyF c j))).set f (fv ad (setP μ a f r) a f (tyF c f))) := by
  rw [cel_obj (μ := setP μ a f r) h hc]
  congr 2
  refine (range_set _ (fun j => fv ad (setP μ a f r) a j (tyF c j)) fun j hj => ?_).symm
  unfold fv
  simp only [setP, mV, mP, up2_nek _ _ hj]
def chkN (w : Cond) : Bool := match w with
  | .fieldLinkNest o _ r _ _ _ => o == "LastLatchModel" && r == "LastLatchModel$Lane"
  | _ => true
theorem nest_all : nestW.all chkN = true := by decide +kernel
theorem nest_ref {own ref nm d host : String} {i : Nat} (h : Cond.fieldLinkNest own i ref nm d host ∈ nestW) : own ≠ ref := by
  have h1 := List.all_eq_true.mp nest_all _ h
  simp only [chkN, Bool.and_eq_true, beq_iff_eq] at h1
  rw [h1.1, h1.2]
  decide
theorem put_core (F : Fx X Y) {idx ci f a : Nat} {ad : Nat → Nat} {H : Heap} {locs : List Loc} {lsl : Array Slot} {rest : List Value} {v : Value} {μ' : Mem} (hl : FL Y.1.cls idx ci f) (hd : decode Y.2.1 pc = .ok (.putfield idx, 3)) (ha : isO μ a ci) (hP : va_P (gD (cG X)) vwCl (wrl (cG X) ad μ) H) (hD : va_D (cA X) (wrl (cG X) ad μ)) (hS : va_S (cA X) (cS X).heap H locs)
    (hfin : (∀ q, vwCl[ci]? = some q → (q.2.1 f).2.2.2 = false) ∨ ((∀ q, vwCl[ci]? = some q → (q.2.1 f).2.2.2 = true) ∧ Y.1.name = "<init>" ∧ (∀ q, vwCl[ci]? = some q → q.1 = Y.1.cls)))
    (hn : narrow (tyF ci f) v = v) (hfit : fits (tyF ci f) v = true) (hw : (wrl (cG X) ad μ).set (a - 1) (ad a, .inr (ci, ((List.range (nF ci)).map (fun j => fv ad μ a j (tyF ci j))).set f v)) = wrl (cG X) ad μ')
    (h : ∀ (H1 : Heap) (locs1 : List Loc), va_P (gD (cG X)) vwCl (wrl (cG X) ad μ') H1 → va_D (cA X) (wrl (cG X) ad μ') → va_S (cA X) (cS X).heap H1 locs1 → W (cPr X) (gl (cG X)) (cE X) (cR X) (cS X) (cM X) (cAr X) (cBe X) (cMe X) (cC X) H1 locs1 k n (cQ X) (F0 (cM X) (pc + 3) lsl rest)) : W (cPr X) (gl (cG X)) (cE X) (cR X) (cS X) (cM X) (cAr X) (cBe X) (cMe X) (cC X) H locs k n (cQ X) (F0 (cM X) pc lsl (v :: trv ad (vR a) :: rest)) := by
  obtain ⟨qc, hc, hf, hdecl, hlk⟩ := hl
  obtain ⟨c10, hnF, hin, hty, hnm, -⟩ := cls_ok hc
  have he : (wrl (cG X) ad μ)[a - 1]? = some (ad a, .inr (ci, (List.range (nF ci)).map (fun j => fv ad μ a j (tyF ci j)))) := by rw [wrl_get ha.2.1 ha.2.2, cel_obj ha.1 c10]
  have hsame : ∀ x, (cS X).fieldFound? (qc.2.1 f).1 (qc.2.1 f).2.1 (qc.2.1 f).2.2.1 = some x → (cS X).fieldFound? qc.1 (qc.2.1 f).2.1 (qc.2.1 f).2.2.1 = some x := fun x hx => by rw [hdecl] at hx; exact hx
  have e : trv ad (vR a) = .ref (ad a) := by have := ha.2.1; simp [trv]; omega
  have hlen : f < ((List.range (nF ci)).map (fun j => fv ad μ a j (tyF ci j))).length := by simp; rw [hnF]; exact hf
  rw [e]
  rw [← hw] at h
  rcases hfin with hfin | ⟨hfin, hini, hself⟩
  · rcases hlk with hlk | ⟨host, hlk⟩
    · exact va_put F.1 F.2.1 F.2.2.2.2.1 hin (tyF ci) hty hnm F.2.2.2.1 F.2.2.2.2.2.1.1 hP hD hS (a - 1) he hc f hf (F.2.2.2.2.1 _ hlk) hsame (hfin _ hc) (hty f hf) hn hfit hlen hd h
    · exact va_putN F.1 F.2.1 F.2.2.2.2.1 hin (tyF ci) hty hnm F.2.2.2.1 F.2.2.2.2.2.1.1 hP hD hS (a - 1) he hc f hf (va_Nw.use rfl (F.2.2.2.2.2.1.2.1 _ hlk)) hsame (hfin _ hc) (hty f hf) hn hfit hlen hd h
  · rcases hlk with hlk | ⟨host, hlk⟩
    · exact va_putF F.1 F.2.1 F.2.2.2.2.1 hin (tyF ci) hty hnm F.2.2.2.1 F.2.2.2.2.2.1.1 hP hD hS (a - 1) he hc f hf (F.2.2.2.2.1 _ hlk) hsame (hfin _ hc) (F.2.2.2.2.2.2.2.2.1.trans hini) (hdecl.trans (hself _ hc)) (hty f hf) hn hfit hlen hd h
    · exact absurd (hself _ hc).symm (nest_ref hlk)
theorem wrl_setV_O {G : GE} {ad : Nat → Nat} {a c f : Nat} {z : Int} (ha : isO μ a c) (hc : c < 10) (hr : refT (tyF c f) = false) : (wrl G ad μ).set (a - 1) (ad a, .inr (c, ((List.range (nF c)).map (fun j => fv ad μ a j (tyF c j))).set f (fv ad (setV μ a f z) a f (tyF c f)))) = wrl G ad (setV μ a f z) := cel_set ha.2.1 rfl (cel_setV_O ha.1 hc hr) (fun b hb => cel_setV_ne hb)
theorem wrl_setP_O {G : GE} {ad : Nat → Nat} {a c f r : Nat} (ha : isO μ a c) (hc : c < 10) : (wrl G ad μ).set (a - 1) (ad a, .inr (c, ((List.range (nF c)).map (fun j => fv ad μ a j (tyF c j))).set f (fv ad (setP μ a f r) a f (tyF c f)))) = wrl G ad (setP μ a f r) := cel_set ha.2.1 rfl (cel_setP_O ha.1 hc) (fun b hb => cel_setP_ne hb)
theorem okM_setV {a f : Nat} {z : Int} (h : okM μ) (h1 : lgS (mT μ a) f → okL z) (h2 : ¬ lgS (mT μ a) f → okI z) (h3 : mT μ a = 10 → -128 ≤ z ∧ z < 128) : okM (setV μ a f z) := by
  refine ⟨h.1, h.2.1, fun b j => ?_⟩
  show (lgS (mT μ b) j → okL (up2 (mV μ) a f z b j)) ∧ (¬ lgS (mT μ b) j → okI (up2 (mV μ) a f z b j)) ∧ (mT μ b = 10 → -128 ≤ up2 (mV μ) a f z b j ∧ up2 (mV μ) a f z b j < 128)
  by_cases hb : b = a ∧ j = f
  · rw [hb.1, hb.2, up2_same]
    exact ⟨h1, h2, h3⟩
  · rw [up2_ne _ _ hb]
    exact h.2.2 b j
theorem okM_setP {a f r : Nat} (h : okM μ) (h1 : okR μ r) : okM (setP μ a f r) := by
  refine ⟨h.1, fun b j => ?_, h.2.2⟩
  show okR μ (up2 (mP μ) a f r b j)
  by_cases hb : b = a ∧ j = f
  · rw [hb.1, hb.2, up2_same]; exact h1
  · rw [up2_ne _ _ hb]; exact h.2.1 b j
theorem okV_setV {a f : Nat} {z : Int} {v : AV} : okV (setV μ a f z) v ↔ okV μ v := by rcases v with v | v | v <;> exact Iff.rfl
theorem okV_setP {a f r : Nat} {v : AV} : okV (setP μ a f r) v ↔ okV μ v := by rcases v with v | v | v <;> exact Iff.rfl
theorem RP.memV {ad : Nat → Nat} {H H1 : Heap} {locs locs1 : List Loc} {lsl : Array Slot} {μ' : Mem} {st' : List AV} (R : RP X ls st μ ad H locs lsl) (hx : mX μ' = mX μ) (hM : okM μ') (hst : ∀ v ∈ st', v ∈ st) (hP : va_P (gD (cG X)) vwCl (wrl (cG X) ad μ') H1) (hD : va_D (cA X) (wrl (cG X) ad μ')) (hS : va_S (cA X) (cS X).heap H1 locs1) : RP X ls st' μ' ad H1 locs1 lsl := by
  obtain ⟨h1, h2, h3, h4, h5, h6, h7, h8⟩ := R
  have hv : ∀ v, okV μ v → okV μ' v := by
    intro v h
    rcases v with v | v | v
    · exact h
    · exact h
    · show okR μ' v
      unfold okR
      rw [hx]
      exact h
  exact ⟨hM, fun v h => hv v (h2 v h), fun v h => hv v (h3 v (hst v h)), ⟨by rw [hx]; exact h4.1, h4.2⟩, hP, hD, hS, h8⟩
/-- a field may be written here -/
def wrF (Y : MD) (ci f : Nat) : Prop := (∀ q, vwCl[ci]? = some q → (q.2.1 f).2.2.2 = false) ∨ ((∀ q, vwCl[ci]? = some q → (q.2.1 f).2.2.2 = true) ∧ Y.1.name = "<init>" ∧ (∀ q, vwCl[ci]? = some q → q.1 = Y.1.cls))
theorem aw_puti (F : Fx X Y) {idx ci f a : Nat} {z : Int} (hl : FL Y.1.cls idx ci f) (hd : decode Y.2.1 pc = .ok (.putfield idx, 3)) (hp : pc + 3 = q) (ht : tyF ci f = .int) (hw : wrF Y ci f) (ha : isO μ a ci) (kk : AW X q ls st (setV μ a f z) k n) : AW X pc ls (vI z :: vR a :: st) μ k n := by
  intro ad H locs lsl R
  subst hp
  have h0 := wrl_setV_O (G := cG X) (ad := ad) (z := z) (f := f) ha hl.use.1 (by rw [ht]; rfl)
  have e : fv ad (setV μ a f z) a f (tyF ci f) = .int (Int32.ofInt z) := by
    rw [ht]
    show Value.int (Int32.ofInt (up2 (mV μ) a f z a f)) = _
    rw [up2_same]
  rw [e] at h0
  refine put_core F hl hd ha R.2.2.2.2.1 R.2.2.2.2.2.1 R.2.2.2.2.2.2.1 hw (by rw [ht]; rfl) (by rw [ht]; rfl) h0 (fun H1 locs1 hP hD hS => ?_)
  exact kk ad H1 locs1 lsl (R.memV rfl (okM_setV R.1 (fun h => absurd h (by rw [ha.1, lgS_obj hl.use.1, ht]; decide)) (fun _ => R.top) (fun h => absurd h (by have := hl.use.1; rw [ha.1]; omega))) (fun v h => List.mem_cons_of_mem _ (List.mem_cons_of_mem _ h)) hP hD hS)
theorem aw_putz (F : Fx X Y) {idx ci f a : Nat} {z : Int} (hl : FL Y.1.cls idx ci f) (hd : decode Y.2.1 pc = .ok (.putfield idx, 3)) (hp : pc + 3 = q) (ht : tyF ci f = .boolean) (hw : wrF Y ci f) (ha : isO μ a ci) (hz : z = 0 ∨ z = 1) (kk : AW X q ls st (setV μ a f z) k n) : AW X pc ls (vI z :: vR a :: st) μ k n := by
  intro ad H locs lsl R
  subst hp
  have h0 := wrl_setV_O (G := cG X) (ad := ad) (z := z) (f := f) ha hl.use.1 (by rw [ht]; rfl)
  have e : fv ad (setV μ a f z) a f (tyF ci f) = .int (Int32.ofInt z) := by
    rw [ht]
    show Value.int (Int32.ofInt (up2 (mV μ) a f z a f)) = _
    rw [up2_same]
  rw [e] at h0
  refine put_core F hl hd ha R.2.2.2.2.1 R.2.2.2.2.2.1 R.2.2.2.2.2.2.1 hw (by rw [ht]; rcases hz with rfl | rfl <;> rfl) (by rw [ht]; rcases hz with rfl | rfl <;> rfl) h0 (fun H1 locs1 hP hD hS => ?_)
  exact kk ad H1 locs1 lsl (R.memV rfl (okM_setV R.1 (fun h => absurd h (by rw [ha.1, lgS_obj hl.use.1, ht]; decide)) (fun _ => R.top) (fun h => absurd h (by have := hl.use.1; rw [ha.1]; omega))) (fun v h => List.mem_cons_of_mem _ (List.mem_cons_of_mem _ h)) hP hD hS)
theorem aw_putl (F : Fx X Y) {idx ci f a : Nat} {z : Int} (hl : FL Y.1.cls idx ci f) (hd : decode Y.2.1 pc = .ok (.putfield idx, 3)) (hp : pc + 3 = q) (ht : tyF ci f = .long) (hw : wrF Y ci f) (ha : isO μ a ci) (kk : AW X q ls st (setV μ a f z) k n) : AW X pc ls (vL z :: vR a :: st) μ k n := by
  intro ad H locs lsl R
  subst hp
  have h0 := wrl_setV_O (G := cG X) (ad := ad) (z := z) (f := f) ha hl.use.1 (by rw [ht]; rfl)
  have e : fv ad (setV μ a f z) a f (tyF ci f) = .long (Int64.ofInt z) := by
    rw [ht]
    show Value.long (Int64.ofInt (up2 (mV μ) a f z a f)) = _
    rw [up2_same]
  rw [e] at h0
  refine put_core F hl hd ha R.2.2.2.2.1 R.2.2.2.2.2.1 R.2.2.2.2.2.2.1 hw (by rw [ht]; rfl) (by rw [ht]; rfl) h0 (fun H1 locs1 hP hD hS => ?_)
  exact kk ad H1 locs1 lsl (R.memV rfl (okM_setV R.1 (fun _ => R.top) (fun h => absurd (by rw [ha.1, lgS_obj hl.use.1, ht]; rfl) h) (fun h => absurd h (by have := hl.use.1; rw [ha.1]; omega))) (fun v h => List.mem_cons_of_mem _ (List.mem_cons_of_mem _ h)) hP hD hS)
theorem aw_puta (F : Fx X Y) {idx ci f a r : Nat} (hl : FL Y.1.cls idx ci f) (hd : decode Y.2.1 pc = .ok (.putfield idx, 3)) (hp : pc + 3 = q) (ht : refT (tyF ci f) = true) (hw : wrF Y ci f) (ha : isO μ a ci) (kk : AW X q ls st (setP μ a f r) k n) : AW X pc ls (vR r :: vR a :: st) μ k n := by
  intro ad H locs lsl R
  subst hp
  have h0 := wrl_setP_O (G := cG X) (ad := ad) (r := r) (f := f) ha hl.use.1
  have e : fv ad (setP μ a f r) a f (tyF ci f) = trv ad (vR r) := by
    rw [fv_ref ht]
    show trv ad (vR (up2 (mP μ) a f r a f)) = _
    rw [up2_same]
  rw [e] at h0
  have hn : narrow (tyF ci f) (trv ad (vR r)) = trv ad (vR r) := by
    rw [trv_R]
    split <;> cases h : tyF ci f <;> rw [h] at ht <;> simp [refT] at ht <;> rfl
  have hf : fits (tyF ci f) (trv ad (vR r)) = true := by
    rw [trv_R]
    split <;> cases h : tyF ci f <;> rw [h] at ht <;> simp [refT] at ht <;> rfl
  refine put_core F hl hd ha R.2.2.2.2.1 R.2.2.2.2.2.1 R.2.2.2.2.2.2.1 hw hn hf h0 (fun H1 locs1 hP hD hS => ?_)
  exact kk ad H1 locs1 lsl (R.memV rfl (okM_setP R.1 R.top) (fun v h => List.mem_cons_of_mem _ (List.mem_cons_of_mem _ h)) hP hD hS)
-- rows
theorem cel_B {G : GE} {ad : Nat → Nat} {a : Nat} (h : mT μ a = 10) : cel G ad μ a = .inl (gy G 0, mN μ a, .inl (fun j => Int32.ofInt (mV μ a j))) := by unfold cel; rw [if_pos h]
theorem cel_I {G : GE} {ad : Nat → Nat} {a : Nat} (h : mT μ a = 11) : cel G ad μ a = .inl (gy G 1, mN μ a, .inl (fun j => Int32.ofInt (mV μ a j))) := by unfold cel; rw [if_neg (by omega), if_pos h]
theorem cel_J {G : GE} {ad : Nat → Nat} {a : Nat} (h : mT μ a = 12) : cel G ad μ a = .inl (gy G 2, mN μ a, .inr (.inl (fun j => Int64.ofInt (mV μ a j)))) := by unfold cel; rw [if_neg (by omega), if_neg (by omega), if_pos h]
theorem vp_in_of_int {x : Int} {N : Nat} (hx : okI x) (h0 : 0 ≤ x) (h1 : x < N) : vp_in (Int32.ofInt x) N := by
  rw [vp_in_iff, Int32.toInt_ofInt_of_le hx.1 hx.2]
  exact ⟨h0, h1⟩
theorem clampZ {x : Int} (hx : okI x) : (Int32.ofInt x).toNatClampNeg = x.toNat := by
  rw [Int32.toNatClampNeg_ofInt_of_le hx.1 hx.2]
theorem refA {ad : Nat → Nat} {a : Nat} (h : 0 < a) : trv ad (vR a) = .ref (ad a) := by simp [trv]; omega
theorem aw_iaload (F : Fx X Y) {a N : Nat} {x : Int} (hd : decode Y.2.1 pc = .ok (.iaload, 1)) (hp : pc + 1 = q) (ha : isA μ a 11 N) (h0 : 0 ≤ x) (h1 : x < N) (kk : AW X q ls (vI (mV μ a x.toNat) :: st) μ k n) : AW X pc ls (vI x :: vR a :: st) μ k n := by
  intro ad H locs lsl R
  subst hp
  have hx : okI x := R.top
  have he := wrl_get (G := cG X) (ad := ad) ha.2.2.1 ha.2.2.2
  rw [cel_I ha.1, ha.2.1] at he
  have h := kk ad H locs lsl (R.pop.pop.push ((R.1.2.2 a x.toNat).2.1 (by rw [ha.1]; unfold lgS; omega)))
  rw [List.map_cons, List.map_cons, refA ha.2.2.1]
  refine va_iald F.1 F.2.1 F.2.2.2.2.2.1.1 R.2.2.2.2.1 (a - 1) 1 he rfl (vp_in_of_int hx h0 h1) hd ?_
  rw [clampZ hx]
  exact h
theorem aw_baload (F : Fx X Y) {a N : Nat} {x : Int} (hd : decode Y.2.1 pc = .ok (.baload, 1)) (hp : pc + 1 = q) (ha : isA μ a 10 N) (h0 : 0 ≤ x) (h1 : x < N) (kk : AW X q ls (vI (mV μ a x.toNat) :: st) μ k n) : AW X pc ls (vI x :: vR a :: st) μ k n := by
  intro ad H locs lsl R
  subst hp
  have hx : okI x := R.top
  have he := wrl_get (G := cG X) (ad := ad) ha.2.2.1 ha.2.2.2
  rw [cel_B ha.1, ha.2.1] at he
  have h := kk ad H locs lsl (R.pop.pop.push ((R.1.2.2 a x.toNat).2.1 (by rw [ha.1]; unfold lgS; omega)))
  rw [List.map_cons, List.map_cons, refA ha.2.2.1]
  refine va_bald F.1 F.2.1 F.2.2.2.2.2.1.1 R.2.2.2.2.1 (a - 1) 0 he rfl (vp_in_of_int hx h0 h1) hd ?_
  rw [clampZ hx]
  exact h
theorem aw_laload (F : Fx X Y) {a N : Nat} {x : Int} (hd : decode Y.2.1 pc = .ok (.laload, 1)) (hp : pc + 1 = q) (ha : isA μ a 12 N) (h0 : 0 ≤ x) (h1 : x < N) (kk : AW X q ls (vL (mV μ a x.toNat) :: st) μ k n) : AW X pc ls (vI x :: vR a :: st) μ k n := by
  intro ad H locs lsl R
  subst hp
  have hx : okI x := R.top
  have he := wrl_get (G := cG X) (ad := ad) ha.2.2.1 ha.2.2.2
  rw [cel_J ha.1, ha.2.1] at he
  have h := kk ad H locs lsl (R.pop.pop.push ((R.1.2.2 a x.toNat).1 (by rw [ha.1]; exact Or.inl rfl)))
  rw [List.map_cons, List.map_cons, refA ha.2.2.1]
  refine va_lald F.1 F.2.1 F.2.2.2.2.2.1.1 R.2.2.2.2.1 (a - 1) 2 he rfl (vp_in_of_int hx h0 h1) hd ?_
  rw [clampZ hx]
  exact h
theorem upd_up2 (f : Nat → Int) (j : Nat) (z : Int) : upd (fun i => Int32.ofInt (f i)) j (Int32.ofInt z) = fun i => Int32.ofInt (if i = j then z else f i) := by
  funext i
  unfold upd
  split <;> rfl
theorem updL_up2 (f : Nat → Int) (j : Nat) (z : Int) : vp_updL (fun i => Int64.ofInt (f i)) j (Int64.ofInt z) = fun i => Int64.ofInt (if i = j then z else f i) := by
  funext i
  unfold vp_updL
  split <;> rfl
theorem up2_at {α : Type} (f : Nat → Nat → α) (a j : Nat) (z : α) : up2 f a j z a = fun i => if i = j then z else f a i := by funext i; simp [up2]
theorem aw_iastore (F : Fx X Y) {a N : Nat} {x z : Int} (hd : decode Y.2.1 pc = .ok (.iastore, 1)) (hp : pc + 1 = q) (ha : isA μ a 11 N) (h0 : 0 ≤ x) (h1 : x < N) (kk : AW X q ls st (setV μ a x.toNat z) k n) : AW X pc ls (vI z :: vI x :: vR a :: st) μ k n := by
  intro ad H locs lsl R
  subst hp
  have hx : okI x := R.pop.top
  have he := wrl_get (G := cG X) (ad := ad) ha.2.2.1 ha.2.2.2
  rw [cel_I ha.1, ha.2.1] at he
  have e : (wrl (cG X) ad μ).set (a - 1) (ad a, .inl (gy (cG X) 1, N, .inl (upd (fun j => Int32.ofInt (mV μ a j)) (Int32.ofInt x).toNatClampNeg (Int32.ofInt z)))) = wrl (cG X) ad (setV μ a x.toNat z) := by
    refine cel_set ha.2.2.1 rfl ?_ (fun b hb => cel_setV_ne hb)
    rw [cel_I (μ := setV μ a x.toNat z) ha.1, clampZ hx, upd_up2]
    show Sum.inl (gy (cG X) 1, mN μ a, Sum.inl fun j => Int32.ofInt (up2 (mV μ) a x.toNat z a j)) = _
    rw [up2_at, ha.2.1]
  rw [List.map_cons, List.map_cons, List.map_cons, refA ha.2.2.1]
  refine va_iast F.1 F.2.1 F.2.2.2.2.2.1.1 R.2.2.2.2.1 R.2.2.2.2.2.1 R.2.2.2.2.2.2.1 (a - 1) 1 he rfl (vp_in_of_int hx h0 h1) hd (fun H1 locs1 hP hD hS => ?_)
  rw [e] at hP hD
  exact kk ad H1 locs1 lsl (R.memV rfl (okM_setV R.1 (fun h => absurd h (by rw [ha.1]; unfold lgS; omega)) (fun _ => R.top) (fun h => absurd h (by rw [ha.1]; omega))) (fun v h => List.mem_cons_of_mem _ (List.mem_cons_of_mem _ (List.mem_cons_of_mem _ h))) hP hD hS)
theorem narB {z : Int} (h : -128 ≤ z ∧ z < 128) : vp_nar .byte (Int32.ofInt z) = Int32.ofInt z := by
  rw [vp_nar_byte, Int32.toInt8_ofInt]
  exact Int8.toInt32_ofInt h.1 (by have := h.2; show z ≤ 127; omega)
theorem aw_bastore (F : Fx X Y) {a N : Nat} {x z : Int} (hd : decode Y.2.1 pc = .ok (.bastore, 1)) (hp : pc + 1 = q) (ha : isA μ a 10 N) (h0 : 0 ≤ x) (h1 : x < N) (hz : -128 ≤ z ∧ z < 128) (kk : AW X q ls st (setV μ a x.toNat z) k n) : AW X pc ls (vI z :: vI x :: vR a :: st) μ k n := by
  intro ad H locs lsl R
  subst hp
  have hx : okI x := R.pop.top
  have he := wrl_get (G := cG X) (ad := ad) ha.2.2.1 ha.2.2.2
  rw [cel_B ha.1, ha.2.1] at he
  have e : (wrl (cG X) ad μ).set (a - 1) (ad a, .inl (gy (cG X) 0, N, .inl (upd (fun j => Int32.ofInt (mV μ a j)) (Int32.ofInt x).toNatClampNeg (vp_nar .byte (Int32.ofInt z))))) = wrl (cG X) ad (setV μ a x.toNat z) := by
    refine cel_set ha.2.2.1 rfl ?_ (fun b hb => cel_setV_ne hb)
    rw [cel_B (μ := setV μ a x.toNat z) ha.1, clampZ hx, narB hz, upd_up2]
    show Sum.inl (gy (cG X) 0, mN μ a, Sum.inl fun j => Int32.ofInt (up2 (mV μ) a x.toNat z a j)) = _
    rw [up2_at, ha.2.1]
  rw [List.map_cons, List.map_cons, List.map_cons, refA ha.2.2.1]
  refine va_bast F.1 F.2.1 F.2.2.2.2.2.1.1 R.2.2.2.2.1 R.2.2.2.2.2.1 R.2.2.2.2.2.2.1 (a - 1) 0 he rfl (vp_in_of_int hx h0 h1) hd (fun H1 locs1 hP hD hS => ?_)
  rw [e] at hP hD
  exact kk ad H1 locs1 lsl (R.memV rfl (okM_setV R.1 (fun h => absurd h (by rw [ha.1]; unfold lgS; omega)) (fun _ => R.top) (fun _ => hz)) (fun v h => List.mem_cons_of_mem _ (List.mem_cons_of_mem _ (List.mem_cons_of_mem _ h))) hP hD hS)
theorem aw_lastore (F : Fx X Y) {a N : Nat} {x z : Int} (hd : decode Y.2.1 pc = .ok (.lastore, 1)) (hp : pc + 1 = q) (ha : isA μ a 12 N) (h0 : 0 ≤ x) (h1 : x < N) (kk : AW X q ls st (setV μ a x.toNat z) k n) : AW X pc ls (vL z :: vI x :: vR a :: st) μ k n := by
  intro ad H locs lsl R
  subst hp
  have hx : okI x := R.pop.top
  have he := wrl_get (G := cG X) (ad := ad) ha.2.2.1 ha.2.2.2
  rw [cel_J ha.1, ha.2.1] at he
  have e : (wrl (cG X) ad μ).set (a - 1) (ad a, .inl (gy (cG X) 2, N, .inr (.inl (vp_updL (fun j => Int64.ofInt (mV μ a j)) (Int32.ofInt x).toNatClampNeg (Int64.ofInt z))))) = wrl (cG X) ad (setV μ a x.toNat z) := by
    refine cel_set ha.2.2.1 rfl ?_ (fun b hb => cel_setV_ne hb)
    rw [cel_J (μ := setV μ a x.toNat z) ha.1, clampZ hx, updL_up2]
    show Sum.inl (gy (cG X) 2, mN μ a, Sum.inr (Sum.inl fun j => Int64.ofInt (up2 (mV μ) a x.toNat z a j))) = _
    rw [up2_at, ha.2.1]
  rw [List.map_cons, List.map_cons, List.map_cons, refA ha.2.2.1]
  refine va_last F.1 F.2.1 F.2.2.2.2.2.1.1 R.2.2.2.2.1 R.2.2.2.2.2.1 R.2.2.2.2.2.2.1 (a - 1) 2 he rfl (vp_in_of_int hx h0 h1) hd (fun H1 locs1 hP hD hS => ?_)
  rw [e] at hP hD
  exact kk ad H1 locs1 lsl (R.memV rfl (okM_setV R.1 (fun _ => R.top) (fun h => absurd (by rw [ha.1]; exact Or.inl rfl) h) (fun h => absurd h (by rw [ha.1]; omega))) (fun v h => List.mem_cons_of_mem _ (List.mem_cons_of_mem _ (List.mem_cons_of_mem _ h))) hP hD hS)
theorem aw_alen (F : Fx X Y) {a t N : Nat} (hd : decode Y.2.1 pc = .ok (.arraylength, 1)) (hp : pc + 1 = q) (ha : isA μ a t N) (ht : t = 10 ∨ t = 11 ∨ t = 12) (hN : N < 2147483648) (kk : AW X q ls (vI (N : Int) :: st) μ k n) : AW X pc ls (vR a :: st) μ k n := by
  intro ad H locs lsl R
  subst hp
  have he := wrl_get (G := cG X) (ad := ad) ha.2.2.1 ha.2.2.2
  have h := kk ad H locs lsl (R.pop.push (show okI (N : Int) from ⟨by omega, by omega⟩))
  have e : trv ad (vI (N : Int)) = .int (Int32.ofNat N) := by show Value.int _ = _; rw [Int32.ofInt_eq_ofNat]
  rw [List.map_cons, e] at h
  rw [List.map_cons, refA ha.2.2.1]
  rcases ht with rfl | rfl | rfl
  · rw [cel_B ha.1, ha.2.1] at he
    exact va_alen F.1 F.2.1 F.2.2.2.2.2.1.1 R.2.2.2.2.1 (a - 1) 0 he rfl rfl hd h
  · rw [cel_I ha.1, ha.2.1] at he
    exact va_alen F.1 F.2.1 F.2.2.2.2.2.1.1 R.2.2.2.2.1 (a - 1) 1 he rfl rfl hd h
  · rw [cel_J ha.1, ha.2.1] at he
    exact va_alen F.1 F.2.1 F.2.2.2.2.2.1.1 R.2.2.2.2.1 (a - 1) 2 he rfl rfl hd h
end HeapRows
