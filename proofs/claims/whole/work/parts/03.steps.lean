section StepRows
variable {X : CT} {Y : MD} {pc q : Nat} {ls : List (Option AV)} {st : List AV} {μ : Mem} {k n : Nat}
theorem aw_go {pc' : Nat} {st' : List AV} (kk : AW X pc' ls st' μ k n) (h : ∀ (ad : Nat → Nat) (H : Heap) (locs : List Loc) (lsl : Array Slot), RP X ls st μ ad H locs lsl → RP X ls st' μ ad H locs lsl ∧ (W (cPr X) (gl (cG X)) (cE X) (cR X) (cS X) (cM X) (cAr X) (cBe X) (cMe X) (cC X) H locs k n (cQ X) (F0 (cM X) pc' lsl (st'.map (trv ad))) → W (cPr X) (gl (cG X)) (cE X) (cR X) (cS X) (cM X) (cAr X) (cBe X) (cMe X) (cC X) H locs k n (cQ X) (F0 (cM X) pc lsl (st.map (trv ad))))) : AW X pc ls st μ k n :=
  fun ad H locs lsl R => (h ad H locs lsl R).2 (kk ad H locs lsl (h ad H locs lsl R).1)
theorem i32_inj {x y : Int} (hx : okI x) (hy : okI y) : Int32.ofInt x = Int32.ofInt y ↔ x = y := by
  rw [← Int32.toInt_inj, Int32.toInt_ofInt_of_le hx.1 hx.2, Int32.toInt_ofInt_of_le hy.1 hy.2]
theorem i32_lt {x y : Int} (hx : okI x) (hy : okI y) : Int32.ofInt x < Int32.ofInt y ↔ x < y := by
  rw [Int32.lt_iff_toInt_lt, Int32.toInt_ofInt_of_le hx.1 hx.2, Int32.toInt_ofInt_of_le hy.1 hy.2]
theorem i32_le {x y : Int} (hx : okI x) (hy : okI y) : Int32.ofInt x ≤ Int32.ofInt y ↔ x ≤ y := by
  rw [Int32.le_iff_toInt_le, Int32.toInt_ofInt_of_le hx.1 hx.2, Int32.toInt_ofInt_of_le hy.1 hy.2]
theorem i64_inj {x y : Int} (hx : okL x) (hy : okL y) : Int64.ofInt x = Int64.ofInt y ↔ x = y := by
  rw [← Int64.toInt_inj, Int64.toInt_ofInt_of_le hx.1 hx.2, Int64.toInt_ofInt_of_le hy.1 hy.2]
theorem i64_lt {x y : Int} (hx : okL x) (hy : okL y) : Int64.ofInt x < Int64.ofInt y ↔ x < y := by
  rw [Int64.lt_iff_toInt_lt, Int64.toInt_ofInt_of_le hx.1 hx.2, Int64.toInt_ofInt_of_le hy.1 hy.2]
theorem okI_toInt (x : Int32) : okI x.toInt := ⟨Int32.le_toInt x, Int32.toInt_lt x⟩
theorem okL_toInt (x : Int64) : okL x.toInt := ⟨Int64.le_toInt x, Int64.toInt_lt x⟩
theorem okL_okI {z : Int} (h : okI z) : okL z := ⟨by have := h.1; omega, by have := h.2; omega⟩
def nl : Option AV → Prop
  | some (.inr (.inl _)) => False
  | _ => True
def cat1 : AV → Prop
  | .inr (.inl _) => False
  | _ => True
theorem cat1_c {v : AV} (h : cat1 v) (ad : Nat → Nat) : (trv ad v).category = 1 := by
  rcases lv_cat (trv ad v) with h1 | h1
  · exact h1
  · obtain ⟨z, rfl⟩ := (trv_cat2 ad v).mp h1
    exact absurd h (by simp [cat1])
theorem aw_iconst (F : Fx X Y) {z : Int} (hd : decode Y.2.1 pc = .ok (.iconst z, 1)) (hp : pc + 1 = q) (hz : okI z) (kk : AW X q ls (vI z :: st) μ k n) : AW X pc ls st μ k n :=
  aw_go kk fun _ _ _ _ R => ⟨R.push hz, fun h => by subst hp; exact lv_iconst F.1 F.2.1 hd rfl h⟩
theorem aw_bipush (F : Fx X Y) {z : Int} (hd : decode Y.2.1 pc = .ok (.bipush z, 2)) (hp : pc + 2 = q) (hz : -128 ≤ z ∧ z ≤ 127) (kk : AW X q ls (vI z :: st) μ k n) : AW X pc ls st μ k n :=
  aw_go kk fun _ _ _ _ R => ⟨R.push (show okI z from ⟨by omega, by omega⟩), fun h => by subst hp; exact lv_bipush F.1 F.2.1 hd (Int8.toInt32_ofInt hz.1 hz.2) h⟩
theorem aw_sipush (F : Fx X Y) {z : Int} (hd : decode Y.2.1 pc = .ok (.sipush z, 3)) (hp : pc + 3 = q) (hz : -32768 ≤ z ∧ z ≤ 32767) (kk : AW X q ls (vI z :: st) μ k n) : AW X pc ls st μ k n :=
  aw_go kk fun _ _ _ _ R => ⟨R.push (show okI z from ⟨by omega, by omega⟩), fun h => by subst hp; exact lv_sipush F.1 F.2.1 hd (Int16.toInt32_ofInt hz.1 hz.2) h⟩
theorem aw_lconst (F : Fx X Y) {i : Fin 2} {z : Int} (hd : decode Y.2.1 pc = .ok (.lconst i, 1)) (hp : pc + 1 = q) (hz : ((i : Nat) : Int) = z) (kk : AW X q ls (vL z :: st) μ k n) : AW X pc ls st μ k n :=
  aw_go kk fun _ _ _ _ R => ⟨R.push (show okL z from by have := i.2; constructor <;> omega), fun h => by subst hp; subst hz; exact lv_lconst F.1 F.2.1 hd (by rw [← Int64.ofInt_eq_ofNat]) h⟩
theorem aw_ldc (F : Fx X Y) {z : Int} {i : Nat} {v : Int32} (hd : decode Y.2.1 pc = .ok (.ldc i, 2)) (hp : pc + 2 = q) (hc : Cond.constant Y.1.cls i v ∈ TBL) (hv : v.toInt = z) (kk : AW X q ls (vI z :: st) μ k n) : AW X pc ls st μ k n :=
  aw_go kk fun _ _ _ _ R => ⟨R.push (show okI z from hv ▸ okI_toInt v), fun h => by subst hp; subst hv; refine lv_ldc F.1 F.2.1 F.2.2.2.1 (F.2.2.2.2.1 _ hc) hd ?_; simpa [trv] using h⟩
theorem aw_ldcw (F : Fx X Y) {z : Int} {i : Nat} {v : Int32} (hd : decode Y.2.1 pc = .ok (.ldc_w i, 3)) (hp : pc + 3 = q) (hc : Cond.constant Y.1.cls i v ∈ TBL) (hv : v.toInt = z) (kk : AW X q ls (vI z :: st) μ k n) : AW X pc ls st μ k n :=
  aw_go kk fun _ _ _ _ R => ⟨R.push (show okI z from hv ▸ okI_toInt v), fun h => by subst hp; subst hv; refine lv_ldcw F.1 F.2.1 F.2.2.2.1 (F.2.2.2.2.1 _ hc) hd ?_; simpa [trv] using h⟩
theorem aw_ldc2 (F : Fx X Y) {z : Int} {i : Nat} {v : Int64} (hd : decode Y.2.1 pc = .ok (.ldc2_w i, 3)) (hp : pc + 3 = q) (hc : Cond.constantLong Y.1.cls i v ∈ TBL) (hv : v.toInt = z) (kk : AW X q ls (vL z :: st) μ k n) : AW X pc ls st μ k n :=
  aw_go kk fun _ _ _ _ R => ⟨R.push (show okL z from hv ▸ okL_toInt v), fun h => by subst hp; subst hv; refine lv_ldc2 F.1 F.2.1 F.2.2.2.1 (F.2.2.2.2.1 _ hc) hd ?_; simpa [trv] using h⟩
theorem aw_ldcS (F : Fx X Y) {i j : Nat} (hd : decode Y.2.1 pc = .ok (.ldc i, 2)) (hp : pc + 2 = q) (hj : j < 19) (ho : kOwn j = Y.1.cls) (hi : kIdx j = i) (kk : AW X q ls (vR (BG + j) :: st) μ k n) : AW X pc ls st μ k n :=
  aw_go kk fun ad _ _ _ R => ⟨R.push (show okR μ (BG + j) from Or.inr (by omega)), fun h => by
    subst hp
    subst hi
    have hr := F.2.2.2.2.2.1.2.2.2.1 j hj
    rw [ho] at hr
    refine va_ldcS F.1 F.2.1 F.2.2.2.1 hr hd ?_
    have e : trv ad (vR (BG + j)) = .ref (gK (cG X) j) := by
      simp only [trv]
      rw [if_neg (by unfold BG; omega), R.2.2.2.1.2 _ (Or.inr (by omega)), F.2.2.2.2.2.2.2.2.2.1 j (by omega), show gX (cG X) j = gK (cG X) j from if_pos hj]
    rw [List.map_cons, e] at h
    exact h⟩
theorem aw_iload_g (F : Fx X Y) {i : Nat} {z : Int} (hd : (∃ f : Fin 4, (f : Nat) = i ∧ decode Y.2.1 pc = .ok (.iload_n f, 1) ∧ pc + 1 = q) ∨ (decode Y.2.1 pc = .ok (.iload i, 2) ∧ pc + 2 = q)) (hl : ls[i]? = some (some (vI z))) (kk : AW X q ls (vI z :: st) μ k n) : AW X pc ls st μ k n :=
  aw_go kk fun _ _ _ _ R => ⟨R.push (R.loc hl).1, fun h => by
    rcases hd with ⟨f, e, hd, rfl⟩ | ⟨hd, rfl⟩
    · exact lv_iload_n F.1 F.2.1 hd e (R.loc hl).2 h
    · exact lv_iload F.1 F.2.1 hd (R.loc hl).2 h⟩
theorem aw_lload_g (F : Fx X Y) {i : Nat} {z : Int} (hd : (∃ f : Fin 4, (f : Nat) = i ∧ decode Y.2.1 pc = .ok (.lload_n f, 1) ∧ pc + 1 = q) ∨ (decode Y.2.1 pc = .ok (.lload i, 2) ∧ pc + 2 = q)) (hl : ls[i]? = some (some (vL z))) (kk : AW X q ls (vL z :: st) μ k n) : AW X pc ls st μ k n :=
  aw_go kk fun _ _ _ _ R => ⟨R.push (R.loc hl).1, fun h => by
    rcases hd with ⟨f, e, hd, rfl⟩ | ⟨hd, rfl⟩
    · exact lv_lload_n F.1 F.2.1 hd e (R.loc hl).2 h
    · exact lv_lload F.1 F.2.1 hd (R.loc hl).2 h⟩
theorem trv_R (ad : Nat → Nat) (r : Nat) : trv ad (vR r) = if r = 0 then .null else .ref (ad r) := rfl
theorem aw_aload_g (F : Fx X Y) {i : Nat} {r : Nat} (hd : (∃ f : Fin 4, (f : Nat) = i ∧ decode Y.2.1 pc = .ok (.aload_n f, 1) ∧ pc + 1 = q) ∨ (decode Y.2.1 pc = .ok (.aload i, 2) ∧ pc + 2 = q)) (hl : ls[i]? = some (some (vR r))) (kk : AW X q ls (vR r :: st) μ k n) : AW X pc ls st μ k n :=
  aw_go kk fun ad _ _ lsl R => ⟨R.push (R.loc hl).1, fun h => by
    have hs := (R.loc hl).2
    rw [List.map_cons, trv_R] at h
    rw [trv_R] at hs
    by_cases h0 : r = 0
    · rw [if_pos h0] at h hs
      rcases hd with ⟨f, e, hd, rfl⟩ | ⟨hd, rfl⟩
      · exact lv_aload_nN F.1 F.2.1 hd e hs h
      · exact lv_aloadN F.1 F.2.1 hd hs h
    · rw [if_neg h0] at h hs
      rcases hd with ⟨f, e, hd, rfl⟩ | ⟨hd, rfl⟩
      · exact lv_aload_n F.1 F.2.1 hd e hs h
      · exact lv_aload F.1 F.2.1 hd hs h⟩
theorem RP.nL (ad : Nat → Nat) {H : Heap} {locs : List Loc} {lsl : Array Slot} (R : RP X ls st μ ad H locs lsl) : ls.length = cN X := R.2.2.2.2.2.2.2.2.2.1
theorem aw_istore_g (F : Fx X Y) {i : Nat} {z : Int} (hd : (∃ f : Fin 4, (f : Nat) = i ∧ decode Y.2.1 pc = .ok (.istore_n f, 1) ∧ pc + 1 = q) ∨ (decode Y.2.1 pc = .ok (.istore i, 2) ∧ pc + 2 = q)) (hn : nlg ls i) (hi : i < ls.length) (kk : AW X q (ls.set i (some (vI z))) st μ k n) : AW X pc ls (vI z :: st) μ k n := by
  intro ad H locs lsl R
  have hh := lvOf_has R.2.2.2.2.2.2.2
  have hL : i < cN X := R.nL ad ▸ hi
  rcases hd with ⟨f, e, hd, rfl⟩ | ⟨hd, rfl⟩
  · exact lv_istore_n F.1 F.2.1 hd e hh hL rfl (fun ls' h => kk ad H locs ls' (R.store (fun w hw => mem_set hw) (lsR_store1 (v := vI z) (R.nL ad) hn h)))
  · exact lv_istore F.1 F.2.1 hd hh hL rfl (fun ls' h => kk ad H locs ls' (R.store (fun w hw => mem_set hw) (lsR_store1 (v := vI z) (R.nL ad) hn h)))
theorem aw_lstore_g (F : Fx X Y) {i : Nat} {z : Int} (hd : (∃ f : Fin 4, (f : Nat) = i ∧ decode Y.2.1 pc = .ok (.lstore_n f, 1) ∧ pc + 1 = q) ∨ (decode Y.2.1 pc = .ok (.lstore i, 2) ∧ pc + 2 = q)) (hn : nlg ls i) (hi : i + 1 < ls.length) (kk : AW X q ((ls.set i (some (vL z))).set (i + 1) none) st μ k n) : AW X pc ls (vL z :: st) μ k n := by
  intro ad H locs lsl R
  have hh := lvOf_has R.2.2.2.2.2.2.2
  have hL : i + 1 < cN X := R.nL ad ▸ hi
  rcases hd with ⟨f, e, hd, rfl⟩ | ⟨hd, rfl⟩
  · exact lv_lstore_n F.1 F.2.1 hd e hh hL rfl (fun ls' h => kk ad H locs ls' (R.store (fun w hw => mem_set2 hw) (lsR_store2 (v := vL z) (R.nL ad) hn h)))
  · exact lv_lstore F.1 F.2.1 hd hh hL rfl (fun ls' h => kk ad H locs ls' (R.store (fun w hw => mem_set2 hw) (lsR_store2 (v := vL z) (R.nL ad) hn h)))
theorem aw_astore_g (F : Fx X Y) {i : Nat} {r : Nat} (hd : (∃ f : Fin 4, (f : Nat) = i ∧ decode Y.2.1 pc = .ok (.astore_n f, 1) ∧ pc + 1 = q) ∨ (decode Y.2.1 pc = .ok (.astore i, 2) ∧ pc + 2 = q)) (hn : nlg ls i) (hi : i < ls.length) (kk : AW X q (ls.set i (some (vR r))) st μ k n) : AW X pc ls (vR r :: st) μ k n := by
  intro ad H locs lsl R
  have hh := lvOf_has R.2.2.2.2.2.2.2
  have hL : i < cN X := R.nL ad ▸ hi
  have go : ∀ ls', lv_has ls' (cN X) ((i, trv ad (vR r)) :: (lvOf ad ls).filter (fun q => !(q.1 == i) && !(q.1 + 1 == i && q.2.category == 2))) → W (cPr X) (gl (cG X)) (cE X) (cR X) (cS X) (cM X) (cAr X) (cBe X) (cMe X) (cC X) H locs k n (cQ X) (F0 (cM X) q ls' (st.map (trv ad))) := fun ls' h => kk ad H locs ls' (R.store (fun w hw => mem_set hw) (lsR_store1 (v := vR r) (R.nL ad) hn h))
  rw [List.map_cons]
  rw [trv_R] at go ⊢
  by_cases h0 : r = 0
  · rw [if_pos h0] at go ⊢
    rcases hd with ⟨f, e, hd, rfl⟩ | ⟨hd, rfl⟩
    · exact lv_astore_nN F.1 F.2.1 hd e hh hL rfl go
    · exact lv_astoreN F.1 F.2.1 hd hh hL rfl go
  · rw [if_neg h0] at go ⊢
    rcases hd with ⟨f, e, hd, rfl⟩ | ⟨hd, rfl⟩
    · exact lv_astore_n F.1 F.2.1 hd e hh hL rfl go
    · exact lv_astore F.1 F.2.1 hd hh hL rfl go
theorem aw_iinc_g (F : Fx X Y) {i : Nat} {d z : Int} (hd : decode Y.2.1 pc = .ok (.iinc i d, 3)) (hp : pc + 3 = q) (hl : ls[i]? = some (some (vI z))) (hn : nlg ls i) (hz : okI (z + d)) (kk : AW X q (ls.set i (some (vI (z + d)))) st μ k n) : AW X pc ls st μ k n := by
  intro ad H locs lsl R
  have hh := lvOf_has R.2.2.2.2.2.2.2
  have hi : i < ls.length := (List.getElem?_eq_some_iff.mp hl).1
  have hL : i < cN X := R.nL ad ▸ hi
  obtain ⟨j, hj⟩ := List.getElem?_of_mem (lvOf_mem (ad := ad) hl)
  subst hp
  exact lv_iinc (v := Int32.ofInt (z + d)) F.1 F.2.1 hd hh hj (by rw [Int32.ofInt_add]) hL rfl (fun ls' h => kk ad H locs ls' ((R.push (v := vI (z + d)) hz).store (fun w hw => mem_set hw) (lsR_store1 (v := vI (z + d)) (R.nL ad) hn h)))
/-- what a slot holds is forgotten -/
theorem aw_drop {i : Nat} (kk : AW X pc (ls.set i none) st μ k n) : AW X pc ls st μ k n := by
  intro ad H locs lsl R
  obtain ⟨h1, h2, h3, h4, h5, h6, h7, h8, h9, h10, h11⟩ := R
  refine kk ad H locs lsl ⟨h1, fun v hv => h2 v ?_, h3, h4, h5, h6, h7, h8, h9, by rw [List.length_set]; exact h10, fun j v hj => h11 j v ?_⟩
  · rcases List.mem_or_eq_of_mem_set hv with h | h
    · exact h
    · cases h
  · by_cases hji : j = i
    · subst hji
      have hl := (List.getElem?_eq_some_iff.mp hj).1
      rw [List.length_set] at hl
      rw [List.getElem?_set_self hl] at hj
      cases hj
    · rwa [List.getElem?_set_ne (Ne.symm hji)] at hj
theorem aw_dup (F : Fx X Y) {v : AV} (hd : decode Y.2.1 pc = .ok (.dup, 1)) (hp : pc + 1 = q) (hv : cat1 v) (kk : AW X q ls (v :: v :: st) μ k n) : AW X pc ls (v :: st) μ k n :=
  aw_go kk fun ad _ _ _ R => ⟨R.push R.top, fun h => by subst hp; exact lv_dup F.1 F.2.1 hd (cat1_c hv ad) h⟩
theorem aw_pop (F : Fx X Y) {v : AV} (hd : decode Y.2.1 pc = .ok (.pop, 1)) (hp : pc + 1 = q) (hv : cat1 v) (kk : AW X q ls st μ k n) : AW X pc ls (v :: st) μ k n :=
  aw_go kk fun ad _ _ _ R => ⟨R.pop, fun h => by subst hp; exact lv_pop F.1 F.2.1 hd (cat1_c hv ad) h⟩
theorem aw_dup2 (F : Fx X Y) {v w : AV} (hd : decode Y.2.1 pc = .ok (.dup2, 1)) (hp : pc + 1 = q) (hv : cat1 v) (hw : cat1 w) (kk : AW X q ls (v :: w :: v :: w :: st) μ k n) : AW X pc ls (v :: w :: st) μ k n :=
  aw_go kk fun ad _ _ _ R => ⟨(R.push R.pop.top).push R.top, fun h => by subst hp; exact lv_dup2_11 F.1 F.2.1 hd (cat1_c hv ad) (cat1_c hw ad) h⟩
theorem aw_goto (F : Fx X Y) {off : Int} {t : Nat} (hd : decode Y.2.1 pc = .ok (.goto off, 3)) (ht : (pc : Int) + off = (t : Int)) (kk : AW X t ls st μ k n) : AW X pc ls st μ k n :=
  aw_go kk fun ad _ _ _ R => ⟨R, fun h => lv_goto F.1 F.2.1 hd ht h⟩
theorem aw_iadd (F : Fx X Y) {x y : Int} (hd : decode Y.2.1 pc = .ok (.iadd, 1)) (hp : pc + 1 = q) (hz : okI (x + y)) (kk : AW X q ls (vI (x + y) :: st) μ k n) : AW X pc ls (vI y :: vI x :: st) μ k n :=
  aw_go kk fun _ _ _ _ R => ⟨R.pop.pop.push hz, fun h => by
    subst hp
    refine lv_iadd F.1 F.2.1 hd ?_
    rw [← Int32.ofInt_add]
    exact h⟩
theorem aw_ladd (F : Fx X Y) {x y : Int} (hd : decode Y.2.1 pc = .ok (.ladd, 1)) (hp : pc + 1 = q) (hz : okL (x + y)) (kk : AW X q ls (vL (x + y) :: st) μ k n) : AW X pc ls (vL y :: vL x :: st) μ k n :=
  aw_go kk fun _ _ _ _ R => ⟨R.pop.pop.push hz, fun h => by
    subst hp
    refine lv_ladd F.1 F.2.1 hd ?_
    rw [← Int64.ofInt_add]
    exact h⟩
theorem aw_isub (F : Fx X Y) {x y : Int} (hd : decode Y.2.1 pc = .ok (.isub, 1)) (hp : pc + 1 = q) (hz : okI (x - y)) (kk : AW X q ls (vI (x - y) :: st) μ k n) : AW X pc ls (vI y :: vI x :: st) μ k n :=
  aw_go kk fun _ _ _ _ R => ⟨R.pop.pop.push hz, fun h => by
    subst hp
    refine lv_isub F.1 F.2.1 hd ?_
    rw [← Int32.ofInt_sub]
    exact h⟩
theorem aw_lsub (F : Fx X Y) {x y : Int} (hd : decode Y.2.1 pc = .ok (.lsub, 1)) (hp : pc + 1 = q) (hz : okL (x - y)) (kk : AW X q ls (vL (x - y) :: st) μ k n) : AW X pc ls (vL y :: vL x :: st) μ k n :=
  aw_go kk fun _ _ _ _ R => ⟨R.pop.pop.push hz, fun h => by
    subst hp
    refine lv_lsub F.1 F.2.1 hd ?_
    rw [← Int64.ofInt_sub]
    exact h⟩
theorem aw_imul (F : Fx X Y) {x y : Int} (hd : decode Y.2.1 pc = .ok (.imul, 1)) (hp : pc + 1 = q) (hz : okI (x * y)) (kk : AW X q ls (vI (x * y) :: st) μ k n) : AW X pc ls (vI y :: vI x :: st) μ k n :=
  aw_go kk fun _ _ _ _ R => ⟨R.pop.pop.push hz, fun h => by
    subst hp
    refine lv_imul F.1 F.2.1 hd ?_
    rw [← Int32.ofInt_mul]
    exact h⟩
theorem aw_lmul (F : Fx X Y) {x y : Int} (hd : decode Y.2.1 pc = .ok (.lmul, 1)) (hp : pc + 1 = q) (hz : okL (x * y)) (kk : AW X q ls (vL (x * y) :: st) μ k n) : AW X pc ls (vL y :: vL x :: st) μ k n :=
  aw_go kk fun _ _ _ _ R => ⟨R.pop.pop.push hz, fun h => by
    subst hp
    refine lv_lmul F.1 F.2.1 hd ?_
    rw [← Int64.ofInt_mul]
    exact h⟩
theorem aw_ineg (F : Fx X Y) {x : Int} (hd : decode Y.2.1 pc = .ok (.ineg, 1)) (hp : pc + 1 = q) (hz : okI (-x)) (kk : AW X q ls (vI (-x) :: st) μ k n) : AW X pc ls (vI x :: st) μ k n :=
  aw_go kk fun _ _ _ _ R => ⟨R.pop.push hz, fun h => by
    subst hp
    refine lv_ineg F.1 F.2.1 hd ?_
    rw [← Int32.ofInt_neg]
    exact h⟩
noncomputable def zand (x y : Int) : Int := Classical.choose (⟨_, rfl⟩ : ∃ z : Int, z = (Int32.ofInt x &&& Int32.ofInt y).toInt)
theorem zand_eq (x y : Int) : zand x y = (Int32.ofInt x &&& Int32.ofInt y).toInt := Classical.choose_spec (⟨_, rfl⟩ : ∃ z : Int, z = (Int32.ofInt x &&& Int32.ofInt y).toInt)
theorem aw_iand (F : Fx X Y) {x y : Int} (hd : decode Y.2.1 pc = .ok (.iand, 1)) (hp : pc + 1 = q) (kk : AW X q ls (vI (zand x y) :: st) μ k n) : AW X pc ls (vI y :: vI x :: st) μ k n :=
  aw_go kk fun _ _ _ _ R => ⟨R.pop.pop.push (show okI _ by rw [zand_eq]; exact okI_toInt _), fun h => by
    subst hp
    refine lv_iand F.1 F.2.1 hd ?_
    have e : Int32.ofInt (zand x y) = Int32.ofInt x &&& Int32.ofInt y := by rw [zand_eq]; exact Int32.ofInt_toInt _
    rw [← e]
    exact h⟩
noncomputable def yand (x y : Int) : Int := Classical.choose (⟨_, rfl⟩ : ∃ z : Int, z = (Int64.ofInt x &&& Int64.ofInt y).toInt)
theorem yand_eq (x y : Int) : yand x y = (Int64.ofInt x &&& Int64.ofInt y).toInt := Classical.choose_spec (⟨_, rfl⟩ : ∃ z : Int, z = (Int64.ofInt x &&& Int64.ofInt y).toInt)
theorem aw_land (F : Fx X Y) {x y : Int} (hd : decode Y.2.1 pc = .ok (.land, 1)) (hp : pc + 1 = q) (kk : AW X q ls (vL (yand x y) :: st) μ k n) : AW X pc ls (vL y :: vL x :: st) μ k n :=
  aw_go kk fun _ _ _ _ R => ⟨R.pop.pop.push (show okL _ by rw [yand_eq]; exact okL_toInt _), fun h => by
    subst hp
    refine lv_land F.1 F.2.1 hd ?_
    have e : Int64.ofInt (yand x y) = Int64.ofInt x &&& Int64.ofInt y := by rw [yand_eq]; exact Int64.ofInt_toInt _
    rw [← e]
    exact h⟩
noncomputable def zor (x y : Int) : Int := Classical.choose (⟨_, rfl⟩ : ∃ z : Int, z = (Int32.ofInt x ||| Int32.ofInt y).toInt)
theorem zor_eq (x y : Int) : zor x y = (Int32.ofInt x ||| Int32.ofInt y).toInt := Classical.choose_spec (⟨_, rfl⟩ : ∃ z : Int, z = (Int32.ofInt x ||| Int32.ofInt y).toInt)
theorem aw_ior (F : Fx X Y) {x y : Int} (hd : decode Y.2.1 pc = .ok (.ior, 1)) (hp : pc + 1 = q) (kk : AW X q ls (vI (zor x y) :: st) μ k n) : AW X pc ls (vI y :: vI x :: st) μ k n :=
  aw_go kk fun _ _ _ _ R => ⟨R.pop.pop.push (show okI _ by rw [zor_eq]; exact okI_toInt _), fun h => by
    subst hp
    refine lv_ior F.1 F.2.1 hd ?_
    have e : Int32.ofInt (zor x y) = Int32.ofInt x ||| Int32.ofInt y := by rw [zor_eq]; exact Int32.ofInt_toInt _
    rw [← e]
    exact h⟩
noncomputable def yor (x y : Int) : Int := Classical.choose (⟨_, rfl⟩ : ∃ z : Int, z = (Int64.ofInt x ||| Int64.ofInt y).toInt)
theorem yor_eq (x y : Int) : yor x y = (Int64.ofInt x ||| Int64.ofInt y).toInt := Classical.choose_spec (⟨_, rfl⟩ : ∃ z : Int, z = (Int64.ofInt x ||| Int64.ofInt y).toInt)
theorem aw_lor (F : Fx X Y) {x y : Int} (hd : decode Y.2.1 pc = .ok (.lor, 1)) (hp : pc + 1 = q) (kk : AW X q ls (vL (yor x y) :: st) μ k n) : AW X pc ls (vL y :: vL x :: st) μ k n :=
  aw_go kk fun _ _ _ _ R => ⟨R.pop.pop.push (show okL _ by rw [yor_eq]; exact okL_toInt _), fun h => by
    subst hp
    refine lv_lor F.1 F.2.1 hd ?_
    have e : Int64.ofInt (yor x y) = Int64.ofInt x ||| Int64.ofInt y := by rw [yor_eq]; exact Int64.ofInt_toInt _
    rw [← e]
    exact h⟩
noncomputable def zxor (x y : Int) : Int := Classical.choose (⟨_, rfl⟩ : ∃ z : Int, z = (Int32.ofInt x ^^^ Int32.ofInt y).toInt)
theorem zxor_eq (x y : Int) : zxor x y = (Int32.ofInt x ^^^ Int32.ofInt y).toInt := Classical.choose_spec (⟨_, rfl⟩ : ∃ z : Int, z = (Int32.ofInt x ^^^ Int32.ofInt y).toInt)
theorem aw_ixor (F : Fx X Y) {x y : Int} (hd : decode Y.2.1 pc = .ok (.ixor, 1)) (hp : pc + 1 = q) (kk : AW X q ls (vI (zxor x y) :: st) μ k n) : AW X pc ls (vI y :: vI x :: st) μ k n :=
  aw_go kk fun _ _ _ _ R => ⟨R.pop.pop.push (show okI _ by rw [zxor_eq]; exact okI_toInt _), fun h => by
    subst hp
    refine lv_ixor F.1 F.2.1 hd ?_
    have e : Int32.ofInt (zxor x y) = Int32.ofInt x ^^^ Int32.ofInt y := by rw [zxor_eq]; exact Int32.ofInt_toInt _
    rw [← e]
    exact h⟩
noncomputable def zshl (x y : Int) : Int := Classical.choose (⟨_, rfl⟩ : ∃ z : Int, z = (Int32.ofInt x <<< (Int32.ofInt y &&& 31)).toInt)
theorem zshl_eq (x y : Int) : zshl x y = (Int32.ofInt x <<< (Int32.ofInt y &&& 31)).toInt := Classical.choose_spec (⟨_, rfl⟩ : ∃ z : Int, z = (Int32.ofInt x <<< (Int32.ofInt y &&& 31)).toInt)
theorem aw_ishl (F : Fx X Y) {x y : Int} (hd : decode Y.2.1 pc = .ok (.ishl, 1)) (hp : pc + 1 = q) (kk : AW X q ls (vI (zshl x y) :: st) μ k n) : AW X pc ls (vI y :: vI x :: st) μ k n :=
  aw_go kk fun _ _ _ _ R => ⟨R.pop.pop.push (show okI _ by rw [zshl_eq]; exact okI_toInt _), fun h => by
    subst hp
    refine lv_ishl F.1 F.2.1 hd ?_
    have e : Int32.ofInt (zshl x y) = Int32.ofInt x <<< (Int32.ofInt y &&& 31) := by rw [zshl_eq]; exact Int32.ofInt_toInt _
    rw [← e]
    exact h⟩
noncomputable def zshr (x y : Int) : Int := Classical.choose (⟨_, rfl⟩ : ∃ z : Int, z = (Int32.ofInt x >>> (Int32.ofInt y &&& 31)).toInt)
theorem zshr_eq (x y : Int) : zshr x y = (Int32.ofInt x >>> (Int32.ofInt y &&& 31)).toInt := Classical.choose_spec (⟨_, rfl⟩ : ∃ z : Int, z = (Int32.ofInt x >>> (Int32.ofInt y &&& 31)).toInt)
theorem aw_ishr (F : Fx X Y) {x y : Int} (hd : decode Y.2.1 pc = .ok (.ishr, 1)) (hp : pc + 1 = q) (kk : AW X q ls (vI (zshr x y) :: st) μ k n) : AW X pc ls (vI y :: vI x :: st) μ k n :=
  aw_go kk fun _ _ _ _ R => ⟨R.pop.pop.push (show okI _ by rw [zshr_eq]; exact okI_toInt _), fun h => by
    subst hp
    refine lv_ishr F.1 F.2.1 hd ?_
    have e : Int32.ofInt (zshr x y) = Int32.ofInt x >>> (Int32.ofInt y &&& 31) := by rw [zshr_eq]; exact Int32.ofInt_toInt _
    rw [← e]
    exact h⟩
noncomputable def zushr (x y : Int) : Int := Classical.choose (⟨_, rfl⟩ : ∃ z : Int, z = ((Int32.ofInt x).toUInt32 >>> ((Int32.ofInt y).toUInt32 &&& Int32.toUInt32 31)).toInt32.toInt)
theorem zushr_eq (x y : Int) : zushr x y = ((Int32.ofInt x).toUInt32 >>> ((Int32.ofInt y).toUInt32 &&& Int32.toUInt32 31)).toInt32.toInt := Classical.choose_spec (⟨_, rfl⟩ : ∃ z : Int, z = ((Int32.ofInt x).toUInt32 >>> ((Int32.ofInt y).toUInt32 &&& Int32.toUInt32 31)).toInt32.toInt)
theorem aw_iushr (F : Fx X Y) {x y : Int} (hd : decode Y.2.1 pc = .ok (.iushr, 1)) (hp : pc + 1 = q) (kk : AW X q ls (vI (zushr x y) :: st) μ k n) : AW X pc ls (vI y :: vI x :: st) μ k n :=
  aw_go kk fun _ _ _ _ R => ⟨R.pop.pop.push (show okI _ by rw [zushr_eq]; exact okI_toInt _), fun h => by
    subst hp
    exact lv_iushr F.1 F.2.1 hd (v := Int32.ofInt (zushr x y)) (by rw [zushr_eq]; exact (Int32.ofInt_toInt _).symm) h⟩
noncomputable def yushr (x y : Int) : Int := Classical.choose (⟨_, rfl⟩ : ∃ z : Int, z = ((Int64.ofInt x).toUInt64 >>> ((Int32.ofInt y).toInt64.toUInt64 &&& Int64.toUInt64 63)).toInt64.toInt)
theorem yushr_eq (x y : Int) : yushr x y = ((Int64.ofInt x).toUInt64 >>> ((Int32.ofInt y).toInt64.toUInt64 &&& Int64.toUInt64 63)).toInt64.toInt := Classical.choose_spec (⟨_, rfl⟩ : ∃ z : Int, z = ((Int64.ofInt x).toUInt64 >>> ((Int32.ofInt y).toInt64.toUInt64 &&& Int64.toUInt64 63)).toInt64.toInt)
theorem aw_lushr (F : Fx X Y) {x y : Int} (hd : decode Y.2.1 pc = .ok (.lushr, 1)) (hp : pc + 1 = q) (kk : AW X q ls (vL (yushr x y) :: st) μ k n) : AW X pc ls (vI y :: vL x :: st) μ k n :=
  aw_go kk fun _ _ _ _ R => ⟨R.pop.pop.push (show okL _ by rw [yushr_eq]; exact okL_toInt _), fun h => by
    subst hp
    exact lv_lushr F.1 F.2.1 hd (v := Int64.ofInt (yushr x y)) (by rw [yushr_eq]; exact (Int64.ofInt_toInt _).symm) h⟩
noncomputable def yshl (x y : Int) : Int := Classical.choose (⟨_, rfl⟩ : ∃ z : Int, z = (Int64.ofInt x <<< ((Int32.ofInt y).toInt64 &&& 63)).toInt)
theorem yshl_eq (x y : Int) : yshl x y = (Int64.ofInt x <<< ((Int32.ofInt y).toInt64 &&& 63)).toInt := Classical.choose_spec (⟨_, rfl⟩ : ∃ z : Int, z = (Int64.ofInt x <<< ((Int32.ofInt y).toInt64 &&& 63)).toInt)
theorem aw_lshl (F : Fx X Y) {x y : Int} (hd : decode Y.2.1 pc = .ok (.lshl, 1)) (hp : pc + 1 = q) (kk : AW X q ls (vL (yshl x y) :: st) μ k n) : AW X pc ls (vI y :: vL x :: st) μ k n :=
  aw_go kk fun _ _ _ _ R => ⟨R.pop.pop.push (show okL _ by rw [yshl_eq]; exact okL_toInt _), fun h => by
    subst hp
    exact lv_lshl F.1 F.2.1 hd (v := Int64.ofInt (yshl x y)) (by rw [yshl_eq]; exact (Int64.ofInt_toInt _).symm) h⟩
theorem i32_div {x y : Int} (hx : okI x) (hy : okI y) (h0 : 0 ≤ x) (h1 : 0 < y) : Int32.ofInt (x / y) = Int32.ofInt x / Int32.ofInt y := by
  have hy2 : (Int32.ofInt y) ≠ -1 := by
    intro e
    have := congrArg Int32.toInt e
    rw [Int32.toInt_ofInt_of_le hy.1 hy.2] at this
    have e2 : (-1 : Int32).toInt = -1 := rfl
    omega
  apply Int32.toInt_inj.mp
  have hq0 : 0 ≤ x / y := Int.ediv_nonneg h0 (by omega)
  have hq1 : x / y ≤ x := Int.ediv_le_self y h0
  have hx2 := hx.2
  rw [Int32.toInt_div_of_ne_right _ _ hy2, Int32.toInt_ofInt_of_le hx.1 hx.2, Int32.toInt_ofInt_of_le hy.1 hy.2, Int32.toInt_ofInt_of_le (by omega) (by omega), Int.tdiv_eq_ediv_of_nonneg h0]
theorem i64_div {x y : Int} (hx : okL x) (hy : okL y) (h0 : 0 ≤ x) (h1 : 0 < y) : Int64.ofInt (x / y) = Int64.ofInt x / Int64.ofInt y := by
  have hy2 : (Int64.ofInt y) ≠ -1 := by
    intro e
    have := congrArg Int64.toInt e
    rw [Int64.toInt_ofInt_of_le hy.1 hy.2] at this
    have e2 : (-1 : Int64).toInt = -1 := rfl
    omega
  apply Int64.toInt_inj.mp
  have hq0 : 0 ≤ x / y := Int.ediv_nonneg h0 (by omega)
  have hq1 : x / y ≤ x := Int.ediv_le_self y h0
  have hx2 := hx.2
  rw [Int64.toInt_div_of_ne_right _ _ hy2, Int64.toInt_ofInt_of_le hx.1 hx.2, Int64.toInt_ofInt_of_le hy.1 hy.2, Int64.toInt_ofInt_of_le (by omega) (by omega), Int.tdiv_eq_ediv_of_nonneg h0]
theorem okI_div {x y : Int} (hx : okI x) (h0 : 0 ≤ x) (h1 : 0 < y) : okI (x / y) := by
  have hq0 : 0 ≤ x / y := Int.ediv_nonneg h0 (by omega)
  have hq1 : x / y ≤ x := Int.ediv_le_self y h0
  have hx2 := hx.2
  exact ⟨by omega, by omega⟩
theorem okL_div {x y : Int} (hx : okL x) (h0 : 0 ≤ x) (h1 : 0 < y) : okL (x / y) := by
  have hq0 : 0 ≤ x / y := Int.ediv_nonneg h0 (by omega)
  have hq1 : x / y ≤ x := Int.ediv_le_self y h0
  have hx2 := hx.2
  exact ⟨by omega, by omega⟩
theorem okI_mod {x y : Int} (hy : okI y) (h1 : 0 < y) : okI (x % y) := by
  have h2 := Int.emod_nonneg x (show y ≠ 0 by omega)
  have h3 := Int.emod_lt_of_pos x h1
  have := hy.2
  exact ⟨by omega, by omega⟩
theorem okL_mod {x y : Int} (hy : okL y) (h1 : 0 < y) : okL (x % y) := by
  have h2 := Int.emod_nonneg x (show y ≠ 0 by omega)
  have h3 := Int.emod_lt_of_pos x h1
  have := hy.2
  exact ⟨by omega, by omega⟩
theorem i32_ne0 {y : Int} (hy : okI y) (h1 : 0 < y) : ¬ Int32.ofInt y = 0 := by
  intro e
  have := congrArg Int32.toInt e
  rw [Int32.toInt_ofInt_of_le hy.1 hy.2] at this
  have e2 : (0 : Int32).toInt = 0 := rfl
  omega
theorem i64_ne0 {y : Int} (hy : okL y) (h1 : 0 < y) : ¬ Int64.ofInt y = 0 := by
  intro e
  have := congrArg Int64.toInt e
  rw [Int64.toInt_ofInt_of_le hy.1 hy.2] at this
  have e2 : (0 : Int64).toInt = 0 := rfl
  omega
theorem mod_def' (x y : Int) : x % y = x - x / y * y := by
  have := Int.mul_ediv_add_emod x y
  rw [Int.mul_comm] at this
  omega
theorem aw_idiv (F : Fx X Y) {x y : Int} (hd : decode Y.2.1 pc = .ok (.idiv, 1)) (hp : pc + 1 = q) (h0 : 0 ≤ x) (h1 : 0 < y) (kk : AW X q ls (vI (x / y) :: st) μ k n) : AW X pc ls (vI y :: vI x :: st) μ k n :=
  aw_go kk fun _ _ _ _ R => ⟨R.pop.pop.push (show okI _ from okI_div R.pop.top h0 h1), fun h => by
    subst hp
    have hy : okI y := R.top
    have hx : okI x := R.pop.top
    refine lv_idiv F.1 F.2.1 hd (i32_ne0 hy h1) ?_
    rw [← i32_div hx hy h0 h1]
    exact h⟩
theorem aw_irem (F : Fx X Y) {x y : Int} (hd : decode Y.2.1 pc = .ok (.irem, 1)) (hp : pc + 1 = q) (h0 : 0 ≤ x) (h1 : 0 < y) (kk : AW X q ls (vI (x % y) :: st) μ k n) : AW X pc ls (vI y :: vI x :: st) μ k n :=
  aw_go kk fun _ _ _ _ R => ⟨R.pop.pop.push (show okI _ from okI_mod R.top h1), fun h => by
    subst hp
    have hy : okI y := R.top
    have hx : okI x := R.pop.top
    refine lv_irem F.1 F.2.1 hd (i32_ne0 hy h1) ?_
    rw [← i32_div hx hy h0 h1, ← Int32.ofInt_mul, ← Int32.ofInt_sub, ← mod_def']
    exact h⟩
theorem aw_ldiv (F : Fx X Y) {x y : Int} (hd : decode Y.2.1 pc = .ok (.ldiv, 1)) (hp : pc + 1 = q) (h0 : 0 ≤ x) (h1 : 0 < y) (kk : AW X q ls (vL (x / y) :: st) μ k n) : AW X pc ls (vL y :: vL x :: st) μ k n :=
  aw_go kk fun _ _ _ _ R => ⟨R.pop.pop.push (show okL _ from okL_div R.pop.top h0 h1), fun h => by
    subst hp
    have hy : okL y := R.top
    have hx : okL x := R.pop.top
    refine lv_ldiv F.1 F.2.1 hd (i64_ne0 hy h1) ?_
    rw [← i64_div hx hy h0 h1]
    exact h⟩
theorem aw_lrem (F : Fx X Y) {x y : Int} (hd : decode Y.2.1 pc = .ok (.lrem, 1)) (hp : pc + 1 = q) (h0 : 0 ≤ x) (h1 : 0 < y) (kk : AW X q ls (vL (x % y) :: st) μ k n) : AW X pc ls (vL y :: vL x :: st) μ k n :=
  aw_go kk fun _ _ _ _ R => ⟨R.pop.pop.push (show okL _ from okL_mod R.top h1), fun h => by
    subst hp
    have hy : okL y := R.top
    have hx : okL x := R.pop.top
    refine lv_lrem F.1 F.2.1 hd (i64_ne0 hy h1) ?_
    rw [← i64_div hx hy h0 h1, ← Int64.ofInt_mul, ← Int64.ofInt_sub, ← mod_def']
    exact h⟩
theorem aw_i2l (F : Fx X Y) {x : Int} (hd : decode Y.2.1 pc = .ok (.i2l, 1)) (hp : pc + 1 = q) (kk : AW X q ls (vL x :: st) μ k n) : AW X pc ls (vI x :: st) μ k n :=
  aw_go kk fun _ _ _ _ R => ⟨R.pop.push (show okL x from okL_okI R.top), fun h => by
    subst hp
    have hx : okI x := R.top
    exact lv_i2l F.1 F.2.1 hd (v := Int64.ofInt x) (by apply Int64.toInt_inj.mp; rw [Int32.toInt_toInt64, Int32.toInt_ofInt_of_le hx.1 hx.2, Int64.toInt_ofInt_of_le (okL_okI hx).1 (okL_okI hx).2]) h⟩
theorem aw_l2i (F : Fx X Y) {x : Int} (hd : decode Y.2.1 pc = .ok (.l2i, 1)) (hp : pc + 1 = q) (hx : okI x) (kk : AW X q ls (vI x :: st) μ k n) : AW X pc ls (vL x :: st) μ k n :=
  aw_go kk fun _ _ _ _ R => ⟨R.pop.push (show okI x from hx), fun h => by
    subst hp
    exact lv_l2i F.1 F.2.1 hd (v := Int32.ofInt x) Int64.toInt32_ofInt h⟩
noncomputable def zb (x : Int) : Int := Classical.choose (⟨_, rfl⟩ : ∃ z : Int, z = (Int32.ofInt x).toInt8.toInt32.toInt)
theorem zb_eq (x : Int) : zb x = (Int32.ofInt x).toInt8.toInt32.toInt := Classical.choose_spec (⟨_, rfl⟩ : ∃ z : Int, z = (Int32.ofInt x).toInt8.toInt32.toInt)
theorem zb_ok (x : Int) : -128 ≤ zb x ∧ zb x < 128 := by
  rw [zb_eq, Int8.toInt_toInt32]
  exact ⟨Int8.le_toInt _, Int8.toInt_lt _⟩
theorem aw_i2b (F : Fx X Y) {x : Int} (hd : decode Y.2.1 pc = .ok (.i2b, 1)) (hp : pc + 1 = q) (kk : AW X q ls (vI (zb x) :: st) μ k n) : AW X pc ls (vI x :: st) μ k n :=
  aw_go kk fun _ _ _ _ R => ⟨R.pop.push (show okI _ by rw [zb_eq]; exact okI_toInt _), fun h => by
    subst hp
    exact lv_i2b F.1 F.2.1 hd (v := Int32.ofInt (zb x)) (by rw [zb_eq]; exact (Int32.ofInt_toInt _).symm) h⟩
noncomputable def zc (x : Int) : Int := Classical.choose (⟨_, rfl⟩ : ∃ z : Int, z = ((Int32.ofInt x).toUInt32 % 65536).toInt32.toInt)
theorem zc_eq (x : Int) : zc x = ((Int32.ofInt x).toUInt32 % 65536).toInt32.toInt := Classical.choose_spec (⟨_, rfl⟩ : ∃ z : Int, z = ((Int32.ofInt x).toUInt32 % 65536).toInt32.toInt)
theorem aw_i2c (F : Fx X Y) {x : Int} (hd : decode Y.2.1 pc = .ok (.i2c, 1)) (hp : pc + 1 = q) (kk : AW X q ls (vI (zc x) :: st) μ k n) : AW X pc ls (vI x :: st) μ k n :=
  aw_go kk fun _ _ _ _ R => ⟨R.pop.push (show okI _ by rw [zc_eq]; exact okI_toInt _), fun h => by
    subst hp
    exact lv_i2c F.1 F.2.1 hd (v := Int32.ofInt (zc x)) (by rw [zc_eq]; exact (Int32.ofInt_toInt _).symm) h⟩
def ycmp (x y : Int) : Int := if y < x then 1 else if x = y then 0 else -1
theorem aw_lcmp (F : Fx X Y) {x y : Int} (hd : decode Y.2.1 pc = .ok (.lcmp, 1)) (hp : pc + 1 = q) (kk : AW X q ls (vI (ycmp x y) :: st) μ k n) : AW X pc ls (vL y :: vL x :: st) μ k n :=
  aw_go kk fun _ _ _ _ R => ⟨R.pop.pop.push (show okI _ by unfold ycmp; split; decide; split <;> decide), fun h => by
    subst hp
    have hy : okL y := R.top
    have hx : okL x := R.pop.top
    refine W.lcmp F.1 F.2.1 hd ?_
    have e : Int32.ofInt (ycmp x y) = lg_cmp (Int64.ofInt x) (Int64.ofInt y) := by
      unfold ycmp lg_cmp
      simp only [gt_iff_lt, i64_lt hy hx, i64_inj hx hy]
      split
      · rfl
      · split <;> rfl
    rw [← e]
    exact h⟩
theorem aw_icmp_eq (F : Fx X Y) {x y : Int} {off : Int} {t : Nat} (hd : decode Y.2.1 pc = .ok (.if_icmp .eq off, 3)) (hp : pc + 3 = q) (ht : (pc : Int) + off = (t : Int)) (kt : x = y → AW X t ls st μ k n) (kf : ¬ (x = y) → AW X q ls st μ k n) : AW X pc ls (vI y :: vI x :: st) μ k n := by
  intro ad H locs lsl R
  have hy : okI y := R.top
  have hx : okI x := R.pop.top
  subst hp
  exact lv_icmp_eq F.1 F.2.1 hd ht (fun h => kt ((i32_inj hx hy).mp h) ad H locs lsl R.pop.pop) (fun h => kf (fun h2 => h ((i32_inj hx hy).mpr h2)) ad H locs lsl R.pop.pop)
theorem aw_if_eq (F : Fx X Y) {x : Int} {off : Int} {t : Nat} (hd : decode Y.2.1 pc = .ok (.ifCond .eq off, 3)) (hp : pc + 3 = q) (ht : (pc : Int) + off = (t : Int)) (kt : x = 0 → AW X t ls st μ k n) (kf : ¬ (x = 0) → AW X q ls st μ k n) : AW X pc ls (vI x :: st) μ k n := by
  intro ad H locs lsl R
  have hx : okI x := R.top
  subst hp
  exact lv_if_eq F.1 F.2.1 hd ht (fun h => kt ((i32_inj (y := 0) hx (by decide)).mp h) ad H locs lsl R.pop) (fun h => kf (fun h2 => h ((i32_inj (y := 0) hx (by decide)).mpr h2)) ad H locs lsl R.pop)
theorem aw_icmp_ne (F : Fx X Y) {x y : Int} {off : Int} {t : Nat} (hd : decode Y.2.1 pc = .ok (.if_icmp .ne off, 3)) (hp : pc + 3 = q) (ht : (pc : Int) + off = (t : Int)) (kt : ¬ x = y → AW X t ls st μ k n) (kf : x = y → AW X q ls st μ k n) : AW X pc ls (vI y :: vI x :: st) μ k n := by
  intro ad H locs lsl R
  have hy : okI y := R.top
  have hx : okI x := R.pop.top
  subst hp
  exact lv_icmp_ne F.1 F.2.1 hd ht (fun h => kt (fun e => h ((i32_inj hx hy).mpr e)) ad H locs lsl R.pop.pop) (fun h => kf ((i32_inj hx hy).mp h) ad H locs lsl R.pop.pop)
theorem aw_if_ne (F : Fx X Y) {x : Int} {off : Int} {t : Nat} (hd : decode Y.2.1 pc = .ok (.ifCond .ne off, 3)) (hp : pc + 3 = q) (ht : (pc : Int) + off = (t : Int)) (kt : ¬ x = 0 → AW X t ls st μ k n) (kf : x = 0 → AW X q ls st μ k n) : AW X pc ls (vI x :: st) μ k n := by
  intro ad H locs lsl R
  have hx : okI x := R.top
  subst hp
  exact lv_if_ne F.1 F.2.1 hd ht (fun h => kt (fun e => h ((i32_inj (y := 0) hx (by decide)).mpr e)) ad H locs lsl R.pop) (fun h => kf ((i32_inj (y := 0) hx (by decide)).mp h) ad H locs lsl R.pop)
theorem aw_icmp_lt (F : Fx X Y) {x y : Int} {off : Int} {t : Nat} (hd : decode Y.2.1 pc = .ok (.if_icmp .lt off, 3)) (hp : pc + 3 = q) (ht : (pc : Int) + off = (t : Int)) (kt : x < y → AW X t ls st μ k n) (kf : ¬ (x < y) → AW X q ls st μ k n) : AW X pc ls (vI y :: vI x :: st) μ k n := by
  intro ad H locs lsl R
  have hy : okI y := R.top
  have hx : okI x := R.pop.top
  subst hp
  exact lv_icmp_lt F.1 F.2.1 hd ht (fun h => kt ((i32_lt hx hy).mp h) ad H locs lsl R.pop.pop) (fun h => kf (fun h2 => h ((i32_lt hx hy).mpr h2)) ad H locs lsl R.pop.pop)
theorem aw_if_lt (F : Fx X Y) {x : Int} {off : Int} {t : Nat} (hd : decode Y.2.1 pc = .ok (.ifCond .lt off, 3)) (hp : pc + 3 = q) (ht : (pc : Int) + off = (t : Int)) (kt : x < 0 → AW X t ls st μ k n) (kf : ¬ (x < 0) → AW X q ls st μ k n) : AW X pc ls (vI x :: st) μ k n := by
  intro ad H locs lsl R
  have hx : okI x := R.top
  subst hp
  exact lv_if_lt F.1 F.2.1 hd ht (fun h => kt ((i32_lt (y := 0) hx (by decide)).mp h) ad H locs lsl R.pop) (fun h => kf (fun h2 => h ((i32_lt (y := 0) hx (by decide)).mpr h2)) ad H locs lsl R.pop)
theorem aw_icmp_ge (F : Fx X Y) {x y : Int} {off : Int} {t : Nat} (hd : decode Y.2.1 pc = .ok (.if_icmp .ge off, 3)) (hp : pc + 3 = q) (ht : (pc : Int) + off = (t : Int)) (kt : y ≤ x → AW X t ls st μ k n) (kf : ¬ (y ≤ x) → AW X q ls st μ k n) : AW X pc ls (vI y :: vI x :: st) μ k n := by
  intro ad H locs lsl R
  have hy : okI y := R.top
  have hx : okI x := R.pop.top
  subst hp
  exact lv_icmp_ge F.1 F.2.1 hd ht (fun h => kt ((i32_le hy hx).mp h) ad H locs lsl R.pop.pop) (fun h => kf (fun h2 => h ((i32_le hy hx).mpr h2)) ad H locs lsl R.pop.pop)
theorem aw_if_ge (F : Fx X Y) {x : Int} {off : Int} {t : Nat} (hd : decode Y.2.1 pc = .ok (.ifCond .ge off, 3)) (hp : pc + 3 = q) (ht : (pc : Int) + off = (t : Int)) (kt : 0 ≤ x → AW X t ls st μ k n) (kf : ¬ (0 ≤ x) → AW X q ls st μ k n) : AW X pc ls (vI x :: st) μ k n := by
  intro ad H locs lsl R
  have hx : okI x := R.top
  subst hp
  exact lv_if_ge F.1 F.2.1 hd ht (fun h => kt ((i32_le (x := 0) (by decide) hx).mp h) ad H locs lsl R.pop) (fun h => kf (fun h2 => h ((i32_le (x := 0) (by decide) hx).mpr h2)) ad H locs lsl R.pop)
theorem aw_icmp_gt (F : Fx X Y) {x y : Int} {off : Int} {t : Nat} (hd : decode Y.2.1 pc = .ok (.if_icmp .gt off, 3)) (hp : pc + 3 = q) (ht : (pc : Int) + off = (t : Int)) (kt : y < x → AW X t ls st μ k n) (kf : ¬ (y < x) → AW X q ls st μ k n) : AW X pc ls (vI y :: vI x :: st) μ k n := by
  intro ad H locs lsl R
  have hy : okI y := R.top
  have hx : okI x := R.pop.top
  subst hp
  exact lv_icmp_gt F.1 F.2.1 hd ht (fun h => kt ((i32_lt hy hx).mp h) ad H locs lsl R.pop.pop) (fun h => kf (fun h2 => h ((i32_lt hy hx).mpr h2)) ad H locs lsl R.pop.pop)
theorem aw_if_gt (F : Fx X Y) {x : Int} {off : Int} {t : Nat} (hd : decode Y.2.1 pc = .ok (.ifCond .gt off, 3)) (hp : pc + 3 = q) (ht : (pc : Int) + off = (t : Int)) (kt : 0 < x → AW X t ls st μ k n) (kf : ¬ (0 < x) → AW X q ls st μ k n) : AW X pc ls (vI x :: st) μ k n := by
  intro ad H locs lsl R
  have hx : okI x := R.top
  subst hp
  exact lv_if_gt F.1 F.2.1 hd ht (fun h => kt ((i32_lt (x := 0) (by decide) hx).mp h) ad H locs lsl R.pop) (fun h => kf (fun h2 => h ((i32_lt (x := 0) (by decide) hx).mpr h2)) ad H locs lsl R.pop)
theorem aw_icmp_le (F : Fx X Y) {x y : Int} {off : Int} {t : Nat} (hd : decode Y.2.1 pc = .ok (.if_icmp .le off, 3)) (hp : pc + 3 = q) (ht : (pc : Int) + off = (t : Int)) (kt : x ≤ y → AW X t ls st μ k n) (kf : ¬ (x ≤ y) → AW X q ls st μ k n) : AW X pc ls (vI y :: vI x :: st) μ k n := by
  intro ad H locs lsl R
  have hy : okI y := R.top
  have hx : okI x := R.pop.top
  subst hp
  exact lv_icmp_le F.1 F.2.1 hd ht (fun h => kt ((i32_le hx hy).mp h) ad H locs lsl R.pop.pop) (fun h => kf (fun h2 => h ((i32_le hx hy).mpr h2)) ad H locs lsl R.pop.pop)
theorem aw_if_le (F : Fx X Y) {x : Int} {off : Int} {t : Nat} (hd : decode Y.2.1 pc = .ok (.ifCond .le off, 3)) (hp : pc + 3 = q) (ht : (pc : Int) + off = (t : Int)) (kt : x ≤ 0 → AW X t ls st μ k n) (kf : ¬ (x ≤ 0) → AW X q ls st μ k n) : AW X pc ls (vI x :: st) μ k n := by
  intro ad H locs lsl R
  have hx : okI x := R.top
  subst hp
  exact lv_if_le F.1 F.2.1 hd ht (fun h => kt ((i32_le (y := 0) hx (by decide)).mp h) ad H locs lsl R.pop) (fun h => kf (fun h2 => h ((i32_le (y := 0) hx (by decide)).mpr h2)) ad H locs lsl R.pop)
theorem aw_ifnull (F : Fx X Y) {r : Nat} {off : Int} {t : Nat} (hd : decode Y.2.1 pc = .ok (.ifnull off, 3)) (hp : pc + 3 = q) (ht : (pc : Int) + off = (t : Int)) (kt : r = 0 → AW X t ls st μ k n) (kf : ¬ r = 0 → AW X q ls st μ k n) : AW X pc ls (vR r :: st) μ k n := by
  intro ad H locs lsl R
  subst hp
  rw [List.map_cons, trv_R]
  by_cases h0 : r = 0
  · rw [if_pos h0]
    exact lv_ifnullN F.1 F.2.1 hd ht (kt h0 ad H locs lsl R.pop)
  · rw [if_neg h0]
    exact lv_ifnull F.1 F.2.1 hd (kf h0 ad H locs lsl R.pop)
theorem aw_ifnonnull (F : Fx X Y) {r : Nat} {off : Int} {t : Nat} (hd : decode Y.2.1 pc = .ok (.ifnonnull off, 3)) (hp : pc + 3 = q) (ht : (pc : Int) + off = (t : Int)) (kt : ¬ r = 0 → AW X t ls st μ k n) (kf : r = 0 → AW X q ls st μ k n) : AW X pc ls (vR r :: st) μ k n := by
  intro ad H locs lsl R
  subst hp
  rw [List.map_cons, trv_R]
  by_cases h0 : r = 0
  · rw [if_pos h0]
    exact lv_ifnonnullN F.1 F.2.1 hd (kf h0 ad H locs lsl R.pop)
  · rw [if_neg h0]
    exact lv_ifnonnull F.1 F.2.1 hd ht (kt h0 ad H locs lsl R.pop)
theorem aw_table (F : Fx X Y) {dflt lo hi : Int} {offs : Array Int} {len : Nat} {x : Int} {t : Nat} (tg : Nat → Nat) (hd : decode Y.2.1 pc = .ok (.tableswitch dflt lo hi offs, len)) (ht : (pc : Int) + dflt = (t : Int)) (hs : (offs.size : Int) = hi - lo + 1) (hg : ∀ i, i < offs.size → (pc : Int) + offs.getD i 0 = (tg i : Int)) (ki : ∀ i, i < offs.size → x = lo + i → AW X (tg i) ls st μ k n) (ko : (x < lo ∨ hi < x) → AW X t ls st μ k n) : AW X pc ls (vI x :: st) μ k n := by
  intro ad H locs lsl R
  have hx : okI x := R.top
  have e : (Int32.ofInt x).toInt = x := Int32.toInt_ofInt_of_le hx.1 hx.2
  by_cases h : x < lo ∨ hi < x
  · exact lv_tableOut F.1 F.2.1 hd (by rw [e]; exact h) ht (ko h ad H locs lsl R.pop)
  · have h1 : ¬ x < lo := fun q => h (Or.inl q)
    have h2 : ¬ hi < x := fun q => h (Or.inr q)
    have h3 : (x - lo).toNat < offs.size := by omega
    have h4 := hg _ h3
    exact lv_tableIn (off := offs.getD (x - lo).toNat 0) F.1 F.2.1 hd (by rw [e]; exact h1) (by rw [e]; exact h2) (by rw [e]; simp [Array.getD, h3]) h4 (ki _ h3 (by omega) ad H locs lsl R.pop)
end StepRows
section Slots
variable {X : CT} {Y : MD} {pc q : Nat} {st : List AV} {μ : Mem} {k n : Nat} {a0 a1 a2 a3 a4 a5 a6 a7 a8 a9 a10 a11 a12 : Option AV} {t : List (Option AV)}
theorem nlg_0 : nlg (a0 :: t) 0 := by
  intro j z e h2
  omega
theorem aw_iload_0 (F : Fx X Y) {z : Int} (hd : decode Y.2.1 pc = .ok (.iload_n 0, 1)) (hp : pc + 1 = q) (kk : AW X q (some (vI z) :: t) (vI z :: st) μ k n) : AW X pc (some (vI z) :: t) st μ k n := aw_iload_g (i := 0) F (Or.inl ⟨0, rfl, hd, hp⟩) rfl kk
theorem aw_istore_0 (F : Fx X Y) {z : Int} (hd : decode Y.2.1 pc = .ok (.istore_n 0, 1)) (hp : pc + 1 = q) (kk : AW X q (some (vI z) :: t) st μ k n) : AW X pc (a0 :: t) (vI z :: st) μ k n := aw_istore_g (i := 0) F (Or.inl ⟨0, rfl, hd, hp⟩) nlg_0 (by simp) kk
theorem aw_lload_0 (F : Fx X Y) {z : Int} (hd : decode Y.2.1 pc = .ok (.lload_n 0, 1)) (hp : pc + 1 = q) (kk : AW X q (some (vL z) :: t) (vL z :: st) μ k n) : AW X pc (some (vL z) :: t) st μ k n := aw_lload_g (i := 0) F (Or.inl ⟨0, rfl, hd, hp⟩) rfl kk
theorem aw_lstore_0 (F : Fx X Y) {z : Int} (hd : decode Y.2.1 pc = .ok (.lstore_n 0, 1)) (hp : pc + 1 = q) (kk : AW X q (some (vL z) :: none :: t) st μ k n) : AW X pc (a0 :: a1 :: t) (vL z :: st) μ k n := aw_lstore_g (i := 0) F (Or.inl ⟨0, rfl, hd, hp⟩) nlg_0 (by simp) kk
theorem aw_aload_0 (F : Fx X Y) {z : Nat} (hd : decode Y.2.1 pc = .ok (.aload_n 0, 1)) (hp : pc + 1 = q) (kk : AW X q (some (vR z) :: t) (vR z :: st) μ k n) : AW X pc (some (vR z) :: t) st μ k n := aw_aload_g (i := 0) F (Or.inl ⟨0, rfl, hd, hp⟩) rfl kk
theorem aw_astore_0 (F : Fx X Y) {z : Nat} (hd : decode Y.2.1 pc = .ok (.astore_n 0, 1)) (hp : pc + 1 = q) (kk : AW X q (some (vR z) :: t) st μ k n) : AW X pc (a0 :: t) (vR z :: st) μ k n := aw_astore_g (i := 0) F (Or.inl ⟨0, rfl, hd, hp⟩) nlg_0 (by simp) kk
theorem aw_iinc_0 (F : Fx X Y) {d z : Int} (hd : decode Y.2.1 pc = .ok (.iinc 0 d, 3)) (hp : pc + 3 = q) (hz : okI (z + d)) (kk : AW X q (some (vI (z + d)) :: t) st μ k n) : AW X pc (some (vI z) :: t) st μ k n := aw_iinc_g F hd hp rfl nlg_0 hz kk
theorem aw_drop_0 (kk : AW X pc (none :: t) st μ k n) : AW X pc (a0 :: t) st μ k n := aw_drop (i := 0) kk
theorem nlg_1 (h : nl a0) : nlg (a0 :: a1 :: t) 1 := by
  intro j z e h2
  have : j = 0 := by omega
  subst this
  have e2 : a0 = some (vL z) := Option.some.inj h2
  rw [e2] at h
  exact h
theorem aw_iload_1 (F : Fx X Y) {z : Int} (hd : decode Y.2.1 pc = .ok (.iload_n 1, 1)) (hp : pc + 1 = q) (kk : AW X q (a0 :: some (vI z) :: t) (vI z :: st) μ k n) : AW X pc (a0 :: some (vI z) :: t) st μ k n := aw_iload_g (i := 1) F (Or.inl ⟨1, rfl, hd, hp⟩) rfl kk
theorem aw_istore_1 (F : Fx X Y) {z : Int} (hd : decode Y.2.1 pc = .ok (.istore_n 1, 1)) (hp : pc + 1 = q) (hn : nl a0) (kk : AW X q (a0 :: some (vI z) :: t) st μ k n) : AW X pc (a0 :: a1 :: t) (vI z :: st) μ k n := aw_istore_g (i := 1) F (Or.inl ⟨1, rfl, hd, hp⟩) (nlg_1 hn) (by simp) kk
theorem aw_lload_1 (F : Fx X Y) {z : Int} (hd : decode Y.2.1 pc = .ok (.lload_n 1, 1)) (hp : pc + 1 = q) (kk : AW X q (a0 :: some (vL z) :: t) (vL z :: st) μ k n) : AW X pc (a0 :: some (vL z) :: t) st μ k n := aw_lload_g (i := 1) F (Or.inl ⟨1, rfl, hd, hp⟩) rfl kk
theorem aw_lstore_1 (F : Fx X Y) {z : Int} (hd : decode Y.2.1 pc = .ok (.lstore_n 1, 1)) (hp : pc + 1 = q) (hn : nl a0) (kk : AW X q (a0 :: some (vL z) :: none :: t) st μ k n) : AW X pc (a0 :: a1 :: a2 :: t) (vL z :: st) μ k n := aw_lstore_g (i := 1) F (Or.inl ⟨1, rfl, hd, hp⟩) (nlg_1 hn) (by simp) kk
theorem aw_aload_1 (F : Fx X Y) {z : Nat} (hd : decode Y.2.1 pc = .ok (.aload_n 1, 1)) (hp : pc + 1 = q) (kk : AW X q (a0 :: some (vR z) :: t) (vR z :: st) μ k n) : AW X pc (a0 :: some (vR z) :: t) st μ k n := aw_aload_g (i := 1) F (Or.inl ⟨1, rfl, hd, hp⟩) rfl kk
theorem aw_astore_1 (F : Fx X Y) {z : Nat} (hd : decode Y.2.1 pc = .ok (.astore_n 1, 1)) (hp : pc + 1 = q) (hn : nl a0) (kk : AW X q (a0 :: some (vR z) :: t) st μ k n) : AW X pc (a0 :: a1 :: t) (vR z :: st) μ k n := aw_astore_g (i := 1) F (Or.inl ⟨1, rfl, hd, hp⟩) (nlg_1 hn) (by simp) kk
theorem aw_iinc_1 (F : Fx X Y) {d z : Int} (hd : decode Y.2.1 pc = .ok (.iinc 1 d, 3)) (hp : pc + 3 = q) (hn : nl a0) (hz : okI (z + d)) (kk : AW X q (a0 :: some (vI (z + d)) :: t) st μ k n) : AW X pc (a0 :: some (vI z) :: t) st μ k n := aw_iinc_g F hd hp rfl (nlg_1 hn) hz kk
theorem aw_drop_1 (kk : AW X pc (a0 :: none :: t) st μ k n) : AW X pc (a0 :: a1 :: t) st μ k n := aw_drop (i := 1) kk
theorem nlg_2 (h : nl a1) : nlg (a0 :: a1 :: a2 :: t) 2 := by
  intro j z e h2
  have : j = 1 := by omega
  subst this
  have e2 : a1 = some (vL z) := Option.some.inj h2
  rw [e2] at h
  exact h
theorem aw_iload_2 (F : Fx X Y) {z : Int} (hd : decode Y.2.1 pc = .ok (.iload_n 2, 1)) (hp : pc + 1 = q) (kk : AW X q (a0 :: a1 :: some (vI z) :: t) (vI z :: st) μ k n) : AW X pc (a0 :: a1 :: some (vI z) :: t) st μ k n := aw_iload_g (i := 2) F (Or.inl ⟨2, rfl, hd, hp⟩) rfl kk
theorem aw_istore_2 (F : Fx X Y) {z : Int} (hd : decode Y.2.1 pc = .ok (.istore_n 2, 1)) (hp : pc + 1 = q) (hn : nl a1) (kk : AW X q (a0 :: a1 :: some (vI z) :: t) st μ k n) : AW X pc (a0 :: a1 :: a2 :: t) (vI z :: st) μ k n := aw_istore_g (i := 2) F (Or.inl ⟨2, rfl, hd, hp⟩) (nlg_2 hn) (by simp) kk
theorem aw_lload_2 (F : Fx X Y) {z : Int} (hd : decode Y.2.1 pc = .ok (.lload_n 2, 1)) (hp : pc + 1 = q) (kk : AW X q (a0 :: a1 :: some (vL z) :: t) (vL z :: st) μ k n) : AW X pc (a0 :: a1 :: some (vL z) :: t) st μ k n := aw_lload_g (i := 2) F (Or.inl ⟨2, rfl, hd, hp⟩) rfl kk
theorem aw_lstore_2 (F : Fx X Y) {z : Int} (hd : decode Y.2.1 pc = .ok (.lstore_n 2, 1)) (hp : pc + 1 = q) (hn : nl a1) (kk : AW X q (a0 :: a1 :: some (vL z) :: none :: t) st μ k n) : AW X pc (a0 :: a1 :: a2 :: a3 :: t) (vL z :: st) μ k n := aw_lstore_g (i := 2) F (Or.inl ⟨2, rfl, hd, hp⟩) (nlg_2 hn) (by simp) kk
theorem aw_aload_2 (F : Fx X Y) {z : Nat} (hd : decode Y.2.1 pc = .ok (.aload_n 2, 1)) (hp : pc + 1 = q) (kk : AW X q (a0 :: a1 :: some (vR z) :: t) (vR z :: st) μ k n) : AW X pc (a0 :: a1 :: some (vR z) :: t) st μ k n := aw_aload_g (i := 2) F (Or.inl ⟨2, rfl, hd, hp⟩) rfl kk
theorem aw_astore_2 (F : Fx X Y) {z : Nat} (hd : decode Y.2.1 pc = .ok (.astore_n 2, 1)) (hp : pc + 1 = q) (hn : nl a1) (kk : AW X q (a0 :: a1 :: some (vR z) :: t) st μ k n) : AW X pc (a0 :: a1 :: a2 :: t) (vR z :: st) μ k n := aw_astore_g (i := 2) F (Or.inl ⟨2, rfl, hd, hp⟩) (nlg_2 hn) (by simp) kk
theorem aw_iinc_2 (F : Fx X Y) {d z : Int} (hd : decode Y.2.1 pc = .ok (.iinc 2 d, 3)) (hp : pc + 3 = q) (hn : nl a1) (hz : okI (z + d)) (kk : AW X q (a0 :: a1 :: some (vI (z + d)) :: t) st μ k n) : AW X pc (a0 :: a1 :: some (vI z) :: t) st μ k n := aw_iinc_g F hd hp rfl (nlg_2 hn) hz kk
theorem aw_drop_2 (kk : AW X pc (a0 :: a1 :: none :: t) st μ k n) : AW X pc (a0 :: a1 :: a2 :: t) st μ k n := aw_drop (i := 2) kk
theorem nlg_3 (h : nl a2) : nlg (a0 :: a1 :: a2 :: a3 :: t) 3 := by
  intro j z e h2
  have : j = 2 := by omega
  subst this
  have e2 : a2 = some (vL z) := Option.some.inj h2
  rw [e2] at h
  exact h
theorem aw_iload_3 (F : Fx X Y) {z : Int} (hd : decode Y.2.1 pc = .ok (.iload_n 3, 1)) (hp : pc + 1 = q) (kk : AW X q (a0 :: a1 :: a2 :: some (vI z) :: t) (vI z :: st) μ k n) : AW X pc (a0 :: a1 :: a2 :: some (vI z) :: t) st μ k n := aw_iload_g (i := 3) F (Or.inl ⟨3, rfl, hd, hp⟩) rfl kk
theorem aw_istore_3 (F : Fx X Y) {z : Int} (hd : decode Y.2.1 pc = .ok (.istore_n 3, 1)) (hp : pc + 1 = q) (hn : nl a2) (kk : AW X q (a0 :: a1 :: a2 :: some (vI z) :: t) st μ k n) : AW X pc (a0 :: a1 :: a2 :: a3 :: t) (vI z :: st) μ k n := aw_istore_g (i := 3) F (Or.inl ⟨3, rfl, hd, hp⟩) (nlg_3 hn) (by simp) kk
theorem aw_lload_3 (F : Fx X Y) {z : Int} (hd : decode Y.2.1 pc = .ok (.lload_n 3, 1)) (hp : pc + 1 = q) (kk : AW X q (a0 :: a1 :: a2 :: some (vL z) :: t) (vL z :: st) μ k n) : AW X pc (a0 :: a1 :: a2 :: some (vL z) :: t) st μ k n := aw_lload_g (i := 3) F (Or.inl ⟨3, rfl, hd, hp⟩) rfl kk
theorem aw_lstore_3 (F : Fx X Y) {z : Int} (hd : decode Y.2.1 pc = .ok (.lstore_n 3, 1)) (hp : pc + 1 = q) (hn : nl a2) (kk : AW X q (a0 :: a1 :: a2 :: some (vL z) :: none :: t) st μ k n) : AW X pc (a0 :: a1 :: a2 :: a3 :: a4 :: t) (vL z :: st) μ k n := aw_lstore_g (i := 3) F (Or.inl ⟨3, rfl, hd, hp⟩) (nlg_3 hn) (by simp) kk
theorem aw_aload_3 (F : Fx X Y) {z : Nat} (hd : decode Y.2.1 pc = .ok (.aload_n 3, 1)) (hp : pc + 1 = q) (kk : AW X q (a0 :: a1 :: a2 :: some (vR z) :: t) (vR z :: st) μ k n) : AW X pc (a0 :: a1 :: a2 :: some (vR z) :: t) st μ k n := aw_aload_g (i := 3) F (Or.inl ⟨3, rfl, hd, hp⟩) rfl kk
theorem aw_astore_3 (F : Fx X Y) {z : Nat} (hd : decode Y.2.1 pc = .ok (.astore_n 3, 1)) (hp : pc + 1 = q) (hn : nl a2) (kk : AW X q (a0 :: a1 :: a2 :: some (vR z) :: t) st μ k n) : AW X pc (a0 :: a1 :: a2 :: a3 :: t) (vR z :: st) μ k n := aw_astore_g (i := 3) F (Or.inl ⟨3, rfl, hd, hp⟩) (nlg_3 hn) (by simp) kk
theorem aw_iinc_3 (F : Fx X Y) {d z : Int} (hd : decode Y.2.1 pc = .ok (.iinc 3 d, 3)) (hp : pc + 3 = q) (hn : nl a2) (hz : okI (z + d)) (kk : AW X q (a0 :: a1 :: a2 :: some (vI (z + d)) :: t) st μ k n) : AW X pc (a0 :: a1 :: a2 :: some (vI z) :: t) st μ k n := aw_iinc_g F hd hp rfl (nlg_3 hn) hz kk
theorem aw_drop_3 (kk : AW X pc (a0 :: a1 :: a2 :: none :: t) st μ k n) : AW X pc (a0 :: a1 :: a2 :: a3 :: t) st μ k n := aw_drop (i := 3) kk
theorem nlg_4 (h : nl a3) : nlg (a0 :: a1 :: a2 :: a3 :: a4 :: t) 4 := by
  intro j z e h2
  have : j = 3 := by omega
  subst this
  have e2 : a3 = some (vL z) := Option.some.inj h2
  rw [e2] at h
  exact h
theorem aw_iload_4 (F : Fx X Y) {z : Int} (hd : decode Y.2.1 pc = .ok (.iload 4, 2)) (hp : pc + 2 = q) (kk : AW X q (a0 :: a1 :: a2 :: a3 :: some (vI z) :: t) (vI z :: st) μ k n) : AW X pc (a0 :: a1 :: a2 :: a3 :: some (vI z) :: t) st μ k n := aw_iload_g (i := 4) F (Or.inr ⟨hd, hp⟩) rfl kk
theorem aw_istore_4 (F : Fx X Y) {z : Int} (hd : decode Y.2.1 pc = .ok (.istore 4, 2)) (hp : pc + 2 = q) (hn : nl a3) (kk : AW X q (a0 :: a1 :: a2 :: a3 :: some (vI z) :: t) st μ k n) : AW X pc (a0 :: a1 :: a2 :: a3 :: a4 :: t) (vI z :: st) μ k n := aw_istore_g (i := 4) F (Or.inr ⟨hd, hp⟩) (nlg_4 hn) (by simp) kk
theorem aw_lload_4 (F : Fx X Y) {z : Int} (hd : decode Y.2.1 pc = .ok (.lload 4, 2)) (hp : pc + 2 = q) (kk : AW X q (a0 :: a1 :: a2 :: a3 :: some (vL z) :: t) (vL z :: st) μ k n) : AW X pc (a0 :: a1 :: a2 :: a3 :: some (vL z) :: t) st μ k n := aw_lload_g (i := 4) F (Or.inr ⟨hd, hp⟩) rfl kk
theorem aw_lstore_4 (F : Fx X Y) {z : Int} (hd : decode Y.2.1 pc = .ok (.lstore 4, 2)) (hp : pc + 2 = q) (hn : nl a3) (kk : AW X q (a0 :: a1 :: a2 :: a3 :: some (vL z) :: none :: t) st μ k n) : AW X pc (a0 :: a1 :: a2 :: a3 :: a4 :: a5 :: t) (vL z :: st) μ k n := aw_lstore_g (i := 4) F (Or.inr ⟨hd, hp⟩) (nlg_4 hn) (by simp) kk
theorem aw_aload_4 (F : Fx X Y) {z : Nat} (hd : decode Y.2.1 pc = .ok (.aload 4, 2)) (hp : pc + 2 = q) (kk : AW X q (a0 :: a1 :: a2 :: a3 :: some (vR z) :: t) (vR z :: st) μ k n) : AW X pc (a0 :: a1 :: a2 :: a3 :: some (vR z) :: t) st μ k n := aw_aload_g (i := 4) F (Or.inr ⟨hd, hp⟩) rfl kk
theorem aw_astore_4 (F : Fx X Y) {z : Nat} (hd : decode Y.2.1 pc = .ok (.astore 4, 2)) (hp : pc + 2 = q) (hn : nl a3) (kk : AW X q (a0 :: a1 :: a2 :: a3 :: some (vR z) :: t) st μ k n) : AW X pc (a0 :: a1 :: a2 :: a3 :: a4 :: t) (vR z :: st) μ k n := aw_astore_g (i := 4) F (Or.inr ⟨hd, hp⟩) (nlg_4 hn) (by simp) kk
theorem aw_iinc_4 (F : Fx X Y) {d z : Int} (hd : decode Y.2.1 pc = .ok (.iinc 4 d, 3)) (hp : pc + 3 = q) (hn : nl a3) (hz : okI (z + d)) (kk : AW X q (a0 :: a1 :: a2 :: a3 :: some (vI (z + d)) :: t) st μ k n) : AW X pc (a0 :: a1 :: a2 :: a3 :: some (vI z) :: t) st μ k n := aw_iinc_g F hd hp rfl (nlg_4 hn) hz kk
theorem aw_drop_4 (kk : AW X pc (a0 :: a1 :: a2 :: a3 :: none :: t) st μ k n) : AW X pc (a0 :: a1 :: a2 :: a3 :: a4 :: t) st μ k n := aw_drop (i := 4) kk
theorem nlg_5 (h : nl a4) : nlg (a0 :: a1 :: a2 :: a3 :: a4 :: a5 :: t) 5 := by
  intro j z e h2
  have : j = 4 := by omega
  subst this
  have e2 : a4 = some (vL z) := Option.some.inj h2
  rw [e2] at h
  exact h
theorem aw_iload_5 (F : Fx X Y) {z : Int} (hd : decode Y.2.1 pc = .ok (.iload 5, 2)) (hp : pc + 2 = q) (kk : AW X q (a0 :: a1 :: a2 :: a3 :: a4 :: some (vI z) :: t) (vI z :: st) μ k n) : AW X pc (a0 :: a1 :: a2 :: a3 :: a4 :: some (vI z) :: t) st μ k n := aw_iload_g (i := 5) F (Or.inr ⟨hd, hp⟩) rfl kk
theorem aw_istore_5 (F : Fx X Y) {z : Int} (hd : decode Y.2.1 pc = .ok (.istore 5, 2)) (hp : pc + 2 = q) (hn : nl a4) (kk : AW X q (a0 :: a1 :: a2 :: a3 :: a4 :: some (vI z) :: t) st μ k n) : AW X pc (a0 :: a1 :: a2 :: a3 :: a4 :: a5 :: t) (vI z :: st) μ k n := aw_istore_g (i := 5) F (Or.inr ⟨hd, hp⟩) (nlg_5 hn) (by simp) kk
theorem aw_lload_5 (F : Fx X Y) {z : Int} (hd : decode Y.2.1 pc = .ok (.lload 5, 2)) (hp : pc + 2 = q) (kk : AW X q (a0 :: a1 :: a2 :: a3 :: a4 :: some (vL z) :: t) (vL z :: st) μ k n) : AW X pc (a0 :: a1 :: a2 :: a3 :: a4 :: some (vL z) :: t) st μ k n := aw_lload_g (i := 5) F (Or.inr ⟨hd, hp⟩) rfl kk
theorem aw_lstore_5 (F : Fx X Y) {z : Int} (hd : decode Y.2.1 pc = .ok (.lstore 5, 2)) (hp : pc + 2 = q) (hn : nl a4) (kk : AW X q (a0 :: a1 :: a2 :: a3 :: a4 :: some (vL z) :: none :: t) st μ k n) : AW X pc (a0 :: a1 :: a2 :: a3 :: a4 :: a5 :: a6 :: t) (vL z :: st) μ k n := aw_lstore_g (i := 5) F (Or.inr ⟨hd, hp⟩) (nlg_5 hn) (by simp) kk
theorem aw_aload_5 (F : Fx X Y) {z : Nat} (hd : decode Y.2.1 pc = .ok (.aload 5, 2)) (hp : pc + 2 = q) (kk : AW X q (a0 :: a1 :: a2 :: a3 :: a4 :: some (vR z) :: t) (vR z :: st) μ k n) : AW X pc (a0 :: a1 :: a2 :: a3 :: a4 :: some (vR z) :: t) st μ k n := aw_aload_g (i := 5) F (Or.inr ⟨hd, hp⟩) rfl kk
theorem aw_astore_5 (F : Fx X Y) {z : Nat} (hd : decode Y.2.1 pc = .ok (.astore 5, 2)) (hp : pc + 2 = q) (hn : nl a4) (kk : AW X q (a0 :: a1 :: a2 :: a3 :: a4 :: some (vR z) :: t) st μ k n) : AW X pc (a0 :: a1 :: a2 :: a3 :: a4 :: a5 :: t) (vR z :: st) μ k n := aw_astore_g (i := 5) F (Or.inr ⟨hd, hp⟩) (nlg_5 hn) (by simp) kk
theorem aw_iinc_5 (F : Fx X Y) {d z : Int} (hd : decode Y.2.1 pc = .ok (.iinc 5 d, 3)) (hp : pc + 3 = q) (hn : nl a4) (hz : okI (z + d)) (kk : AW X q (a0 :: a1 :: a2 :: a3 :: a4 :: some (vI (z + d)) :: t) st μ k n) : AW X pc (a0 :: a1 :: a2 :: a3 :: a4 :: some (vI z) :: t) st μ k n := aw_iinc_g F hd hp rfl (nlg_5 hn) hz kk
theorem aw_drop_5 (kk : AW X pc (a0 :: a1 :: a2 :: a3 :: a4 :: none :: t) st μ k n) : AW X pc (a0 :: a1 :: a2 :: a3 :: a4 :: a5 :: t) st μ k n := aw_drop (i := 5) kk
theorem nlg_6 (h : nl a5) : nlg (a0 :: a1 :: a2 :: a3 :: a4 :: a5 :: a6 :: t) 6 := by
  intro j z e h2
  have : j = 5 := by omega
  subst this
  have e2 : a5 = some (vL z) := Option.some.inj h2
  rw [e2] at h
  exact h
theorem aw_iload_6 (F : Fx X Y) {z : Int} (hd : decode Y.2.1 pc = .ok (.iload 6, 2)) (hp : pc + 2 = q) (kk : AW X q (a0 :: a1 :: a2 :: a3 :: a4 :: a5 :: some (vI z) :: t) (vI z :: st) μ k n) : AW X pc (a0 :: a1 :: a2 :: a3 :: a4 :: a5 :: some (vI z) :: t) st μ k n := aw_iload_g (i := 6) F (Or.inr ⟨hd, hp⟩) rfl kk
theorem aw_istore_6 (F : Fx X Y) {z : Int} (hd : decode Y.2.1 pc = .ok (.istore 6, 2)) (hp : pc + 2 = q) (hn : nl a5) (kk : AW X q (a0 :: a1 :: a2 :: a3 :: a4 :: a5 :: some (vI z) :: t) st μ k n) : AW X pc (a0 :: a1 :: a2 :: a3 :: a4 :: a5 :: a6 :: t) (vI z :: st) μ k n := aw_istore_g (i := 6) F (Or.inr ⟨hd, hp⟩) (nlg_6 hn) (by simp) kk
theorem aw_lload_6 (F : Fx X Y) {z : Int} (hd : decode Y.2.1 pc = .ok (.lload 6, 2)) (hp : pc + 2 = q) (kk : AW X q (a0 :: a1 :: a2 :: a3 :: a4 :: a5 :: some (vL z) :: t) (vL z :: st) μ k n) : AW X pc (a0 :: a1 :: a2 :: a3 :: a4 :: a5 :: some (vL z) :: t) st μ k n := aw_lload_g (i := 6) F (Or.inr ⟨hd, hp⟩) rfl kk
theorem aw_lstore_6 (F : Fx X Y) {z : Int} (hd : decode Y.2.1 pc = .ok (.lstore 6, 2)) (hp : pc + 2 = q) (hn : nl a5) (kk : AW X q (a0 :: a1 :: a2 :: a3 :: a4 :: a5 :: some (vL z) :: none :: t) st μ k n) : AW X pc (a0 :: a1 :: a2 :: a3 :: a4 :: a5 :: a6 :: a7 :: t) (vL z :: st) μ k n := aw_lstore_g (i := 6) F (Or.inr ⟨hd, hp⟩) (nlg_6 hn) (by simp) kk
theorem aw_aload_6 (F : Fx X Y) {z : Nat} (hd : decode Y.2.1 pc = .ok (.aload 6, 2)) (hp : pc + 2 = q) (kk : AW X q (a0 :: a1 :: a2 :: a3 :: a4 :: a5 :: some (vR z) :: t) (vR z :: st) μ k n) : AW X pc (a0 :: a1 :: a2 :: a3 :: a4 :: a5 :: some (vR z) :: t) st μ k n := aw_aload_g (i := 6) F (Or.inr ⟨hd, hp⟩) rfl kk
theorem aw_astore_6 (F : Fx X Y) {z : Nat} (hd : decode Y.2.1 pc = .ok (.astore 6, 2)) (hp : pc + 2 = q) (hn : nl a5) (kk : AW X q (a0 :: a1 :: a2 :: a3 :: a4 :: a5 :: some (vR z) :: t) st μ k n) : AW X pc (a0 :: a1 :: a2 :: a3 :: a4 :: a5 :: a6 :: t) (vR z :: st) μ k n := aw_astore_g (i := 6) F (Or.inr ⟨hd, hp⟩) (nlg_6 hn) (by simp) kk
theorem aw_iinc_6 (F : Fx X Y) {d z : Int} (hd : decode Y.2.1 pc = .ok (.iinc 6 d, 3)) (hp : pc + 3 = q) (hn : nl a5) (hz : okI (z + d)) (kk : AW X q (a0 :: a1 :: a2 :: a3 :: a4 :: a5 :: some (vI (z + d)) :: t) st μ k n) : AW X pc (a0 :: a1 :: a2 :: a3 :: a4 :: a5 :: some (vI z) :: t) st μ k n := aw_iinc_g F hd hp rfl (nlg_6 hn) hz kk
theorem aw_drop_6 (kk : AW X pc (a0 :: a1 :: a2 :: a3 :: a4 :: a5 :: none :: t) st μ k n) : AW X pc (a0 :: a1 :: a2 :: a3 :: a4 :: a5 :: a6 :: t) st μ k n := aw_drop (i := 6) kk
theorem nlg_7 (h : nl a6) : nlg (a0 :: a1 :: a2 :: a3 :: a4 :: a5 :: a6 :: a7 :: t) 7 := by
  intro j z e h2
  have : j = 6 := by omega
  subst this
  have e2 : a6 = some (vL z) := Option.some.inj h2
  rw [e2] at h
  exact h
theorem aw_iload_7 (F : Fx X Y) {z : Int} (hd : decode Y.2.1 pc = .ok (.iload 7, 2)) (hp : pc + 2 = q) (kk : AW X q (a0 :: a1 :: a2 :: a3 :: a4 :: a5 :: a6 :: some (vI z) :: t) (vI z :: st) μ k n) : AW X pc (a0 :: a1 :: a2 :: a3 :: a4 :: a5 :: a6 :: some (vI z) :: t) st μ k n := aw_iload_g (i := 7) F (Or.inr ⟨hd, hp⟩) rfl kk
theorem aw_istore_7 (F : Fx X Y) {z : Int} (hd : decode Y.2.1 pc = .ok (.istore 7, 2)) (hp : pc + 2 = q) (hn : nl a6) (kk : AW X q (a0 :: a1 :: a2 :: a3 :: a4 :: a5 :: a6 :: some (vI z) :: t) st μ k n) : AW X pc (a0 :: a1 :: a2 :: a3 :: a4 :: a5 :: a6 :: a7 :: t) (vI z :: st) μ k n := aw_istore_g (i := 7) F (Or.inr ⟨hd, hp⟩) (nlg_7 hn) (by simp) kk
theorem aw_lload_7 (F : Fx X Y) {z : Int} (hd : decode Y.2.1 pc = .ok (.lload 7, 2)) (hp : pc + 2 = q) (kk : AW X q (a0 :: a1 :: a2 :: a3 :: a4 :: a5 :: a6 :: some (vL z) :: t) (vL z :: st) μ k n) : AW X pc (a0 :: a1 :: a2 :: a3 :: a4 :: a5 :: a6 :: some (vL z) :: t) st μ k n := aw_lload_g (i := 7) F (Or.inr ⟨hd, hp⟩) rfl kk
theorem aw_lstore_7 (F : Fx X Y) {z : Int} (hd : decode Y.2.1 pc = .ok (.lstore 7, 2)) (hp : pc + 2 = q) (hn : nl a6) (kk : AW X q (a0 :: a1 :: a2 :: a3 :: a4 :: a5 :: a6 :: some (vL z) :: none :: t) st μ k n) : AW X pc (a0 :: a1 :: a2 :: a3 :: a4 :: a5 :: a6 :: a7 :: a8 :: t) (vL z :: st) μ k n := aw_lstore_g (i := 7) F (Or.inr ⟨hd, hp⟩) (nlg_7 hn) (by simp) kk
theorem aw_aload_7 (F : Fx X Y) {z : Nat} (hd : decode Y.2.1 pc = .ok (.aload 7, 2)) (hp : pc + 2 = q) (kk : AW X q (a0 :: a1 :: a2 :: a3 :: a4 :: a5 :: a6 :: some (vR z) :: t) (vR z :: st) μ k n) : AW X pc (a0 :: a1 :: a2 :: a3 :: a4 :: a5 :: a6 :: some (vR z) :: t) st μ k n := aw_aload_g (i := 7) F (Or.inr ⟨hd, hp⟩) rfl kk
theorem aw_astore_7 (F : Fx X Y) {z : Nat} (hd : decode Y.2.1 pc = .ok (.astore 7, 2)) (hp : pc + 2 = q) (hn : nl a6) (kk : AW X q (a0 :: a1 :: a2 :: a3 :: a4 :: a5 :: a6 :: some (vR z) :: t) st μ k n) : AW X pc (a0 :: a1 :: a2 :: a3 :: a4 :: a5 :: a6 :: a7 :: t) (vR z :: st) μ k n := aw_astore_g (i := 7) F (Or.inr ⟨hd, hp⟩) (nlg_7 hn) (by simp) kk
theorem aw_iinc_7 (F : Fx X Y) {d z : Int} (hd : decode Y.2.1 pc = .ok (.iinc 7 d, 3)) (hp : pc + 3 = q) (hn : nl a6) (hz : okI (z + d)) (kk : AW X q (a0 :: a1 :: a2 :: a3 :: a4 :: a5 :: a6 :: some (vI (z + d)) :: t) st μ k n) : AW X pc (a0 :: a1 :: a2 :: a3 :: a4 :: a5 :: a6 :: some (vI z) :: t) st μ k n := aw_iinc_g F hd hp rfl (nlg_7 hn) hz kk
theorem aw_drop_7 (kk : AW X pc (a0 :: a1 :: a2 :: a3 :: a4 :: a5 :: a6 :: none :: t) st μ k n) : AW X pc (a0 :: a1 :: a2 :: a3 :: a4 :: a5 :: a6 :: a7 :: t) st μ k n := aw_drop (i := 7) kk
theorem nlg_8 (h : nl a7) : nlg (a0 :: a1 :: a2 :: a3 :: a4 :: a5 :: a6 :: a7 :: a8 :: t) 8 := by
  intro j z e h2
  have : j = 7 := by omega
  subst this
  have e2 : a7 = some (vL z) := Option.some.inj h2
  rw [e2] at h
  exact h
theorem aw_iload_8 (F : Fx X Y) {z : Int} (hd : decode Y.2.1 pc = .ok (.iload 8, 2)) (hp : pc + 2 = q) (kk : AW X q (a0 :: a1 :: a2 :: a3 :: a4 :: a5 :: a6 :: a7 :: some (vI z) :: t) (vI z :: st) μ k n) : AW X pc (a0 :: a1 :: a2 :: a3 :: a4 :: a5 :: a6 :: a7 :: some (vI z) :: t) st μ k n := aw_iload_g (i := 8) F (Or.inr ⟨hd, hp⟩) rfl kk
theorem aw_istore_8 (F : Fx X Y) {z : Int} (hd : decode Y.2.1 pc = .ok (.istore 8, 2)) (hp : pc + 2 = q) (hn : nl a7) (kk : AW X q (a0 :: a1 :: a2 :: a3 :: a4 :: a5 :: a6 :: a7 :: some (vI z) :: t) st μ k n) : AW X pc (a0 :: a1 :: a2 :: a3 :: a4 :: a5 :: a6 :: a7 :: a8 :: t) (vI z :: st) μ k n := aw_istore_g (i := 8) F (Or.inr ⟨hd, hp⟩) (nlg_8 hn) (by simp) kk
theorem aw_lload_8 (F : Fx X Y) {z : Int} (hd : decode Y.2.1 pc = .ok (.lload 8, 2)) (hp : pc + 2 = q) (kk : AW X q (a0 :: a1 :: a2 :: a3 :: a4 :: a5 :: a6 :: a7 :: some (vL z) :: t) (vL z :: st) μ k n) : AW X pc (a0 :: a1 :: a2 :: a3 :: a4 :: a5 :: a6 :: a7 :: some (vL z) :: t) st μ k n := aw_lload_g (i := 8) F (Or.inr ⟨hd, hp⟩) rfl kk
theorem aw_lstore_8 (F : Fx X Y) {z : Int} (hd : decode Y.2.1 pc = .ok (.lstore 8, 2)) (hp : pc + 2 = q) (hn : nl a7) (kk : AW X q (a0 :: a1 :: a2 :: a3 :: a4 :: a5 :: a6 :: a7 :: some (vL z) :: none :: t) st μ k n) : AW X pc (a0 :: a1 :: a2 :: a3 :: a4 :: a5 :: a6 :: a7 :: a8 :: a9 :: t) (vL z :: st) μ k n := aw_lstore_g (i := 8) F (Or.inr ⟨hd, hp⟩) (nlg_8 hn) (by simp) kk
theorem aw_aload_8 (F : Fx X Y) {z : Nat} (hd : decode Y.2.1 pc = .ok (.aload 8, 2)) (hp : pc + 2 = q) (kk : AW X q (a0 :: a1 :: a2 :: a3 :: a4 :: a5 :: a6 :: a7 :: some (vR z) :: t) (vR z :: st) μ k n) : AW X pc (a0 :: a1 :: a2 :: a3 :: a4 :: a5 :: a6 :: a7 :: some (vR z) :: t) st μ k n := aw_aload_g (i := 8) F (Or.inr ⟨hd, hp⟩) rfl kk
theorem aw_astore_8 (F : Fx X Y) {z : Nat} (hd : decode Y.2.1 pc = .ok (.astore 8, 2)) (hp : pc + 2 = q) (hn : nl a7) (kk : AW X q (a0 :: a1 :: a2 :: a3 :: a4 :: a5 :: a6 :: a7 :: some (vR z) :: t) st μ k n) : AW X pc (a0 :: a1 :: a2 :: a3 :: a4 :: a5 :: a6 :: a7 :: a8 :: t) (vR z :: st) μ k n := aw_astore_g (i := 8) F (Or.inr ⟨hd, hp⟩) (nlg_8 hn) (by simp) kk
theorem aw_iinc_8 (F : Fx X Y) {d z : Int} (hd : decode Y.2.1 pc = .ok (.iinc 8 d, 3)) (hp : pc + 3 = q) (hn : nl a7) (hz : okI (z + d)) (kk : AW X q (a0 :: a1 :: a2 :: a3 :: a4 :: a5 :: a6 :: a7 :: some (vI (z + d)) :: t) st μ k n) : AW X pc (a0 :: a1 :: a2 :: a3 :: a4 :: a5 :: a6 :: a7 :: some (vI z) :: t) st μ k n := aw_iinc_g F hd hp rfl (nlg_8 hn) hz kk
theorem aw_drop_8 (kk : AW X pc (a0 :: a1 :: a2 :: a3 :: a4 :: a5 :: a6 :: a7 :: none :: t) st μ k n) : AW X pc (a0 :: a1 :: a2 :: a3 :: a4 :: a5 :: a6 :: a7 :: a8 :: t) st μ k n := aw_drop (i := 8) kk
theorem nlg_9 (h : nl a8) : nlg (a0 :: a1 :: a2 :: a3 :: a4 :: a5 :: a6 :: a7 :: a8 :: a9 :: t) 9 := by
  intro j z e h2
  have : j = 8 := by omega
  subst this
  have e2 : a8 = some (vL z) := Option.some.inj h2
  rw [e2] at h
  exact h
theorem aw_iload_9 (F : Fx X Y) {z : Int} (hd : decode Y.2.1 pc = .ok (.iload 9, 2)) (hp : pc + 2 = q) (kk : AW X q (a0 :: a1 :: a2 :: a3 :: a4 :: a5 :: a6 :: a7 :: a8 :: some (vI z) :: t) (vI z :: st) μ k n) : AW X pc (a0 :: a1 :: a2 :: a3 :: a4 :: a5 :: a6 :: a7 :: a8 :: some (vI z) :: t) st μ k n := aw_iload_g (i := 9) F (Or.inr ⟨hd, hp⟩) rfl kk
theorem aw_istore_9 (F : Fx X Y) {z : Int} (hd : decode Y.2.1 pc = .ok (.istore 9, 2)) (hp : pc + 2 = q) (hn : nl a8) (kk : AW X q (a0 :: a1 :: a2 :: a3 :: a4 :: a5 :: a6 :: a7 :: a8 :: some (vI z) :: t) st μ k n) : AW X pc (a0 :: a1 :: a2 :: a3 :: a4 :: a5 :: a6 :: a7 :: a8 :: a9 :: t) (vI z :: st) μ k n := aw_istore_g (i := 9) F (Or.inr ⟨hd, hp⟩) (nlg_9 hn) (by simp) kk
theorem aw_lload_9 (F : Fx X Y) {z : Int} (hd : decode Y.2.1 pc = .ok (.lload 9, 2)) (hp : pc + 2 = q) (kk : AW X q (a0 :: a1 :: a2 :: a3 :: a4 :: a5 :: a6 :: a7 :: a8 :: some (vL z) :: t) (vL z :: st) μ k n) : AW X pc (a0 :: a1 :: a2 :: a3 :: a4 :: a5 :: a6 :: a7 :: a8 :: some (vL z) :: t) st μ k n := aw_lload_g (i := 9) F (Or.inr ⟨hd, hp⟩) rfl kk
theorem aw_lstore_9 (F : Fx X Y) {z : Int} (hd : decode Y.2.1 pc = .ok (.lstore 9, 2)) (hp : pc + 2 = q) (hn : nl a8) (kk : AW X q (a0 :: a1 :: a2 :: a3 :: a4 :: a5 :: a6 :: a7 :: a8 :: some (vL z) :: none :: t) st μ k n) : AW X pc (a0 :: a1 :: a2 :: a3 :: a4 :: a5 :: a6 :: a7 :: a8 :: a9 :: a10 :: t) (vL z :: st) μ k n := aw_lstore_g (i := 9) F (Or.inr ⟨hd, hp⟩) (nlg_9 hn) (by simp) kk
theorem aw_aload_9 (F : Fx X Y) {z : Nat} (hd : decode Y.2.1 pc = .ok (.aload 9, 2)) (hp : pc + 2 = q) (kk : AW X q (a0 :: a1 :: a2 :: a3 :: a4 :: a5 :: a6 :: a7 :: a8 :: some (vR z) :: t) (vR z :: st) μ k n) : AW X pc (a0 :: a1 :: a2 :: a3 :: a4 :: a5 :: a6 :: a7 :: a8 :: some (vR z) :: t) st μ k n := aw_aload_g (i := 9) F (Or.inr ⟨hd, hp⟩) rfl kk
theorem aw_astore_9 (F : Fx X Y) {z : Nat} (hd : decode Y.2.1 pc = .ok (.astore 9, 2)) (hp : pc + 2 = q) (hn : nl a8) (kk : AW X q (a0 :: a1 :: a2 :: a3 :: a4 :: a5 :: a6 :: a7 :: a8 :: some (vR z) :: t) st μ k n) : AW X pc (a0 :: a1 :: a2 :: a3 :: a4 :: a5 :: a6 :: a7 :: a8 :: a9 :: t) (vR z :: st) μ k n := aw_astore_g (i := 9) F (Or.inr ⟨hd, hp⟩) (nlg_9 hn) (by simp) kk
theorem aw_iinc_9 (F : Fx X Y) {d z : Int} (hd : decode Y.2.1 pc = .ok (.iinc 9 d, 3)) (hp : pc + 3 = q) (hn : nl a8) (hz : okI (z + d)) (kk : AW X q (a0 :: a1 :: a2 :: a3 :: a4 :: a5 :: a6 :: a7 :: a8 :: some (vI (z + d)) :: t) st μ k n) : AW X pc (a0 :: a1 :: a2 :: a3 :: a4 :: a5 :: a6 :: a7 :: a8 :: some (vI z) :: t) st μ k n := aw_iinc_g F hd hp rfl (nlg_9 hn) hz kk
theorem aw_drop_9 (kk : AW X pc (a0 :: a1 :: a2 :: a3 :: a4 :: a5 :: a6 :: a7 :: a8 :: none :: t) st μ k n) : AW X pc (a0 :: a1 :: a2 :: a3 :: a4 :: a5 :: a6 :: a7 :: a8 :: a9 :: t) st μ k n := aw_drop (i := 9) kk
theorem nlg_10 (h : nl a9) : nlg (a0 :: a1 :: a2 :: a3 :: a4 :: a5 :: a6 :: a7 :: a8 :: a9 :: a10 :: t) 10 := by
  intro j z e h2
  have : j = 9 := by omega
  subst this
  have e2 : a9 = some (vL z) := Option.some.inj h2
  rw [e2] at h
  exact h
theorem aw_iload_10 (F : Fx X Y) {z : Int} (hd : decode Y.2.1 pc = .ok (.iload 10, 2)) (hp : pc + 2 = q) (kk : AW X q (a0 :: a1 :: a2 :: a3 :: a4 :: a5 :: a6 :: a7 :: a8 :: a9 :: some (vI z) :: t) (vI z :: st) μ k n) : AW X pc (a0 :: a1 :: a2 :: a3 :: a4 :: a5 :: a6 :: a7 :: a8 :: a9 :: some (vI z) :: t) st μ k n := aw_iload_g (i := 10) F (Or.inr ⟨hd, hp⟩) rfl kk
theorem aw_istore_10 (F : Fx X Y) {z : Int} (hd : decode Y.2.1 pc = .ok (.istore 10, 2)) (hp : pc + 2 = q) (hn : nl a9) (kk : AW X q (a0 :: a1 :: a2 :: a3 :: a4 :: a5 :: a6 :: a7 :: a8 :: a9 :: some (vI z) :: t) st μ k n) : AW X pc (a0 :: a1 :: a2 :: a3 :: a4 :: a5 :: a6 :: a7 :: a8 :: a9 :: a10 :: t) (vI z :: st) μ k n := aw_istore_g (i := 10) F (Or.inr ⟨hd, hp⟩) (nlg_10 hn) (by simp) kk
theorem aw_lload_10 (F : Fx X Y) {z : Int} (hd : decode Y.2.1 pc = .ok (.lload 10, 2)) (hp : pc + 2 = q) (kk : AW X q (a0 :: a1 :: a2 :: a3 :: a4 :: a5 :: a6 :: a7 :: a8 :: a9 :: some (vL z) :: t) (vL z :: st) μ k n) : AW X pc (a0 :: a1 :: a2 :: a3 :: a4 :: a5 :: a6 :: a7 :: a8 :: a9 :: some (vL z) :: t) st μ k n := aw_lload_g (i := 10) F (Or.inr ⟨hd, hp⟩) rfl kk
theorem aw_lstore_10 (F : Fx X Y) {z : Int} (hd : decode Y.2.1 pc = .ok (.lstore 10, 2)) (hp : pc + 2 = q) (hn : nl a9) (kk : AW X q (a0 :: a1 :: a2 :: a3 :: a4 :: a5 :: a6 :: a7 :: a8 :: a9 :: some (vL z) :: none :: t) st μ k n) : AW X pc (a0 :: a1 :: a2 :: a3 :: a4 :: a5 :: a6 :: a7 :: a8 :: a9 :: a10 :: a11 :: t) (vL z :: st) μ k n := aw_lstore_g (i := 10) F (Or.inr ⟨hd, hp⟩) (nlg_10 hn) (by simp) kk
theorem aw_aload_10 (F : Fx X Y) {z : Nat} (hd : decode Y.2.1 pc = .ok (.aload 10, 2)) (hp : pc + 2 = q) (kk : AW X q (a0 :: a1 :: a2 :: a3 :: a4 :: a5 :: a6 :: a7 :: a8 :: a9 :: some (vR z) :: t) (vR z :: st) μ k n) : AW X pc (a0 :: a1 :: a2 :: a3 :: a4 :: a5 :: a6 :: a7 :: a8 :: a9 :: some (vR z) :: t) st μ k n := aw_aload_g (i := 10) F (Or.inr ⟨hd, hp⟩) rfl kk
theorem aw_astore_10 (F : Fx X Y) {z : Nat} (hd : decode Y.2.1 pc = .ok (.astore 10, 2)) (hp : pc + 2 = q) (hn : nl a9) (kk : AW X q (a0 :: a1 :: a2 :: a3 :: a4 :: a5 :: a6 :: a7 :: a8 :: a9 :: some (vR z) :: t) st μ k n) : AW X pc (a0 :: a1 :: a2 :: a3 :: a4 :: a5 :: a6 :: a7 :: a8 :: a9 :: a10 :: t) (vR z :: st) μ k n := aw_astore_g (i := 10) F (Or.inr ⟨hd, hp⟩) (nlg_10 hn) (by simp) kk
theorem aw_iinc_10 (F : Fx X Y) {d z : Int} (hd : decode Y.2.1 pc = .ok (.iinc 10 d, 3)) (hp : pc + 3 = q) (hn : nl a9) (hz : okI (z + d)) (kk : AW X q (a0 :: a1 :: a2 :: a3 :: a4 :: a5 :: a6 :: a7 :: a8 :: a9 :: some (vI (z + d)) :: t) st μ k n) : AW X pc (a0 :: a1 :: a2 :: a3 :: a4 :: a5 :: a6 :: a7 :: a8 :: a9 :: some (vI z) :: t) st μ k n := aw_iinc_g F hd hp rfl (nlg_10 hn) hz kk
theorem aw_drop_10 (kk : AW X pc (a0 :: a1 :: a2 :: a3 :: a4 :: a5 :: a6 :: a7 :: a8 :: a9 :: none :: t) st μ k n) : AW X pc (a0 :: a1 :: a2 :: a3 :: a4 :: a5 :: a6 :: a7 :: a8 :: a9 :: a10 :: t) st μ k n := aw_drop (i := 10) kk
theorem nlg_11 (h : nl a10) : nlg (a0 :: a1 :: a2 :: a3 :: a4 :: a5 :: a6 :: a7 :: a8 :: a9 :: a10 :: a11 :: t) 11 := by
  intro j z e h2
  have : j = 10 := by omega
  subst this
  have e2 : a10 = some (vL z) := Option.some.inj h2
  rw [e2] at h
  exact h
theorem aw_iload_11 (F : Fx X Y) {z : Int} (hd : decode Y.2.1 pc = .ok (.iload 11, 2)) (hp : pc + 2 = q) (kk : AW X q (a0 :: a1 :: a2 :: a3 :: a4 :: a5 :: a6 :: a7 :: a8 :: a9 :: a10 :: some (vI z) :: t) (vI z :: st) μ k n) : AW X pc (a0 :: a1 :: a2 :: a3 :: a4 :: a5 :: a6 :: a7 :: a8 :: a9 :: a10 :: some (vI z) :: t) st μ k n := aw_iload_g (i := 11) F (Or.inr ⟨hd, hp⟩) rfl kk
theorem aw_istore_11 (F : Fx X Y) {z : Int} (hd : decode Y.2.1 pc = .ok (.istore 11, 2)) (hp : pc + 2 = q) (hn : nl a10) (kk : AW X q (a0 :: a1 :: a2 :: a3 :: a4 :: a5 :: a6 :: a7 :: a8 :: a9 :: a10 :: some (vI z) :: t) st μ k n) : AW X pc (a0 :: a1 :: a2 :: a3 :: a4 :: a5 :: a6 :: a7 :: a8 :: a9 :: a10 :: a11 :: t) (vI z :: st) μ k n := aw_istore_g (i := 11) F (Or.inr ⟨hd, hp⟩) (nlg_11 hn) (by simp) kk
theorem aw_lload_11 (F : Fx X Y) {z : Int} (hd : decode Y.2.1 pc = .ok (.lload 11, 2)) (hp : pc + 2 = q) (kk : AW X q (a0 :: a1 :: a2 :: a3 :: a4 :: a5 :: a6 :: a7 :: a8 :: a9 :: a10 :: some (vL z) :: t) (vL z :: st) μ k n) : AW X pc (a0 :: a1 :: a2 :: a3 :: a4 :: a5 :: a6 :: a7 :: a8 :: a9 :: a10 :: some (vL z) :: t) st μ k n := aw_lload_g (i := 11) F (Or.inr ⟨hd, hp⟩) rfl kk
theorem aw_lstore_11 (F : Fx X Y) {z : Int} (hd : decode Y.2.1 pc = .ok (.lstore 11, 2)) (hp : pc + 2 = q) (hn : nl a10) (kk : AW X q (a0 :: a1 :: a2 :: a3 :: a4 :: a5 :: a6 :: a7 :: a8 :: a9 :: a10 :: some (vL z) :: none :: t) st μ k n) : AW X pc (a0 :: a1 :: a2 :: a3 :: a4 :: a5 :: a6 :: a7 :: a8 :: a9 :: a10 :: a11 :: a12 :: t) (vL z :: st) μ k n := aw_lstore_g (i := 11) F (Or.inr ⟨hd, hp⟩) (nlg_11 hn) (by simp) kk
theorem aw_aload_11 (F : Fx X Y) {z : Nat} (hd : decode Y.2.1 pc = .ok (.aload 11, 2)) (hp : pc + 2 = q) (kk : AW X q (a0 :: a1 :: a2 :: a3 :: a4 :: a5 :: a6 :: a7 :: a8 :: a9 :: a10 :: some (vR z) :: t) (vR z :: st) μ k n) : AW X pc (a0 :: a1 :: a2 :: a3 :: a4 :: a5 :: a6 :: a7 :: a8 :: a9 :: a10 :: some (vR z) :: t) st μ k n := aw_aload_g (i := 11) F (Or.inr ⟨hd, hp⟩) rfl kk
theorem aw_astore_11 (F : Fx X Y) {z : Nat} (hd : decode Y.2.1 pc = .ok (.astore 11, 2)) (hp : pc + 2 = q) (hn : nl a10) (kk : AW X q (a0 :: a1 :: a2 :: a3 :: a4 :: a5 :: a6 :: a7 :: a8 :: a9 :: a10 :: some (vR z) :: t) st μ k n) : AW X pc (a0 :: a1 :: a2 :: a3 :: a4 :: a5 :: a6 :: a7 :: a8 :: a9 :: a10 :: a11 :: t) (vR z :: st) μ k n := aw_astore_g (i := 11) F (Or.inr ⟨hd, hp⟩) (nlg_11 hn) (by simp) kk
theorem aw_iinc_11 (F : Fx X Y) {d z : Int} (hd : decode Y.2.1 pc = .ok (.iinc 11 d, 3)) (hp : pc + 3 = q) (hn : nl a10) (hz : okI (z + d)) (kk : AW X q (a0 :: a1 :: a2 :: a3 :: a4 :: a5 :: a6 :: a7 :: a8 :: a9 :: a10 :: some (vI (z + d)) :: t) st μ k n) : AW X pc (a0 :: a1 :: a2 :: a3 :: a4 :: a5 :: a6 :: a7 :: a8 :: a9 :: a10 :: some (vI z) :: t) st μ k n := aw_iinc_g F hd hp rfl (nlg_11 hn) hz kk
theorem aw_drop_11 (kk : AW X pc (a0 :: a1 :: a2 :: a3 :: a4 :: a5 :: a6 :: a7 :: a8 :: a9 :: a10 :: none :: t) st μ k n) : AW X pc (a0 :: a1 :: a2 :: a3 :: a4 :: a5 :: a6 :: a7 :: a8 :: a9 :: a10 :: a11 :: t) st μ k n := aw_drop (i := 11) kk
end Slots
