def R_law : String := "LastLatchLaw"
def lw_P (b : Addr) (xs : List Int32) (args : Array Value) (s : State) : Prop := args = #[.ref b] ∧ s.IntsAt b xs ∧ xs.length ≤ 384 ∧ (Jvm.Cond.and given_1 narrow_1).before args s = true
def lw_Q (_ : Array Value) (s : State) (o : Outcome) (t : State) : Prop := o = .returned (some (.int 1)) ∧ Framed s o t [] 600128 7301097
def lw_Z (below : List Frame) (a : Array Value) (s : State) : State → Prop := fun t => ∃ o, t.status = .running ∧ Ended t below o ∧ lw_Q a s o t
/-- the law's own end, with 1 on the stack, nothing written that was there before, its room as the claim has it -/
theorem lw_ret {p : Program} {l : Launch} {e : Env} {s : State} {m : MethodId} {below : List Frame} {meth : Method} {c : Code} {b : Nat} (hx : p.tables.exec = Jvm.exec) (hb : c.code = code) (hr : meth.sig.returnType = ret) (hlocks : meth.locks = false) {pc : Nat} {H : Heap} {ls : Array Slot} (hdg : decode code pc = .ok (.ireturn, 1)) : W p l e room_1 s m #[Value.ref b] below meth c H [] 600128 7301097 (lw_Z below #[Value.ref b] s) (F0 m pc ls [.int 1]) := by
  intro T hT X
  obtain ⟨fs, hret, hrun, hended, hW, hframe⟩ := X.leave (v := some (.int 1)) (hlocks := hlocks) (fun h => by rw [hr] at h; cases h)
  have hmeth' : T.vm.method? m = some meth := X.method'
  refine ⟨T.setFrames fs, ?_, .returned (some (.int 1)), hrun, hended, rfl, ⟨_, rfl⟩, hW, hframe⟩
  jvm_step X.here [X.here.top, hx, hb, hdg, hmeth', hr, ret, narrow_b1]
  (try refine ⟨rfl, ?_⟩); (try refine ⟨rfl, ?_⟩)
  first | (intro acts; rw [hret _ acts rfl rfl rfl]) | rw [hret _ _ rfl rfl rfl]
  exact Steps.refl _
/-- what holds at the law's entry: the machine, the code, the tables' words (any of lw_tbl by 'hts w (by decide +kernel)'), the script of L ints xs at the cell b, what the Statement gives of the start (any of its parts by flat_of_before) -/
def lw_At (p : Program) (s : State) (m : MethodId) (meth : Method) (c : Code) (b L : Nat) (xs : Nat → Int32) : Prop :=
  p.tables.exec = Jvm.exec ∧ c.code = code ∧ meth.sig.returnType = ret ∧ c.maxLocals = 7 ∧ s.vm.findClass R_law = some m.cls ∧ (∀ w ∈ lw_tbl, w.before #[Value.ref b] s = true) ∧ va_X b L xs s s.heap ∧ b < s.heap.size ∧ meth.locks = false ∧ (Jvm.Cond.and given_1 narrow_1).before #[Value.ref b] s = true
-- the law's own method; its script lies under the name BG + 39
def mWl (nm : String) : MD := (⟨"LastLatchLaw", nm, "([I)Z"⟩, code, 7, ret)
def Scr (X : CT) (b L : Nat) (xs : Nat → Int32) : Prop := cAd X (BG + 39) = b ∧ va_X b L xs (cS X) (cS X).heap ∧ b < (cS X).heap.size ∧ ¬ cA X b
def LX (X : CT) (b : Nat) : Prop := cR X = room_1 ∧ cAr X = #[Value.ref b] ∧ cQ X = lw_Z (cBe X) #[Value.ref b] (cS X) ∧ (∀ q, cA X q ↔ (cS X).heap.size ≤ q) ∧ (cMe X).sig.returnType = ret
abbrev sv (xs : Nat → Int32) (z : Int) : Int := (xs z.toNat).toInt
theorem pig : ∀ (N k : Nat) (f : Nat → Nat), (∀ i, i < N → f i < k) → (∀ i j, i < N → j < N → f i = f j → i = j) → N ≤ k
  | 0, _, _, _, _ => Nat.zero_le _
  | N + 1, k, f, h1, h2 => by
    have hk := h1 N (by omega)
    have hp := pig N (k - 1) (fun i => if f N < f i then f i - 1 else f i) (fun i hi => by
      have a := h1 i (by omega)
      have b : f i ≠ f N := fun q => by have := h2 i N (by omega) (by omega) q; omega
      show (if f N < f i then f i - 1 else f i) < k - 1
      split <;> omega) (fun i j hi hj e => by
      have e : (if f N < f i then f i - 1 else f i) = (if f N < f j then f j - 1 else f j) := e
      have b1 : f i ≠ f N := fun q => by have := h2 i N (by omega) (by omega) q; omega
      have b2 : f j ≠ f N := fun q => by have := h2 j N (by omega) (by omega) q; omega
      refine h2 i j (by omega) (by omega) ?_
      split at e <;> split at e <;> omega)
    omega
section Law2
variable {X : CT} {Y : MD} {pc q : Nat} {ls : List (Option AV)} {st : List AV} {μ : Mem} {k n : Nat} {b L : Nat} {xs : Nat → Int32}
theorem aw_sld (F : Fx X Y) (hS : Scr X b L xs) {x : Int} (hd : decode Y.2.1 pc = .ok (.iaload, 1)) (hp : pc + 1 = q) (h0 : 0 ≤ x) (h1 : x < L) (kk : AW X q ls (vI (sv xs x) :: st) μ k n) : AW X pc ls (vI x :: vR (BG + 39) :: st) μ k n := by
  intro ad H locs lsl R
  subst hp
  have hx : okI x := R.top
  have hb : ad (BG + 39) = b := (R.2.2.2.1.2 (BG + 39) (Or.inr (Nat.le_add_right _ _))).trans hS.1
  have hl := Int32.le_toInt (xs x.toNat)
  have hu := Int32.toInt_lt (xs x.toNat)
  have h := kk ad H locs lsl (R.pop.pop.push (show okI (sv xs x) from ⟨hl, hu⟩))
  rw [List.map_cons, List.map_cons, refA (show 0 < BG + 39 by unfold BG; omega), hb]
  refine va_sld F.1 F.2.1 hS.2.1 hS.2.2.1 hS.2.2.2 R.2.2.2.2.2.2.1 (vp_in_of_int hx h0 h1) hd ?_
  rw [clampZ hx]
  have e : trv ad (vI (sv xs x)) = Value.int (xs x.toNat) := by
    show Value.int (Int32.ofInt (xs x.toNat).toInt) = _
    rw [Int32.ofInt_toInt]
  rw [List.map_cons, e] at h
  exact h
theorem aw_slen (F : Fx X Y) (hS : Scr X b L xs) (hL : L ≤ 384) (hd : decode Y.2.1 pc = .ok (.arraylength, 1)) (hp : pc + 1 = q) (kk : AW X q ls (vI (L : Nat) :: st) μ k n) : AW X pc ls (vR (BG + 39) :: st) μ k n := by
  intro ad H locs lsl R
  subst hp
  have hb : ad (BG + 39) = b := (R.2.2.2.1.2 (BG + 39) (Or.inr (Nat.le_add_right _ _))).trans hS.1
  have h := kk ad H locs lsl (R.pop.push (show okI (L : Nat) from ⟨by omega, by omega⟩))
  have e : trv ad (vI (L : Int)) = .int (Int32.ofNat L) := by show Value.int _ = _; rw [Int32.ofInt_eq_ofNat]
  rw [List.map_cons, e] at h
  rw [List.map_cons, refA (show 0 < BG + 39 by unfold BG; omega), hb]
  exact va_slen F.1 F.2.1 hS.2.1 hS.2.2.1 hS.2.2.2 R.2.2.2.2.2.2.1 hd h
/-- a boolean out of a number -/
theorem aw_bz (F : Fx X Y) {z : Int} (d0 : decode Y.2.1 pc = .ok (.ifCond .eq 7, 3)) (d1 : decode Y.2.1 (pc + 3) = .ok (.iconst 1, 1)) (d2 : decode Y.2.1 (pc + 4) = .ok (.goto 4, 3)) (d3 : decode Y.2.1 (pc + 7) = .ok (.iconst 0, 1)) (hp : pc + 8 = q) (kk : AW X q ls (vI (bz (decide (z ≠ 0))) :: st) μ k n) : AW X pc ls (vI z :: st) μ k n := by
  subst hp
  refine aw_if_eq (t := pc + 7) (q := pc + 3) F d0 rfl (by omega) (fun c => ?_) (fun c => ?_)
  · rw [decide_eq_false (fun h => h c)] at kk
    exact aw_iconst (q := pc + 8) F d3 rfl (by decide) kk
  · rw [decide_eq_true c] at kk
    refine aw_iconst (q := pc + 4) F d1 rfl (by decide) (aw_goto (t := pc + 8) F d2 (by omega) kk)
/-- no more names than cells -/
theorem aw_sz (hA : ∀ q, cA X q ↔ (cS X).heap.size ≤ q) (kk : mX μ ≤ k + 1 → AW X pc ls st μ k n) : AW X pc ls st μ k n := by
  intro ad H locs lsl R T hT XS
  have hz := XS.heapSize
  rw [hT] at hz
  have hP := R.2.2.2.2.1
  have hD := R.2.2.2.2.2.1
  have hg : ∀ i, i < mX μ - 1 → (wrl (cG X) ad μ)[i]? = some (ad (i + 1), cel (cG X) ad μ (i + 1)) := fun i hi => by
    have := wrl_get (G := cG X) (ad := ad) (μ := μ) (a := i + 1) (by omega) (by omega)
    rw [Nat.add_sub_cancel] at this
    exact this
  have hlo : ∀ i, i < mX μ - 1 → (cS X).heap.size ≤ ad (i + 1) := fun i hi => (hA _).mp (hD.2 i _ (hg i hi))
  have hhi : ∀ i, i < mX μ - 1 → ad (i + 1) < H.size := fun i hi => (hP i _ (hg i hi)).lt
  have hp := pig (mX μ - 1) k (fun i => ad (i + 1) - (cS X).heap.size) (fun i hi => by
    have a := hlo i hi
    have b := hhi i hi
    show ad (i + 1) - (cS X).heap.size < k
    omega) (fun i j hi hj e => hD.1 i j _ _ (hg i hi) (hg j hj) (by
    have e : ad (i + 1) - (cS X).heap.size = ad (j + 1) - (cS X).heap.size := e
    have a := hlo i hi
    have b := hlo j hj
    show ad (i + 1) = ad (j + 1)
    omega))
  exact kk (by omega) ad H locs lsl R T hT XS
/-- the law's end -/
theorem aw_lend (F : Fx X Y) (hY : Y.2.1 = code) (h : LX X b) (hd : decode Y.2.1 pc = .ok (.ireturn, 1)) (hk : k ≤ 600128) (hn : n ≤ 7301097) : AW X pc ls [vI 1] μ k n := by
  intro ad H locs lsl R
  obtain ⟨h1, h2, h3, h4, h5⟩ := h
  have hS := R.2.2.2.2.2.2.1
  have e : ([vI 1] : List AV).map (trv ad) = [Value.int 1] := rfl
  rw [h1, h2, h3, e]
  refine va_forget (fun q hq => (h4 _).mp (hS.2.2 q hq)) (W.widen hk hn ?_)
  rw [hY] at hd
  exact lw_ret F.1 (F.2.1.trans hY) h5 F.2.2.2.2.2.2.2.1 hd
end Law2
