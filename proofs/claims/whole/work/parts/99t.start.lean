-- the Statement's premises
def gvF : List Cond := flatC (Jvm.Cond.and given_1 narrow_1)
def kBs : List Nat := [21, 113, 126, 164, 175, 189, 202, 218, 233, 249, 268, 288, 306, 326, 348, 370, 394, 420, 446]
def kT (i : Nat) : Term := .string (kOwn i) (kIdx i)
theorem gv1 : ∀ i : Nat, i < 19 → gvF[kBs.getD i 0]? = some (.exactly (kT i) "java/lang/String") ∧ gvF[kBs.getD i 0 + 1]? = some (.eq (.field (kT i) "java/lang/String" "coder" "B") (.int 0)) ∧ gvF[kBs.getD i 0 + 2]? = some (.arrayOf (.field (kT i) "java/lang/String" "value" "[B") .byte) ∧ gvF[kBs.getD i 0 + 3]? = some (.eq (.length (.field (kT i) "java/lang/String" "value" "[B")) (.int (Int32.ofNat (kLen.getD i 0)))) := by decide +kernel
theorem gv2 : ∀ i : Nat, i < 19 → ∀ j : Nat, j < kLen.getD i 0 → gvF[kBs.getD i 0 + 4 + j]? = some (.eq (.elem (.field (kT i) "java/lang/String" "value" "[B") (.int (Int32.ofNat j))) (.int ((kByt.getD i []).getD j 0))) := by decide +kernel
theorem gv3 : ∀ i : Nat, i < 19 → ∀ j : Nat, j < i → gvF[kBs.getD i 0 + 4 + kLen.getD i 0 + j]? = some (.not (.eq (kT j) (kT i))) := by decide +kernel
theorem gv4 : gvF[4]? = some (.eq (.static "java/lang/String" "COMPACT_STRINGS" "Z") (.int 1)) ∧ gvF[5]? = some (.isRef (.static "jdk/internal/util/Preconditions" "SIOOBE_FORMATTER" "Ljava/util/function/BiFunction;")) ∧ gvF[9]? = some (.isRef (.static "java/lang/Throwable" "UNASSIGNED_STACK" "[Ljava/lang/StackTraceElement;")) ∧ gvF[10]? = some (.isRef (.static "java/lang/Throwable" "SUPPRESSED_SENTINEL" "Ljava/util/List;")) := by decide +kernel
theorem kL31 : ∀ i : Nat, i < 19 → kLen.getD i 0 < 2 ^ 31 := by decide +kernel
theorem sr_tb : ∀ i : Nat, i < 19 → Cond.stringRef (kOwn i) (kIdx i) (kTx i) ∈ tables_1
  | 0, _ => tq2 191 (by decide +kernel)
  | 1, _ => tq3 12 (by decide +kernel)
  | 2, _ => tq3 29 (by decide +kernel)
  | 3, _ => tq7 7 (by decide +kernel)
  | 4, _ => tq7 25 (by decide +kernel)
  | 5, _ => tq7 26 (by decide +kernel)
  | 6, _ => tq7 43 (by decide +kernel)
  | 7, _ => tq7 44 (by decide +kernel)
  | 8, _ => tq7 45 (by decide +kernel)
  | 9, _ => tq7 46 (by decide +kernel)
  | 10, _ => tq7 47 (by decide +kernel)
  | 11, _ => tq7 48 (by decide +kernel)
  | 12, _ => tq7 49 (by decide +kernel)
  | 13, _ => tq7 50 (by decide +kernel)
  | 14, _ => tq7 51 (by decide +kernel)
  | 15, _ => tq7 56 (by decide +kernel)
  | 16, _ => tq7 57 (by decide +kernel)
  | 17, _ => tq7 58 (by decide +kernel)
  | 18, _ => tq7 59 (by decide +kernel)
  | i + 19, h => absurd h (by omega)
theorem ls_C : Cond.laysStatic "java/lang/String" "COMPACT_STRINGS" "Z" ∈ tables_1 := tq2 205 (by decide +kernel)
theorem ls_F : Cond.laysStatic "jdk/internal/util/Preconditions" "SIOOBE_FORMATTER" "Ljava/util/function/BiFunction;" ∈ tables_1 := tq2 221 (by decide +kernel)
theorem ls_U : Cond.laysStatic "java/lang/Throwable" "UNASSIGNED_STACK" "[Ljava/lang/StackTraceElement;" ∈ tables_1 := tq5 235 (by decide +kernel)
theorem ls_N : Cond.laysStatic "java/lang/Throwable" "SUPPRESSED_SENTINEL" "Ljava/util/List;" ∈ tables_1 := tq5 237 (by decide +kernel)
theorem in_S : Cond.initialized "java/lang/String" ∈ tables_1 := tq1 11 (by decide +kernel)
theorem in_P : Cond.initialized "jdk/internal/util/Preconditions" ∈ tables_1 := tq1 13 (by decide +kernel)
theorem in_T : Cond.initialized "java/lang/Throwable" ∈ tables_1 := tq1 19 (by decide +kernel)
theorem arr_of {args : Array Value} {s : State} {ty : FieldType} (h : (Cond.arrayClass ty).before args s = true) : ∃ cA : ClassId, ArrOfT s cA ty ∧ s.vm.findClass ("[" ++ ty.toString) = some cA := by
  obtain ⟨c, k, comp, h1, h2, h3⟩ := Cond.arrayClass_spec h
  exact ⟨c, fun n z => ⟨fun k h => (by cases h), k, h2, comp, h3⟩, h1⟩
/-- the locals at the entry -/
theorem lsR_entry {nL : Nat} {ad : Nat → Nat} {args : List AV} {ls : List (Option AV)} (hls : initL args = ls.take (initL args).length) (hln : ls.drop (initL args).length = List.replicate (nL - (initL args).length) none) (hl0 : (initL args).length ≤ nL) : lsR nL ad ls ((lg_sl (args.map (trv ad)) ++ List.replicate (nL - (lg_sl (args.map (trv ad))).length) Slot.unset).toArray) := by
  have hn : (lg_sl (args.map (trv ad))).length ≤ nL := by rw [initL_len]; exact hl0
  obtain ⟨e1, e2, e3⟩ := lv_entry (args.map (trv ad)) hn
  refine ⟨e1, e2, by rw [← List.take_append_drop (initL args).length ls, hln, ← hls, List.length_append, List.length_replicate]; omega, fun i v hv => ?_⟩
  have hlt : i < (initL args).length := by
    refine Nat.lt_of_not_le fun hge => ?_
    have : (ls.drop (initL args).length)[i - (initL args).length]? = some (some v) := by rw [List.getElem?_drop, show (initL args).length + (i - (initL args).length) = i by omega]; exact hv
    rw [hln] at this
    have := List.eq_of_mem_replicate (List.mem_of_getElem? this); cases this
  have h1 : (initL args)[i]? = some (some v) := by rw [hls, List.getElem?_take, if_pos hlt]; exact hv
  have := e3 _ (initL_args ad args 0 i v h1)
  simpa using this
/-- what stays, at the start -/
theorem KF_start {s : State} {b : Nat} (l : Launch) (m : MethodId) (hts : ∀ w ∈ lw_tbl, w.before #[Value.ref b] s = true) (hgv : (Jvm.Cond.and given_1 narrow_1).before #[Value.ref b] s = true) : ∃ G : GE, gl G = l ∧ KF G (fun q => s.heap.size ≤ q) s s.heap := by
  have hA : ∀ a : Nat, a < s.heap.size → ¬ (fun q => s.heap.size ≤ q) a := fun a h => Nat.not_le.mpr h
  have hT1 : ∀ w ∈ tables_1, w.before #[Value.ref b] s = true := fun w hw => hts w (List.mem_append_right _ hw)
  have hTB : ∀ w ∈ TBL, w.before #[Value.ref b] s = true := fun w hw => hts w (List.mem_filter.mp hw).1
  have hg : ∀ (i : Nat) (c : Cond), gvF[i]? = some c → c.before #[Value.ref b] s = true := fun i c h => flat_of_before _ hgv c (List.mem_of_getElem? h)
  have hex : ∀ k : Nat, ∃ (cC : ClassId) (iS : Nat → Nat), ∀ q : vw_C, vwCl[k]? = some q → u_Kn s q.1 q.2.1 q.2.2 cC iS := fun k => by
    cases hq : vwCl[k]? with
    | none => exact ⟨m.cls, fun _ => 0, fun q h => by cases h⟩
    | some q =>
      have hc := cls_ok hq
      obtain ⟨cC, iS, hk⟩ := u_known (ws := TBL) (C := q.1) (T := q.2.1) (N := q.2.2) (n := q.2.2) hTB hc.2.2.1 (hTB _ hc.2.2.2.2.2.1)
      exact ⟨cC, iS, fun q' h => by cases h; exact hk⟩
  obtain ⟨dC, hex⟩ := Classical.axiomOfChoice hex
  obtain ⟨dI, hKc⟩ := Classical.axiomOfChoice hex
  obtain ⟨cB, hB1, hB2⟩ := arr_of (hTB _ ac_B)
  obtain ⟨cI, hI1, hI2⟩ := arr_of (hTB _ ac_I)
  obtain ⟨cJ, hJ1, hJ2⟩ := arr_of (hTB _ ac_J)
  obtain ⟨aK, aV, hSt, hev⟩ := vk_Sof (args := #[Value.ref b]) (s := s) (N := 19) (tm := kT) (len := kLen) (byt := kByt) (A := fun q => s.heap.size ≤ q) kL31 (fun i hi => hg _ _ (gv1 i hi).1) (fun i hi => hg _ _ (gv1 i hi).2.1) (fun i hi => hg _ _ (gv1 i hi).2.2.1) (fun i hi => hg _ _ (gv1 i hi).2.2.2) (fun i hi j hj => hg _ _ (gv2 i hi j hj)) (fun i j hi hj hij => by
    rcases Nat.lt_or_gt_of_ne hij with q | q
    · exact Or.inl (hg _ _ (gv3 j hj i q))
    · exact Or.inr (hg _ _ (gv3 i hi j q))) hA
  obtain ⟨fa, fz, hF⟩ : ∃ fa fz : Nat, va_Z "jdk/internal/util/Preconditions" "SIOOBE_FORMATTER" "Ljava/util/function/BiFunction;" (if fz = 0 then .null else .ref fa) (fun q => s.heap.size ≤ q) s s.heap := by
    rcases va_Zqof (hT1 _ ls_F) (hT1 _ in_P) (hg _ _ gv4.2.1) hA with h | ⟨t, h⟩
    · exact ⟨0, 0, h⟩
    · exact ⟨t, 1, h⟩
  let G : GE := (l, (dC, dI), fun k => if k = 0 then cB else if k = 1 then cI else cJ, fun k => if k < 19 then aK k else if k = 38 then fa else fz, aV)
  have e19 : ∀ i, i < 19 → gK G i = aK i := fun i hi => if_pos hi
  refine ⟨G, rfl, ⟨fun k q hq => hKc k q hq, fun k q hq => ?_⟩, fun w hw => ?_, ⟨fun i hi => ?_, fun i j hi hj e => hSt.2 i j hi hj (by rw [e19 i hi, e19 j hj] at e; exact e)⟩, fun i hi => ?_, va_Zof (hT1 _ ls_C) (hT1 _ in_S) (va_eqt (hg _ _ gv4.1)) hA, vx_Zqof (hT1 _ ls_U) (hT1 _ in_T) (hg _ _ gv4.2.2.1) hA, vx_Zqof (hT1 _ ls_N) (hT1 _ in_T) (hg _ _ gv4.2.2.2) hA, hF⟩
  · match k, hq with
    | 0, hq => have hq : some (gy G 0, FieldType.byte) = some q := hq; cases hq; exact ⟨hB1, hB2⟩
    | 1, hq => have hq : some (gy G 1, FieldType.int) = some q := hq; cases hq; exact ⟨hI1, hI2⟩
    | 2, hq => have hq : some (gy G 2, FieldType.long) = some q := hq; cases hq; exact ⟨hJ1, hJ2⟩
    | k + 3, hq => simp [tyl] at hq
  · have hn := (List.mem_filter.mp hw).2
    have h2 := hts w (List.mem_filter.mp hw).1
    cases w <;> first | exact va_Nw.of rfl h2 | (simp [isNest] at hn)
  · rw [e19 i hi]; exact hSt.1 i hi
  · rw [e19 i hi]; exact vk_R.of (hT1 _ (sr_tb i hi)) (hev i hi)
