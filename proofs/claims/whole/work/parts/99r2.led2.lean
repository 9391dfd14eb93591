-- the law's own led: it catches
def mW_led : MD := (⟨"LastLatchLaw", "led", "(LLastLatch;I[J)I"⟩, method_3_code, 4, some Jvm.ClassFile.FieldType.int)
theorem dW_led_0 : decode mW_led.2.1 0 = .ok (.aload_n 2, 1) := by decide +kernel
theorem dW_led_1 : decode mW_led.2.1 1 = .ok (.iconst 0, 1) := by decide +kernel
theorem dW_led_2 : decode mW_led.2.1 2 = .ok (.aload_n 0, 1) := by decide +kernel
theorem dW_led_3 : decode mW_led.2.1 3 = .ok (.iload_n 1, 1) := by decide +kernel
theorem dW_led_4 : decode mW_led.2.1 4 = .ok (.invokevirtual 7, 3) := by decide +kernel
theorem dW_led_7 : decode mW_led.2.1 7 = .ok (.i2l, 1) := by decide +kernel
theorem dW_led_8 : decode mW_led.2.1 8 = .ok (.lastore, 1) := by decide +kernel
theorem dW_led_9 : decode mW_led.2.1 9 = .ok (.goto 6, 3) := by decide +kernel
theorem dW_led_12 : decode mW_led.2.1 12 = .ok (.astore_n 3, 1) := by decide +kernel
theorem dW_led_13 : decode mW_led.2.1 13 = .ok (.iconst 1, 1) := by decide +kernel
theorem dW_led_14 : decode mW_led.2.1 14 = .ok (.ireturn, 1) := by decide +kernel
theorem dW_led_15 : decode mW_led.2.1 15 = .ok (.iconst 0, 1) := by decide +kernel
theorem dW_led_16 : decode mW_led.2.1 16 = .ok (.ireturn, 1) := by decide +kernel
def hhL : List (Nat × Nat × Nat × Nat) := [(0, 9, 12, 13)]
def wsH (Y : MD) (hh : List (Nat × Nat × Nat × Nat)) : List Cond := Cond.codeWith Y.1 Y.2.1 Y.2.2.1 Y.2.2.2 hh :: TBL
def WpH (G : GE) (h : Nat) (Y : MD) (hh : List (Nat × Nat × Nat × Nat)) (args : List AV) (μ : Mem) (mc ms : Nat) (K : Option AV → Mem → Prop) : Prop :=
  ∀ (ad : Nat → Nat) (sz : Nat), okM μ → (∀ v ∈ args, okV μ v) → (∀ k, k < 39 → ad (BG + k) = gX G k) →
    Met (gl G) Y.1 (wsH Y hh) (rmN h mc ms) (pW G ad args μ sz) (qW G ad μ sz K) mc ms (va_A (wrl G ad μ) sz)
theorem wh_intro {G : GE} {h : Nat} {Y : MD} {hh : List (Nat × Nat × Nat × Nat)} {args : List AV} {μ : Mem} {mc ms : Nat} {K : Option AV → Mem → Prop} (hy : plainName Y.1.cls = true) (ls : List (Option AV)) (hls : initL args = ls.take (initL args).length) (hln : ls.drop (initL args).length = List.replicate (Y.2.2.1 - (initL args).length) none) (hl0 : (initL args).length ≤ Y.2.2.1)
    (body : ∀ X : CT, cG X = G → Fx X Y → Rx X h mc ms K → (cC X).exceptionTable.toList = tableOf hh → AW X 0 ls [] μ 0 0) : WpH G h Y hh args μ mc ms K := by
  intro ad sz hM hargs hex
  refine va_MetW (cc := Y.2.1) (maxL := Y.2.2.1) (ret := Y.2.2.2) (hh := hh) hy rfl ?_
  intro p e s m args' below meth c s₁ B hml hv
  obtain ⟨rfl, hsz, hP, hD0, hK⟩ := hv
  subst hsz
  have hts := atoms_spec (ws := wsH Y hh) B.pre
  have htb := vx_table (x := Y.1) B (hts _ List.mem_cons_self)
  have hown : s.vm.findClass Y.1.cls = some m.cls := findClass_of_methodNamed B.named
  let X : CT := (G, p, e, rmN h mc ms, s, m, (args.map (trv ad)).toArray, below, meth, c, va_A (wrl G ad μ) s.heap.size, MQ below (qW G ad μ s.heap.size K) (args.map (trv ad)).toArray s mc ms (va_A (wrl G ad μ) s.heap.size), Y.2.2.1, ad, mX μ)
  have hF : Fx X Y := ⟨B.exec, B.bytes, hml, hown, fun w hw => hts w (List.mem_cons_of_mem _ hw), hK, fun q hq => Or.inr hq, B.notSynchronized, (name_of_methodNamed B.named B.method).1, hex, B.returns⟩
  have hR : Rx X h mc ms K := ⟨μ, s.heap.size, rfl, rfl, rfl, rfl⟩
  have := body X rfl hF hR htb ad s.heap [] ((lg_sl (args.map (trv ad)) ++ List.replicate (Y.2.2.1 - (lg_sl (args.map (trv ad))).length) Slot.unset).toArray)
  rw [lg_entry_eq]
  refine this ⟨hM, fun v hv => ?_, fun v hv => (by cases hv), ⟨Nat.le_refl _, fun q _ => rfl⟩, hP, hD0.self, va_S.rf, ?_⟩
  · have h1 : some v ∈ initL args := by
      rw [← List.take_append_drop (initL args).length ls, hln, ← hls] at hv
      rcases List.mem_append.mp hv with h | h
      · exact h
      · have := List.eq_of_mem_replicate h; cases this
    obtain ⟨a, ha, hb⟩ := List.mem_flatMap.mp h1
    have : a = v := by rcases a with z | z | n <;> simp at hb <;> exact hb.symm
    exact this ▸ hargs a ha
  · have hn : (lg_sl (args.map (trv ad))).length ≤ Y.2.2.1 := by rw [initL_len]; exact hl0
    obtain ⟨e1, e2, e3⟩ := lv_entry (args.map (trv ad)) hn
    refine ⟨e1, e2, by rw [← List.take_append_drop (initL args).length ls, hln, ← hls, List.length_append, List.length_replicate]; show _ = Y.2.2.1; omega, fun i v hv => ?_⟩
    have hlt : i < (initL args).length := by
      refine Nat.lt_of_not_le fun hge => ?_
      have : (ls.drop (initL args).length)[i - (initL args).length]? = some (some v) := by rw [List.getElem?_drop, show (initL args).length + (i - (initL args).length) = i by omega]; exact hv
      rw [hln] at this
      have := List.eq_of_mem_replicate (List.mem_of_getElem? this); cases this
    have h1 : (initL args)[i]? = some (some v) := by rw [hls, List.getElem?_take, if_pos hlt]; exact hv
    have := e3 _ (initL_args ad args 0 i v h1)
    simpa using this
section CallX
variable {X : CT} {Y : MD} {pc q : Nat} {ls : List (Option AV)} {st : List AV} {μ : Mem} {k n : Nat}
/-- a caught one goes into a local that nobody reads -/
theorem lsR_store0 {nL i : Nat} {ad : Nat → Nat} {lsl' : Array Slot} {w : Value} (hl0 : ls.length = nL) (hn : nlg ls i) (h : lv_has lsl' nL ((i, w) :: (lvOf ad ls).filter (fun q => !(q.1 == i) && !(q.1 + 1 == i && q.2.category == 2)))) : lsR nL ad (ls.set i none) lsl' := by
  refine ⟨h.1, h.2.1, by rw [List.length_set]; exact hl0, fun j w hj => ?_⟩
  by_cases hji : j = i
  · subst hji
    have hl : j < (ls.set j none).length := (List.getElem?_eq_some_iff.mp hj).1
    rw [List.length_set] at hl
    rw [List.getElem?_set_self hl] at hj
    cases hj
  · rw [List.getElem?_set_ne (Ne.symm hji)] at hj
    refine h.2.2 (j, trv ad w) (List.mem_cons_of_mem _ (List.mem_filter.mpr ⟨lvOf_mem hj, ?_⟩))
    simp only [Bool.and_eq_true, Bool.not_eq_true', beq_eq_false_iff_ne, ne_eq, Bool.and_eq_false_imp, beq_iff_eq]
    refine ⟨hji, fun e => ?_⟩
    intro hc
    obtain ⟨z, rfl⟩ := (trv_cat2 ad w).mp hc
    exact hn j z e hj
theorem aw_caught (F : Fx X Y) {f : Fin 4} (hd : decode Y.2.1 pc = .ok (.astore_n f, 1)) (hn : nlg ls f) (hi : (f : Nat) < ls.length) (kk : AW X (pc + 1) (ls.set f none) [] μ k n) {ad : Nat → Nat} {H : Heap} {locs : List Loc} {lsl : Array Slot} (R : RP X ls [] μ ad H locs lsl) (a : Addr) : W (cPr X) (gl (cG X)) (cE X) (cR X) (cS X) (cM X) (cAr X) (cBe X) (cMe X) (cC X) H locs k n (cQ X) (F0 (cM X) pc lsl [.ref a]) := by
  have hh := lvOf_has R.2.2.2.2.2.2.2
  have hL : (f : Nat) < cN X := R.nL ad ▸ hi
  refine lv_astore_n F.1 F.2.1 hd rfl hh hL rfl (fun ls' h => ?_)
  have hls := lsR_store0 (R.nL ad) hn h
  obtain ⟨h1, h2, h3, h4, h5, h6, h7, h8⟩ := R
  exact kk ad H locs ls' ⟨h1, fun w hw => h2 w (by
    rcases List.mem_or_eq_of_mem_set hw with z | z
    · exact z
    · cases z), h3, h4, h5, h6, h7, hls⟩
/-- the way on behind a call that returns or throws -/
theorem call_finX (F : Fx X Y) {ad : Nat → Nat} {H : Heap} {locs : List Loc} {lsl : Array Slot} {st0 : List Value} {mc ms : Nat} {a : Array Value} {free : Addr → Prop} {ls0 : List AV} {KX : Mem → Prop} (R : RP X ls ls0 μ ad H locs lsl) (hst : ∀ v ∈ st, okV μ v) (hf : ∀ i, free i → cA X i)
    (hX : ∀ (μ' : Mem) (ad' : Nat → Nat) (H' : Heap) (locs' : List Loc), KX μ' → RP X ls [] μ' ad' H' locs' lsl → ∀ (q : Addr) (ce : Cell), H'[q]? = some ce → ce.vm = .none → (cS X).vm.findClass "java/util/NoSuchElementException" = some ce.cls → vx_W (cPr X) (gl (cG X)) (cE X) (cR X) (cS X) (cM X) (cAr X) (cBe X) (cMe X) (cC X) H' locs' (k + mc) (n + ms) (cQ X) (F0 (cM X) pc lsl (st.map (trv ad))) q)
    (hr : vx_Run (cPr X) (gl (cG X)) (cE X) (cR X) (cS X) (cM X) (cAr X) (cBe X) (cMe X) (cC X) H locs k n mc ms (F0 (cM X) pc lsl st0) (st.map (trv ad)) (qW (cG X) ad μ H.size (rK X (pc + 3) ls st (k + mc) (n + ms)) a) (xW (cG X) ad μ H.size KX) free) :
    W (cPr X) (gl (cG X)) (cE X) (cR X) (cS X) (cM X) (cAr X) (cBe X) (cMe X) (cC X) H locs k n (cQ X) (F0 (cM X) pc lsl st0) := by
  intro T hT XS
  have hsub := R.sub F
  obtain ⟨h1, h2, h3, h4, h5, h6, h7, h8, h9, h10, h11⟩ := R
  rcases hr T hT XS with ⟨v, st₀, t, T', L, h0, XS', hL, e1, e2, ⟨⟨r, μ', ad', hv, hK, hM', hr', hx', had', hP', hD'⟩, hz, hk⟩, stp⟩ | ⟨qx, st₀, t, T', L, E, ce, h0, XS', hL, e1, e2, ⟨rfl, ⟨μ', ad', hK, hM', hx', had', hP', hD'⟩, hz, hk⟩, hce, hcv, hcl, stp⟩
  · rw [h0] at hz hk
    have hv : v = r.map (trv ad') := by injection hv
    have RP' : ∀ st', (∀ v ∈ st', okV μ' v) → RP X ls st' μ' ad' T'.heap (locs ++ L) lsl := by
      intro st' hst'
      refine ⟨hM', fun v hv => okV_mono hx' (h2 v hv), hst', ⟨Nat.le_trans h4.1 hx', fun i hi => ?_⟩, by rw [e1]; exact hP', hD'.weaken (fun j i _ h => hsub _ h), ⟨Nat.le_trans h7.1 (by rw [e1]; exact hz), fun i hi1 hi2 => ?_, fun i hi => ?_⟩, h8, h9, h10, fun i v hv => ?_⟩
      · rw [had' i (by rcases hi with hi | hi; exact Or.inl (Nat.lt_of_lt_of_le hi h4.1); exact Or.inr hi)]
        exact h4.2 i hi
      · rw [e1, hk i (Nat.lt_of_lt_of_le hi1 h7.1) (fun z => hi2 (hsub i z))]
        exact h7.2.1 i hi1 hi2
      · rcases List.mem_append.mp hi with hi | hi
        · exact h7.2.2 i hi
        · exact hf _ (hL i hi)
      · rw [trv_ext had' (h2 v (List.mem_of_getElem? hv))]
        exact h11 i v hv
    have est : st.map (trv ad') = st.map (trv ad) := List.map_congr_left fun v hv => trv_ext had' (hst v hv)
    cases r with
    | none =>
      have hA : AW X (pc + 3) ls st μ' (k + mc) (n + ms) := hK
      have := hA ad' T'.heap (locs ++ L) lsl (RP' st (fun v hv => okV_mono hx' (hst v hv)))
      rw [est] at this
      obtain ⟨t2, a1, b1⟩ := this T' rfl XS'
      subst hv
      exact ⟨t2, stp t2 a1, b1⟩
    | some w =>
      have hA : AW X (pc + 3) ls (w :: st) μ' (k + mc) (n + ms) := hK
      have := hA ad' T'.heap (locs ++ L) lsl (RP' (w :: st) (fun v hv => by
        rcases List.mem_cons.mp hv with rfl | hv
        · exact hr' _ rfl
        · exact okV_mono hx' (hst v hv)))
      rw [List.map_cons, est] at this
      obtain ⟨t2, a1, b1⟩ := this T' rfl XS'
      subst hv
      exact ⟨t2, stp t2 a1, b1⟩
  · rw [h0] at hz hk
    have RP' : RP X ls [] μ' ad' T'.heap (locs ++ L) lsl := by
      refine ⟨hM', fun v hv => okV_mono hx' (h2 v hv), fun v hv => (by cases hv), ⟨Nat.le_trans h4.1 hx', fun i hi => ?_⟩, by rw [e1]; exact hP', hD'.weaken (fun j i _ h => hsub _ h), ⟨Nat.le_trans h7.1 (by rw [e1]; exact hz), fun i hi1 hi2 => ?_, fun i hi => ?_⟩, h8, h9, h10, fun i v hv => ?_⟩
      · rw [had' i (by rcases hi with hi | hi; exact Or.inl (Nat.lt_of_lt_of_le hi h4.1); exact Or.inr hi)]
        exact h4.2 i hi
      · rw [e1, hk i (Nat.lt_of_lt_of_le hi1 h7.1) (fun z => hi2 (hsub i z))]
        exact h7.2.1 i hi1 hi2
      · rcases List.mem_append.mp hi with hi | hi
        · exact h7.2.2 i hi
        · exact hf _ (hL i hi)
      · rw [trv_ext had' (h2 v (List.mem_of_getElem? hv))]
        exact h11 i v hv
    obtain ⟨t2, a1, b1⟩ := hX μ' ad' T'.heap (locs ++ L) hK RP' qx ce (by rw [e1]; exact hce) hcv hcl T' rfl XS'
    exact ⟨t2, stp.trans a1, b1⟩
theorem aw_callX (F : Fx X Y) {h MC MS : Nat} (hm : Rm X h MC MS) {Z : MD} (hi : MIV Z) {idx ci hz mc ms b : Nat} {As : List AV} {qc : vw_C} {KX : Mem → Prop} (hn : nP Z As.length) (hl : Cond.methodLink Y.1.cls idx Z.1 ∈ TBL) (hd : decode Y.2.1 pc = .ok (.invokevirtual idx, 3)) (hp : pc + 3 = q) (hcl : vwCl[ci]? = some qc) (hcn : qc.1 = Z.1.cls) (hb : isO μ b ci) (hh : hz + 1 ≤ h) (hk : k + mc ≤ MC) (hs : n + ms ≤ MS) (hcat : (st.map avc).sum ≤ 8) (w : Wx (cG X) hz Z (vR b :: As) μ mc ms (rK X q ls st (k + mc) (n + ms)) KX)
    (hX : ∀ (rest : List Value) (lsl : Array Slot) (μ' : Mem) (ad' : Nat → Nat) (H' : Heap) (locs' : List Loc), KX μ' → RP X ls [] μ' ad' H' locs' lsl → ∀ (q : Addr) (ce : Cell), H'[q]? = some ce → ce.vm = .none → (cS X).vm.findClass "java/util/NoSuchElementException" = some ce.cls → vx_W (cPr X) (gl (cG X)) (cE X) (cR X) (cS X) (cM X) (cAr X) (cBe X) (cMe X) (cC X) H' locs' (k + mc) (n + ms) (cQ X) (F0 (cM X) pc lsl rest) q) : AW X pc ls (As.reverse ++ vR b :: st) μ k n := by
  intro ad H locs lsl R
  subst hp
  have c10 := (cls_ok hcl).1
  have hargs : ∀ v ∈ vR b :: As, okV μ v := fun v hv => R.2.2.1 v (by
    rcases List.mem_cons.mp hv with rfl | hv
    · exact List.mem_append_right _ List.mem_cons_self
    · exact List.mem_append_left _ (List.mem_reverse.mpr hv))
  have hst : ∀ v ∈ st, okV μ v := fun v hv => R.2.2.1 v (List.mem_append_right _ (List.mem_cons_of_mem _ hv))
  have M := w ad H.size R.1 hargs (R.ex F)
  have e0 : ((vR b :: As).map (trv ad)) = .ref (ad b) :: As.map (trv ad) := by rw [List.map_cons, refA hb.2.1]
  have hpre : PreV (cS X) H qc.1 (ad b) (pW (cG X) ad (vR b :: As) μ H.size) (As.map (trv ad)) := by
    refine ⟨pW_blind _ _ _ _ _, ?_, fun U hU hW => ?_⟩
    · have he := wrl_get (G := cG X) (ad := ad) hb.2.1 hb.2.2
      rw [cel_obj hb.1 c10] at he
      exact va_recv F.2.2.2.2.2.1.1 R.2.2.2.2.1 hcl he
    · have := R.pre F (vR b :: As) U hU hW
      rw [e0] at this
      exact this
  have hfr : (rmN hz mc ms).frames + 1 ≤ (cR X).frames := by show hz + 1 + 1 ≤ _; have := hm.1; omega
  have hlo : 8 + (Z.2.2.1 + 11) + (rmN hz mc ms).locals ≤ (cR X).locals := by
    show 8 + (Z.2.2.1 + 11) + 100 * (hz + 1) ≤ _
    have := hm.2.1
    have := hi.1.2.2.2.2
    omega
  have hts := F.2.2.2.2.1
  have hws : ∀ w ∈ wsM Z, ∀ (a' : Array Value) (U : State), (cS X).WarmedH U.vm → w.before a' U = true := pay_in hts (wsM_good hi.1)
  have hf : k + mc ≤ (cR X).cells ∧ n + ms ≤ (cR X).slots := ⟨Nat.le_trans hk hm.2.2.1, Nat.le_trans hs hm.2.2.2⟩
  have hsz : (F0 (cM X) pc lsl ((As.reverse ++ vR b :: st).map (trv ad))).locals.size = cN X := R.2.2.2.2.2.2.2.1
  have hstk : (F0 (cM X) pc lsl ((As.reverse ++ vR b :: st).map (trv ad))).stack = (As.map (trv ad)).reverse ++ .ref (ad b) :: st.map (trv ad) := by
    show (As.reverse ++ vR b :: st).map (trv ad) = _
    rw [List.map_append, List.map_reverse, List.map_cons, refA hb.2.1]
  have hW0 : 2 * (F0 (cM X) pc lsl ((As.reverse ++ vR b :: st).map (trv ad))).monitorRoom + ((st.map (trv ad)).map fun v => v.category).sum ≤ 8 := by
    rw [avc_sum]
    exact Nat.le_trans (Nat.le_of_eq (Nat.zero_add _)) hcat
  have hlen : (As.map (trv ad)).length = As.length := by simp
  have cw : CallW (cR X) (cS X) (cAr X) Y.1.cls qc.1 idx Z.1 Z.2.1 Z.2.2.1 Z.2.2.2 (wsM Z) (rmN hz mc ms) mc ms As.length := ⟨⟨rfl, rfl, hfr, hlo, hws, List.mem_cons_self, hts _ hi.1.1, hts _ hi.1.2.1, hi.1.2.2.2.1, hn.use, hts _ hl⟩, hts _ hi.2.1, by rw [hcn]; exact hts _ hi.2.2⟩
  exact call_finX F R hst (R.sub F) (fun μ' ad' H' locs' hk R' => hX _ lsl μ' ad' H' locs' hk R') (vx_runV (As := As.map (trv ad)) (b := ad b) ⟨F.1, F.2.1, F.2.2.1, F.2.2.2.1, hts⟩ M cw hpre rfl hlen hsz hstk hW0 hd hf)
/-- a static call of a method that catches -/
theorem aw_callSH (F : Fx X Y) {h MC MS : Nat} (hm : Rm X h MC MS) {Z : MD} {hh0 : List (Nat × Nat × Nat × Nat)} (hcw : Cond.codeWith Z.1 Z.2.1 Z.2.2.1 Z.2.2.2 hh0 ∈ TBL) (hini : Cond.initialized Z.1.cls ∈ TBL) (hnm : Z.1.cls ≠ "java/lang/invoke/MethodHandle" ∧ Z.1.cls ≠ "java/lang/invoke/VarHandle") (h60 : Z.2.2.1 ≤ 60) (hst0 : Cond.static Z.1 ∈ TBL) {idx hz mc ms : Nat} {As : List AV} (hn : nP Z As.length) (hl : Cond.methodLink Y.1.cls idx Z.1 ∈ TBL) (hd : decode Y.2.1 pc = .ok (.invokestatic idx, 3)) (hp : pc + 3 = q) (hh : hz + 1 ≤ h) (hk : k + mc ≤ MC) (hs : n + ms ≤ MS) (hcat : (st.map avc).sum ≤ 8) (w : WpH (cG X) hz Z hh0 As μ mc ms (rK X q ls st (k + mc) (n + ms))) : AW X pc ls (As.reverse ++ st) μ k n := by
  intro ad H locs lsl R
  subst hp
  have hargs : ∀ v ∈ As, okV μ v := fun v hv => R.2.2.1 v (List.mem_append_left _ (List.mem_reverse.mpr hv))
  have hst : ∀ v ∈ st, okV μ v := fun v hv => R.2.2.1 v (List.mem_append_right _ hv)
  have M := w ad H.size R.1 hargs (R.ex F)
  have hpre : PreS (cS X) H (pW (cG X) ad As μ H.size) (As.map (trv ad)) := ⟨pW_blind _ _ _ _ _, fun U hU hW => R.pre F As U hU hW⟩
  have hfr : (rmN hz mc ms).frames + 1 ≤ (cR X).frames := by show hz + 1 + 1 ≤ _; have := hm.1; omega
  have hlo : 8 + (Z.2.2.1 + 11) + (rmN hz mc ms).locals ≤ (cR X).locals := by
    show 8 + (Z.2.2.1 + 11) + 100 * (hz + 1) ≤ _
    have := hm.2.1
    omega
  have hts := F.2.2.2.2.1
  have hgd : ∀ w ∈ wsH Z hh0, w ∈ TBL ∧ ((w.onTables && w.keeps) = true ∨ ∃ ty, w = .arrayClass ty) := by
    intro w hw
    have hm : w ∈ TBL := by
      rcases List.mem_cons.mp hw with rfl | hw
      · exact hcw
      · exact hw
    exact ⟨hm, good_of_word (List.mem_filter.mp hm).2⟩
  have hws : ∀ w ∈ wsH Z hh0, ∀ (a' : Array Value) (U : State), (cS X).WarmedH U.vm → w.before a' U = true := pay_in hts hgd
  have hf : k + mc ≤ (cR X).cells ∧ n + ms ≤ (cR X).slots := ⟨Nat.le_trans hk hm.2.2.1, Nat.le_trans hs hm.2.2.2⟩
  have hsz : (F0 (cM X) pc lsl ((As.reverse ++ st).map (trv ad))).locals.size = cN X := R.2.2.2.2.2.2.2.1
  have hstk : (F0 (cM X) pc lsl ((As.reverse ++ st).map (trv ad))).stack = (As.map (trv ad)).reverse ++ st.map (trv ad) := by
    show (As.reverse ++ st).map (trv ad) = _
    rw [List.map_append, List.map_reverse]
  have hW0 : 2 * (F0 (cM X) pc lsl ((As.reverse ++ st).map (trv ad))).monitorRoom + ((st.map (trv ad)).map fun v => v.category).sum ≤ 8 := by
    rw [avc_sum]
    exact Nat.le_trans (Nat.le_of_eq (Nat.zero_add _)) hcat
  have hlen : (As.map (trv ad)).length = As.length := by simp
  have cw : vx_CSW (cR X) (cS X) (cAr X) Y.1.cls idx Z.1 Z.2.1 Z.2.2.1 Z.2.2.2 hh0 (wsH Z hh0) (rmN hz mc ms) mc ms As.length := ⟨⟨rfl, rfl, hfr, hlo, hws, List.mem_cons_self⟩, hts _ hcw, hts _ hini, hnm, hn.use, hts _ hl, hts _ hst0⟩
  exact call_fin F R hst (R.sub F) (vx_runSW (As := As.map (trv ad)) ⟨F.1, F.2.1, F.2.2.1, F.2.2.2.1, hts⟩ M cw hpre rfl hlen hsz hstk hW0 hd hf)
end CallX
theorem mlW_7 : Cond.methodLink "LastLatchLaw" 7 ⟨"LastLatch", "led", "(I)I"⟩ ∈ TBL := tb5 204 (by decide +kernel) rfl
theorem mlW_200 : Cond.methodLink "LastLatchLaw" 200 ⟨"LastLatchLaw", "led", "(LLastLatch;I[J)I"⟩ ∈ TBL := tb5 200 (by decide +kernel) rfl
theorem wW_cw : Cond.codeWith mW_led.1 mW_led.2.1 mW_led.2.2.1 mW_led.2.2.2 hhL ∈ TBL := tb5 202 (by decide +kernel) rfl
theorem wW_st : Cond.static mW_led.1 ∈ TBL := tb5 201 (by decide +kernel) rfl
theorem wW_in : Cond.initialized mW_led.1.cls ∈ TBL := tb1 0 (by decide +kernel) rfl
theorem mW_led_n : nP mW_led 3 := by unfold nP; decide +kernel
section Led2
variable {G : GE} {V : Nat → Nat → Int} {σ : Shp} {K : Option AV → Mem → Prop} {ow : Nat → Nat} {y : Dy} {S : PS} {kn : Bool}
theorem wW_led {i : Int} (hl : (gl G).stackTraces = false) (h : CW V σ ow y S kn) (ha : sA σ 64 12 1) (h1 : ∀ s, s < stN (psC S) → mayN (psC S) (psA S) (allP (psC S)) s = true → i = cntB (mayN (psC S) (psA S) (allP (psC S))) s → K (some (vI 0)) (up2 V 64 0 (s : Nat), σ)) (h0 : (∀ s, s < stN (psC S) → mayN (psC S) (psA S) (allP (psC S)) s = true → i ≠ cntB (mayN (psC S) (psA S) (allP (psC S))) s) → K (some (vI 1)) (V, σ)) : WpH G 6 mW_led hhL [vR 1, vI i, vR 64] (V, σ) 1 6 K := by
  have hW := h.cs
  refine wh_intro (by decide +kernel) [some (vR 1), some (vI i), some (vR 64), none] rfl rfl (Nat.le_of_ble_eq_true rfl) ?_
  intro X hG F C htb
  have hm := C.rm
  have hlX : (gl (cG X)).stackTraces = false := by rw [hG]; exact hl
  have hts := F.2.2.2.2.1
  have cau : ∀ (k n : Nat), k ≤ 1 → n ≤ 6 → (∀ s, s < stN (psC S) → mayN (psC S) (psA S) (allP (psC S)) s = true → i ≠ cntB (mayN (psC S) (psA S) (allP (psC S))) s) → AW X 13 [some (vR 1), some (vI i), some (vR 64), none] [] (V, σ) k n := by
    intro k n hk hn hno
    refine aw_iconst (q := 14) F dW_led_13 rfl (by decide) ?_
    refine aw_iret F C dW_led_14 rfl hk hn ?_
    exact h0 hno
  have hX : ∀ (rest : List Value) (lsl : Array Slot) (μ' : Mem) (ad' : Nat → Nat) (H' : Heap) (locs' : List Loc), (μ' = (V, σ) ∧ ∀ s, s < stN (psC S) → mayN (psC S) (psA S) (allP (psC S)) s = true → i ≠ cntB (mayN (psC S) (psA S) (allP (psC S))) s) → RP X [some (vR 1), some (vI i), some (vR 64), none] [] μ' ad' H' locs' lsl → ∀ (q : Addr) (ce : Cell), H'[q]? = some ce → ce.vm = .none → (cS X).vm.findClass "java/util/NoSuchElementException" = some ce.cls → vx_W (cPr X) (gl (cG X)) (cE X) (cR X) (cS X) (cM X) (cAr X) (cBe X) (cMe X) (cC X) H' locs' (0 + 1) (0 + 6) (cQ X) (F0 (cM X) 4 lsl rest) q := by
    intro rest lsl μ' ad' H' locs' hk R' q ce e1 e2 e3
    obtain ⟨rfl, hno⟩ := hk
    refine vx_catch (own := "LastLatchLaw") (name := "java/util/NoSuchElementException") (E := "java/util/NoSuchElementException") (ce := ce) F.2.2.2.1 [] ⟨0, 9, 12, 13⟩ [] htb (fun z hz => by cases hz) (by decide) (by decide) (hts _ cW_13) (cast_of (hts _ ns_ins)) e1 e2 e3 ?_
    refine aw_caught (f := 3) F dW_led_12 (nlg_3 (a0 := some (vR 1)) (a1 := some (vI i)) (a2 := some (vR 64)) (a3 := none) (t := []) trivial) (by show 3 < 4; decide) ?_ R' q
    exact cau _ _ (by decide) (by decide) hno
  refine aw_aload_2 (q := 1) F dW_led_0 rfl ?_
  refine aw_iconst (q := 2) F dW_led_1 rfl (by decide) ?_
  refine aw_aload_0 (q := 3) F dW_led_2 rfl ?_
  refine aw_iload_1 (q := 4) F dW_led_3 rfl ?_
  refine aw_callX (ci := 7) (As := [vI i]) (st := [vI 0, vR 64]) (KX := fun μ' => μ' = (V, σ) ∧ ∀ s, s < stN (psC S) → mayN (psC S) (psA S) (allP (psC S)) s = true → i ≠ cntB (mayN (psC S) (psA S) (allP (psC S))) s) (q := 7) F hm mL_led_i mL_led_n mlW_7 dW_led_4 rfl rfl rfl hW.o (by decide) (by decide) (by decide) (Nat.le_of_ble_eq_true rfl) (wL_led hlX h (fun s sa sb se => ?_) (fun z => ⟨rfl, z⟩)) hX
  refine aw_i2l (q := 8) F dW_led_7 rfl ?_
  refine av_lastore (q := 9) F dW_led_8 rfl (by first | exact hW.o | exact ha) (by omega) (by omega) ?_
  refine aw_goto (t := 15) F dW_led_9 (by decide) ?_
  refine aw_iconst (q := 16) F dW_led_15 rfl (by decide) ?_
  refine aw_iret F C dW_led_16 rfl (by decide) (by decide) ?_
  exact h1 s sa sb se
end Led2
theorem dW_law_1558 : decode code 1558 = .ok (.aload_n 1, 1) := by decide +kernel
theorem dW_law_1559 : decode code 1559 = .ok (.aload_n 0, 1) := by decide +kernel
theorem dW_law_1560 : decode code 1560 = .ok (.iload 4, 2) := by decide +kernel
theorem dW_law_1562 : decode code 1562 = .ok (.iconst 1, 1) := by decide +kernel
theorem dW_law_1563 : decode code 1563 = .ok (.iadd, 1) := by decide +kernel
theorem dW_law_1564 : decode code 1564 = .ok (.iaload, 1) := by decide +kernel
theorem dW_law_1565 : decode code 1565 = .ok (.aload_n 3, 1) := by decide +kernel
theorem dW_law_1566 : decode code 1566 = .ok (.invokestatic 200, 3) := by decide +kernel
theorem dW_law_1569 : decode code 1569 = .ok (.istore 5, 2) := by decide +kernel
theorem dW_law_1571 : decode code 1571 = .ok (.aload_n 2, 1) := by decide +kernel
theorem dW_law_1572 : decode code 1572 = .ok (.aload_n 0, 1) := by decide +kernel
theorem dW_law_1573 : decode code 1573 = .ok (.iload 4, 2) := by decide +kernel
theorem dW_law_1575 : decode code 1575 = .ok (.iconst 1, 1) := by decide +kernel
theorem dW_law_1576 : decode code 1576 = .ok (.iadd, 1) := by decide +kernel
theorem dW_law_1577 : decode code 1577 = .ok (.iaload, 1) := by decide +kernel
theorem dW_law_1578 : decode code 1578 = .ok (.invokevirtual 205, 3) := by decide +kernel
theorem dW_law_1581 : decode code 1581 = .ok (.istore 6, 2) := by decide +kernel
theorem dW_law_1583 : decode code 1583 = .ok (.aload_n 2, 1) := by decide +kernel
theorem dW_law_1584 : decode code 1584 = .ok (.invokevirtual 206, 3) := by decide +kernel
theorem dW_law_1587 : decode code 1587 = .ok (.iload 5, 2) := by decide +kernel
theorem dW_law_1589 : decode code 1589 = .ok (.if_icmp .eq 5, 3) := by decide +kernel
theorem dW_law_1592 : decode code 1592 = .ok (.iconst 0, 1) := by decide +kernel
theorem dW_law_1593 : decode code 1593 = .ok (.ireturn, 1) := by decide +kernel
theorem dW_law_1594 : decode code 1594 = .ok (.iload 5, 2) := by decide +kernel
theorem dW_law_1596 : decode code 1596 = .ok (.ifCond .ne 15, 3) := by decide +kernel
theorem dW_law_1599 : decode code 1599 = .ok (.aload_n 3, 1) := by decide +kernel
theorem dW_law_1600 : decode code 1600 = .ok (.iconst 0, 1) := by decide +kernel
theorem dW_law_1601 : decode code 1601 = .ok (.laload, 1) := by decide +kernel
theorem dW_law_1602 : decode code 1602 = .ok (.iload 6, 2) := by decide +kernel
theorem dW_law_1604 : decode code 1604 = .ok (.i2l, 1) := by decide +kernel
theorem dW_law_1605 : decode code 1605 = .ok (.lcmp, 1) := by decide +kernel
theorem dW_law_1606 : decode code 1606 = .ok (.ifCond .eq 5, 3) := by decide +kernel
theorem dW_law_1609 : decode code 1609 = .ok (.iconst 0, 1) := by decide +kernel
theorem dW_law_1610 : decode code 1610 = .ok (.ireturn, 1) := by decide +kernel
theorem dW_law_1611 : decode code 1611 = .ok (.goto 41, 3) := by decide +kernel
section CaseL
variable {X : CT} {b L : Nat} {xs : Nat → Int32} {V : Nat → Nat → Int} {σ : Shp} {ow : Nat → Nat} {y : Dy} {l : Nat} {S : PS} {kn : Bool} {k n c : Nat} {i : Int}
theorem ca_led {nm : String} (hl : (gl (cG X)).stackTraces = false) (hX : CX X nm b L xs) (hP : PX V σ ow y l S kn k n c i L) (nx : NX X i c) : AW X 1558 [some (vR (BG + 39)), some (vR 1), some (vR 53), some (vR 64), some (vI i), none, none] [] (V, σ) k n := by
  obtain ⟨F, hm, HS, hA, hL⟩ := hX
  obtain ⟨h, hk, hn, hc, h0, hi⟩ := hP
  have hBG : BG = 1000000000 := rfl
  have hcr : crd kn ≤ 95000 := crd_le kn
  have h1 := h.o1
  have a64 := h.2.2.2
  have go : ∀ (V1 : Nat → Nat → Int) (s : Nat), LW V1 σ ow y l S kn → V1 64 0 = (s : Nat) → s < stN (psC S) → mayN (psC S) (psA S) (allP (psC S)) s = true → sv xs (i + 1) = cntB (mayN (psC S) (psA S) (allP (psC S))) s → AW X 1571 [some (vR (BG + 39)), some (vR 1), some (vR 53), some (vR 64), some (vI i), some (vI 0), none] [] (V1, σ) (k + 1) (n + 6) := by
    intro V1 s hw hv hs hm1 he
    have hM := hw.mw
    refine aw_aload_2 (q := 1572) F dW_law_1571 rfl ?_
    refine aw_aload_0 (q := 1573) F dW_law_1572 rfl ?_
    refine aw_iload_4 (q := 1575) F dW_law_1573 rfl ?_
    refine aw_iconst (q := 1576) F dW_law_1575 rfl (by decide) ?_
    refine aw_iadd (q := 1577) F dW_law_1576 rfl (by constructor <;> omega) ?_
    refine aw_sld (q := 1578) F HS dW_law_1577 rfl (by omega) (by omega) ?_
    refine av_callV1 (q := 1581) (ci := 9) F hm mM_led_i mM_led_n lW_205 dW_law_1578 rfl rfl rfl (by first | exact h1 | exact hM.mo.o | exact a64) (by decide) (by omega) (by omega) (Nat.le_of_ble_eq_true rfl) (wM_led hM (fun v1578 s1578 m1578 r1578 z1578 a1578 b1578 d1578 => ?_) (fun v1578 m1578 r1578 z1578 q1578 => ?_))
    · have hs2 := cntB_inj b1578 hm1 (by omega)
      subst hs2
      have hM := m1578
      have hv2 : v1578 64 0 = (s1578 : Nat) := by rw [r1578 64 (Or.inr (by decide))]; exact hv
      refine aw_istore_6 (q := 1583) F dW_law_1581 rfl trivial ?_
      refine aw_aload_2 (q := 1584) F dW_law_1583 rfl ?_
      refine av_callV0 (q := 1587) (ci := 9) F hm mM_thrown_i mM_thrown_n lW_206 dW_law_1584 rfl rfl rfl (by first | exact h1 | exact hM.mo.o | exact a64) (by decide) (by omega) (by omega) (Nat.le_of_ble_eq_true rfl) (wM_thrown hM ?_)
      rw [z1578]
      refine aw_iload_5 (q := 1589) F dW_law_1587 rfl ?_
      refine aw_icmp_eq (q := 1592) (t := 1594) F dW_law_1589 rfl (by decide) (fun c1589 => ?_) (fun c1589 => by exact absurd rfl c1589)
      refine aw_iload_5 (q := 1596) F dW_law_1594 rfl ?_
      refine aw_if_ne (q := 1599) (t := 1611) F dW_law_1596 rfl (by decide) (fun c1596 => by exact absurd rfl c1596) (fun c1596 => ?_)
      refine aw_aload_3 (q := 1600) F dW_law_1599 rfl ?_
      refine aw_iconst (q := 1601) F dW_law_1600 rfl (by decide) ?_
      refine av_laload (q := 1602) F dW_law_1601 rfl (by first | exact h1 | exact hM.mo.o | exact a64) (by omega) (by omega) ?_
      rw [show v1578 64 (0 : Int).toNat = (s1578 : Nat) from hv2]
      refine aw_iload_6 (q := 1604) F dW_law_1602 rfl ?_
      refine aw_i2l (q := 1605) F dW_law_1604 rfl ?_
      refine aw_lcmp (q := 1606) F dW_law_1605 rfl ?_
      refine aw_if_eq (q := 1609) (t := 1611) F dW_law_1606 rfl (by decide) (fun c1606 => ?_) (fun c1606 => by exact absurd (ycmpE.mpr rfl) c1606)
      refine aw_goto (t := 1652) F dW_law_1611 (by decide) ?_
      refine aw_drop_6 (aw_drop_5 (nx _ _ _ _ _ _ _ _ _ (hw.st hw.cw (FR.rf V1 σ ow) m1578 r1578) (by omega) (by omega)))
    · exact absurd he (q1578 s hs hm1)
      skip
  have go0 : (∀ s, s < stN (psC S) → mayN (psC S) (psA S) (allP (psC S)) s = true → sv xs (i + 1) ≠ cntB (mayN (psC S) (psA S) (allP (psC S))) s) → AW X 1571 [some (vR (BG + 39)), some (vR 1), some (vR 53), some (vR 64), some (vI i), some (vI 1), none] [] (V, σ) (k + 1) (n + 6) := by
    intro hno
    have hM := h.mw
    refine aw_aload_2 (q := 1572) F dW_law_1571 rfl ?_
    refine aw_aload_0 (q := 1573) F dW_law_1572 rfl ?_
    refine aw_iload_4 (q := 1575) F dW_law_1573 rfl ?_
    refine aw_iconst (q := 1576) F dW_law_1575 rfl (by decide) ?_
    refine aw_iadd (q := 1577) F dW_law_1576 rfl (by constructor <;> omega) ?_
    refine aw_sld (q := 1578) F HS dW_law_1577 rfl (by omega) (by omega) ?_
    refine av_callV1 (q := 1581) (ci := 9) F hm mM_led_i mM_led_n lW_205 dW_law_1578 rfl rfl rfl (by first | exact h1 | exact hM.mo.o | exact a64) (by decide) (by omega) (by omega) (Nat.le_of_ble_eq_true rfl) (wM_led hM (fun v1578 s1578 m1578 r1578 z1578 a1578 b1578 d1578 => ?_) (fun v1578 m1578 r1578 z1578 q1578 => ?_))
    · exact absurd d1578 (hno s1578 a1578 b1578)
      skip
    · have hM := m1578
      refine aw_istore_6 (q := 1583) F dW_law_1581 rfl trivial ?_
      refine aw_aload_2 (q := 1584) F dW_law_1583 rfl ?_
      refine av_callV0 (q := 1587) (ci := 9) F hm mM_thrown_i mM_thrown_n lW_206 dW_law_1584 rfl rfl rfl (by first | exact h1 | exact hM.mo.o | exact a64) (by decide) (by omega) (by omega) (Nat.le_of_ble_eq_true rfl) (wM_thrown hM ?_)
      rw [z1578]
      refine aw_iload_5 (q := 1589) F dW_law_1587 rfl ?_
      refine aw_icmp_eq (q := 1592) (t := 1594) F dW_law_1589 rfl (by decide) (fun c1589 => ?_) (fun c1589 => by exact absurd rfl c1589)
      refine aw_iload_5 (q := 1596) F dW_law_1594 rfl ?_
      refine aw_if_ne (q := 1599) (t := 1611) F dW_law_1596 rfl (by decide) (fun c1596 => ?_) (fun c1596 => by exact absurd c1596 (by decide))
      refine aw_goto (t := 1652) F dW_law_1611 (by decide) ?_
      refine aw_drop_6 (aw_drop_5 (nx _ _ _ _ _ _ _ _ _ (h.st h.cw (FR.rf V σ ow) m1578 r1578) (by omega) (by omega)))
  refine aw_aload_1 (q := 1559) F dW_law_1558 rfl ?_
  refine aw_aload_0 (q := 1560) F dW_law_1559 rfl ?_
  refine aw_iload_4 (q := 1562) F dW_law_1560 rfl ?_
  refine aw_iconst (q := 1563) F dW_law_1562 rfl (by decide) ?_
  refine aw_iadd (q := 1564) F dW_law_1563 rfl (by constructor <;> omega) ?_
  refine aw_sld (q := 1565) F HS dW_law_1564 rfl (by omega) (by omega) ?_
  refine aw_aload_3 (q := 1566) F dW_law_1565 rfl ?_
  refine aw_callSH (As := [vR 1, vI (sv xs (i + 1)), vR 64]) (st := []) (q := 1569) F hm wW_cw wW_in ⟨by decide, by decide⟩ (by decide) wW_st mW_led_n mlW_200 dW_law_1566 rfl (by decide) (by omega) (by omega) (Nat.le_of_ble_eq_true rfl) (wW_led hl h.cw a64 (fun s sa sb se => ?_) (fun z => ?_))
  · exact aw_istore_5 (q := 1571) F dW_law_1569 rfl trivial (go _ s h.out (up2_same _ _ _ _) sa sb se)
  · exact aw_istore_5 (q := 1571) F dW_law_1569 rfl trivial (go0 z)
end CaseL
