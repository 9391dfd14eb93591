theorem dL_led_0 : decode mL_led.2.1 0 = .ok (.iload_n 1, 1) := by decide +kernel
theorem dL_led_1 : decode mL_led.2.1 1 = .ok (.istore_n 2, 1) := by decide +kernel
theorem dL_led_2 : decode mL_led.2.1 2 = .ok (.iconst 0, 1) := by decide +kernel
theorem dL_led_3 : decode mL_led.2.1 3 = .ok (.istore_n 3, 1) := by decide +kernel
theorem dL_led_4 : decode mL_led.2.1 4 = .ok (.iload_n 3, 1) := by decide +kernel
theorem dL_led_5 : decode mL_led.2.1 5 = .ok (.aload_n 0, 1) := by decide +kernel
theorem dL_led_6 : decode mL_led.2.1 6 = .ok (.getfield 23, 3) := by decide +kernel
theorem dL_led_9 : decode mL_led.2.1 9 = .ok (.getfield 363, 3) := by decide +kernel
theorem dL_led_12 : decode mL_led.2.1 12 = .ok (.if_icmp .ge 40, 3) := by decide +kernel
theorem dL_led_15 : decode mL_led.2.1 15 = .ok (.iload_n 2, 1) := by decide +kernel
theorem dL_led_16 : decode mL_led.2.1 16 = .ok (.ifCond .lt 36, 3) := by decide +kernel
theorem dL_led_19 : decode mL_led.2.1 19 = .ok (.aload_n 0, 1) := by decide +kernel
theorem dL_led_20 : decode mL_led.2.1 20 = .ok (.getfield 23, 3) := by decide +kernel
theorem dL_led_23 : decode mL_led.2.1 23 = .ok (.iload_n 3, 1) := by decide +kernel
theorem dL_led_24 : decode mL_led.2.1 24 = .ok (.aload_n 0, 1) := by decide +kernel
theorem dL_led_25 : decode mL_led.2.1 25 = .ok (.getfield 23, 3) := by decide +kernel
theorem dL_led_28 : decode mL_led.2.1 28 = .ok (.invokevirtual 160, 3) := by decide +kernel
theorem dL_led_31 : decode mL_led.2.1 31 = .ok (.invokevirtual 164, 3) := by decide +kernel
theorem dL_led_34 : decode mL_led.2.1 34 = .ok (.ifCond .eq 12, 3) := by decide +kernel
theorem dL_led_37 : decode mL_led.2.1 37 = .ok (.iload_n 2, 1) := by decide +kernel
theorem dL_led_38 : decode mL_led.2.1 38 = .ok (.ifCond .ne 5, 3) := by decide +kernel
theorem dL_led_41 : decode mL_led.2.1 41 = .ok (.iload_n 3, 1) := by decide +kernel
theorem dL_led_42 : decode mL_led.2.1 42 = .ok (.ireturn, 1) := by decide +kernel
theorem dL_led_43 : decode mL_led.2.1 43 = .ok (.iinc 2 (-1), 3) := by decide +kernel
theorem dL_led_46 : decode mL_led.2.1 46 = .ok (.iinc 3 1, 3) := by decide +kernel
theorem dL_led_49 : decode mL_led.2.1 49 = .ok (.goto (-45), 3) := by decide +kernel
theorem dL_led_52 : decode mL_led.2.1 52 = .ok (.new 366, 3) := by decide +kernel
theorem dL_led_55 : decode mL_led.2.1 55 = .ok (.dup, 1) := by decide +kernel
theorem dL_led_56 : decode mL_led.2.1 56 = .ok (.invokespecial 368, 3) := by decide +kernel
theorem dL_led_59 : decode mL_led.2.1 59 = .ok (.athrow, 1) := by decide +kernel
-- methods that may throw
def xW (G : GE) (ad : Nat → Nat) (μ : Mem) (sz : Nat) (KX : Mem → Prop) : String → State → State → Prop := fun E st t => E = "java/util/NoSuchElementException" ∧ (∃ (μ' : Mem) (ad' : Nat → Nat), KX μ' ∧ okM μ' ∧ mX μ ≤ mX μ' ∧ (∀ q, (q < mX μ ∨ BG ≤ q) → ad' q = ad q) ∧ va_P (gD G) vwCl (wrl G ad' μ') t.heap ∧ va_D (va_A (wrl G ad μ) sz) (wrl G ad' μ')) ∧ va_F (va_A (wrl G ad μ) sz) st t
def Wx (G : GE) (h : Nat) (Y : MD) (args : List AV) (μ : Mem) (mc ms : Nat) (K : Option AV → Mem → Prop) (KX : Mem → Prop) : Prop :=
  ∀ (ad : Nat → Nat) (sz : Nat), okM μ → (∀ v ∈ args, okV μ v) → (∀ k, k < 39 → ad (BG + k) = gX G k) →
    vx_Met (gl G) Y.1 (wsM Y) (rmN h mc ms) (pW G ad args μ sz) (qW G ad μ sz K) (xW G ad μ sz KX) mc ms (va_A (wrl G ad μ) sz)
def Rxx (X : CT) (h mc ms : Nat) (K : Option AV → Mem → Prop) (KX : Mem → Prop) : Prop := ∃ (μ0 : Mem) (sz : Nat), cR X = rmN h mc ms ∧ cA X = va_A (wrl (cG X) (cAd X) μ0) sz ∧ cX0 X = mX μ0 ∧ cQ X = vx_MQ (cBe X) (qW (cG X) (cAd X) μ0 sz K) (xW (cG X) (cAd X) μ0 sz KX) (cAr X) (cS X) mc ms (cA X)
def qX (X : CT) (Q : State → Prop) : CT := (cG X, cPr X, cE X, cR X, cS X, cM X, cAr X, cBe X, cMe X, cC X, cA X, Q, cN X, cAd X, cX0 X)
theorem Rxx.rm {X : CT} {h mc ms : Nat} {K : Option AV → Mem → Prop} {KX : Mem → Prop} (R : Rxx X h mc ms K KX) : Rm X h mc ms := by
  obtain ⟨μ0, sz, h1, -⟩ := R
  unfold Rm
  rw [h1]
  exact ⟨Nat.le_refl _, Nat.le_refl _, Nat.le_refl _, Nat.le_refl _⟩
/-- where it returns, it returns as any method does -/
theorem aw_q {X : CT} {h mc ms : Nat} {K : Option AV → Mem → Prop} {KX : Mem → Prop} (C : Rxx X h mc ms K KX) : ∃ Q : State → Prop, Rx (qX X Q) h mc ms K ∧ ∀ (pc : Nat) (ls : List (Option AV)) (st : List AV) (μ : Mem) (k n : Nat), AW (qX X Q) pc ls st μ k n → AW X pc ls st μ k n := by
  obtain ⟨μ0, sz, h1, h2, h3, h4⟩ := C
  refine ⟨MQ (cBe X) (qW (cG X) (cAd X) μ0 sz K) (cAr X) (cS X) mc ms (cA X), ⟨μ0, sz, h1, h2, h3, rfl⟩, fun pc ls st μ k n kk => ?_⟩
  intro ad H locs lsl R
  rw [h4]
  exact vx_ret (kk ad H locs lsl R)
theorem aw_okl {X : CT} {pc : Nat} {ls : List (Option AV)} {st : List AV} {μ : Mem} {k n : Nat} {z : Int} (hz : some (vI z) ∈ ls) (kk : okI z → AW X pc ls st μ k n) : AW X pc ls st μ k n := fun ad H locs lsl R => kk (R.2.1 _ hz) ad H locs lsl R
/-- its contract out of its walk -/
theorem wx_intro {G : GE} {h : Nat} {Y : MD} {args : List AV} {μ : Mem} {mc ms : Nat} {K : Option AV → Mem → Prop} {KX : Mem → Prop} (hi : MI Y) (ls : List (Option AV)) (hls : initL args = ls.take (initL args).length) (hln : ls.drop (initL args).length = List.replicate (Y.2.2.1 - (initL args).length) none) (hl0 : (initL args).length ≤ Y.2.2.1)
    (body : ∀ X : CT, cG X = G → Fx X Y → Rxx X h mc ms K KX → (∀ x ∈ (cC X).exceptionTable.toList, False) → AW X 0 ls [] μ 0 0) : Wx G h Y args μ mc ms K KX := by
  intro ad sz hM hargs hex
  refine vx_ofW (cc := Y.2.1) (maxL := Y.2.2.1) (ret := Y.2.2.2) hi.2.2.1 rfl ?_
  intro p e s m args' below meth c s₁ B hml htab hv
  obtain ⟨rfl, hsz, hP, hD0, hK⟩ := hv
  subst hsz
  have hts := atoms_spec (ws := wsM Y) B.pre
  have hown : s.vm.findClass Y.1.cls = some m.cls := findClass_of_methodNamed B.named
  let X : CT := (G, p, e, rmN h mc ms, s, m, (args.map (trv ad)).toArray, below, meth, c, va_A (wrl G ad μ) s.heap.size, vx_MQ below (qW G ad μ s.heap.size K) (xW G ad μ s.heap.size KX) (args.map (trv ad)).toArray s mc ms (va_A (wrl G ad μ) s.heap.size), Y.2.2.1, ad, mX μ)
  have hF : Fx X Y := ⟨B.exec, B.bytes, hml, hown, fun w hw => hts w (List.mem_cons_of_mem _ hw), hK, fun q hq => Or.inr hq, B.notSynchronized, (name_of_methodNamed B.named B.method).1, hex, B.returns⟩
  have hR : Rxx X h mc ms K KX := ⟨μ, s.heap.size, rfl, rfl, rfl, rfl⟩
  have := body X rfl hF hR htab ad s.heap [] ((lg_sl (args.map (trv ad)) ++ List.replicate (Y.2.2.1 - (lg_sl (args.map (trv ad))).length) Slot.unset).toArray)
  rw [lg_entry_eq]
  refine this ⟨hM, fun v hv => ?_, fun v hv => (by cases hv), ⟨Nat.le_refl _, fun q _ => rfl⟩, hP, hD0.self, va_S.rf, ?_⟩
  · have h1 : some v ∈ initL args := by
      rw [← List.take_append_drop (initL args).length ls, hln, ← hls] at hv
      rcases List.mem_append.mp hv with h | h
      · exact h
      · have := List.eq_of_mem_replicate h; cases this
    obtain ⟨a, ha, hb⟩ := List.mem_flatMap.mp h1
    have : a = v := by rcases a with z | z | n <;> simp at hb <;> exact hb.symm
    exact this ▸ hargs a ha
  · have hn : (lg_sl (args.map (trv ad))).length ≤ Y.2.2.1 := by rw [initL_len]; exact hl0
    obtain ⟨e1, e2, e3⟩ := lv_entry (args.map (trv ad)) hn
    refine ⟨e1, e2, by rw [← List.take_append_drop (initL args).length ls, hln, ← hls, List.length_append, List.length_replicate]; show _ = Y.2.2.1; omega, fun i v hv => ?_⟩
    have hlt : i < (initL args).length := by
      refine Nat.lt_of_not_le fun hge => ?_
      have : (ls.drop (initL args).length)[i - (initL args).length]? = some (some v) := by rw [List.getElem?_drop, show (initL args).length + (i - (initL args).length) = i by omega]; exact hv
      rw [hln] at this
      have := List.eq_of_mem_replicate (List.mem_of_getElem? this); cases this
    have h1 : (initL args)[i]? = some (some v) := by rw [hls, List.getElem?_take, if_pos hlt]; exact hv
    have := e3 _ (initL_args ad args 0 i v h1)
    simpa using this
-- the words of the throw
theorem decl_of {args : Array Value} {s : State} {x : MethodName} {bytes : ByteArray} {n : Nat} {r : Option FieldType} (h1 : (Cond.instanceMethod x).before args s = true) (h2 : (Cond.code x bytes n r).before args s = true) : (Cond.declares x).before args s = true := by
  obtain ⟨m, meth, hn, hm, hs, -⟩ := Cond.instanceMethod_spec h1
  obtain ⟨meth', c, hm', -, -, -, -, -, -, hsig⟩ := Cond.code_spec hn h2
  cases Option.some.inj (hm.symm.trans hm')
  show (Cond.declares x).holds args s none s [] = true
  simp only [Cond.holds, Cond.value, hn, Option.bind_some, hm, Option.map_some]
  simp [hs, hsig]
theorem cast_of {args : Array Value} {s : State} {C : String} {n : Nat} (h : (Cond.instantiable C n).before args s = true) : (Cond.castable C C).before args s = true := by
  obtain ⟨c, k, hc, -⟩ := Cond.instantiable_spec h
  show (Cond.castable C C).holds args s none s [] = true
  simp only [Cond.holds, Cond.value, hc]
  simp [Vm.assignable_self]
def atX : List Cond := vx_at0 "LastLatch" 368 "java/util/NoSuchElementException" ["java/lang/RuntimeException", "java/lang/Exception"]
theorem atX_t : ∀ w ∈ atX.filter goodWord, w ∈ lw_tbl := by decide +kernel
theorem atX_T : ∀ w ∈ atX.filter goodWord, w ∈ TBL := fun w hw => List.mem_filter.mpr ⟨atX_t w hw, (List.mem_filter.mp hw).2⟩
theorem atX_B : ∀ w ∈ atX.filter (fun w => !goodWord w), w ∈ ([.declares ⟨"java/lang/RuntimeException", "<init>", "()V"⟩, .declares ⟨"java/lang/Exception", "<init>", "()V"⟩, .declares ⟨"java/lang/Throwable", "<init>", "()V"⟩, .castable "java/util/NoSuchElementException" "java/util/NoSuchElementException"] : List Cond) := by decide +kernel
theorem atX_g : ∀ w ∈ Cond.classLink "LastLatch" 366 "java/util/NoSuchElementException" :: Cond.initialized "java/util/NoSuchElementException" :: atX, vx_ot w = true := by decide +kernel
theorem ns_ini : Cond.initialized "java/util/NoSuchElementException" ∈ TBL := mJN_init_i.1.2.1
theorem ns_ins : Cond.instantiable "java/util/NoSuchElementException" 6 ∈ TBL := atX_T _ (by decide +kernel)
theorem five_R : Cond.code ⟨"java/lang/RuntimeException", "<init>", "()V"⟩ Bundle.five 1 none ∈ TBL ∧ Cond.instanceMethod ⟨"java/lang/RuntimeException", "<init>", "()V"⟩ ∈ TBL := ⟨atX_T _ (by decide +kernel), atX_T _ (by decide +kernel)⟩
theorem five_E : Cond.code ⟨"java/lang/Exception", "<init>", "()V"⟩ Bundle.five 1 none ∈ TBL ∧ Cond.instanceMethod ⟨"java/lang/Exception", "<init>", "()V"⟩ ∈ TBL := ⟨atX_T _ (by decide +kernel), atX_T _ (by decide +kernel)⟩
theorem atX_all {args : Array Value} {s : State} (hts : ∀ w ∈ TBL, w.before args s = true) : ∀ w ∈ atX, w.before args s = true := by
  refine vx_hat (fun w hw => hts w (atX_T w hw)) atX_B ?_
  refine vx_c (decl_of (hts _ five_R.2) (hts _ five_R.1)) (vx_c (decl_of (hts _ five_E.2) (hts _ five_E.1)) (vx_c ?_ (vx_c (cast_of (hts _ ns_ins)) vx_n)))
  exact decl_of (hts _ mJT_init_i.2.1) (hts _ mJT_init_i.1.1)
theorem aw_throw {X : CT} {h mc ms k n : Nat} {ls : List (Option AV)} {μ : Mem} {K : Option AV → Mem → Prop} {KX : Mem → Prop} (F : Fx X mL_led) (C : Rxx X h mc ms K KX) (htab : ∀ x ∈ (cC X).exceptionTable.toList, False) (hl : (gl (cG X)).stackTraces = false) (hh : 5 ≤ h) (hk : k + 1 ≤ mc) (hn : n + 6 ≤ ms) (hK : KX μ) : AW X 52 ls [] μ k n := by
  intro ad H locs lsl R
  obtain ⟨μ0, sz, hR, hA, hx0, hQ⟩ := C
  rw [hQ]
  have hts := F.2.2.2.2.1
  have hKF := F.2.2.2.2.2.1
  have hS := R.2.2.2.2.2.2.1
  refine vx_throw0 (own := "LastLatch") (cls := "java/util/NoSuchElementException") (names := ["java/lang/RuntimeException", "java/lang/Exception"]) (ik := 366) (ic := 368) (A := cA X) F.1 F.2.1 hl F.2.2.2.1 (by decide +kernel) (by decide +kernel) (hts _ cL_366) (hts _ ns_ini) (atX_all hts) atX_g hKF.2.2.2.2.2.1 hKF.2.2.2.2.2.2.1 hS (R.2.2.2.2.2.2.2.1.trans F.2.2.1.symm) dL_led_52 dL_led_55 dL_led_56 dL_led_59 (fun x hx => (htab x hx).elim) ?_ ?_ ?_ ?_ F.2.2.2.2.2.2.2.1 ?_ (fun z hz => hS.2.2 z hz) hk hn
  · rw [hR]; show 2 + 3 < h + 1; omega
  · rw [hR]; show 0 + (13 * (2 + 1) + 42) ≤ 100 * (h + 1); omega
  · rw [hR]; exact hk
  · rw [hR]; exact hn
  · intro t hvm hsz hq
    refine ⟨rfl, ⟨μ, ad, hK, R.1, by rw [← hx0]; exact R.2.2.2.1.1, fun i hi => R.2.2.2.1.2 i (by rw [hx0]; exact hi), R.2.2.2.2.1.kept (fun j q hj => hq _ (vx_lt R.2.2.2.2.1 hj)), by rw [← hA]; exact R.2.2.2.2.2.1⟩, ?_⟩
    rw [← hA]
    exact ⟨Nat.le_trans hS.1 hsz, fun q h1 h2 => by rw [hq q (Nat.lt_of_lt_of_le h1 hS.1)]; exact hS.2.1 q h1 h2⟩
theorem cntB_mono {f : Nat → Bool} {a b : Nat} (h : a ≤ b) : cntB f a ≤ cntB f b := by
  induction b with
  | zero => rw [show a = 0 by omega]; exact Nat.le_refl _
  | succ b ih =>
    by_cases q : a = b + 1
    · rw [q]; exact Nat.le_refl _
    · have := ih (by omega)
      cases hf : f b
      · rw [cntB_0 hf]; exact this
      · rw [cntB_1 hf]; omega
theorem cntB_inj {f : Nat → Bool} {a b : Nat} (ha : f a = true) (hb : f b = true) (h : cntB f a = cntB f b) : a = b := by
  rcases Nat.lt_trichotomy a b with q | q | q
  · have := cntB_mono (f := f) (show a + 1 ≤ b from q); rw [cntB_1 ha] at this; omega
  · exact q
  · have := cntB_mono (f := f) (show b + 1 ≤ a from q); rw [cntB_1 hb] at this; omega
section Led
variable {G : GE} {V : Nat → Nat → Int} {σ : Shp} {K : Option AV → Mem → Prop} {KX : Mem → Prop} {ow : Nat → Nat} {y : Dy} {S : PS} {kn : Bool}
theorem wL_led {i : Int} (hl : (gl G).stackTraces = false) (h : CW V σ ow y S kn) (h1 : ∀ s, s < stN (psC S) → mayN (psC S) (psA S) (allP (psC S)) s = true → i = cntB (mayN (psC S) (psA S) (allP (psC S))) s → K (some (vI (s : Nat))) (V, σ)) (h0 : (∀ s, s < stN (psC S) → mayN (psC S) (psA S) (allP (psC S)) s = true → i ≠ cntB (mayN (psC S) (psA S) (allP (psC S))) s) → KX (V, σ)) : Wx G 5 mL_led [vR 1, vI i] (V, σ) 1 6 K KX := by
  have hW := h.cs
  have hv := h.v2
  have hh := h.hh
  have hst : stN (psC S) ≤ 16 := stN_le (h.oT.okC h.oS)
  refine wx_intro mL_led_i.1 [some (vR 1), some (vI i), none, none] rfl rfl (Nat.le_of_ble_eq_true rfl) ?_
  intro X hG F C htab
  have hm := C.rm
  obtain ⟨Q, C1, hQ⟩ := aw_q C
  have F1 : Fx (qX X Q) mL_led := F
  have hlX : (gl (cG X)).stackTraces = false := by rw [hG]; exact hl
  refine aw_okl (z := i) (by simp) (fun hi => ?_)
  obtain ⟨hi1, hi2⟩ := hi
  have loop : ∀ (j s : Nat), s + j = stN (psC S) → ∀ (y z : Int), y = i - cntB (mayN (psC S) (psA S) (allP (psC S))) s → z = s → (∀ s', s' < s → mayN (psC S) (psA S) (allP (psC S)) s' = true → i ≠ cntB (mayN (psC S) (psA S) (allP (psC S))) s') → AW X 4 [some (vR 1), some (vI i), some (vI y), some (vI z)] [] (V, σ) 0 0 := by
    intro j
    induction j with
    | zero =>
      intro s hs y z hy hz hI
      refine aw_iload_3 (q := 5) F dL_led_4 rfl ?_
      refine aw_aload_0 (q := 6) F dL_led_5 rfl ?_
      refine av_getaE (q := 9) F fL_23 dL_led_6 rfl rfl (by first | exact hW.o | exact hW.ho) hW.p6 ?_
      refine av_geti (q := 12) F fL_363 dL_led_9 rfl rfl (by first | exact hW.o | exact hW.ho) ?_
      refine aw_icmp_ge (q := 15) (t := 52) F dL_led_12 rfl (by decide) (fun c12 => ?_) (fun c12 => by omega)
      exact aw_throw F C htab hlX (by decide) (by decide) (by decide) (h0 (fun s' hs' => hI s' (by omega)))
    | succ j ih =>
      intro s hs y z hy hz hI
      have hle := cntB_le (mayN (psC S) (psA S) (allP (psC S))) s
      have ez : z.toNat = s := by omega
      refine aw_iload_3 (q := 5) F dL_led_4 rfl ?_
      refine aw_aload_0 (q := 6) F dL_led_5 rfl ?_
      refine av_getaE (q := 9) F fL_23 dL_led_6 rfl rfl (by first | exact hW.o | exact hW.ho) hW.p6 ?_
      refine av_geti (q := 12) F fL_363 dL_led_9 rfl rfl (by first | exact hW.o | exact hW.ho) ?_
      refine aw_icmp_ge (q := 15) (t := 52) F dL_led_12 rfl (by decide) (fun c12 => by omega) (fun c12 => ?_)
      refine aw_iload_2 (q := 16) F dL_led_15 rfl ?_
      refine aw_if_lt (q := 19) (t := 52) F dL_led_16 rfl (by decide) (fun c16 => ?_) (fun c16 => ?_)
      · refine aw_throw F C htab hlX (by decide) (by decide) (by decide) (h0 (fun s' hs' hm' e => ?_))
        rcases Nat.lt_or_ge s' s with q | q
        · exact hI s' q hm' e
        · have := cntB_mono (f := mayN (psC S) (psA S) (allP (psC S))) q; omega
      · refine aw_aload_0 (q := 20) F dL_led_19 rfl ?_
        refine av_getaE (q := 23) F fL_23 dL_led_20 rfl rfl (by first | exact hW.o | exact hW.ho) hW.p6 ?_
        refine aw_iload_3 (q := 24) F dL_led_23 rfl ?_
        refine aw_aload_0 (q := 25) F dL_led_24 rfl ?_
        refine av_getaE (q := 28) F fL_23 dL_led_25 rfl rfl (by first | exact hW.o | exact hW.ho) hW.p6 ?_
        refine av_callV0 (q := 31) (ci := 2) F hm mH_everybody_i mH_everybody_n lL_160 dL_led_28 rfl rfl rfl (by first | exact hW.o | exact hW.ho) (by decide) (by decide) (by decide) (Nat.le_of_ble_eq_true rfl) (wH_everybody hW.h hh ?_)
        refine av_callV2 (q := 34) (ci := 2) F hm mH_may_i mH_may_n lL_164 dL_led_31 rfl rfl rfl (by first | exact hW.o | exact hW.ho) (by decide) (by decide) (by decide) (Nat.le_of_ble_eq_true rfl) (wH_may (th := allP (psC S)) rfl (allP_lt hh.1) hW.h hh (fun a31 b31 c31 => ?_) (fun c31 => ?_))
        · refine aw_if_eq (q := 37) (t := 46) F dL_led_34 rfl (by decide) (fun c34 => absurd c34 (by decide)) (fun c34 => ?_)
          refine aw_iload_2 (q := 38) F dL_led_37 rfl ?_
          refine aw_if_ne (q := 41) (t := 43) F dL_led_38 rfl (by decide) (fun c38 => ?_) (fun c38 => ?_)
          · refine aw_iinc_2 (q := 46) F dL_led_43 rfl trivial (by constructor <;> omega) ?_
            refine aw_iinc_3 (q := 49) F dL_led_46 rfl trivial (by constructor <;> omega) ?_
            refine aw_goto (t := 4) F dL_led_49 (by decide) ?_
            refine ih (s + 1) (by omega) _ _ ?_ (by omega) (fun s' hs' hm' => ?_)
            · first | (rw [ez] at c31; rw [cntB_1 c31]; omega) | (have c31 := c31 (by omega) (by omega); rw [ez] at c31; rw [cntB_0 c31]; omega)
            · by_cases q : s' = s
              · rw [q] at hm' ⊢; first | omega | (have c31 := c31 (by omega) (by omega); rw [ez] at c31; rw [c31] at hm'; cases hm')
              · exact hI s' (by omega) hm'
          · refine aw_iload_3 (q := 42) F dL_led_41 rfl ?_
            refine hQ _ _ _ _ _ _ (aw_iret F1 C1 dL_led_42 rfl (by decide) (by decide) ?_)
            rw [ez] at c31
            rw [hz]
            exact h1 s (by omega) c31 (by omega)
        · refine aw_if_eq (q := 37) (t := 46) F dL_led_34 rfl (by decide) (fun c34 => ?_) (fun c34 => absurd c34 (by decide))
          refine aw_iinc_3 (q := 49) F dL_led_46 rfl trivial (by constructor <;> omega) ?_
          refine aw_goto (t := 4) F dL_led_49 (by decide) ?_
          refine ih (s + 1) (by omega) _ _ ?_ (by omega) (fun s' hs' hm' => ?_)
          · first | (rw [ez] at c31; rw [cntB_1 c31]; omega) | (have c31 := c31 (by omega) (by omega); rw [ez] at c31; rw [cntB_0 c31]; omega)
          · by_cases q : s' = s
            · rw [q] at hm' ⊢; first | omega | (have c31 := c31 (by omega) (by omega); rw [ez] at c31; rw [c31] at hm'; cases hm')
            · exact hI s' (by omega) hm'
  refine aw_iload_1 (q := 1) F dL_led_0 rfl ?_
  refine aw_istore_2 (q := 2) F dL_led_1 rfl trivial ?_
  refine aw_iconst (q := 3) F dL_led_2 rfl (by decide) ?_
  refine aw_istore_3 (q := 4) F dL_led_3 rfl trivial ?_
  exact loop _ 0 (Nat.zero_add _) _ _ (by show i = i - ((0 : Nat) : Int); omega) rfl (fun s' hs' => absurd hs' (by omega))
end Led
