-- the texts: their lengths, their letters
def kCh (j i : Nat) : Int := ((kByt.getD j []).getD i 0).toInt
theorem kCh_ok : ∀ j : Nat, j < 19 → ∀ i : Nat, i < kLen.getD j 0 → 0 ≤ kCh j i ∧ kCh j i < 128 := by decide +kernel
theorem kLen_ok : ∀ j : Nat, j < 19 → kLen.getD j 0 < 100 := by decide +kernel
theorem lk_val : Cond.fieldLink "java/lang/String" 9 "java/lang/String" "value" "[B" ∈ TBL := tb9 62 (by decide +kernel) rfl
theorem lk_cod : Cond.fieldLink "java/lang/String" 15 "java/lang/String" "coder" "B" ∈ TBL := tb9 63 (by decide +kernel) rfl
theorem lk_cmp : Cond.fieldLink "java/lang/String" 38 "java/lang/String" "COMPACT_STRINGS" "Z" ∈ TBL := tb2 204 (by decide +kernel) rfl
theorem lk_frm : Cond.fieldLink "java/lang/String" 1053 "jdk/internal/util/Preconditions" "SIOOBE_FORMATTER" "Ljava/util/function/BiFunction;" ∈ TBL := tb2 220 (by decide +kernel) rfl
section TextRows
variable {X : CT} {Y : MD} {pc q : Nat} {ls : List (Option AV)} {st : List AV} {μ : Mem} {k n : Nat}
theorem trvK (F : Fx X Y) {ad : Nat → Nat} {H : Heap} {locs : List Loc} {lsl : Array Slot} (R : RP X ls st μ ad H locs lsl) {j : Nat} (hj : j < 39) : trv ad (vR (BG + j)) = .ref (gX (cG X) j) := by
  simp only [trv]
  rw [if_neg (by unfold BG; omega), R.ex F j hj]
theorem gX_k {G : GE} {j : Nat} (h : j < 19) : gX G j = gK G j := if_pos h
theorem gX_w {G : GE} {j : Nat} (h : j < 19) : gX G (19 + j) = gW G j := by
  unfold gX
  rw [if_neg (by omega), if_pos (by omega), show 19 + j - 19 = j by omega]
theorem aw_kval (F : Fx X Y) {j idx : Nat} (hj : j < 19) (hl : Cond.fieldLink Y.1.cls idx "java/lang/String" "value" "[B" ∈ TBL) (hd : decode Y.2.1 pc = .ok (.getfield idx, 3)) (hp : pc + 3 = q) (kk : AW X q ls (vR (BG + (19 + j)) :: st) μ k n) : AW X pc ls (vR (BG + j) :: st) μ k n := by
  intro ad H locs lsl R
  subst hp
  have h := kk ad H locs lsl (R.pop.push (show okR μ (BG + (19 + j)) from Or.inr (by omega)))
  rw [List.map_cons, trvK F R (by omega), gX_w hj] at h
  rw [List.map_cons, trvK F R (by omega), gX_k hj]
  exact vk_getf F.1 F.2.1 (F.2.2.2.2.2.1.2.2.1.1 j hj).2.2.1 R.2.2.2.2.2.2.1 F.2.2.2.1 (F.2.2.2.2.1 _ hl) (fun x q => q) hd h
theorem aw_kcod (F : Fx X Y) {j idx : Nat} (hj : j < 19) (hl : Cond.fieldLink Y.1.cls idx "java/lang/String" "coder" "B" ∈ TBL) (hd : decode Y.2.1 pc = .ok (.getfield idx, 3)) (hp : pc + 3 = q) (kk : AW X q ls (vI 0 :: st) μ k n) : AW X pc ls (vR (BG + j) :: st) μ k n := by
  intro ad H locs lsl R
  subst hp
  have h := kk ad H locs lsl (R.pop.push (show okI 0 by decide))
  rw [List.map_cons, trvK F R (by omega), gX_k hj]
  exact vk_getf F.1 F.2.1 (F.2.2.2.2.2.1.2.2.1.1 j hj).2.1 R.2.2.2.2.2.2.1 F.2.2.2.1 (F.2.2.2.2.1 _ hl) (fun x q => q) hd h
theorem aw_kcmp (F : Fx X Y) {idx : Nat} (hl : Cond.fieldLink Y.1.cls idx "java/lang/String" "COMPACT_STRINGS" "Z" ∈ TBL) (hd : decode Y.2.1 pc = .ok (.getstatic idx, 3)) (hp : pc + 3 = q) (kk : AW X q ls (vI 1 :: st) μ k n) : AW X pc ls st μ k n := by
  intro ad H locs lsl R
  subst hp
  have h := kk ad H locs lsl (R.push (show okI 1 by decide))
  exact va_gets F.1 F.2.1 F.2.2.2.2.2.1.2.2.2.2.1 R.2.2.2.2.2.2.1 F.2.2.2.1 (F.2.2.2.2.1 _ hl) (fun x q => q) hd h
theorem aw_kfrm (F : Fx X Y) {idx : Nat} (hl : Cond.fieldLink Y.1.cls idx "jdk/internal/util/Preconditions" "SIOOBE_FORMATTER" "Ljava/util/function/BiFunction;" ∈ TBL) (hd : decode Y.2.1 pc = .ok (.getstatic idx, 3)) (hp : pc + 3 = q) (kk : ∀ r : Nat, AW X q ls (vR r :: st) μ k n) : AW X pc ls st μ k n := by
  intro ad H locs lsl R
  subst hp
  have hZ := F.2.2.2.2.2.1.2.2.2.2.2.2.2
  by_cases h0 : gK (cG X) 39 = 0
  · rw [if_pos h0] at hZ
    have h := kk 0 ad H locs lsl (R.push (show okR μ 0 from Or.inl R.1.1.1))
    exact va_gets F.1 F.2.1 hZ R.2.2.2.2.2.2.1 F.2.2.2.1 (F.2.2.2.2.1 _ hl) (fun x q => q) hd h
  · rw [if_neg h0] at hZ
    have h := kk (BG + 38) ad H locs lsl (R.push (show okR μ (BG + 38) from Or.inr (by omega)))
    rw [List.map_cons, trvK F R (by omega), show gX (cG X) 38 = gK (cG X) 38 from rfl] at h
    exact va_gets F.1 F.2.1 hZ R.2.2.2.2.2.2.1 F.2.2.2.1 (F.2.2.2.2.1 _ hl) (fun x q => q) hd h
theorem aw_klen (F : Fx X Y) {j : Nat} (hj : j < 19) (hd : decode Y.2.1 pc = .ok (.arraylength, 1)) (hp : pc + 1 = q) (kk : AW X q ls (vI ((kLen.getD j 0 : Nat) : Int) :: st) μ k n) : AW X pc ls (vR (BG + (19 + j)) :: st) μ k n := by
  intro ad H locs lsl R
  subst hp
  have hlt := kLen_ok j hj
  have h := kk ad H locs lsl (R.pop.push (show okI ((kLen.getD j 0 : Nat) : Int) from ⟨by omega, by omega⟩))
  have e : trv ad (vI ((kLen.getD j 0 : Nat) : Int)) = .int (Int32.ofNat (kLen.getD j 0)) := by show Value.int _ = _; rw [Int32.ofInt_eq_ofNat]
  rw [List.map_cons, e] at h
  rw [List.map_cons, trvK F R (by omega), gX_w hj]
  exact va_tlen F.1 F.2.1 (F.2.2.2.2.2.1.2.2.1.1 j hj).2.2.2 R.2.2.2.2.2.2.1 rfl hd h
theorem aw_kald (F : Fx X Y) {j : Nat} {x : Int} (hj : j < 19) (hd : decode Y.2.1 pc = .ok (.baload, 1)) (hp : pc + 1 = q) (h0 : 0 ≤ x) (h1 : x < kLen.getD j 0) (kk : AW X q ls (vI (kCh j x.toNat) :: st) μ k n) : AW X pc ls (vI x :: vR (BG + (19 + j)) :: st) μ k n := by
  intro ad H locs lsl R
  subst hp
  have hx : okI x := R.top
  have hc := kCh_ok j hj x.toNat (by omega)
  have h := kk ad H locs lsl (R.pop.pop.push (show okI (kCh j x.toNat) from ⟨by omega, by omega⟩))
  have e : trv ad (vI (kCh j x.toNat)) = .int ((kByt.getD j []).getD x.toNat 0) := by show Value.int _ = _; unfold kCh; rw [Int32.ofInt_toInt]
  rw [List.map_cons, e] at h
  rw [List.map_cons, List.map_cons, trvK F R (by omega), gX_w hj]
  exact va_tb F.1 F.2.1 (F.2.2.2.2.2.1.2.2.1.1 j hj).2.2.2 R.2.2.2.2.2.2.1 (vp_in_of_int hx h0 h1) (by rw [clampZ hx]) hd h
theorem aw_nret (F : Fx X Y) {h mc ms : Nat} {K : Option AV → Mem → Prop} {z : Int} {ty : FieldType} (C : Rx X h mc ms K) (hd : decode Y.2.1 pc = .ok (.ireturn, 1)) (hr : Y.2.2.2 = some ty) (hz : narrow ty (.int (Int32.ofInt z)) = .int (Int32.ofInt z)) (hk : k ≤ mc) (hn : n ≤ ms) (hK : K (some (vI z)) μ) : AW X pc ls [vI z] μ k n := by
  intro ad H locs lsl R
  obtain ⟨μ0, sz, -, hA, hx, hQ⟩ := C
  rw [hQ]
  refine W.widen hk hn ?_
  exact W.zret F.1 F.2.1 (F.2.2.2.2.2.2.2.2.2.2.trans hr) hz (ret_q (h := h) (mc := mc) (ms := ms) (r := some (vI z)) R hA hx hK (fun v hv => by cases hv; exact List.mem_cons_self)) (fun i hi => R.2.2.2.2.2.2.1.2.2 i hi) hd F.2.2.2.2.2.2.2.1
/-- a call on a text -/
theorem aw_callK (F : Fx X Y) {h MC MS : Nat} (hm : Rm X h MC MS) {Z : MD} (hi : MIV Z) {idx j hz mc ms : Nat} {As : List AV} (hj : j < 19) (hn : nP Z As.length) (hl : Cond.methodLink Y.1.cls idx Z.1 ∈ TBL) (hd : decode Y.2.1 pc = .ok (.invokevirtual idx, 3)) (hp : pc + 3 = q) (hcn : "java/lang/String" = Z.1.cls) (hh : hz + 1 ≤ h) (hk : k + mc ≤ MC) (hs : n + ms ≤ MS) (hcat : (st.map avc).sum ≤ 8) (w : Wp (cG X) hz Z (vR (BG + j) :: As) μ mc ms (rK X q ls st (k + mc) (n + ms))) : AW X pc ls (As.reverse ++ vR (BG + j) :: st) μ k n := by
  intro ad H locs lsl R
  subst hp
  have hB0 : 0 < BG + j := by unfold BG; omega
  have hargs : ∀ v ∈ vR (BG + j) :: As, okV μ v := fun v hv => R.2.2.1 v (by
    rcases List.mem_cons.mp hv with rfl | hv
    · exact List.mem_append_right _ List.mem_cons_self
    · exact List.mem_append_left _ (List.mem_reverse.mpr hv))
  have hst : ∀ v ∈ st, okV μ v := fun v hv => R.2.2.1 v (List.mem_append_right _ (List.mem_cons_of_mem _ hv))
  have M := w ad H.size R.1 hargs (R.ex F)
  have e0 : ((vR (BG + j) :: As).map (trv ad)) = .ref (ad (BG + j)) :: As.map (trv ad) := by rw [List.map_cons, refA hB0]
  have hpre : PreV (cS X) H "java/lang/String" (ad (BG + j)) (pW (cG X) ad (vR (BG + j) :: As) μ H.size) (As.map (trv ad)) := by
    refine ⟨pW_blind _ _ _ _ _, ?_, fun U hU hW => ?_⟩
    · rw [R.ex F j (by omega), gX_k hj]
      exact vk_recv F.2.2.2.2.2.1.2.2.1 hj R.2.2.2.2.2.2.1
    · have := R.pre F (vR (BG + j) :: As) U hU hW
      rw [e0] at this
      exact this
  have hfr : (rmN hz mc ms).frames + 1 ≤ (cR X).frames := by show hz + 1 + 1 ≤ _; have := hm.1; omega
  have hlo : 8 + (Z.2.2.1 + 11) + (rmN hz mc ms).locals ≤ (cR X).locals := by
    show 8 + (Z.2.2.1 + 11) + 100 * (hz + 1) ≤ _
    have := hm.2.1
    have := hi.1.2.2.2.2
    omega
  have hts := F.2.2.2.2.1
  have hws : ∀ w ∈ wsM Z, ∀ (a' : Array Value) (U : State), (cS X).WarmedH U.vm → w.before a' U = true := pay_in hts (wsM_good hi.1)
  have hf : k + mc ≤ (cR X).cells ∧ n + ms ≤ (cR X).slots := ⟨Nat.le_trans hk hm.2.2.1, Nat.le_trans hs hm.2.2.2⟩
  have hsz : (F0 (cM X) pc lsl ((As.reverse ++ vR (BG + j) :: st).map (trv ad))).locals.size = cN X := R.2.2.2.2.2.2.2.1
  have hstk : (F0 (cM X) pc lsl ((As.reverse ++ vR (BG + j) :: st).map (trv ad))).stack = (As.map (trv ad)).reverse ++ .ref (ad (BG + j)) :: st.map (trv ad) := by
    show (As.reverse ++ vR (BG + j) :: st).map (trv ad) = _
    rw [List.map_append, List.map_reverse, List.map_cons, refA hB0]
  have hW0 : 2 * (F0 (cM X) pc lsl ((As.reverse ++ vR (BG + j) :: st).map (trv ad))).monitorRoom + ((st.map (trv ad)).map fun v => v.category).sum ≤ 8 := by
    rw [avc_sum]
    exact Nat.le_trans (Nat.le_of_eq (Nat.zero_add _)) hcat
  have hlen : (As.map (trv ad)).length = As.length := by simp
  have cw : CallW (cR X) (cS X) (cAr X) Y.1.cls "java/lang/String" idx Z.1 Z.2.1 Z.2.2.1 Z.2.2.2 (wsM Z) (rmN hz mc ms) mc ms As.length := ⟨⟨rfl, rfl, hfr, hlo, hws, List.mem_cons_self, hts _ hi.1.1, hts _ hi.1.2.1, hi.1.2.2.2.1, hn.use, hts _ hl⟩, hts _ hi.2.1, by rw [hcn]; exact hts _ hi.2.2⟩
  exact call_fin F R hst (R.sub F) (va_runV (As := As.map (trv ad)) (b := ad (BG + j)) ⟨F.1, F.2.1, F.2.2.1, F.2.2.2.1, hts⟩ M cw hpre rfl hlen hsz hstk hW0 hd hf)
theorem aw_callK0 (F : Fx X Y) {h MC MS : Nat} (hm : Rm X h MC MS) {Z : MD} (hi : MIV Z) {idx j hz mc ms : Nat} (hj : j < 19) (hn : nP Z 0) (hl : Cond.methodLink Y.1.cls idx Z.1 ∈ TBL) (hd : decode Y.2.1 pc = .ok (.invokevirtual idx, 3)) (hp : pc + 3 = q) (hcn : "java/lang/String" = Z.1.cls) (hh : hz + 1 ≤ h) (hk : k + mc ≤ MC) (hs : n + ms ≤ MS) (hcat : (st.map avc).sum ≤ 8) (w : Wp (cG X) hz Z [vR (BG + j)] μ mc ms (rK X q ls st (k + mc) (n + ms))) : AW X pc ls (vR (BG + j) :: st) μ k n := aw_callK (As := []) F hm hi hj hn hl hd hp hcn hh hk hs hcat w
theorem aw_callK1 (F : Fx X Y) {h MC MS : Nat} (hm : Rm X h MC MS) {Z : MD} (hi : MIV Z) {idx j hz mc ms : Nat} {x0 : AV} (hj : j < 19) (hn : nP Z 1) (hl : Cond.methodLink Y.1.cls idx Z.1 ∈ TBL) (hd : decode Y.2.1 pc = .ok (.invokevirtual idx, 3)) (hp : pc + 3 = q) (hcn : "java/lang/String" = Z.1.cls) (hh : hz + 1 ≤ h) (hk : k + mc ≤ MC) (hs : n + ms ≤ MS) (hcat : (st.map avc).sum ≤ 8) (w : Wp (cG X) hz Z [vR (BG + j), x0] μ mc ms (rK X q ls st (k + mc) (n + ms))) : AW X pc ls (x0 :: vR (BG + j) :: st) μ k n := aw_callK (As := [x0]) F hm hi hj hn hl hd hp hcn hh hk hs hcat w
end TextRows
