theorem dL_knownRows_0 : decode mL_knownRows.2.1 0 = .ok (.aload_n 0, 1) := by decide +kernel
theorem dL_knownRows_1 : decode mL_knownRows.2.1 1 = .ok (.getfield 51, 3) := by decide +kernel
theorem dL_knownRows_4 : decode mL_knownRows.2.1 4 = .ok (.getfield 390, 3) := by decide +kernel
theorem dL_knownRows_7 : decode mL_knownRows.2.1 7 = .ok (.ifCond .ne 61, 3) := by decide +kernel
theorem dL_knownRows_10 : decode mL_knownRows.2.1 10 = .ok (.aload_n 0, 1) := by decide +kernel
theorem dL_knownRows_11 : decode mL_knownRows.2.1 11 = .ok (.getfield 45, 3) := by decide +kernel
theorem dL_knownRows_14 : decode mL_knownRows.2.1 14 = .ok (.aload_n 0, 1) := by decide +kernel
theorem dL_knownRows_15 : decode mL_knownRows.2.1 15 = .ok (.getfield 16, 3) := by decide +kernel
theorem dL_knownRows_18 : decode mL_knownRows.2.1 18 = .ok (.aload_n 0, 1) := by decide +kernel
theorem dL_knownRows_19 : decode mL_knownRows.2.1 19 = .ok (.getfield 23, 3) := by decide +kernel
theorem dL_knownRows_22 : decode mL_knownRows.2.1 22 = .ok (.aload_n 0, 1) := by decide +kernel
theorem dL_knownRows_23 : decode mL_knownRows.2.1 23 = .ok (.getfield 16, 3) := by decide +kernel
theorem dL_knownRows_26 : decode mL_knownRows.2.1 26 = .ok (.invokevirtual 386, 3) := by decide +kernel
theorem dL_knownRows_29 : decode mL_knownRows.2.1 29 = .ok (.invokevirtual 200, 3) := by decide +kernel
theorem dL_knownRows_32 : decode mL_knownRows.2.1 32 = .ok (.aload_n 0, 1) := by decide +kernel
theorem dL_knownRows_33 : decode mL_knownRows.2.1 33 = .ok (.getfield 51, 3) := by decide +kernel
theorem dL_knownRows_36 : decode mL_knownRows.2.1 36 = .ok (.aload_n 0, 1) := by decide +kernel
theorem dL_knownRows_37 : decode mL_knownRows.2.1 37 = .ok (.getfield 45, 3) := by decide +kernel
theorem dL_knownRows_40 : decode mL_knownRows.2.1 40 = .ok (.aload_n 0, 1) := by decide +kernel
theorem dL_knownRows_41 : decode mL_knownRows.2.1 41 = .ok (.getfield 23, 3) := by decide +kernel
theorem dL_knownRows_44 : decode mL_knownRows.2.1 44 = .ok (.aload_n 0, 1) := by decide +kernel
theorem dL_knownRows_45 : decode mL_knownRows.2.1 45 = .ok (.getfield 16, 3) := by decide +kernel
theorem dL_knownRows_48 : decode mL_knownRows.2.1 48 = .ok (.getfield 151, 3) := by decide +kernel
theorem dL_knownRows_51 : decode mL_knownRows.2.1 51 = .ok (.iconst 0, 1) := by decide +kernel
theorem dL_knownRows_52 : decode mL_knownRows.2.1 52 = .ok (.iaload, 1) := by decide +kernel
theorem dL_knownRows_53 : decode mL_knownRows.2.1 53 = .ok (.aload_n 0, 1) := by decide +kernel
theorem dL_knownRows_54 : decode mL_knownRows.2.1 54 = .ok (.getfield 16, 3) := by decide +kernel
theorem dL_knownRows_57 : decode mL_knownRows.2.1 57 = .ok (.getfield 151, 3) := by decide +kernel
theorem dL_knownRows_60 : decode mL_knownRows.2.1 60 = .ok (.iconst 1, 1) := by decide +kernel
theorem dL_knownRows_61 : decode mL_knownRows.2.1 61 = .ok (.iaload, 1) := by decide +kernel
theorem dL_knownRows_62 : decode mL_knownRows.2.1 62 = .ok (.invokevirtual 397, 3) := by decide +kernel
theorem dL_knownRows_65 : decode mL_knownRows.2.1 65 = .ok (.invokevirtual 400, 3) := by decide +kernel
theorem dL_knownRows_68 : decode mL_knownRows.2.1 68 = .ok (.aload_n 0, 1) := by decide +kernel
theorem dL_knownRows_69 : decode mL_knownRows.2.1 69 = .ok (.getfield 51, 3) := by decide +kernel
theorem dL_knownRows_72 : decode mL_knownRows.2.1 72 = .ok (.areturn, 1) := by decide +kernel
theorem dL_rows_0 : decode mL_rows.2.1 0 = .ok (.aload_n 0, 1) := by decide +kernel
theorem dL_rows_1 : decode mL_rows.2.1 1 = .ok (.aload_n 0, 1) := by decide +kernel
theorem dL_rows_2 : decode mL_rows.2.1 2 = .ok (.invokevirtual 154, 3) := by decide +kernel
theorem dL_rows_5 : decode mL_rows.2.1 5 = .ok (.iload_n 1, 1) := by decide +kernel
theorem dL_rows_6 : decode mL_rows.2.1 6 = .ok (.invokestatic 230, 3) := by decide +kernel
theorem dL_rows_9 : decode mL_rows.2.1 9 = .ok (.invokevirtual 114, 3) := by decide +kernel
theorem dL_rows_12 : decode mL_rows.2.1 12 = .ok (.ifCond .ne 5, 3) := by decide +kernel
theorem dL_rows_15 : decode mL_rows.2.1 15 = .ok (.iconst (-1), 1) := by decide +kernel
theorem dL_rows_16 : decode mL_rows.2.1 16 = .ok (.ireturn, 1) := by decide +kernel
theorem dL_rows_17 : decode mL_rows.2.1 17 = .ok (.aload_n 0, 1) := by decide +kernel
theorem dL_rows_18 : decode mL_rows.2.1 18 = .ok (.invokevirtual 233, 3) := by decide +kernel
theorem dL_rows_21 : decode mL_rows.2.1 21 = .ok (.iload_n 1, 1) := by decide +kernel
theorem dL_rows_22 : decode mL_rows.2.1 22 = .ok (.invokevirtual 237, 3) := by decide +kernel
theorem dL_rows_25 : decode mL_rows.2.1 25 = .ok (.ireturn, 1) := by decide +kernel
theorem dL_lastBy_0 : decode mL_lastBy.2.1 0 = .ok (.aload_n 0, 1) := by decide +kernel
theorem dL_lastBy_1 : decode mL_lastBy.2.1 1 = .ok (.aload_n 0, 1) := by decide +kernel
theorem dL_lastBy_2 : decode mL_lastBy.2.1 2 = .ok (.invokevirtual 154, 3) := by decide +kernel
theorem dL_lastBy_5 : decode mL_lastBy.2.1 5 = .ok (.iload_n 1, 1) := by decide +kernel
theorem dL_lastBy_6 : decode mL_lastBy.2.1 6 = .ok (.invokestatic 230, 3) := by decide +kernel
theorem dL_lastBy_9 : decode mL_lastBy.2.1 9 = .ok (.invokevirtual 114, 3) := by decide +kernel
theorem dL_lastBy_12 : decode mL_lastBy.2.1 12 = .ok (.ifCond .ne 5, 3) := by decide +kernel
theorem dL_lastBy_15 : decode mL_lastBy.2.1 15 = .ok (.iconst (-1), 1) := by decide +kernel
theorem dL_lastBy_16 : decode mL_lastBy.2.1 16 = .ok (.ireturn, 1) := by decide +kernel
theorem dL_lastBy_17 : decode mL_lastBy.2.1 17 = .ok (.aload_n 0, 1) := by decide +kernel
theorem dL_lastBy_18 : decode mL_lastBy.2.1 18 = .ok (.invokevirtual 233, 3) := by decide +kernel
theorem dL_lastBy_21 : decode mL_lastBy.2.1 21 = .ok (.iload_n 1, 1) := by decide +kernel
theorem dL_lastBy_22 : decode mL_lastBy.2.1 22 = .ok (.invokevirtual 240, 3) := by decide +kernel
theorem dL_lastBy_25 : decode mL_lastBy.2.1 25 = .ok (.ireturn, 1) := by decide +kernel
theorem dL_firstBy_0 : decode mL_firstBy.2.1 0 = .ok (.aload_n 0, 1) := by decide +kernel
theorem dL_firstBy_1 : decode mL_firstBy.2.1 1 = .ok (.aload_n 0, 1) := by decide +kernel
theorem dL_firstBy_2 : decode mL_firstBy.2.1 2 = .ok (.getfield 23, 3) := by decide +kernel
theorem dL_firstBy_5 : decode mL_firstBy.2.1 5 = .ok (.iload_n 1, 1) := by decide +kernel
theorem dL_firstBy_6 : decode mL_firstBy.2.1 6 = .ok (.invokevirtual 157, 3) := by decide +kernel
theorem dL_firstBy_9 : decode mL_firstBy.2.1 9 = .ok (.iload_n 2, 1) := by decide +kernel
theorem dL_firstBy_10 : decode mL_firstBy.2.1 10 = .ok (.invokestatic 230, 3) := by decide +kernel
theorem dL_firstBy_13 : decode mL_firstBy.2.1 13 = .ok (.ifCond .eq 11, 3) := by decide +kernel
theorem dL_firstBy_16 : decode mL_firstBy.2.1 16 = .ok (.iload_n 2, 1) := by decide +kernel
theorem dL_firstBy_17 : decode mL_firstBy.2.1 17 = .ok (.ifCond .le 7, 3) := by decide +kernel
theorem dL_firstBy_20 : decode mL_firstBy.2.1 20 = .ok (.iconst 1, 1) := by decide +kernel
theorem dL_firstBy_21 : decode mL_firstBy.2.1 21 = .ok (.goto 4, 3) := by decide +kernel
theorem dL_firstBy_24 : decode mL_firstBy.2.1 24 = .ok (.iconst 0, 1) := by decide +kernel
theorem dL_firstBy_25 : decode mL_firstBy.2.1 25 = .ok (.invokevirtual 114, 3) := by decide +kernel
theorem dL_firstBy_28 : decode mL_firstBy.2.1 28 = .ok (.ifCond .ne 5, 3) := by decide +kernel
theorem dL_firstBy_31 : decode mL_firstBy.2.1 31 = .ok (.iconst (-1), 1) := by decide +kernel
theorem dL_firstBy_32 : decode mL_firstBy.2.1 32 = .ok (.ireturn, 1) := by decide +kernel
theorem dL_firstBy_33 : decode mL_firstBy.2.1 33 = .ok (.aload_n 0, 1) := by decide +kernel
theorem dL_firstBy_34 : decode mL_firstBy.2.1 34 = .ok (.invokevirtual 233, 3) := by decide +kernel
theorem dL_firstBy_37 : decode mL_firstBy.2.1 37 = .ok (.iload_n 1, 1) := by decide +kernel
theorem dL_firstBy_38 : decode mL_firstBy.2.1 38 = .ok (.iload_n 2, 1) := by decide +kernel
theorem dL_firstBy_39 : decode mL_firstBy.2.1 39 = .ok (.invokevirtual 243, 3) := by decide +kernel
theorem dL_firstBy_42 : decode mL_firstBy.2.1 42 = .ok (.ireturn, 1) := by decide +kernel
theorem dL_fewestSeen_0 : decode mL_fewestSeen.2.1 0 = .ok (.aload_n 0, 1) := by decide +kernel
theorem dL_fewestSeen_1 : decode mL_fewestSeen.2.1 1 = .ok (.aload_n 0, 1) := by decide +kernel
theorem dL_fewestSeen_2 : decode mL_fewestSeen.2.1 2 = .ok (.invokevirtual 154, 3) := by decide +kernel
theorem dL_fewestSeen_5 : decode mL_fewestSeen.2.1 5 = .ok (.iconst 1, 1) := by decide +kernel
theorem dL_fewestSeen_6 : decode mL_fewestSeen.2.1 6 = .ok (.invokevirtual 114, 3) := by decide +kernel
theorem dL_fewestSeen_9 : decode mL_fewestSeen.2.1 9 = .ok (.ifCond .ne 5, 3) := by decide +kernel
theorem dL_fewestSeen_12 : decode mL_fewestSeen.2.1 12 = .ok (.iconst (-1), 1) := by decide +kernel
theorem dL_fewestSeen_13 : decode mL_fewestSeen.2.1 13 = .ok (.ireturn, 1) := by decide +kernel
theorem dL_fewestSeen_14 : decode mL_fewestSeen.2.1 14 = .ok (.iconst 0, 1) := by decide +kernel
theorem dL_fewestSeen_15 : decode mL_fewestSeen.2.1 15 = .ok (.istore_n 1, 1) := by decide +kernel
theorem dL_fewestSeen_16 : decode mL_fewestSeen.2.1 16 = .ok (.iload_n 1, 1) := by decide +kernel
theorem dL_fewestSeen_17 : decode mL_fewestSeen.2.1 17 = .ok (.bipush 6, 2) := by decide +kernel
theorem dL_fewestSeen_19 : decode mL_fewestSeen.2.1 19 = .ok (.if_icmp .gt 22, 3) := by decide +kernel
theorem dL_fewestSeen_22 : decode mL_fewestSeen.2.1 22 = .ok (.aload_n 0, 1) := by decide +kernel
theorem dL_fewestSeen_23 : decode mL_fewestSeen.2.1 23 = .ok (.invokevirtual 233, 3) := by decide +kernel
theorem dL_fewestSeen_26 : decode mL_fewestSeen.2.1 26 = .ok (.iload_n 1, 1) := by decide +kernel
theorem dL_fewestSeen_27 : decode mL_fewestSeen.2.1 27 = .ok (.invokevirtual 237, 3) := by decide +kernel
theorem dL_fewestSeen_30 : decode mL_fewestSeen.2.1 30 = .ok (.ifCond .le 5, 3) := by decide +kernel
theorem dL_fewestSeen_33 : decode mL_fewestSeen.2.1 33 = .ok (.iload_n 1, 1) := by decide +kernel
theorem dL_fewestSeen_34 : decode mL_fewestSeen.2.1 34 = .ok (.ireturn, 1) := by decide +kernel
theorem dL_fewestSeen_35 : decode mL_fewestSeen.2.1 35 = .ok (.iinc 1 1, 3) := by decide +kernel
theorem dL_fewestSeen_38 : decode mL_fewestSeen.2.1 38 = .ok (.goto (-22), 3) := by decide +kernel
theorem dL_fewestSeen_41 : decode mL_fewestSeen.2.1 41 = .ok (.bipush (-2), 2) := by decide +kernel
theorem dL_fewestSeen_43 : decode mL_fewestSeen.2.1 43 = .ok (.ireturn, 1) := by decide +kernel
def owR (ow : Nat → Nat) (X r v l : Nat) : Nat → Nat := fun z => if z = r then 15 else if z = v then 16 else if z = l then 17 else if z < X then ow z else 0
theorem owR_o {ow : Nat → Nat} {X r v l z : Nat} (h1 : z ≠ r) (h2 : z ≠ v) (h3 : z ≠ l) (h4 : z < X) : owR ow X r v l z = ow z := by unfold owR; rw [if_neg h1, if_neg h2, if_neg h3, if_pos h4]
section Rows6a
variable {V V' : Nat → Nat → Int} {σ σ' : Shp} {ow : Nat → Nat} {y : Dy} {S : PS} {kn : Bool}
theorem fx36 : ∀ x, 36 ≤ x → x ≤ 36 + 3 → fx x := fun x h1 h2 => by unfold fx; omega
theorem CW.rDd (h : CW V σ ow y S kn) : rD 36 (dRn y) (dVn y) (dLn y) 27 (dQ2 y) (dK2 y) := by
  have hL := h.cl
  obtain ⟨l1, l2, l3, l4, l5, l6, l7⟩ := hL.2.1
  refine ⟨Or.inr (by omega), hL.rg (Or.inl (by omega)) fx36, hL.rg (Or.inl (by omega)) fx36, hL.rg (Or.inl (by omega)) fx36, hL.rg (Or.inl (by omega)) fx36, hL.rg (Or.inl (by omega)) fx36, hL.rg (Or.inl (by omega)) fx27, hL.rg (Or.inl (by omega)) fx27, hL.rg (Or.inl (by omega)) fx27, ⟨?_, ?_, ?_, ?_, ?_, ?_⟩, ?_, ?_, ?_⟩ <;> exact CL.ne (ow := ow) (by omega)
/-- the rows were filled -/
theorem CW.rw {rn vn ln A B C : Nat} (h : CW V σ ow y S kn) (hd0 : 0 < tDn (psT S)) (hr : rS σ' 36 rn vn ln A B C) (hb : A ≤ 62500 ∧ B ≤ 62500 ∧ C ≤ 62500) (hd : rD 36 rn vn ln 27 (dQ2 y) (dK2 y)) (h1 : rn = dRn y ∨ sX σ ≤ rn) (h2 : vn = dVn y ∨ vn = dLn y ∨ sX σ ≤ vn) (h3 : ln = dVn y ∨ ln = dLn y ∨ sX σ ≤ ln) (he : eS σ σ' (zR 36)) (hv : ∀ b, b < sX σ → b < 36 ∨ 36 + 3 < b → b < 27 ∨ 27 + 6 < b → b ≠ dQ2 y → b ≠ dK2 y → b ≠ dRn y → b ≠ dVn y → b ≠ dLn y → V' b = V b) (hk : V' 36 0 = 1) (hR : KR V' (psT S)) : CW V' σ' (owR ow (sX σ) rn vn ln) (y.1, y.2.1, y.2.2.1, (rn, vn, ln, A, B, C), y.2.2.2.2) S true ∧ FR V V' σ σ' ow (owR ow (sX σ) rn vn ln) := by
  have hL := h.cl
  have hX := h.cs.x53
  obtain ⟨⟨n1, n2, n3, n4⟩, ⟨n5, n6, n7⟩, n8⟩ := h.cs.nm
  obtain ⟨l1, l2, l3, l4, l5, l6, l7⟩ := hL.2.1
  -- what isn't of the rows has another name
  have nr : ∀ {b : Nat}, b < sX σ → ow b ≠ 15 → ow b ≠ 16 → ow b ≠ 17 → owR ow (sX σ) rn vn ln b = ow b := fun {b} hb q1 q2 q3 => by
    have m1 : b ≠ dRn y := CL.ne (ow := ow) (by rw [l5]; exact q1)
    have m2 : b ≠ dVn y := CL.ne (ow := ow) (by rw [l6]; exact q2)
    have m3 : b ≠ dLn y := CL.ne (ow := ow) (by rw [l7]; exact q3)
    refine owR_o ?_ ?_ ?_ hb
    · rcases h1 with e | e
      · rw [e]; exact m1
      · omega
    · rcases h2 with e | e | e
      · rw [e]; exact m2
      · rw [e]; exact m3
      · omega
    · rcases h3 with e | e | e
      · rw [e]; exact m2
      · rw [e]; exact m3
      · omega
  have hv2 : ∀ {b : Nat}, b < sX σ → (ow b < 13 ∨ 17 < ow b) → (b < 36 ∨ 36 + 3 < b) → (b < 27 ∨ 27 + 6 < b) → V' b = V b := fun {b} hb q1 q2 q3 => hv b hb q2 q3 (CL.ne (ow := ow) (by omega)) (CL.ne (ow := ow) (by omega)) (CL.ne (ow := ow) (by omega)) (CL.ne (ow := ow) (by omega)) (CL.ne (ow := ow) (by omega))
  have hf : ∀ {b : Nat}, fx b → (b < 36 ∨ 36 + 3 < b) → (b < 27 ∨ 27 + 6 < b) → V' b = V b := fun {b} hb q2 q3 => hv2 (by have := fx_lt hb; omega) (by rw [hL.f hb]; omega) q2 q3
  have hl : ∀ {b : Nat}, b < sX σ → ow b < 100 → (ow b < 13 ∨ 17 < ow b) → V' b = V b := fun {b} hb q1 q2 => hv2 hb q2 (hL.rg (Or.inl q1) fx36) (hL.rg (Or.inl q1) fx27)
  refine ⟨⟨CS.mk' (y := y) (y' := (y.1, y.2.1, y.2.2.1, (rn, vn, ln, A, B, C), y.2.2.2.2)) he h.cs (fun j q => by have := q.1; omega) (fun j q => by have := q.1; omega) (fun j q => hL.tn (i := 0) (b := 36) (by omega) (by unfold fx; omega) q.1) (fun j q => by have := q.1; omega) (fun j q => by have := q.1; omega) rfl ?_ ?_ hr ?_, ?_, ⟨h.cb.1, h.cb.2.1, hb⟩, h.ok, ?_, ?_, ?_⟩, ?_⟩
  · exact h.cs.s1.eS' he (fun j q => by have := q.1; omega) (fun j q => by have := q.1; omega)
  · exact h.cs.s2.eS' he (fun j q => by have := q.1; omega) (fun j q => by have := q.1; omega)
  · exact h.cs.g.eS' he (fun q => by have := q.1; omega) (fun q => by have := q.1; omega)
  · refine ⟨fun b hb => ?_, ⟨?_, ?_, ?_, ?_, ?_, ?_, ?_⟩, fun i hi => ?_⟩
    · have := hL.f hb
      rw [nr (by have := fx_lt hb; omega) (by omega) (by omega) (by omega)]; exact this
    · exact (nr n1 (by omega) (by omega) (by omega)).trans l1
    · exact (nr n2 (by omega) (by omega) (by omega)).trans l2
    · exact (nr n3 (by omega) (by omega) (by omega)).trans l3
    · exact (nr n4 (by omega) (by omega) (by omega)).trans l4
    · exact if_pos rfl
    · show owR ow (sX σ) rn vn ln vn = 16
      unfold owR; rw [if_neg (Ne.symm hd.nv), if_pos rfl]
    · show owR ow (sX σ) rn vn ln ln = 17
      unfold owR; rw [if_neg (Ne.symm hd.nl), if_neg (Ne.symm hd.vl), if_pos rfl]
    · have := hL.t hi
      exact (nr (show dT y + i < sX σ by omega) (by omega) (by omega) (by omega)).trans this
  · have e1 : V' 1 = V 1 := hf (by unfold fx; omega) (by omega) (by omega)
    have := h.cf
    unfold CF at this ⊢
    rw [e1]; exact this
  · obtain ⟨r1, r2, r3, r4, r5, r6, r7⟩ := h.cr
    refine ⟨by rw [hf (by unfold fx; omega) (by omega) (by omega)]; exact r1, r2.same (fun i hi => ?_), r3.same (fun b b1 b2 => hf (by unfold fx; omega) (by omega) (by omega)), by rw [hf (by unfold fx; omega) (by omega) (by omega)]; exact r4, by rw [hf (by unfold fx; omega) (by omega) (by omega)]; exact r5, hk, fun _ => ⟨hd0, hR⟩⟩
    have := hL.t hi
    exact hl (show dT y + i < sX σ by omega) (by omega) (by omega)
  · have hw := h.wk
    have e1 : V' 1 = V 1 := hf (by unfold fx; omega) (by omega) (by omega)
    unfold WK at hw ⊢
    rw [e1]
    rcases hw with hw | ⟨s', k, m, q1, q2, q3, q4⟩
    · exact Or.inl hw
    · refine Or.inr ⟨s', k, m, q1, q2, q3, q4.same (fun b hb => ?_)⟩
      rcases hb with hb | hb | hb
      · exact hf (by unfold fx; omega) (by omega) (by omega)
      · rw [hb]; exact hl n1 (by omega) (by omega)
      · rw [hb]; exact hl n2 (by omega) (by omega)
  · refine ⟨he.1, fun b hb ho => ?_⟩
    have hq := he.2 b hb
    have n36 : b ≠ 36 := CL.ne (ow := ow) (by rw [hL.f (b := 36) (by unfold fx; omega)]; omega)
    exact ⟨hv2 hb (by omega) (hL.rg (Or.inr ho) fx36) (hL.rg (Or.inr ho) fx27), nr hb (by omega) (by omega) (by omega), hq.1, hq.2.1, fun j => hq.2.2 j (fun q => n36 q.1)⟩
end Rows6a
theorem enc_lt {c : Cfg} {f g : Nat → Nat} {la : Nat} (hf : ∀ p, p < pN c → f p < Bs c) (hg : ∀ d, d < dN c → g d < Bs c) (hl : la < dN c) : encN c f g la < spc c := by
  have hB : 0 < Bs c := by unfold Bs; omega
  have h1 := pkN_lt (f := f) hf
  have h2 := pkN_lt (f := g) hg
  have h1 : pkN (Bs c) f (pN c) < wB c (pN c) := h1
  have h2 : pkN (Bs c) g (dN c) < wB c (dN c) := h2
  have h3 : wB c (pN c) * pkN (Bs c) g (dN c) + wB c (pN c) ≤ wB c (pN c) * wB c (dN c) := by rw [← Nat.mul_succ]; exact Nat.mul_le_mul_left _ h2
  have h4 : wB c (pN c + dN c) * la + wB c (pN c + dN c) ≤ wB c (pN c + dN c) * dN c := by rw [← Nat.mul_succ]; exact Nat.mul_le_mul_left _ hl
  rw [← wB_add] at h3
  unfold encN spc
  rw [Nat.mul_comm (dN c)]
  omega
theorem sc0_ok {T : TL} (h : okT T) (hd : 0 < tDn T) : okS T (sc0 T) := by
  obtain ⟨t1, t2, t3, t4, t5, t6, t7, t8, t9, t10, t11, t12⟩ := h
  refine ⟨fun d => (t8 d).1, fun d q => (t9 d q).1, Nat.pow_pos (by decide), fun _ => ?_, fun q => by omega⟩
  exact enc_lt (c := cfS T (sc0 T)) (fun p _ => Nat.lt_succ_of_le (t10 p)) (fun d _ => Nat.lt_succ_of_le (t8 d).2) (t6 hd)
section Rows6
variable {G : GE} {V : Nat → Nat → Int} {σ : Shp} {K : Option AV → Mem → Prop} {ow : Nat → Nat} {y : Dy} {S : PS} {kn : Bool}
theorem wL_knownRows (h : CW V σ ow y S kn) (hd : 0 < tDn (psT S)) (hB : sX σ + 20 < BG) (hK : ∀ (V' : Nat → Nat → Int) (σ' : Shp) (ow' : Nat → Nat) (y' : Dy), CW V' σ' ow' y' S true → FR V V' σ σ' ow ow' → sX σ' ≤ sX σ + (if kn then 0 else 5) → K (some (vR 36)) (V', σ')) : Wp G 7 mL_knownRows [vR 1] (V, σ) (if kn then 0 else 5) (if kn then 0 else 190000) K := by
  have hW := h.cs
  have hT := h.tv
  have hkn := h.cr.2.2.2.2.2.1
  have hs0 := sc0_ok h.oT hd
  have hc : okC (cfS (psT S) (sc0 (psT S))) := h.oT.okC hs0
  have hsl : spc (cfS (psT S) (sc0 (psT S))) ≤ 62500 := spc_le hc
  have hsp : (sc0 (psT S)).2.2 < spc (cfS (psT S) (sc0 (psT S))) := hs0.2.2.2.1 hd
  have hw0 : HW0 V 10 (cfS (psT S) (sc0 (psT S))) := h.hh.w0 hd
  have hcost : nC (dL2 y) (spc (cfS (psT S) (sc0 (psT S)))) ≤ 2 ∧ nSl (dL2 y) (spc (cfS (psT S) (sc0 (psT S)))) ≤ 63500 := by unfold nC nSl; split <;> omega
  have hcb := h.cb.2.2
  have hL2 := hW.s2.le
  have hmx : mxQ (dL2 y) (spc (cfS (psT S) (sc0 (psT S)))) ≤ 62500 := by unfold mxQ; split <;> omega
  have hlen : (rLl (cfS (psT S) (sc0 (psT S))) (sc0 (psT S)).2.2).length ≤ 62500 := by
    have : okQ (cfS (psT S) (sc0 (psT S))) (rLl (cfS (psT S) (sc0 (psT S))) (sc0 (psT S)).2.2) := by
      have key : ∀ n, okQ (cfS (psT S) (sc0 (psT S))) (lvS (cfS (psT S) (sc0 (psT S))) (t0S (sc0 (psT S)).2.2) n).1 := fun n => by
        induction n with
        | zero => exact t0_ok hsp
        | succ n ih => exact itS_ok ih _
      exact key 6
    have := okQ_len this
    omega
  have hcost2 : ∀ M : Nat, M ≤ 1000 → rC (dRA y) M + vC (dRB y) (dRC y) (rLl (cfS (psT S) (sc0 (psT S))) (sc0 (psT S)).2.2).length ≤ 3 ∧ rW (dRA y) M + vW (dRB y) (dRC y) (rLl (cfS (psT S) (sc0 (psT S))) (sc0 (psT S)).2.2).length ≤ 126000 := fun M hM => by
    unfold rC vC rW vW
    split <;> split <;> omega
  have hc2 := hcost2 (mxQ (dL2 y) (spc (cfS (psT S) (sc0 (psT S)))) / 64 + 1) (by omega)
  refine wp_intro mL_knownRows_i.1 [some (vR 1)] rfl rfl (Nat.le_of_ble_eq_true rfl) ?_
  intro X hG F C
  have hm := C.rm
  cases kn with
  | true =>
    refine aw_aload_0 (q := 1) F dL_knownRows_0 rfl ?_
    refine av_getaE (q := 4) F fL_51 dL_knownRows_1 rfl rfl (by first | exact hW.o | exact hW.ho | exact hW.to | exact hW.s2.o | exact hW.r.o | exact hW.t.a6 | exact hW5.o | exact hW5.ho | exact hW5.to | exact hW5.s2.o | exact hW5.r.o | exact hW5.t.a6 | exact hW6.o | exact hW6.r.o) (by first | exact hW.p14 | exact hW5.p14 | exact hW6.p14) ?_
    refine av_geti (q := 7) F fL_390 dL_knownRows_4 rfl rfl (by first | exact hW.o | exact hW.ho | exact hW.to | exact hW.s2.o | exact hW.r.o | exact hW.t.a6 | exact hW5.o | exact hW5.ho | exact hW5.to | exact hW5.s2.o | exact hW5.r.o | exact hW5.t.a6 | exact hW6.o | exact hW6.r.o) ?_
    refine aw_if_ne (q := 10) (t := 68) F dL_knownRows_7 rfl (by decide) (fun c7 => ?_) (fun c7 => by rw [hkn] at c7; exact absurd c7 (by decide))
    refine aw_aload_0 (q := 69) F dL_knownRows_68 rfl ?_
    refine av_getaE (q := 72) F fL_51 dL_knownRows_69 rfl rfl (by first | exact hW.o | exact hW.ho | exact hW.to | exact hW.s2.o | exact hW.r.o | exact hW.t.a6 | exact hW5.o | exact hW5.ho | exact hW5.to | exact hW5.s2.o | exact hW5.r.o | exact hW5.t.a6 | exact hW6.o | exact hW6.r.o) (by first | exact hW.p14 | exact hW5.p14 | exact hW6.p14) ?_
    refine aw_aret F C dL_knownRows_72 rfl (Nat.le_refl _) (Nat.le_refl _) ?_
    exact hK V σ ow y h (FR.rf _ _ _) (Nat.le_add_right _ _)
  | false =>
    have C : Rx X 7 5 190000 K := C
    have hm : Rm X 7 5 190000 := hm
    have hK : ∀ (V' : Nat → Nat → Int) (σ' : Shp) (ow' : Nat → Nat) (y' : Dy), CW V' σ' ow' y' S true → FR V V' σ σ' ow ow' → sX σ' ≤ sX σ + 5 → K (some (vR 36)) (V', σ') := hK
    refine aw_aload_0 (q := 1) F dL_knownRows_0 rfl ?_
    refine av_getaE (q := 4) F fL_51 dL_knownRows_1 rfl rfl (by first | exact hW.o | exact hW.ho | exact hW.to | exact hW.s2.o | exact hW.r.o | exact hW.t.a6 | exact hW5.o | exact hW5.ho | exact hW5.to | exact hW5.s2.o | exact hW5.r.o | exact hW5.t.a6 | exact hW6.o | exact hW6.r.o) (by first | exact hW.p14 | exact hW5.p14 | exact hW6.p14) ?_
    refine av_geti (q := 7) F fL_390 dL_knownRows_4 rfl rfl (by first | exact hW.o | exact hW.ho | exact hW.to | exact hW.s2.o | exact hW.r.o | exact hW.t.a6 | exact hW5.o | exact hW5.ho | exact hW5.to | exact hW5.s2.o | exact hW5.r.o | exact hW5.t.a6 | exact hW6.o | exact hW6.r.o) ?_
    refine aw_if_ne (q := 10) (t := 68) F dL_knownRows_7 rfl (by decide) (fun c7 => by rw [hkn] at c7; exact absurd rfl c7) (fun c7 => ?_)
    refine aw_aload_0 (q := 11) F dL_knownRows_10 rfl ?_
    refine av_getaE (q := 14) F fL_45 dL_knownRows_11 rfl rfl (by first | exact hW.o | exact hW.ho | exact hW.to | exact hW.s2.o | exact hW.r.o | exact hW.t.a6 | exact hW5.o | exact hW5.ho | exact hW5.to | exact hW5.s2.o | exact hW5.r.o | exact hW5.t.a6 | exact hW6.o | exact hW6.r.o) (by first | exact hW.p13 | exact hW5.p13) ?_
    refine aw_aload_0 (q := 15) F dL_knownRows_14 rfl ?_
    refine av_getaE (q := 18) F fL_16 dL_knownRows_15 rfl rfl (by first | exact hW.o | exact hW.ho | exact hW.to | exact hW.s2.o | exact hW.r.o | exact hW.t.a6 | exact hW5.o | exact hW5.ho | exact hW5.to | exact hW5.s2.o | exact hW5.r.o | exact hW5.t.a6 | exact hW6.o | exact hW6.r.o) (by first | exact hW.p5 | exact hW5.p5) ?_
    refine aw_aload_0 (q := 19) F dL_knownRows_18 rfl ?_
    refine av_getaE (q := 22) F fL_23 dL_knownRows_19 rfl rfl (by first | exact hW.o | exact hW.ho | exact hW.to | exact hW.s2.o | exact hW.r.o | exact hW.t.a6 | exact hW5.o | exact hW5.ho | exact hW5.to | exact hW5.s2.o | exact hW5.r.o | exact hW5.t.a6 | exact hW6.o | exact hW6.r.o) (by first | exact hW.p6 | exact hW5.p6) ?_
    refine aw_aload_0 (q := 23) F dL_knownRows_22 rfl ?_
    refine av_getaE (q := 26) F fL_16 dL_knownRows_23 rfl rfl (by first | exact hW.o | exact hW.ho | exact hW.to | exact hW.s2.o | exact hW.r.o | exact hW.t.a6 | exact hW5.o | exact hW5.ho | exact hW5.to | exact hW5.s2.o | exact hW5.r.o | exact hW5.t.a6 | exact hW6.o | exact hW6.r.o) (by first | exact hW.p5 | exact hW5.p5) ?_
    refine av_callV1 (q := 29) (ci := 2) F hm mH_firstScene_i mH_firstScene_n lL_386 dL_knownRows_26 rfl rfl rfl (by first | exact hW.o | exact hW.ho | exact hW.to | exact hW.s2.o | exact hW.r.o | exact hW.t.a6 | exact hW5.o | exact hW5.ho | exact hW5.to | exact hW5.s2.o | exact hW5.r.o | exact hW5.t.a6 | exact hW6.o | exact hW6.r.o) (by decide) (by decide) (by decide) (Nat.le_of_ble_eq_true rfl) (wH_firstScene (c := cfS (psT S) (sc0 (psT S))) (f := tAt (psT S)) (g := tLd (psT S)) (la := tLa (psT S)) hW.h hW.t hc rfl hw0 hT.1.2.2.2.2.2 (h.oT.2.2.2.2.2.1 hd) (fun d q => (hT.2.1 d (Nat.lt_of_lt_of_le q h.oT.2.1)).1) (fun d q => ⟨(hT.2.1 d (Nat.lt_of_lt_of_le q h.oT.2.1)).2, Nat.lt_succ_of_le (h.oT.2.2.2.2.2.2.2.1 d).2⟩) (fun p q => ⟨(hT.2.2 p (Nat.lt_of_lt_of_le q h.oT.2.2.1)).1, Nat.lt_succ_of_le (h.oT.2.2.2.2.2.2.2.2.2.1 p)⟩) ?_)
    refine av_callV2 (q := 32) (ci := 5) F hm mS_begin_i mS_begin_n lL_200 dL_knownRows_29 rfl rfl rfl (by first | exact hW.o | exact hW.ho | exact hW.to | exact hW.s2.o | exact hW.r.o | exact hW.t.a6 | exact hW5.o | exact hW5.ho | exact hW5.to | exact hW5.s2.o | exact hW5.r.o | exact hW5.t.a6 | exact hW6.o | exact hW6.r.o) (by decide) (by omega) (by omega) (Nat.le_of_ble_eq_true rfl) (wS_begin (c := cfS (psT S) (sc0 (psT S))) (n := (sc0 (psT S)).2.2) rfl hsp hc hd (by omega) h.cb.2.1 hW.s2 hW.t (h.ta fx27) hT.1.2.1 hT.1.2.2.1 hT.1.2.2.2.1 hT.1.2.2.2.2.1 (fun v29 sg29 q29 k29 hs29 e29 f29 sq29 n29 x29 => ?_))
    obtain ⟨c5, f5⟩ := h.s2 hs29 e29 f29 n29.1 n29.2
    have hW5 := c5.cs
    have hT5 := c5.tv.2.2
    refine aw_aload_0 (q := 33) F dL_knownRows_32 rfl ?_
    refine av_getaE (q := 36) F fL_51 dL_knownRows_33 rfl rfl (by first | exact hW.o | exact hW.ho | exact hW.to | exact hW.s2.o | exact hW.r.o | exact hW.t.a6 | exact hW5.o | exact hW5.ho | exact hW5.to | exact hW5.s2.o | exact hW5.r.o | exact hW5.t.a6 | exact hW6.o | exact hW6.r.o) (by first | exact hW.p14 | exact hW5.p14 | exact hW6.p14) ?_
    refine aw_aload_0 (q := 37) F dL_knownRows_36 rfl ?_
    refine av_getaE (q := 40) F fL_45 dL_knownRows_37 rfl rfl (by first | exact hW.o | exact hW.ho | exact hW.to | exact hW.s2.o | exact hW.r.o | exact hW.t.a6 | exact hW5.o | exact hW5.ho | exact hW5.to | exact hW5.s2.o | exact hW5.r.o | exact hW5.t.a6 | exact hW6.o | exact hW6.r.o) (by first | exact hW.p13 | exact hW5.p13) ?_
    refine aw_aload_0 (q := 41) F dL_knownRows_40 rfl ?_
    refine av_getaE (q := 44) F fL_23 dL_knownRows_41 rfl rfl (by first | exact hW.o | exact hW.ho | exact hW.to | exact hW.s2.o | exact hW.r.o | exact hW.t.a6 | exact hW5.o | exact hW5.ho | exact hW5.to | exact hW5.s2.o | exact hW5.r.o | exact hW5.t.a6 | exact hW6.o | exact hW6.r.o) (by first | exact hW.p6 | exact hW5.p6) ?_
    refine aw_aload_0 (q := 45) F dL_knownRows_44 rfl ?_
    refine av_getaE (q := 48) F fL_16 dL_knownRows_45 rfl rfl (by first | exact hW.o | exact hW.ho | exact hW.to | exact hW.s2.o | exact hW.r.o | exact hW.t.a6 | exact hW5.o | exact hW5.ho | exact hW5.to | exact hW5.s2.o | exact hW5.r.o | exact hW5.t.a6 | exact hW6.o | exact hW6.r.o) (by first | exact hW.p5 | exact hW5.p5) ?_
    refine av_getaE (q := 51) F fL_151 dL_knownRows_48 rfl rfl (by first | exact hW.o | exact hW.ho | exact hW.to | exact hW.s2.o | exact hW.r.o | exact hW.t.a6 | exact hW5.o | exact hW5.ho | exact hW5.to | exact hW5.s2.o | exact hW5.r.o | exact hW5.t.a6 | exact hW6.o | exact hW6.r.o) (by first | exact hW.t.p11 | exact hW5.t.p11) ?_
    refine aw_iconst (q := 52) F dL_knownRows_51 rfl (by decide) ?_
    refine av_iaload (q := 53) F dL_knownRows_52 rfl (by first | exact hW.o | exact hW.ho | exact hW.to | exact hW.s2.o | exact hW.r.o | exact hW.t.a6 | exact hW5.o | exact hW5.ho | exact hW5.to | exact hW5.s2.o | exact hW5.r.o | exact hW5.t.a6 | exact hW6.o | exact hW6.r.o) (by omega) (by omega) ?_
    refine aw_aload_0 (q := 54) F dL_knownRows_53 rfl ?_
    refine av_getaE (q := 57) F fL_16 dL_knownRows_54 rfl rfl (by first | exact hW.o | exact hW.ho | exact hW.to | exact hW.s2.o | exact hW.r.o | exact hW.t.a6 | exact hW5.o | exact hW5.ho | exact hW5.to | exact hW5.s2.o | exact hW5.r.o | exact hW5.t.a6 | exact hW6.o | exact hW6.r.o) (by first | exact hW.p5 | exact hW5.p5) ?_
    refine av_getaE (q := 60) F fL_151 dL_knownRows_57 rfl rfl (by first | exact hW.o | exact hW.ho | exact hW.to | exact hW.s2.o | exact hW.r.o | exact hW.t.a6 | exact hW5.o | exact hW5.ho | exact hW5.to | exact hW5.s2.o | exact hW5.r.o | exact hW5.t.a6 | exact hW6.o | exact hW6.r.o) (by first | exact hW.t.p11 | exact hW5.t.p11) ?_
    refine aw_iconst (q := 61) F dL_knownRows_60 rfl (by decide) ?_
    refine av_iaload (q := 62) F dL_knownRows_61 rfl (by first | exact hW.o | exact hW.ho | exact hW.to | exact hW.s2.o | exact hW.r.o | exact hW.t.a6 | exact hW5.o | exact hW5.ho | exact hW5.to | exact hW5.s2.o | exact hW5.r.o | exact hW5.t.a6 | exact hW6.o | exact hW6.r.o) (by omega) (by omega) ?_
    refine av_callV2 (q := 65) (ci := 2) F hm mH_placingsFor_i mH_placingsFor_n lL_397 dL_knownRows_62 rfl rfl rfl (by first | exact hW.o | exact hW.ho | exact hW.to | exact hW.s2.o | exact hW.r.o | exact hW.t.a6 | exact hW5.o | exact hW5.ho | exact hW5.to | exact hW5.s2.o | exact hW5.r.o | exact hW5.t.a6 | exact hW6.o | exact hW6.r.o) (by decide) (by omega) (by omega) (Nat.le_of_ble_eq_true rfl) (wH_placingsFor hW5.h c5.hh ?_)
    refine av_callV2 (q := 68) (ci := 4) F hm mR_fill_i mR_fill_n lL_400 dL_knownRows_65 rfl rfl rfl (by first | exact hW.o | exact hW.ho | exact hW.to | exact hW.s2.o | exact hW.r.o | exact hW.t.a6 | exact hW5.o | exact hW5.ho | exact hW5.to | exact hW5.s2.o | exact hW5.r.o | exact hW5.t.a6 | exact hW6.o | exact hW6.r.o) (by decide) (by omega) (by omega) (Nat.le_of_ble_eq_true rfl) (wR_fill (A := dRA y) (B := dRB y) (C0 := dRC y) (rn := dRn y) (vn := dVn y) (ln := dLn y) (P := siP (psT S)) (c := cfS (psT S) (sc0 (psT S))) (m := (sc0 (psT S)).2.2) (by show _ = ((bsum (fitN (cfS (psT S) (sc0 (psT S))) (tSi (psT S) 0) (tSi (psT S) 1)) (wB (cfS (psT S) (sc0 (psT S))) (tPn (psT S))) : Nat) : Int); rw [← (hT5 0 (by decide)).2.2.2, ← (hT5 1 (by decide)).2.2.2]; rfl) (bs25 hc _) hs29 sq29 hW5.r c5.rDd c5.cb.2.2 (by omega) (fun v65 sg65 rn65 vn65 ln65 a65 b65 c65 hr65 hb65 hd65 hx65 hy65 hz65 e65 x65 f65 k65 ka65 kb65 => ?_))
    obtain ⟨c6, f6⟩ := c5.rw hd hr65 hb65 hd65 hx65 hy65 hz65 e65 f65 k65 ⟨ka65, kb65⟩
    have hW6 := c6.cs
    refine aw_aload_0 (q := 69) F dL_knownRows_68 rfl ?_
    refine av_getaE (q := 72) F fL_51 dL_knownRows_69 rfl rfl (by first | exact hW.o | exact hW.ho | exact hW.to | exact hW.s2.o | exact hW.r.o | exact hW.t.a6 | exact hW5.o | exact hW5.ho | exact hW5.to | exact hW5.s2.o | exact hW5.r.o | exact hW5.t.a6 | exact hW6.o | exact hW6.r.o) (by first | exact hW.p14 | exact hW5.p14 | exact hW6.p14) ?_
    refine aw_aret F C dL_knownRows_72 rfl (by omega) (by omega) ?_
    exact hK _ _ _ _ c6 (f5.tr f6) (by rw [x65, x29]; omega)
end Rows6
