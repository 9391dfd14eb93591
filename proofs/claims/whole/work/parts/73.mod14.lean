theorem dM_areThere_0 : decode mM_areThere.2.1 0 = .ok (.iconst 0, 1) := by decide +kernel
theorem dM_areThere_1 : decode mM_areThere.2.1 1 = .ok (.istore_n 2, 1) := by decide +kernel
theorem dM_areThere_2 : decode mM_areThere.2.1 2 = .ok (.iload_n 2, 1) := by decide +kernel
theorem dM_areThere_3 : decode mM_areThere.2.1 3 = .ok (.aload_n 0, 1) := by decide +kernel
theorem dM_areThere_4 : decode mM_areThere.2.1 4 = .ok (.getfield 281, 3) := by decide +kernel
theorem dM_areThere_7 : decode mM_areThere.2.1 7 = .ok (.getfield 253, 3) := by decide +kernel
theorem dM_areThere_10 : decode mM_areThere.2.1 10 = .ok (.if_icmp .ge 51, 3) := by decide +kernel
theorem dM_areThere_13 : decode mM_areThere.2.1 13 = .ok (.aload_n 0, 1) := by decide +kernel
theorem dM_areThere_14 : decode mM_areThere.2.1 14 = .ok (.getfield 281, 3) := by decide +kernel
theorem dM_areThere_17 : decode mM_areThere.2.1 17 = .ok (.getfield 268, 3) := by decide +kernel
theorem dM_areThere_20 : decode mM_areThere.2.1 20 = .ok (.iconst 2, 1) := by decide +kernel
theorem dM_areThere_21 : decode mM_areThere.2.1 21 = .ok (.iload_n 1, 1) := by decide +kernel
theorem dM_areThere_22 : decode mM_areThere.2.1 22 = .ok (.imul, 1) := by decide +kernel
theorem dM_areThere_23 : decode mM_areThere.2.1 23 = .ok (.iload_n 2, 1) := by decide +kernel
theorem dM_areThere_24 : decode mM_areThere.2.1 24 = .ok (.iadd, 1) := by decide +kernel
theorem dM_areThere_25 : decode mM_areThere.2.1 25 = .ok (.iaload, 1) := by decide +kernel
theorem dM_areThere_26 : decode mM_areThere.2.1 26 = .ok (.bipush (-2), 2) := by decide +kernel
theorem dM_areThere_28 : decode mM_areThere.2.1 28 = .ok (.if_icmp .eq 27, 3) := by decide +kernel
theorem dM_areThere_31 : decode mM_areThere.2.1 31 = .ok (.aload_n 0, 1) := by decide +kernel
theorem dM_areThere_32 : decode mM_areThere.2.1 32 = .ok (.getfield 21, 3) := by decide +kernel
theorem dM_areThere_35 : decode mM_areThere.2.1 35 = .ok (.iload_n 2, 1) := by decide +kernel
theorem dM_areThere_36 : decode mM_areThere.2.1 36 = .ok (.iaload, 1) := by decide +kernel
theorem dM_areThere_37 : decode mM_areThere.2.1 37 = .ok (.aload_n 0, 1) := by decide +kernel
theorem dM_areThere_38 : decode mM_areThere.2.1 38 = .ok (.getfield 281, 3) := by decide +kernel
theorem dM_areThere_41 : decode mM_areThere.2.1 41 = .ok (.getfield 268, 3) := by decide +kernel
theorem dM_areThere_44 : decode mM_areThere.2.1 44 = .ok (.iconst 2, 1) := by decide +kernel
theorem dM_areThere_45 : decode mM_areThere.2.1 45 = .ok (.iload_n 1, 1) := by decide +kernel
theorem dM_areThere_46 : decode mM_areThere.2.1 46 = .ok (.imul, 1) := by decide +kernel
theorem dM_areThere_47 : decode mM_areThere.2.1 47 = .ok (.iload_n 2, 1) := by decide +kernel
theorem dM_areThere_48 : decode mM_areThere.2.1 48 = .ok (.iadd, 1) := by decide +kernel
theorem dM_areThere_49 : decode mM_areThere.2.1 49 = .ok (.iaload, 1) := by decide +kernel
theorem dM_areThere_50 : decode mM_areThere.2.1 50 = .ok (.if_icmp .eq 5, 3) := by decide +kernel
theorem dM_areThere_53 : decode mM_areThere.2.1 53 = .ok (.iconst 0, 1) := by decide +kernel
theorem dM_areThere_54 : decode mM_areThere.2.1 54 = .ok (.ireturn, 1) := by decide +kernel
theorem dM_areThere_55 : decode mM_areThere.2.1 55 = .ok (.iinc 2 1, 3) := by decide +kernel
theorem dM_areThere_58 : decode mM_areThere.2.1 58 = .ok (.goto (-56), 3) := by decide +kernel
theorem dM_areThere_61 : decode mM_areThere.2.1 61 = .ok (.iconst 1, 1) := by decide +kernel
theorem dM_areThere_62 : decode mM_areThere.2.1 62 = .ok (.ireturn, 1) := by decide +kernel
theorem dM_isDone_0 : decode mM_isDone.2.1 0 = .ok (.iload_n 1, 1) := by decide +kernel
theorem dM_isDone_1 : decode mM_isDone.2.1 1 = .ok (.iconst 2, 1) := by decide +kernel
theorem dM_isDone_2 : decode mM_isDone.2.1 2 = .ok (.if_icmp .ne 22, 3) := by decide +kernel
theorem dM_isDone_5 : decode mM_isDone.2.1 5 = .ok (.aload_n 0, 1) := by decide +kernel
theorem dM_isDone_6 : decode mM_isDone.2.1 6 = .ok (.invokevirtual 299, 3) := by decide +kernel
theorem dM_isDone_9 : decode mM_isDone.2.1 9 = .ok (.aload_n 0, 1) := by decide +kernel
theorem dM_isDone_10 : decode mM_isDone.2.1 10 = .ok (.invokevirtual 308, 3) := by decide +kernel
theorem dM_isDone_13 : decode mM_isDone.2.1 13 = .ok (.if_icmp .ne 7, 3) := by decide +kernel
theorem dM_isDone_16 : decode mM_isDone.2.1 16 = .ok (.iconst 1, 1) := by decide +kernel
theorem dM_isDone_17 : decode mM_isDone.2.1 17 = .ok (.goto 20, 3) := by decide +kernel
theorem dM_isDone_20 : decode mM_isDone.2.1 20 = .ok (.iconst 0, 1) := by decide +kernel
theorem dM_isDone_21 : decode mM_isDone.2.1 21 = .ok (.goto 16, 3) := by decide +kernel
theorem dM_isDone_24 : decode mM_isDone.2.1 24 = .ok (.aload_n 0, 1) := by decide +kernel
theorem dM_isDone_25 : decode mM_isDone.2.1 25 = .ok (.iload_n 1, 1) := by decide +kernel
theorem dM_isDone_26 : decode mM_isDone.2.1 26 = .ok (.ifCond .ne 7, 3) := by decide +kernel
theorem dM_isDone_29 : decode mM_isDone.2.1 29 = .ok (.iconst 1, 1) := by decide +kernel
theorem dM_isDone_30 : decode mM_isDone.2.1 30 = .ok (.goto 4, 3) := by decide +kernel
theorem dM_isDone_33 : decode mM_isDone.2.1 33 = .ok (.iconst 0, 1) := by decide +kernel
theorem dM_isDone_34 : decode mM_isDone.2.1 34 = .ok (.invokevirtual 370, 3) := by decide +kernel
theorem dM_isDone_37 : decode mM_isDone.2.1 37 = .ok (.ireturn, 1) := by decide +kernel
theorem dM_refusesWhat_0 : decode mM_refusesWhat.2.1 0 = .ok (.aload_n 0, 1) := by decide +kernel
theorem dM_refusesWhat_1 : decode mM_refusesWhat.2.1 1 = .ok (.getfield 281, 3) := by decide +kernel
theorem dM_refusesWhat_4 : decode mM_refusesWhat.2.1 4 = .ok (.ifnonnull 7, 3) := by decide +kernel
theorem dM_refusesWhat_7 : decode mM_refusesWhat.2.1 7 = .ok (.iconst 1, 1) := by decide +kernel
theorem dM_refusesWhat_8 : decode mM_refusesWhat.2.1 8 = .ok (.goto 17, 3) := by decide +kernel
theorem dM_refusesWhat_11 : decode mM_refusesWhat.2.1 11 = .ok (.iload_n 1, 1) := by decide +kernel
theorem dM_refusesWhat_12 : decode mM_refusesWhat.2.1 12 = .ok (.iconst 0, 1) := by decide +kernel
theorem dM_refusesWhat_13 : decode mM_refusesWhat.2.1 13 = .ok (.iconst 2, 1) := by decide +kernel
theorem dM_refusesWhat_14 : decode mM_refusesWhat.2.1 14 = .ok (.invokestatic 357, 3) := by decide +kernel
theorem dM_refusesWhat_17 : decode mM_refusesWhat.2.1 17 = .ok (.ifCond .eq 7, 3) := by decide +kernel
theorem dM_refusesWhat_20 : decode mM_refusesWhat.2.1 20 = .ok (.iconst 0, 1) := by decide +kernel
theorem dM_refusesWhat_21 : decode mM_refusesWhat.2.1 21 = .ok (.goto 4, 3) := by decide +kernel
theorem dM_refusesWhat_24 : decode mM_refusesWhat.2.1 24 = .ok (.iconst 2, 1) := by decide +kernel
theorem dM_refusesWhat_25 : decode mM_refusesWhat.2.1 25 = .ok (.ireturn, 1) := by decide +kernel
theorem dM_errandEnd_0 : decode mM_errandEnd.2.1 0 = .ok (.aload_n 0, 1) := by decide +kernel
theorem dM_errandEnd_1 : decode mM_errandEnd.2.1 1 = .ok (.invokevirtual 373, 3) := by decide +kernel
theorem dM_errandEnd_4 : decode mM_errandEnd.2.1 4 = .ok (.iconst 0, 1) := by decide +kernel
theorem dM_errandEnd_5 : decode mM_errandEnd.2.1 5 = .ok (.istore_n 2, 1) := by decide +kernel
theorem dM_errandEnd_6 : decode mM_errandEnd.2.1 6 = .ok (.iload_n 2, 1) := by decide +kernel
theorem dM_errandEnd_7 : decode mM_errandEnd.2.1 7 = .ok (.aload_n 0, 1) := by decide +kernel
theorem dM_errandEnd_8 : decode mM_errandEnd.2.1 8 = .ok (.getfield 333, 3) := by decide +kernel
theorem dM_errandEnd_11 : decode mM_errandEnd.2.1 11 = .ok (.if_icmp .ge 34, 3) := by decide +kernel
theorem dM_errandEnd_14 : decode mM_errandEnd.2.1 14 = .ok (.aload_n 0, 1) := by decide +kernel
theorem dM_errandEnd_15 : decode mM_errandEnd.2.1 15 = .ok (.aload_n 0, 1) := by decide +kernel
theorem dM_errandEnd_16 : decode mM_errandEnd.2.1 16 = .ok (.getfield 37, 3) := by decide +kernel
theorem dM_errandEnd_19 : decode mM_errandEnd.2.1 19 = .ok (.iload_n 2, 1) := by decide +kernel
theorem dM_errandEnd_20 : decode mM_errandEnd.2.1 20 = .ok (.iaload, 1) := by decide +kernel
theorem dM_errandEnd_21 : decode mM_errandEnd.2.1 21 = .ok (.invokevirtual 339, 3) := by decide +kernel
theorem dM_errandEnd_24 : decode mM_errandEnd.2.1 24 = .ok (.aload_n 0, 1) := by decide +kernel
theorem dM_errandEnd_25 : decode mM_errandEnd.2.1 25 = .ok (.iload_n 1, 1) := by decide +kernel
theorem dM_errandEnd_26 : decode mM_errandEnd.2.1 26 = .ok (.invokevirtual 376, 3) := by decide +kernel
theorem dM_errandEnd_29 : decode mM_errandEnd.2.1 29 = .ok (.ifCond .eq 10, 3) := by decide +kernel
theorem dM_errandEnd_32 : decode mM_errandEnd.2.1 32 = .ok (.aload_n 0, 1) := by decide +kernel
theorem dM_errandEnd_33 : decode mM_errandEnd.2.1 33 = .ok (.getfield 37, 3) := by decide +kernel
theorem dM_errandEnd_36 : decode mM_errandEnd.2.1 36 = .ok (.iload_n 2, 1) := by decide +kernel
theorem dM_errandEnd_37 : decode mM_errandEnd.2.1 37 = .ok (.iaload, 1) := by decide +kernel
theorem dM_errandEnd_38 : decode mM_errandEnd.2.1 38 = .ok (.ireturn, 1) := by decide +kernel
theorem dM_errandEnd_39 : decode mM_errandEnd.2.1 39 = .ok (.iinc 2 1, 3) := by decide +kernel
theorem dM_errandEnd_42 : decode mM_errandEnd.2.1 42 = .ok (.goto (-36), 3) := by decide +kernel
theorem dM_errandEnd_45 : decode mM_errandEnd.2.1 45 = .ok (.iconst (-1), 1) := by decide +kernel
theorem dM_errandEnd_46 : decode mM_errandEnd.2.1 46 = .ok (.ireturn, 1) := by decide +kernel
theorem dM_errand_0 : decode mM_errand.2.1 0 = .ok (.aload_n 0, 1) := by decide +kernel
theorem dM_errand_1 : decode mM_errand.2.1 1 = .ok (.iconst 0, 1) := by decide +kernel
theorem dM_errand_2 : decode mM_errand.2.1 2 = .ok (.putfield 46, 3) := by decide +kernel
theorem dM_errand_5 : decode mM_errand.2.1 5 = .ok (.aload_n 0, 1) := by decide +kernel
theorem dM_errand_6 : decode mM_errand.2.1 6 = .ok (.iload_n 1, 1) := by decide +kernel
theorem dM_errand_7 : decode mM_errand.2.1 7 = .ok (.invokevirtual 379, 3) := by decide +kernel
theorem dM_errand_10 : decode mM_errand.2.1 10 = .ok (.istore_n 2, 1) := by decide +kernel
theorem dM_errand_11 : decode mM_errand.2.1 11 = .ok (.iload_n 2, 1) := by decide +kernel
theorem dM_errand_12 : decode mM_errand.2.1 12 = .ok (.ifCond .le 9, 3) := by decide +kernel
theorem dM_errand_15 : decode mM_errand.2.1 15 = .ok (.aload_n 0, 1) := by decide +kernel
theorem dM_errand_16 : decode mM_errand.2.1 16 = .ok (.iload_n 2, 1) := by decide +kernel
theorem dM_errand_17 : decode mM_errand.2.1 17 = .ok (.invokevirtual 52, 3) := by decide +kernel
theorem dM_errand_20 : decode mM_errand.2.1 20 = .ok (.ireturn, 1) := by decide +kernel
theorem dM_errand_21 : decode mM_errand.2.1 21 = .ok (.aload_n 0, 1) := by decide +kernel
theorem dM_errand_22 : decode mM_errand.2.1 22 = .ok (.iload_n 1, 1) := by decide +kernel
theorem dM_errand_23 : decode mM_errand.2.1 23 = .ok (.invokevirtual 382, 3) := by decide +kernel
theorem dM_errand_26 : decode mM_errand.2.1 26 = .ok (.istore_n 3, 1) := by decide +kernel
theorem dM_errand_27 : decode mM_errand.2.1 27 = .ok (.aload_n 0, 1) := by decide +kernel
theorem dM_errand_28 : decode mM_errand.2.1 28 = .ok (.iload_n 3, 1) := by decide +kernel
theorem dM_errand_29 : decode mM_errand.2.1 29 = .ok (.iconst (-1), 1) := by decide +kernel
theorem dM_errand_30 : decode mM_errand.2.1 30 = .ok (.if_icmp .ne 8, 3) := by decide +kernel
theorem dM_errand_33 : decode mM_errand.2.1 33 = .ok (.bipush (-2), 2) := by decide +kernel
theorem dM_errand_35 : decode mM_errand.2.1 35 = .ok (.goto 9, 3) := by decide +kernel
theorem dM_errand_38 : decode mM_errand.2.1 38 = .ok (.aload_n 0, 1) := by decide +kernel
theorem dM_errand_39 : decode mM_errand.2.1 39 = .ok (.getfield 31, 3) := by decide +kernel
theorem dM_errand_42 : decode mM_errand.2.1 42 = .ok (.iload_n 3, 1) := by decide +kernel
theorem dM_errand_43 : decode mM_errand.2.1 43 = .ok (.iaload, 1) := by decide +kernel
theorem dM_errand_44 : decode mM_errand.2.1 44 = .ok (.invokevirtual 56, 3) := by decide +kernel
theorem dM_errand_47 : decode mM_errand.2.1 47 = .ok (.ireturn, 1) := by decide +kernel
-- the reference's world
theorem AR.same {f g : Nat → Int} {c : Cfg} {n : Nat} (h : AR f c n) (e : ∀ k, k < 12 → g k = f k) : AR g c n := by
  obtain ⟨b1, b2, b3, b4, b5⟩ := h
  exact ⟨fun p hp => (e p (by omega)).trans (b1 p hp), fun d hd => (e _ (by omega)).trans (b2 d hd), (e 6 (by omega)).trans b3, fun d hd => (e _ (by omega)).trans (b4 d hd), (e 11 (by omega)).trans b5⟩
def MWf (V : Nat → Nat → Int) (S : PS) : Prop := V 53 1 = psR S ∧ V 53 2 = (if psR S = 4 then psL S else -1) ∧ V 53 6 = psN S ∧ V 53 12 = psF S ∧ V 53 19 = (psP S).length ∧ V 53 20 = (psI S).length
def MWa (V : Nat → Nat → Int) (l : Nat) (S : PS) : Prop := AR (V 55) (psC S) (psA S) ∧ LV V l (psT S) ∧ (∀ i s, (psP S)[i]? = some s → AR (fun k => V 57 (12 * i + k)) (cfS (psT S) s) s.2.2) ∧ ∀ i s, (psI S)[i]? = some s → AR (fun k => V 58 (12 * i + k)) (cfS (psT S) s) s.2.2
def MWq (V : Nat → Nat → Int) (S : PS) : Prop := V 53 26 = 0 ∨ (V 53 26 = 1 ∧ RQ V (psC S) (fuS (psC S) (psA S)).1)
def MW (V : Nat → Nat → Int) (σ : Shp) (l : Nat) (S : PS) : Prop := okP S ∧ moS σ l ∧ (tDn (psT S) = 0 → l = 0) ∧ (0 < tDn (psT S) → laS σ l ∧ 64 ≤ l ∧ MWa V l S) ∧ (∀ i, i < psN S → V 54 i = psB S i) ∧ MWf V S ∧ MWq V S
def MR (V V' : Nat → Nat → Int) : Prop := ∀ b, b < 53 ∨ 63 < b → V' b = V b
def MK (K : Option AV → Mem → Prop) (V : Nat → Nat → Int) (σ : Shp) (l : Nat) (S : PS) (r : Option AV) : Prop := ∀ V', MW V' σ l S → MR V V' → K r (V', σ)
section MWs
variable {V V' V2 : Nat → Nat → Int} {σ : Shp} {l : Nat} {S : PS} {K : Option AV → Mem → Prop} {r : Option AV}
theorem MW.ok (h : MW V σ l S) : okP S := h.1
theorem MW.mo (h : MW V σ l S) : moS σ l := h.2.1
theorem MW.hc (h : MW V σ l S) : okC (psC S) := h.1.2.2.1.okC h.1.2.2.2.1
theorem MW.hn (h : MW V σ l S) (hd : 0 < tDn (psT S)) : psA S < spc (psC S) := h.1.2.2.2.1.2.2.2.1 hd
theorem MW.la (h : MW V σ l S) (hd : 0 < tDn (psT S)) : laS σ l := (h.2.2.2.1 hd).1
theorem MW.h64 (h : MW V σ l S) (hd : 0 < tDn (psT S)) : 64 ≤ l := (h.2.2.2.1 hd).2.1
theorem MW.wa (h : MW V σ l S) (hd : 0 < tDn (psT S)) : MWa V l S := (h.2.2.2.1 hd).2.2
theorem MW.lv (h : MW V σ l S) (hd : 0 < tDn (psT S)) : LV V l (psT S) := (h.wa hd).2.1
theorem MW.lc (h : MW V σ l S) (hd : 0 < tDn (psT S)) : LC V l (psC S) := by
  obtain ⟨-, v1, v2, v3, -, v5, -⟩ := (h.lv hd).1
  exact ⟨v1, v2, v3, v5⟩
theorem MW.pos (h : MW V σ l S) (hl : l ≠ 0) : 0 < tDn (psT S) := Nat.pos_of_ne_zero fun e => hl (h.2.2.1 e)
theorem MW.zer (h : MW V σ l S) (hl : l = 0) : tDn (psT S) = 0 := Classical.byContradiction fun e => by
  have := h.h64 (Nat.pos_of_ne_zero e)
  omega
theorem MW.q (h : MW V σ l S) : MWq V S := h.2.2.2.2.2.2
theorem MW.f (h : MW V σ l S) : MWf V S := h.2.2.2.2.2.1
theorem MW.dr (h : MW V σ l S) : l ≠ 0 → sO σ l 8 ∧ V l 1 = tDn (psT S) := fun hl => ⟨(h.la (h.pos hl)).o, (h.lc (h.pos hl)).1⟩
theorem MW.pr (h : MW V σ l S) : l ≠ 0 → sO σ l 8 ∧ V l 2 = tPn (psT S) := fun hl => ⟨(h.la (h.pos hl)).o, (h.lc (h.pos hl)).2.1⟩
theorem MW.pz (h : MW V σ l S) (hl : l = 0) : tPn (psT S) = 0 := (h.1.2.2.1.2.2.2.2.2.2.1 (h.zer hl)).2.1
theorem MF.mr (h : MF V V') : MR V V' := fun b hb => h.1 b (by omega) (by rcases hb with q | q; exact scr_lo (by omega); exact scr_hi (by omega))
theorem MR.tr (h : MR V V') (g : MR V' V2) : MR V V2 := fun b hb => (g b hb).trans (h b hb)
theorem LV.same {T : TL} (h : LV V l T) (e : ∀ i, i ≤ 5 → V' (l + i) = V (l + i)) : LV V' l T := by
  unfold LV
  rw [show V' l = V l from e 0 (by omega), e 1 (by omega), e 2 (by omega), e 3 (by omega), e 4 (by omega), e 5 (by omega)]
  exact h
theorem MWa.same (h : MWa V l S) (e5 : V' 55 = V 55) (e7 : V' 57 = V 57) (e8 : V' 58 = V 58) (e : ∀ i, i ≤ 5 → V' (l + i) = V (l + i)) : MWa V' l S := by
  obtain ⟨h1, h2, h3, h4⟩ := h
  exact ⟨by rw [e5]; exact h1, h2.same e, by rw [e7]; exact h3, by rw [e8]; exact h4⟩
theorem MWf.same (h : MWf V S) (e : ∀ j, j < 25 → V' 53 j = V 53 j) : MWf V' S := by
  unfold MWf
  rw [e 1 (by decide), e 2 (by decide), e 6 (by decide), e 12 (by decide), e 19 (by decide), e 20 (by decide)]
  exact h
theorem MW.mf (h : MW V σ l S) (f : MF V V') (hq : MWq V' S) : MW V' σ l S := by
  obtain ⟨h1, h2, h3, h4, h5, h6, -⟩ := h
  refine ⟨h1, h2, h3, fun hd => ?_, ?_, h6.same f.2, hq⟩
  · obtain ⟨a1, a2, a3⟩ := h4 hd
    exact ⟨a1, a2, a3.same (f.1 55 (by decide) rfl) (f.1 57 (by decide) rfl) (f.1 58 (by decide) rfl) (fun i hi => f.1 _ (by omega) (scr_hi (by omega)))⟩
  · rw [f.1 54 (by decide) rfl]; exact h5
theorem MWq.fl (h : MWq V S) (e1 : V' 53 26 = V 53 26) (e2 : V' 53 25 = V 53 25) (e3 : V' 59 = V 59) (e4 : V' 60 = V 60) (e5 : V' 61 = V 61) : MWq V' S := by
  unfold MWq
  rw [e1]
  rcases h with h | ⟨h, g⟩
  · exact Or.inl h
  · exact Or.inr ⟨h, g.same e2 e3 e4 e5⟩
/-- thrown is no part of the world -/
theorem MW.th {z : Int} (h : MW V σ l S) : MW (up2 V 53 0 z) σ l S := by
  have e : ∀ b, b ≠ 53 → up2 V 53 0 z b = V b := fun b hb => up2_nea _ _ hb
  have e' : ∀ j, j ≠ 0 → up2 V 53 0 z 53 j = V 53 j := fun j hj => up2_nek _ _ hj
  obtain ⟨h1, h2, h3, h4, h5, h6, h7⟩ := h
  refine ⟨h1, h2, h3, fun hd => ?_, ?_, ?_, h7.fl (e' _ (by decide)) (e' _ (by decide)) (e _ (by decide)) (e _ (by decide)) (e _ (by decide))⟩
  · obtain ⟨a1, a2, a3⟩ := h4 hd
    exact ⟨a1, a2, a3.same (e _ (by decide)) (e _ (by decide)) (e _ (by decide)) (fun i hi => e _ (by omega))⟩
  · rw [e 54 (by decide)]; exact h5
  · unfold MWf
    rw [e' 1 (by decide), e' 2 (by decide), e' 6 (by decide), e' 12 (by decide), e' 19 (by decide), e' 20 (by decide)]
    exact h6
/-- trouble is set -/
theorem MW.rs {z : Int} (h : MW V σ l S) (hz : z ≠ 4) : MW (up2 (up2 V 53 1 z) 53 2 (-1)) σ l (setR S z) := by
  have e : ∀ b, b ≠ 53 → up2 (up2 V 53 1 z) 53 2 (-1) b = V b := fun b hb => by rw [up2_nea _ _ hb, up2_nea _ _ hb]
  have e' : ∀ j, j ≠ 1 → j ≠ 2 → up2 (up2 V 53 1 z) 53 2 (-1) 53 j = V 53 j := fun j h1 h2 => by rw [up2_nek _ _ h2, up2_nek _ _ h1]
  obtain ⟨h1, h2, h3, h4, h5, h6, h7⟩ := h
  refine ⟨h1, h2, h3, fun hd => ?_, ?_, ?_, MWq.fl (S := S) h7 (e' _ (by decide) (by decide)) (e' _ (by decide) (by decide)) (e _ (by decide)) (e _ (by decide)) (e _ (by decide))⟩
  · obtain ⟨a1, a2, a3⟩ := h4 hd
    exact ⟨a1, a2, MWa.same (S := S) a3 (e _ (by decide)) (e _ (by decide)) (e _ (by decide)) (fun i hi => e _ (by omega))⟩
  · rw [e 54 (by decide)]; exact h5
  · unfold MWf
    rw [e' 6 (by decide) (by decide), e' 12 (by decide) (by decide), e' 19 (by decide) (by decide), e' 20 (by decide) (by decide), up2_same, up2_nek _ _ (by decide), up2_same]
    exact ⟨rfl, (if_neg hz).symm, h6.2.2⟩
theorem MR.f53 {k : Nat} {z : Int} (h : MR V V') : MR V (up2 V' 53 k z) := fun b hb => by rw [up2_nea _ _ (by omega)]; exact h b hb
theorem MK.fin {z : Int} (hK : MK K V σ l (setR S z) r) (h : MW V σ l S) (hz : z ≠ 4) (f : MF (up2 V 53 0 0) V2) (hq : MWq V2 S) : K r (up2 (up2 V2 53 1 z) 53 2 (-1), σ) :=
  hK _ ((h.th.mf f hq).rs hz) (((MR.f53 (V := V) (fun _ _ => rfl)).tr f.mr).f53.f53)
theorem MK.fin0 {z : Int} (hK : MK K V σ l (setR S z) r) (h : MW V σ l S) (hz : z ≠ 4) : K r (up2 (up2 (up2 V 53 0 0) 53 1 z) 53 2 (-1), σ) := MK.fin hK h hz (MF.rf _) (h.th).q
end MWs
-- who is where he must be
theorem fit_pl {c : Cfg} {f s : Int} {n : Nat} (hc : okC c) : fitN c f s (n % wB c (pN c)) = true ↔ (0 < pN c → f = -2 ∨ (pl c n 0 : Int) = f) ∧ (1 < pN c → s = -2 ∨ (pl c n 1 : Int) = s) := by
  have hp : pN c ≤ 2 := hc.2.1
  have hB := Bs_pos c
  have e0 : 0 < pN c → n % wB c (pN c) % Bs c = pl c n 0 := fun h => by
    show n % Bs c ^ pN c % Bs c = n / Bs c ^ 0 % Bs c
    rw [Nat.pow_zero, Nat.div_one]
    exact Nat.mod_mod_of_dvd _ ⟨Bs c ^ (pN c - 1), by rw [← Nat.pow_succ']; congr 1; omega⟩
  have e1 : 1 < pN c → n % wB c (pN c) / Bs c = pl c n 1 := fun h => by
    show n % Bs c ^ pN c / Bs c = n / Bs c ^ 1 % Bs c
    rw [show pN c = 2 by omega, Nat.pow_one, Nat.pow_two, Nat.mod_mul_right_div_self]
  unfold fitN
  rw [Bool.and_eq_true, Bool.or_eq_true, Bool.or_eq_true, Bool.or_eq_true, Bool.or_eq_true, decide_eq_true_eq, decide_eq_true_eq, decide_eq_true_eq, decide_eq_true_eq, decide_eq_true_eq, decide_eq_true_eq]
  constructor
  · rintro ⟨a, b⟩
    refine ⟨fun h => ?_, fun h => ?_⟩
    · rw [e0 h] at a
      rcases a with (a | a) | a
      · exact absurd a (by omega)
      · exact Or.inl a
      · exact Or.inr a
    · rw [e1 h] at b
      rcases b with (b | b) | b
      · exact absurd b (by omega)
      · exact Or.inl b
      · exact Or.inr b
  · rintro ⟨a, b⟩
    refine ⟨?_, ?_⟩
    · by_cases h : 0 < pN c
      · rw [e0 h]
        rcases a h with q | q
        · exact Or.inl (Or.inr q)
        · exact Or.inr q
      · exact Or.inl (Or.inl (by omega))
    · by_cases h : 1 < pN c
      · rw [e1 h]
        rcases b h with q | q
        · exact Or.inl (Or.inr q)
        · exact Or.inr q
      · exact Or.inl (Or.inl (by omega))
theorem fitP_iff {c : Cfg} {f s : Int} {q : Nat × Nat} (hc : okC c) : fitP c (bsum (fitN c f s) (wB c (pN c))) q = true ↔ (0 < pN c → f = -2 ∨ (pl c q.1 0 : Int) = f) ∧ (1 < pN c → s = -2 ∨ (pl c q.1 1 : Int) = s) := by
  unfold fitP
  rw [bsum_tb, decide_eq_true (Nat.mod_lt _ (wB_pos c _)), Bool.true_and]
  exact fit_pl hc
section Mod14
variable {G : GE} {V : Nat → Nat → Int} {σ : Shp} {K : Option AV → Mem → Prop} {l : Nat} {c : Cfg} {n : Nat} {S : PS}
theorem wM_reachesNow (h : MW V σ l S) (hd : 0 < tDn (psT S)) (hK : ∀ V' m, MF V V' → V' 53 26 = 1 → AR (V' 56) (psC S) m → m < spc (psC S) → RQ V' (psC S) (fuS (psC S) (psA S)).1 → K none (V', σ)) : Wp G 4 mM_reachesNow [vR 53] (V, σ) 0 0 K := by
  have hM := h.mo
  have hl := h.la hd
  have hq := h.q
  have h64 := h.h64 hd
  refine wp_intro mM_reachesNow_i.1 [some (vR 53)] rfl rfl (Nat.le_of_ble_eq_true rfl) ?_
  intro X hG F C
  have hm := C.rm
  refine aw_aload_0 (q := 1) F dM_reachesNow_0 rfl ?_
  refine av_callV0 (q := 4) (ci := 9) F hm mM_works_i mM_works_n lM_348 dM_reachesNow_1 rfl rfl rfl (by first | exact hM.o | exact hl.o | exact hM.a55 | exact hM.a56 | exact hM.a59 | exact hM.a60 | exact hM.a61 | exact hM.a62 | exact hl.a4) (by decide) (Nat.le_refl _) (Nat.le_refl _) (Nat.le_of_ble_eq_true rfl) (wM_works hM (fun V2 f1 g1 => ?_))
  have hX : XF V V2 := f1
  have hA2 : AR (V2 56) (psC S) (psA S) := (h.wa hd).1.same g1
  refine aw_aload_0 (q := 5) F dM_reachesNow_4 rfl ?_
  refine av_geti (q := 8) F fM_286 dM_reachesNow_5 rfl rfl (by first | exact hM.o | exact hl.o | exact hM.a55 | exact hM.a56 | exact hM.a59 | exact hM.a60 | exact hM.a61 | exact hM.a62 | exact hl.a4) ?_
  rw [f1 53 (by decide)]
  refine aw_if_eq (q := 11) (t := 12) F dM_reachesNow_8 rfl (by decide) (fun c8 => ?_) (fun c8 => ?_)
  · refine aw_aload_0 (q := 13) F dM_reachesNow_12 rfl ?_
    refine av_callV0 (q := 16) (ci := 9) F hm mM_reaches_i mM_reaches_n lM_351 dM_reachesNow_13 rfl rfl rfl (by first | exact hM.o | exact hl.o | exact hM.a55 | exact hM.a56 | exact hM.a59 | exact hM.a60 | exact hM.a61 | exact hM.a62 | exact hl.a4) (by decide) (Nat.le_refl _) (Nat.le_refl _) (Nat.le_of_ble_eq_true rfl) (wM_reaches (h.hn hd) hM hl h64 (hX.lc h64 (h.lc hd)) hA2 h.hc (fun V3 m13 f13 o13 u13 v13 A z13 R => ?_))
    refine aw_aload_0 (q := 17) F dM_reachesNow_16 rfl ?_
    refine aw_iconst (q := 18) F dM_reachesNow_17 rfl (by decide) ?_
    refine av_putz (q := 21) F fM_286 dM_reachesNow_18 rfl rfl (wr_9_26 _) (by first | exact hM.o | exact hl.o | exact hM.a55 | exact hM.a56 | exact hM.a59 | exact hM.a60 | exact hM.a61 | exact hM.a62 | exact hl.a4) (by first | exact Or.inl rfl | exact Or.inr rfl | omega) ?_
    refine aw_vret F C dM_reachesNow_21 rfl (Nat.le_refl _) (Nat.le_refl _) ?_
    exact hK _ _ ((((MF.rf V).xf hX).tr f13).fl (by decide)) (up2_same _ _ _ _) (by rw [up2_nea _ _ (by decide)]; exact A) z13 (R.same (up2_nek _ _ (by decide)) (up2_nea _ _ (by decide)) (up2_nea _ _ (by decide)) (up2_nea _ _ (by decide)))
  · refine aw_vret F C dM_reachesNow_11 rfl (Nat.le_refl _) (Nat.le_refl _) ?_
    rcases hq with hq | ⟨hq, hR⟩
    · exact absurd hq c8
    · exact hK _ _ ((MF.rf V).xf hX) (by rw [f1 53 (by decide)]; exact hq) hA2 (h.hn hd) (hR.xf hX)
theorem wM_areThere {x : Int} {s : Nat} (hx : x = s) (hs : s < 3) (hM : moS σ l) (hl : laS σ l) (hC : LC V l c) (hA : AR (V 56) c n) (hc : okC c) {P : Nat → Int} (hP : ∀ p, p < 2 → V (l + 4) (2 * s + p) = P p) (h1 : (∀ p, p < pN c → P p = -2 ∨ (pl c n p : Int) = P p) → K (some (vI 1)) (V, σ)) (h0 : ¬ (∀ p, p < pN c → P p = -2 ∨ (pl c n p : Int) = P p) → K (some (vI 0)) (V, σ)) : Wp G 0 mM_areThere [vR 53, vI x] (V, σ) 0 0 K := by
  have h2 := hC.2.1
  have hp2 : pN c ≤ 2 := hc.2.1
  refine wp_intro mM_areThere_i.1 [some (vR 53), some (vI x), none] rfl rfl (Nat.le_of_ble_eq_true rfl) ?_
  intro X hG F C
  have hm := C.rm
  have loop : ∀ (j p : Nat), p + j = pN c → ∀ (w : Int), w = p → (∀ p', p' < p → P p' = -2 ∨ (pl c n p' : Int) = P p') → AW X 2 [some (vR 53), some (vI x), some (vI w)] [] (V, σ) 0 0 := by
    intro j
    induction j with
    | zero =>
      intro p hp w hw hI
      refine aw_iload_2 (q := 3) F dM_areThere_2 rfl ?_
      refine aw_aload_0 (q := 4) F dM_areThere_3 rfl ?_
      refine av_getaE (q := 7) F fM_281 dM_areThere_4 rfl rfl (by first | exact hM.o | exact hl.o | exact hM.a55 | exact hM.a56 | exact hM.a59 | exact hM.a60 | exact hM.a61 | exact hM.a62 | exact hl.a4) hM.p3 ?_
      refine av_geti (q := 10) F fM_253 dM_areThere_7 rfl rfl (by first | exact hM.o | exact hl.o | exact hM.a55 | exact hM.a56 | exact hM.a59 | exact hM.a60 | exact hM.a61 | exact hM.a62 | exact hl.a4) ?_
      rw [h2]
      refine aw_icmp_ge (q := 13) (t := 61) F dM_areThere_10 rfl (by decide) (fun c10 => ?_) (fun c10 => by omega)
      refine aw_iconst (q := 62) F dM_areThere_61 rfl (by decide) ?_
      refine aw_zret F C dM_areThere_62 rfl (by decide) (Nat.le_refl _) (Nat.le_refl _) ?_
      exact h1 (fun p' hp' => hI p' (by omega))
    | succ j ih =>
      intro p hp w hw hI
      have ev : V 56 w.toNat = (pl c n p : Int) := by rw [show w.toNat = p by omega]; exact ar_pl hA (by omega) (by omega)
      have eP : V (l + 4) (2 * x + w).toNat = P p := by rw [show (2 * x + w).toNat = 2 * s + p by omega]; exact hP p (by omega)
      refine aw_iload_2 (q := 3) F dM_areThere_2 rfl ?_
      refine aw_aload_0 (q := 4) F dM_areThere_3 rfl ?_
      refine av_getaE (q := 7) F fM_281 dM_areThere_4 rfl rfl (by first | exact hM.o | exact hl.o | exact hM.a55 | exact hM.a56 | exact hM.a59 | exact hM.a60 | exact hM.a61 | exact hM.a62 | exact hl.a4) hM.p3 ?_
      refine av_geti (q := 10) F fM_253 dM_areThere_7 rfl rfl (by first | exact hM.o | exact hl.o | exact hM.a55 | exact hM.a56 | exact hM.a59 | exact hM.a60 | exact hM.a61 | exact hM.a62 | exact hl.a4) ?_
      rw [h2]
      refine aw_icmp_ge (q := 13) (t := 61) F dM_areThere_10 rfl (by decide) (fun c10 => by omega) (fun c10 => ?_)
      refine aw_aload_0 (q := 14) F dM_areThere_13 rfl ?_
      refine av_getaE (q := 17) F fM_281 dM_areThere_14 rfl rfl (by first | exact hM.o | exact hl.o | exact hM.a55 | exact hM.a56 | exact hM.a59 | exact hM.a60 | exact hM.a61 | exact hM.a62 | exact hl.a4) hM.p3 ?_
      refine av_getaE (q := 20) F fM_268 dM_areThere_17 rfl rfl (by first | exact hM.o | exact hl.o | exact hM.a55 | exact hM.a56 | exact hM.a59 | exact hM.a60 | exact hM.a61 | exact hM.a62 | exact hl.a4) hl.p12 ?_
      refine aw_iconst (q := 21) F dM_areThere_20 rfl (by decide) ?_
      refine aw_iload_1 (q := 22) F dM_areThere_21 rfl ?_
      refine aw_imul (q := 23) F dM_areThere_22 rfl (by constructor <;> omega) ?_
      refine aw_iload_2 (q := 24) F dM_areThere_23 rfl ?_
      refine aw_iadd (q := 25) F dM_areThere_24 rfl (by constructor <;> omega) ?_
      refine av_iaload (q := 26) F dM_areThere_25 rfl (by first | exact hM.o | exact hl.o | exact hM.a55 | exact hM.a56 | exact hM.a59 | exact hM.a60 | exact hM.a61 | exact hM.a62 | exact hl.a4) (by omega) (by omega) ?_
      rw [eP]
      refine aw_bipush (q := 28) F dM_areThere_26 rfl (by decide) ?_
      refine aw_icmp_eq (q := 31) (t := 55) F dM_areThere_28 rfl (by decide) (fun c28 => ?_) (fun c28 => ?_)
      · refine aw_iinc_2 (q := 58) F dM_areThere_55 rfl trivial (by constructor <;> omega) ?_
        refine aw_goto (t := 2) F dM_areThere_58 (by decide) ?_
        refine ih (p + 1) (by omega) _ (by omega) (fun p' hp' => ?_)
        by_cases q : p' = p
        · rw [q]; first | exact Or.inl c28 | exact Or.inr c50
        · exact hI p' (by omega)
      · refine aw_aload_0 (q := 32) F dM_areThere_31 rfl ?_
        refine av_getaE (q := 35) F fM_21 dM_areThere_32 rfl rfl (by first | exact hM.o | exact hl.o | exact hM.a55 | exact hM.a56 | exact hM.a59 | exact hM.a60 | exact hM.a61 | exact hM.a62 | exact hl.a4) hM.p16 ?_
        refine aw_iload_2 (q := 36) F dM_areThere_35 rfl ?_
        refine av_iaload (q := 37) F dM_areThere_36 rfl (by first | exact hM.o | exact hl.o | exact hM.a55 | exact hM.a56 | exact hM.a59 | exact hM.a60 | exact hM.a61 | exact hM.a62 | exact hl.a4) (by omega) (by omega) ?_
        rw [ev]
        refine aw_aload_0 (q := 38) F dM_areThere_37 rfl ?_
        refine av_getaE (q := 41) F fM_281 dM_areThere_38 rfl rfl (by first | exact hM.o | exact hl.o | exact hM.a55 | exact hM.a56 | exact hM.a59 | exact hM.a60 | exact hM.a61 | exact hM.a62 | exact hl.a4) hM.p3 ?_
        refine av_getaE (q := 44) F fM_268 dM_areThere_41 rfl rfl (by first | exact hM.o | exact hl.o | exact hM.a55 | exact hM.a56 | exact hM.a59 | exact hM.a60 | exact hM.a61 | exact hM.a62 | exact hl.a4) hl.p12 ?_
        refine aw_iconst (q := 45) F dM_areThere_44 rfl (by decide) ?_
        refine aw_iload_1 (q := 46) F dM_areThere_45 rfl ?_
        refine aw_imul (q := 47) F dM_areThere_46 rfl (by constructor <;> omega) ?_
        refine aw_iload_2 (q := 48) F dM_areThere_47 rfl ?_
        refine aw_iadd (q := 49) F dM_areThere_48 rfl (by constructor <;> omega) ?_
        refine av_iaload (q := 50) F dM_areThere_49 rfl (by first | exact hM.o | exact hl.o | exact hM.a55 | exact hM.a56 | exact hM.a59 | exact hM.a60 | exact hM.a61 | exact hM.a62 | exact hl.a4) (by omega) (by omega) ?_
        rw [eP]
        refine aw_icmp_eq (q := 53) (t := 55) F dM_areThere_50 rfl (by decide) (fun c50 => ?_) (fun c50 => ?_)
        · refine aw_iinc_2 (q := 58) F dM_areThere_55 rfl trivial (by constructor <;> omega) ?_
          refine aw_goto (t := 2) F dM_areThere_58 (by decide) ?_
          refine ih (p + 1) (by omega) _ (by omega) (fun p' hp' => ?_)
          by_cases q : p' = p
          · rw [q]; first | exact Or.inl c28 | exact Or.inr c50
          · exact hI p' (by omega)
        · refine aw_iconst (q := 54) F dM_areThere_53 rfl (by decide) ?_
          refine aw_zret F C dM_areThere_54 rfl (by decide) (Nat.le_refl _) (Nat.le_refl _) ?_
          refine h0 (fun hh => ?_)
          rcases hh p (by omega) with q | q
          · exact c28 q
          · exact c50 q
  refine aw_iconst (q := 1) F dM_areThere_0 rfl (by decide) ?_
  refine aw_istore_2 (q := 2) F dM_areThere_1 rfl trivial ?_
  exact loop (pN c) 0 (by omega) _ rfl (fun p' hp' => absurd hp' (by omega))
end Mod14
