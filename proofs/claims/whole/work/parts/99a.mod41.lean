theorem dM_lineBegins_0 : decode mM_lineBegins.2.1 0 = .ok (.iload_n 1, 1) := by decide +kernel
theorem dM_lineBegins_1 : decode mM_lineBegins.2.1 1 = .ok (.iload_n 2, 1) := by decide +kernel
theorem dM_lineBegins_2 : decode mM_lineBegins.2.1 2 = .ok (.if_icmp .ne 8, 3) := by decide +kernel
theorem dM_lineBegins_5 : decode mM_lineBegins.2.1 5 = .ok (.aload_n 0, 1) := by decide +kernel
theorem dM_lineBegins_6 : decode mM_lineBegins.2.1 6 = .ok (.iconst 5, 1) := by decide +kernel
theorem dM_lineBegins_7 : decode mM_lineBegins.2.1 7 = .ok (.invokevirtual 143, 3) := by decide +kernel
theorem dM_lineBegins_10 : decode mM_lineBegins.2.1 10 = .ok (.aload_n 0, 1) := by decide +kernel
theorem dM_lineBegins_11 : decode mM_lineBegins.2.1 11 = .ok (.getfield 147, 3) := by decide +kernel
theorem dM_lineBegins_14 : decode mM_lineBegins.2.1 14 = .ok (.getfield 151, 3) := by decide +kernel
theorem dM_lineBegins_17 : decode mM_lineBegins.2.1 17 = .ok (.iconst (-1), 1) := by decide +kernel
theorem dM_lineBegins_18 : decode mM_lineBegins.2.1 18 = .ok (.if_icmp .ne 9, 3) := by decide +kernel
theorem dM_lineBegins_21 : decode mM_lineBegins.2.1 21 = .ok (.aload_n 0, 1) := by decide +kernel
theorem dM_lineBegins_22 : decode mM_lineBegins.2.1 22 = .ok (.bipush 6, 2) := by decide +kernel
theorem dM_lineBegins_24 : decode mM_lineBegins.2.1 24 = .ok (.invokevirtual 143, 3) := by decide +kernel
theorem dM_lineBegins_27 : decode mM_lineBegins.2.1 27 = .ok (.aload_n 0, 1) := by decide +kernel
theorem dM_lineBegins_28 : decode mM_lineBegins.2.1 28 = .ok (.invokevirtual 114, 3) := by decide +kernel
theorem dM_lineBegins_31 : decode mM_lineBegins.2.1 31 = .ok (.return_, 1) := by decide +kernel
theorem dM_readFresh_0 : decode mM_readFresh.2.1 0 = .ok (.aload_n 0, 1) := by decide +kernel
theorem dM_readFresh_1 : decode mM_readFresh.2.1 1 = .ok (.invokevirtual 156, 3) := by decide +kernel
theorem dM_readFresh_4 : decode mM_readFresh.2.1 4 = .ok (.ifCond .ne 8, 3) := by decide +kernel
theorem dM_readFresh_7 : decode mM_readFresh.2.1 7 = .ok (.aload_n 0, 1) := by decide +kernel
theorem dM_readFresh_8 : decode mM_readFresh.2.1 8 = .ok (.iconst 1, 1) := by decide +kernel
theorem dM_readFresh_9 : decode mM_readFresh.2.1 9 = .ok (.invokevirtual 143, 3) := by decide +kernel
theorem dM_readFresh_12 : decode mM_readFresh.2.1 12 = .ok (.aload_n 0, 1) := by decide +kernel
theorem dM_readFresh_13 : decode mM_readFresh.2.1 13 = .ok (.getfield 147, 3) := by decide +kernel
theorem dM_readFresh_16 : decode mM_readFresh.2.1 16 = .ok (.aload_n 0, 1) := by decide +kernel
theorem dM_readFresh_17 : decode mM_readFresh.2.1 17 = .ok (.getfield 94, 3) := by decide +kernel
theorem dM_readFresh_20 : decode mM_readFresh.2.1 20 = .ok (.invokevirtual 160, 3) := by decide +kernel
theorem dM_readFresh_23 : decode mM_readFresh.2.1 23 = .ok (.iconst (-1), 1) := by decide +kernel
theorem dM_readFresh_24 : decode mM_readFresh.2.1 24 = .ok (.if_icmp .eq 8, 3) := by decide +kernel
theorem dM_readFresh_27 : decode mM_readFresh.2.1 27 = .ok (.aload_n 0, 1) := by decide +kernel
theorem dM_readFresh_28 : decode mM_readFresh.2.1 28 = .ok (.iconst 3, 1) := by decide +kernel
theorem dM_readFresh_29 : decode mM_readFresh.2.1 29 = .ok (.invokevirtual 143, 3) := by decide +kernel
theorem dM_readFresh_32 : decode mM_readFresh.2.1 32 = .ok (.aload_n 0, 1) := by decide +kernel
theorem dM_readFresh_33 : decode mM_readFresh.2.1 33 = .ok (.getfield 94, 3) := by decide +kernel
theorem dM_readFresh_36 : decode mM_readFresh.2.1 36 = .ok (.lstore_n 1, 1) := by decide +kernel
theorem dM_readFresh_37 : decode mM_readFresh.2.1 37 = .ok (.aload_n 0, 1) := by decide +kernel
theorem dM_readFresh_38 : decode mM_readFresh.2.1 38 = .ok (.invokevirtual 114, 3) := by decide +kernel
theorem dM_readFresh_41 : decode mM_readFresh.2.1 41 = .ok (.lload_n 1, 1) := by decide +kernel
theorem dM_readFresh_42 : decode mM_readFresh.2.1 42 = .ok (.lreturn, 1) := by decide +kernel
theorem dM_names_0 : decode mM_names.2.1 0 = .ok (.aload_n 0, 1) := by decide +kernel
theorem dM_names_1 : decode mM_names.2.1 1 = .ok (.getfield 147, 3) := by decide +kernel
theorem dM_names_4 : decode mM_names.2.1 4 = .ok (.getfield 164, 3) := by decide +kernel
theorem dM_names_7 : decode mM_names.2.1 7 = .ok (.aload_n 0, 1) := by decide +kernel
theorem dM_names_8 : decode mM_names.2.1 8 = .ok (.getfield 147, 3) := by decide +kernel
theorem dM_names_11 : decode mM_names.2.1 11 = .ok (.getfield 168, 3) := by decide +kernel
theorem dM_names_14 : decode mM_names.2.1 14 = .ok (.lload_n 1, 1) := by decide +kernel
theorem dM_names_15 : decode mM_names.2.1 15 = .ok (.lastore, 1) := by decide +kernel
theorem dM_names_16 : decode mM_names.2.1 16 = .ok (.aload_n 0, 1) := by decide +kernel
theorem dM_names_17 : decode mM_names.2.1 17 = .ok (.getfield 147, 3) := by decide +kernel
theorem dM_names_20 : decode mM_names.2.1 20 = .ok (.getfield 171, 3) := by decide +kernel
theorem dM_names_23 : decode mM_names.2.1 23 = .ok (.aload_n 0, 1) := by decide +kernel
theorem dM_names_24 : decode mM_names.2.1 24 = .ok (.getfield 147, 3) := by decide +kernel
theorem dM_names_27 : decode mM_names.2.1 27 = .ok (.getfield 168, 3) := by decide +kernel
theorem dM_names_30 : decode mM_names.2.1 30 = .ok (.iload_n 3, 1) := by decide +kernel
theorem dM_names_31 : decode mM_names.2.1 31 = .ok (.iastore, 1) := by decide +kernel
theorem dM_names_32 : decode mM_names.2.1 32 = .ok (.aload_n 0, 1) := by decide +kernel
theorem dM_names_33 : decode mM_names.2.1 33 = .ok (.getfield 147, 3) := by decide +kernel
theorem dM_names_36 : decode mM_names.2.1 36 = .ok (.getfield 174, 3) := by decide +kernel
theorem dM_names_39 : decode mM_names.2.1 39 = .ok (.aload_n 0, 1) := by decide +kernel
theorem dM_names_40 : decode mM_names.2.1 40 = .ok (.getfield 147, 3) := by decide +kernel
theorem dM_names_43 : decode mM_names.2.1 43 = .ok (.getfield 168, 3) := by decide +kernel
theorem dM_names_46 : decode mM_names.2.1 46 = .ok (.iload 4, 2) := by decide +kernel
theorem dM_names_48 : decode mM_names.2.1 48 = .ok (.iastore, 1) := by decide +kernel
theorem dM_names_49 : decode mM_names.2.1 49 = .ok (.aload_n 0, 1) := by decide +kernel
theorem dM_names_50 : decode mM_names.2.1 50 = .ok (.getfield 147, 3) := by decide +kernel
theorem dM_names_53 : decode mM_names.2.1 53 = .ok (.dup, 1) := by decide +kernel
theorem dM_names_54 : decode mM_names.2.1 54 = .ok (.getfield 168, 3) := by decide +kernel
theorem dM_names_57 : decode mM_names.2.1 57 = .ok (.iconst 1, 1) := by decide +kernel
theorem dM_names_58 : decode mM_names.2.1 58 = .ok (.iadd, 1) := by decide +kernel
theorem dM_names_59 : decode mM_names.2.1 59 = .ok (.putfield 168, 3) := by decide +kernel
theorem dM_names_62 : decode mM_names.2.1 62 = .ok (.return_, 1) := by decide +kernel
theorem dM_knownOne_0 : decode mM_knownOne.2.1 0 = .ok (.aload_n 0, 1) := by decide +kernel
theorem dM_knownOne_1 : decode mM_knownOne.2.1 1 = .ok (.invokevirtual 156, 3) := by decide +kernel
theorem dM_knownOne_4 : decode mM_knownOne.2.1 4 = .ok (.ifCond .ne 8, 3) := by decide +kernel
theorem dM_knownOne_7 : decode mM_knownOne.2.1 7 = .ok (.aload_n 0, 1) := by decide +kernel
theorem dM_knownOne_8 : decode mM_knownOne.2.1 8 = .ok (.iconst 1, 1) := by decide +kernel
theorem dM_knownOne_9 : decode mM_knownOne.2.1 9 = .ok (.invokevirtual 143, 3) := by decide +kernel
theorem dM_knownOne_12 : decode mM_knownOne.2.1 12 = .ok (.aload_n 0, 1) := by decide +kernel
theorem dM_knownOne_13 : decode mM_knownOne.2.1 13 = .ok (.getfield 147, 3) := by decide +kernel
theorem dM_knownOne_16 : decode mM_knownOne.2.1 16 = .ok (.aload_n 0, 1) := by decide +kernel
theorem dM_knownOne_17 : decode mM_knownOne.2.1 17 = .ok (.getfield 94, 3) := by decide +kernel
theorem dM_knownOne_20 : decode mM_knownOne.2.1 20 = .ok (.invokevirtual 160, 3) := by decide +kernel
theorem dM_knownOne_23 : decode mM_knownOne.2.1 23 = .ok (.istore_n 2, 1) := by decide +kernel
theorem dM_knownOne_24 : decode mM_knownOne.2.1 24 = .ok (.iload_n 2, 1) := by decide +kernel
theorem dM_knownOne_25 : decode mM_knownOne.2.1 25 = .ok (.iconst (-1), 1) := by decide +kernel
theorem dM_knownOne_26 : decode mM_knownOne.2.1 26 = .ok (.if_icmp .eq 16, 3) := by decide +kernel
theorem dM_knownOne_29 : decode mM_knownOne.2.1 29 = .ok (.aload_n 0, 1) := by decide +kernel
theorem dM_knownOne_30 : decode mM_knownOne.2.1 30 = .ok (.getfield 147, 3) := by decide +kernel
theorem dM_knownOne_33 : decode mM_knownOne.2.1 33 = .ok (.getfield 171, 3) := by decide +kernel
theorem dM_knownOne_36 : decode mM_knownOne.2.1 36 = .ok (.iload_n 2, 1) := by decide +kernel
theorem dM_knownOne_37 : decode mM_knownOne.2.1 37 = .ok (.iaload, 1) := by decide +kernel
theorem dM_knownOne_38 : decode mM_knownOne.2.1 38 = .ok (.iload_n 1, 1) := by decide +kernel
theorem dM_knownOne_39 : decode mM_knownOne.2.1 39 = .ok (.if_icmp .eq 8, 3) := by decide +kernel
theorem dM_knownOne_42 : decode mM_knownOne.2.1 42 = .ok (.aload_n 0, 1) := by decide +kernel
theorem dM_knownOne_43 : decode mM_knownOne.2.1 43 = .ok (.iconst 2, 1) := by decide +kernel
theorem dM_knownOne_44 : decode mM_knownOne.2.1 44 = .ok (.invokevirtual 143, 3) := by decide +kernel
theorem dM_knownOne_47 : decode mM_knownOne.2.1 47 = .ok (.aload_n 0, 1) := by decide +kernel
theorem dM_knownOne_48 : decode mM_knownOne.2.1 48 = .ok (.getfield 78, 3) := by decide +kernel
theorem dM_knownOne_51 : decode mM_knownOne.2.1 51 = .ok (.iconst 5, 1) := by decide +kernel
theorem dM_knownOne_52 : decode mM_knownOne.2.1 52 = .ok (.if_icmp .ne 7, 3) := by decide +kernel
theorem dM_knownOne_55 : decode mM_knownOne.2.1 55 = .ok (.iconst 0, 1) := by decide +kernel
theorem dM_knownOne_56 : decode mM_knownOne.2.1 56 = .ok (.goto 12, 3) := by decide +kernel
theorem dM_knownOne_59 : decode mM_knownOne.2.1 59 = .ok (.aload_n 0, 1) := by decide +kernel
theorem dM_knownOne_60 : decode mM_knownOne.2.1 60 = .ok (.getfield 147, 3) := by decide +kernel
theorem dM_knownOne_63 : decode mM_knownOne.2.1 63 = .ok (.getfield 174, 3) := by decide +kernel
theorem dM_knownOne_66 : decode mM_knownOne.2.1 66 = .ok (.iload_n 2, 1) := by decide +kernel
theorem dM_knownOne_67 : decode mM_knownOne.2.1 67 = .ok (.iaload, 1) := by decide +kernel
theorem dM_knownOne_68 : decode mM_knownOne.2.1 68 = .ok (.ireturn, 1) := by decide +kernel
/-- what was read so far, as the reference has it -/
def NMr (V : Nat → Nat → Int) (e : Nat) (r : PR) : Prop := (∀ k, k < tDn r.1 + tPn r.1 → ∃ i, i < 6 ∧ 0 < r.2.2.2 i ∧ V (e + 6) k = r.2.2.2 i ∧ V (e + 7) k = (if i < 4 then 0 else 1) ∧ V (e + 8) k = (if i < 4 then i else i - 4 : Nat)) ∧ ∀ i, i < 6 → 0 < r.2.2.2 i → ∃ k, k < tDn r.1 + tPn r.1 ∧ V (e + 6) k = r.2.2.2 i
def LRf (V : Nat → Nat → Int) (e : Nat) (r : PR) : Prop := V e 0 = (if r.2.1 then (tDr r.1 : Int) else -1) ∧ V e 1 = tDn r.1 ∧ V e 2 = tPn r.1 ∧ V e 3 = tLk r.1 ∧ V e 4 = cntB (fun d => tLd r.1 d != 0) 4 ∧ V e 5 = tKy r.1 ∧ V e 6 = cntB (fun p => tAt r.1 p != 0) 2 ∧ V e 7 = (if r.2.2.1 then (tLa r.1 : Int) else -1) ∧ V e 8 = (tDn r.1 + tPn r.1 : Nat) ∧ V e 14 = bsum (fun p => tAt r.1 p != 0) 2
def LRa (V : Nat → Nat → Int) (e : Nat) (T : TL) : Prop := (∀ d, d < 4 → V (e + 1) d = tKd T d ∧ V (e + 2) d = tLd T d) ∧ (∀ p, p < 2 → V (e + 3) p = tAt T p) ∧ (∀ s p, s < 3 → p < 2 → V (e + 4) (2 * s + p) = plS s T p) ∧ ∀ s, s < 3 → V (e + 5) s = cntB (fun p => plS s T p != -2) 2
def LR (V : Nat → Nat → Int) (e : Nat) (r : PR) : Prop := LRf V e r ∧ LRa V e r.1 ∧ NMr V e r
def okRd (r : PR) : Prop := (r.2.1 = false → tDn r.1 = 0 ∧ tPn r.1 = 0 ∧ r.2.2.1 = false) ∧ (r.2.2.1 = false → tLa r.1 = 0) ∧ ∀ i j, i < 6 → j < 6 → r.2.2.2 i = r.2.2.2 j → 0 < r.2.2.2 i → i = j
def OV (V : Nat → Nat → Int) (c p : Nat) : Prop := V 53 9 = 5 ∧ V 53 12 = c ∧ V 53 13 = p ∧ 0 < c
def PF (V V' : Nat → Nat → Int) (e : Nat) : Prop := (∀ b, b ≠ 53 → b < e ∨ e + 8 < b → V' b = V b) ∧ ∀ j, j < 8 ∨ 14 < j → V' 53 j = V 53 j
def GS (V : Nat → Nat → Int) (e n : Nat) (B : Nat → Int) (r : PR) (t : TK) : Prop := MT V t ∧ LR V e r ∧ MTX V n B ∧ okN r ∧ okRd r ∧ okTk n t ∧ V 53 12 = 0
def QF (V V' : Nat → Nat → Int) : Prop := (∀ b, b ≠ 53 → V' b = V b) ∧ ∀ j, j < 8 ∨ 14 < j → V' 53 j = V 53 j
section PFs
variable {V V' V1 V2 : Nat → Nat → Int} {e n : Nat} {B : Nat → Int} {r : PR} {t : TK}
theorem PF.rf (V : Nat → Nat → Int) (e : Nat) : PF V V e := ⟨fun _ _ _ => rfl, fun _ _ => rfl⟩
theorem PF.tr (h : PF V V1 e) (g : PF V1 V2 e) : PF V V2 e := ⟨fun b h1 h2 => (g.1 b h1 h2).trans (h.1 b h1 h2), fun j hj => (g.2 j hj).trans (h.2 j hj)⟩
theorem GF.pf (h : GF V V1) : PF V V1 e := ⟨fun b h1 _ => h.1 b h1, fun j hj => h.2 j (by omega)⟩
theorem PF.up {k : Nat} {z : Int} (h : PF V V1 e) (hk : 8 ≤ k ∧ k ≤ 14) : PF V (up2 V1 53 k z) e := ⟨fun b h1 h2 => (up2_nea _ _ h1).trans (h.1 b h1 h2), fun j hj => by rw [up2_nek _ _ (by omega)]; exact h.2 j hj⟩
theorem PF.la {a k : Nat} {z : Int} (h : PF V V1 e) (ha : a ≠ 53) (hk : e ≤ a ∧ a ≤ e + 8) : PF V (up2 V1 a k z) e := ⟨fun b h1 h2 => (up2_nea _ _ (by omega)).trans (h.1 b h1 h2), fun j hj => by rw [up2_nea _ _ (fun q => ha q.symm)]; exact h.2 j hj⟩
theorem LR.gf (h : LR V e r) (g : GF V V1) (he : 64 ≤ e) : LR V1 e r := by
  unfold LR LRf LRa NMr
  rw [g.1 e (by omega), g.1 (e + 1) (by omega), g.1 (e + 2) (by omega), g.1 (e + 3) (by omega), g.1 (e + 4) (by omega), g.1 (e + 5) (by omega), g.1 (e + 6) (by omega), g.1 (e + 7) (by omega), g.1 (e + 8) (by omega)]
  exact h
/-- the next token -/
theorem GS.nx (h : GS V e n B r t) (g : GF V V1) (ht : MT V1 (nxT B n t)) (he : 64 ≤ e) : GS V1 e n B r (nxT B n t) := by
  obtain ⟨-, h2, h3, h4, h5, h6, h7⟩ := h
  exact ⟨ht, h2.gf g he, h3.gf g, h4, h5, lex_ok h6.2.1, by rw [g.2 12 (by omega)]; exact h7⟩
theorem OV.fl {k p : Nat} (h : V 53 10 = p) (hk : 0 < k) : OV (up2 (up2 (up2 V 53 12 (k : Int)) 53 13 (V 53 10)) 53 9 5) k p := ⟨up2_same _ _ _ _, by rw [up2_nek _ _ (by decide), up2_nek _ _ (by decide), up2_same], by rw [up2_nek _ _ (by decide), up2_same, h], hk⟩
theorem QF.rf (V : Nat → Nat → Int) : QF V V := ⟨fun _ _ => rfl, fun _ _ => rfl⟩
theorem QF.tr (h : QF V V1) (g : QF V1 V2) : QF V V2 := ⟨fun b h1 => (g.1 b h1).trans (h.1 b h1), fun j hj => (g.2 j hj).trans (h.2 j hj)⟩
theorem QF.pf (h : QF V V1) : PF V V1 e := ⟨fun b h1 _ => h.1 b h1, h.2⟩
theorem GF.qf (h : GF V V1) : QF V V1 := ⟨h.1, fun j hj => h.2 j (by omega)⟩
theorem QF.up {k : Nat} {z : Int} (h : QF V V1) (hk : 8 ≤ k ∧ k ≤ 14) : QF V (up2 V1 53 k z) := ⟨fun b h1 => (up2_nea _ _ h1).trans (h.1 b h1), fun j hj => by rw [up2_nek _ _ (by omega)]; exact h.2 j hj⟩
theorem QF.fl {k z w : Int} : QF V (up2 (up2 (up2 V 53 12 k) 53 13 z) 53 9 w) := (((QF.rf V).up (by decide)).up (by decide)).up (by decide)
theorem PF.fl {k z w : Int} : PF V (up2 (up2 (up2 V 53 12 k) 53 13 z) 53 9 w) e := (((PF.rf V e).up (by decide)).up (by decide)).up (by decide)
end PFs
section Mod41
variable {G : GE} {V V' V1 V2 : Nat → Nat → Int} {σ : Shp} {K : Option AV → Mem → Prop} {l n e : Nat} {B : Nat → Int} {r : PR} {t : TK}
theorem wM_lineBegins {x y : Int} (hM : moS σ l) (hl : laS σ e) (h4p : sP σ 53 4 = e) (he : 64 ≤ e) (h : GS V e n B r t) (h4 : t.1 ≠ 4) (h1 : x ≠ y → r.2.1 = true → ∀ V', GF V V' → GS V' e n B r (nxT B n t) → K none (V', σ)) (h5 : x = y → ∀ V', OV V' 5 t.2.1 → QF V V' → K none (V', σ)) (h6 : x ≠ y → r.2.1 = false → ∀ V', OV V' 6 t.2.1 → QF V V' → K none (V', σ)) : Wp G 2 mM_lineBegins [vR 53, vI x, vI y] (V, σ) 0 0 K := by
  have e0 : V e 0 = (if r.2.1 then (tDr r.1 : Int) else -1) := h.2.1.1.1
  have et : V e 0 ≠ -1 → r.2.1 = true := fun q => by cases hr : r.2.1; rw [hr] at e0; exact absurd e0 q; rfl
  have ef : V e 0 = -1 → r.2.1 = false := fun q => by cases hr : r.2.1; rfl; rw [hr, if_pos rfl] at e0; omega
  have hm9 := h.1.1.2
  have h10 := h.1.1.1
  refine wp_intro mM_lineBegins_i.1 [some (vR 53), some (vI x), some (vI y)] rfl rfl (Nat.le_of_ble_eq_true rfl) ?_
  intro X hG F C
  have hm := C.rm
  refine aw_iload_1 (q := 1) F dM_lineBegins_0 rfl ?_
  refine aw_iload_2 (q := 2) F dM_lineBegins_1 rfl ?_
  refine aw_icmp_ne (q := 5) (t := 10) F dM_lineBegins_2 rfl (by decide) (fun c2 => ?_) (fun c2 => ?_)
  · refine aw_aload_0 (q := 11) F dM_lineBegins_10 rfl ?_
    refine av_getaE (q := 14) F fM_147 dM_lineBegins_11 rfl rfl (by first | exact hM.o | exact hl.o | exact hl.a6 | exact hl.a7 | exact hl.a8) h4p ?_
    refine av_geti (q := 17) F fM_151 dM_lineBegins_14 rfl rfl (by first | exact hM.o | exact hl.o | exact hl.a6 | exact hl.a7 | exact hl.a8) ?_
    refine aw_iconst (q := 18) F dM_lineBegins_17 rfl (by decide) ?_
    refine aw_icmp_ne (q := 21) (t := 27) F dM_lineBegins_18 rfl (by decide) (fun c18 => ?_) (fun c18 => ?_)
    · refine aw_aload_0 (q := 28) F dM_lineBegins_27 rfl ?_
      refine av_callV0 (q := 31) (ci := 9) F hm mM_goesOn_i mM_goesOn_n lM_114 dM_lineBegins_28 rfl rfl rfl (by first | exact hM.o | exact hl.o | exact hl.a6 | exact hl.a7 | exact hl.a8) (by decide) (Nat.le_refl _) (Nat.le_refl _) (Nat.le_of_ble_eq_true rfl) (wM_goesOn (p := t.2.2.1) hm9 (h.1.2.1 h4) h.2.2.2.2.2.1.2.1 h.2.2.1 hM (fun V2 f28 g28 => ?_))
      refine aw_vret F C dM_lineBegins_31 rfl (Nat.le_refl _) (Nat.le_refl _) ?_
      exact h1 c2 (et c18) V2 f28 (h.nx f28 g28 he)
    · refine aw_aload_0 (q := 22) F dM_lineBegins_21 rfl ?_
      refine aw_bipush (q := 24) F dM_lineBegins_22 rfl (by decide) ?_
      refine av_callV1 (q := 27) (ci := 9) F hm mM_flaw_i mM_flaw_n lM_143 dM_lineBegins_24 rfl rfl rfl (by first | exact hM.o | exact hl.o | exact hl.a6 | exact hl.a7 | exact hl.a8) (by decide) (Nat.le_refl _) (Nat.le_refl _) (Nat.le_of_ble_eq_true rfl) (wM_flaw hM hm9 ?_)
      refine aw_aload_0 (q := 28) F dM_lineBegins_27 rfl ?_
      refine av_callV0 (q := 31) (ci := 9) F hm mM_goesOn_i mM_goesOn_n lM_114 dM_lineBegins_28 rfl rfl rfl (by first | exact hM.o | exact hl.o | exact hl.a6 | exact hl.a7 | exact hl.a8) (by decide) (Nat.le_refl _) (Nat.le_refl _) (Nat.le_of_ble_eq_true rfl) (wM_goesOnO hM (up2_same _ _ _ _) ?_)
      refine aw_vret F C dM_lineBegins_31 rfl (Nat.le_refl _) (Nat.le_refl _) ?_
      exact h6 c2 (ef c18) _ (OV.fl h10 (by decide)) QF.fl
  · refine aw_aload_0 (q := 6) F dM_lineBegins_5 rfl ?_
    refine aw_iconst (q := 7) F dM_lineBegins_6 rfl (by decide) ?_
    refine av_callV1 (q := 10) (ci := 9) F hm mM_flaw_i mM_flaw_n lM_143 dM_lineBegins_7 rfl rfl rfl (by first | exact hM.o | exact hl.o | exact hl.a6 | exact hl.a7 | exact hl.a8) (by decide) (Nat.le_refl _) (Nat.le_refl _) (Nat.le_of_ble_eq_true rfl) (wM_flaw hM hm9 ?_)
    refine aw_aload_0 (q := 11) F dM_lineBegins_10 rfl ?_
    refine av_getaE (q := 14) F fM_147 dM_lineBegins_11 rfl rfl (by first | exact hM.o | exact hl.o | exact hl.a6 | exact hl.a7 | exact hl.a8) h4p ?_
    refine av_geti (q := 17) F fM_151 dM_lineBegins_14 rfl rfl (by first | exact hM.o | exact hl.o | exact hl.a6 | exact hl.a7 | exact hl.a8) ?_
    rw [up2_nea _ _ (by omega), up2_nea _ _ (by omega), up2_nea _ _ (by omega)]
    refine aw_iconst (q := 18) F dM_lineBegins_17 rfl (by decide) ?_
    refine aw_icmp_ne (q := 21) (t := 27) F dM_lineBegins_18 rfl (by decide) (fun c18 => ?_) (fun c18 => ?_)
    · refine aw_aload_0 (q := 28) F dM_lineBegins_27 rfl ?_
      refine av_callV0 (q := 31) (ci := 9) F hm mM_goesOn_i mM_goesOn_n lM_114 dM_lineBegins_28 rfl rfl rfl (by first | exact hM.o | exact hl.o | exact hl.a6 | exact hl.a7 | exact hl.a8) (by decide) (Nat.le_refl _) (Nat.le_refl _) (Nat.le_of_ble_eq_true rfl) (wM_goesOnO hM (up2_same _ _ _ _) ?_)
      refine aw_vret F C dM_lineBegins_31 rfl (Nat.le_refl _) (Nat.le_refl _) ?_
      exact h5 c2 _ (OV.fl h10 (by decide)) QF.fl
    · refine aw_aload_0 (q := 22) F dM_lineBegins_21 rfl ?_
      refine aw_bipush (q := 24) F dM_lineBegins_22 rfl (by decide) ?_
      refine av_callV1 (q := 27) (ci := 9) F hm mM_flaw_i mM_flaw_n lM_143 dM_lineBegins_24 rfl rfl rfl (by first | exact hM.o | exact hl.o | exact hl.a6 | exact hl.a7 | exact hl.a8) (by decide) (Nat.le_refl _) (Nat.le_refl _) (Nat.le_of_ble_eq_true rfl) (wM_flawO hM (up2_same _ _ _ _) ?_)
      refine aw_aload_0 (q := 28) F dM_lineBegins_27 rfl ?_
      refine av_callV0 (q := 31) (ci := 9) F hm mM_goesOn_i mM_goesOn_n lM_114 dM_lineBegins_28 rfl rfl rfl (by first | exact hM.o | exact hl.o | exact hl.a6 | exact hl.a7 | exact hl.a8) (by decide) (Nat.le_refl _) (Nat.le_refl _) (Nat.le_of_ble_eq_true rfl) (wM_goesOnO hM (up2_same _ _ _ _) ?_)
      refine aw_vret F C dM_lineBegins_31 rfl (Nat.le_refl _) (Nat.le_refl _) ?_
      exact h5 c2 _ (OV.fl h10 (by decide)) QF.fl
theorem fnd1 (h : GS V e n B r t) (h1 : t.1 = 1) {k : Nat} (hk : k < tDn r.1 + tPn r.1) (hz : V (e + 6) k = t.2.2.2) : ∃ i, i < 6 ∧ nmI r t = (i : Nat) ∧ V (e + 7) k = (if i < 4 then 0 else 1) ∧ V (e + 8) k = (if i < 4 then i else i - 4 : Nat) := by
  obtain ⟨i, i1, i2, i3, i4, i5⟩ := h.2.1.2.2.1 k hk
  have e1 : r.2.2.2 i = t.2.2.2 := by rw [i3] at hz; omega
  refine ⟨i, i1, ?_, i4, i5⟩
  refine fbF_some (f := fun k => r.2.2.2 k == t.2.2.2) (k := i) (beq_iff_eq.mpr e1) (fun j hj => beq_eq_false_iff_ne.mpr fun q => ?_) i1
  have := h.2.2.2.2.1.2.2 i j i1 (by omega) (e1.trans q.symm) i2
  omega
theorem fnd0 (h : GS V e n B r t) (h1 : t.1 = 1) (hz : ∀ k, k < tDn r.1 + tPn r.1 → V (e + 6) k ≠ t.2.2.2) : nmI r t = -1 := by
  refine fbF_none (fun i hi => beq_eq_false_iff_ne.mpr fun q => ?_)
  obtain ⟨k, k1, k2⟩ := h.2.1.2.2.2 i hi (by rw [q]; exact (h.2.2.2.2.2.1.2.2 h1).1)
  exact hz k k1 (by rw [k2, q])
theorem GS.n6 (h : GS V e n B r t) : tDn r.1 + tPn r.1 ≤ 6 := by
  have a := h.2.2.2.1.1.2.1
  have b := h.2.2.2.1.1.2.2.1
  omega
theorem wM_knownOne {x : Int} (hM : moS σ l) (hl : laS σ e) (h4p : sP σ 53 4 = e) (he : 64 ≤ e) (h : GS V e n B r t) (h1 : ∀ i : Nat, i < 6 → isNm t = true → nmI r t = i → x = (if i < 4 then 0 else 1) → K (some (vI (if i < 4 then i else i - 4 : Nat))) (V, σ)) (h0 : (isNm t = true → nmI r t = -1 ∨ ∃ i : Nat, i < 6 ∧ nmI r t = i ∧ x ≠ (if i < 4 then 0 else 1)) → ∀ V', OV V' (if isNm t then 2 else 1) t.2.1 → QF V V' → K (some (vI 0)) (V', σ)) : Wp G 7 mM_knownOne [vR 53, vI x] (V, σ) 0 0 K := by
  have hm9 := h.1.1.2
  have h10 := h.1.1.1
  have h8 : V e 8 = (tDn r.1 + tPn r.1 : Nat) := h.2.1.1.2.2.2.2.2.2.2.2.1
  have hn6 := h.n6
  have hnm := h.1.nm
  have h14 : isNm t = true → V 53 14 = t.2.2.2 := fun q => h.1.2.2.2.2.1 (isNm_1 q)
  have f8 : ∀ k : Int, up2 (up2 (up2 V 53 12 k) 53 13 (V 53 10)) 53 9 5 e 8 = (tDn r.1 + tPn r.1 : Nat) := fun k => by rw [up2_nea _ _ (by omega), up2_nea _ _ (by omega), up2_nea _ _ (by omega)]; exact h8
  refine wp_intro mM_knownOne_i.1 [some (vR 53), some (vI x), none] rfl rfl (Nat.le_of_ble_eq_true rfl) ?_
  intro X hG F C
  have hm := C.rm
  refine aw_aload_0 (q := 1) F dM_knownOne_0 rfl ?_
  refine av_callV0 (q := 4) (ci := 9) F hm mM_isName_i mM_isName_n lM_156 dM_knownOne_1 rfl rfl rfl (by first | exact hM.o | exact hl.o | exact hl.a6 | exact hl.a7 | exact hl.a8) (by decide) (Nat.le_refl _) (Nat.le_refl _) (Nat.le_of_ble_eq_true rfl) (wM_isName hM (fun c1 => ?_) (fun c1 => ?_))
  · refine aw_if_ne (q := 7) (t := 12) F dM_knownOne_4 rfl (by decide) (fun c4 => ?_) (fun c4 => absurd c4 (by decide))
    have hnn : isNm t = true := hnm.mp c1
    refine aw_aload_0 (q := 13) F dM_knownOne_12 rfl ?_
    refine av_getaE (q := 16) F fM_147 dM_knownOne_13 rfl rfl (by first | exact hM.o | exact hl.o | exact hl.a6 | exact hl.a7 | exact hl.a8) h4p ?_
    refine aw_aload_0 (q := 17) F dM_knownOne_16 rfl ?_
    refine av_getl (q := 20) F fM_94 dM_knownOne_17 rfl rfl (by first | exact hM.o | exact hl.o | exact hl.a6 | exact hl.a7 | exact hl.a8) ?_
    rw [h14 hnn]
    refine av_callV1 (q := 23) (ci := 8) F hm mN_find_i mN_find_n lM_160 dM_knownOne_20 rfl rfl rfl (by first | exact hM.o | exact hl.o | exact hl.a6 | exact hl.a7 | exact hl.a8) (by decide) (Nat.le_refl _) (Nat.le_refl _) (Nat.le_of_ble_eq_true rfl) (wN_find (N := tDn r.1 + tPn r.1) hl h8 hn6 (fun k20 a20 b20 d20 => ?_) (fun a20 => ?_))
    · skip
      refine aw_istore_2 (q := 24) F dM_knownOne_23 rfl trivial ?_
      refine aw_iload_2 (q := 25) F dM_knownOne_24 rfl ?_
      refine aw_iconst (q := 26) F dM_knownOne_25 rfl (by decide) ?_
      refine aw_icmp_eq (q := 29) (t := 42) F dM_knownOne_26 rfl (by decide) (fun c26 => ?_) (fun c26 => ?_)
      · refine aw_aload_0 (q := 43) F dM_knownOne_42 rfl ?_
        refine aw_iconst (q := 44) F dM_knownOne_43 rfl (by decide) ?_
        refine av_callV1 (q := 47) (ci := 9) F hm mM_flaw_i mM_flaw_n lM_143 dM_knownOne_44 rfl rfl rfl (by first | exact hM.o | exact hl.o | exact hl.a6 | exact hl.a7 | exact hl.a8) (by decide) (Nat.le_refl _) (Nat.le_refl _) (Nat.le_of_ble_eq_true rfl) (wM_flaw hM hm9 ?_)
        refine aw_aload_0 (q := 48) F dM_knownOne_47 rfl ?_
        refine av_geti (q := 51) F fM_78 dM_knownOne_48 rfl rfl (by first | exact hM.o | exact hl.o | exact hl.a6 | exact hl.a7 | exact hl.a8) ?_
        refine aw_iconst (q := 52) F dM_knownOne_51 rfl (by decide) ?_
        refine aw_icmp_ne (q := 55) (t := 59) F dM_knownOne_52 rfl (by decide) (fun c52 => by exact absurd (up2_same _ _ _ _) c52) (fun c52 => ?_)
        refine aw_iconst (q := 56) F dM_knownOne_55 rfl (by decide) ?_
        refine aw_goto (t := 68) F dM_knownOne_56 (by decide) ?_
        refine aw_iret F C dM_knownOne_68 rfl (Nat.le_refl _) (Nat.le_refl _) ?_
        rw [hnn] at h0
        first
        | exact h0 (fun _ => Or.inl (fnd0 h (isNm_1 hnn) a20)) _ (OV.fl h10 (by decide)) QF.fl
        | (obtain ⟨i, i1, i2, i3, i4⟩ := fnd1 h (isNm_1 hnn) a20 b20
           refine h0 (fun _ => Or.inr ⟨i, i1, i2, fun q => c39 ?_⟩) _ (OV.fl h10 (by decide)) QF.fl
           rw [Int.toNat_natCast, i3, q])
        | exact h0 (fun _ => by exfalso; omega) _ (OV.fl h10 (by decide)) QF.fl
      · refine aw_aload_0 (q := 30) F dM_knownOne_29 rfl ?_
        refine av_getaE (q := 33) F fM_147 dM_knownOne_30 rfl rfl (by first | exact hM.o | exact hl.o | exact hl.a6 | exact hl.a7 | exact hl.a8) h4p ?_
        refine av_getaE (q := 36) F fM_171 dM_knownOne_33 rfl rfl (by first | exact hM.o | exact hl.o | exact hl.a6 | exact hl.a7 | exact hl.a8) hl.p16 ?_
        refine aw_iload_2 (q := 37) F dM_knownOne_36 rfl ?_
        refine av_iaload (q := 38) F dM_knownOne_37 rfl (by first | exact hM.o | exact hl.o | exact hl.a6 | exact hl.a7 | exact hl.a8) (by omega) (by omega) ?_
        refine aw_iload_1 (q := 39) F dM_knownOne_38 rfl ?_
        refine aw_icmp_eq (q := 42) (t := 47) F dM_knownOne_39 rfl (by decide) (fun c39 => ?_) (fun c39 => ?_)
        · refine aw_aload_0 (q := 48) F dM_knownOne_47 rfl ?_
          refine av_geti (q := 51) F fM_78 dM_knownOne_48 rfl rfl (by first | exact hM.o | exact hl.o | exact hl.a6 | exact hl.a7 | exact hl.a8) ?_
          refine aw_iconst (q := 52) F dM_knownOne_51 rfl (by decide) ?_
          refine aw_icmp_ne (q := 55) (t := 59) F dM_knownOne_52 rfl (by decide) (fun c52 => ?_) (fun c52 => by exact absurd c52 hm9)
          refine aw_aload_0 (q := 60) F dM_knownOne_59 rfl ?_
          refine av_getaE (q := 63) F fM_147 dM_knownOne_60 rfl rfl (by first | exact hM.o | exact hl.o | exact hl.a6 | exact hl.a7 | exact hl.a8) h4p ?_
          refine av_getaE (q := 66) F fM_174 dM_knownOne_63 rfl rfl (by first | exact hM.o | exact hl.o | exact hl.a6 | exact hl.a7 | exact hl.a8) hl.p17 ?_
          refine aw_iload_2 (q := 67) F dM_knownOne_66 rfl ?_
          refine av_iaload (q := 68) F dM_knownOne_67 rfl (by first | exact hM.o | exact hl.o | exact hl.a6 | exact hl.a7 | exact hl.a8) (by omega) (by omega) ?_
          refine aw_iret F C dM_knownOne_68 rfl (Nat.le_refl _) (Nat.le_refl _) ?_
          first
          | (obtain ⟨i, i1, i2, i3, i4⟩ := fnd1 h (isNm_1 hnn) a20 b20
             rw [Int.toNat_natCast] at c39 ⊢
             rw [i4]
             exact h1 i i1 hnn i2 (by rw [← c39, i3]))
          | (exfalso; omega)
        · refine aw_aload_0 (q := 43) F dM_knownOne_42 rfl ?_
          refine aw_iconst (q := 44) F dM_knownOne_43 rfl (by decide) ?_
          refine av_callV1 (q := 47) (ci := 9) F hm mM_flaw_i mM_flaw_n lM_143 dM_knownOne_44 rfl rfl rfl (by first | exact hM.o | exact hl.o | exact hl.a6 | exact hl.a7 | exact hl.a8) (by decide) (Nat.le_refl _) (Nat.le_refl _) (Nat.le_of_ble_eq_true rfl) (wM_flaw hM hm9 ?_)
          refine aw_aload_0 (q := 48) F dM_knownOne_47 rfl ?_
          refine av_geti (q := 51) F fM_78 dM_knownOne_48 rfl rfl (by first | exact hM.o | exact hl.o | exact hl.a6 | exact hl.a7 | exact hl.a8) ?_
          refine aw_iconst (q := 52) F dM_knownOne_51 rfl (by decide) ?_
          refine aw_icmp_ne (q := 55) (t := 59) F dM_knownOne_52 rfl (by decide) (fun c52 => by exact absurd (up2_same _ _ _ _) c52) (fun c52 => ?_)
          refine aw_iconst (q := 56) F dM_knownOne_55 rfl (by decide) ?_
          refine aw_goto (t := 68) F dM_knownOne_56 (by decide) ?_
          refine aw_iret F C dM_knownOne_68 rfl (Nat.le_refl _) (Nat.le_refl _) ?_
          rw [hnn] at h0
          first
          | exact h0 (fun _ => Or.inl (fnd0 h (isNm_1 hnn) a20)) _ (OV.fl h10 (by decide)) QF.fl
          | (obtain ⟨i, i1, i2, i3, i4⟩ := fnd1 h (isNm_1 hnn) a20 b20
             refine h0 (fun _ => Or.inr ⟨i, i1, i2, fun q => c39 ?_⟩) _ (OV.fl h10 (by decide)) QF.fl
             rw [Int.toNat_natCast, i3, q])
          | exact h0 (fun _ => by exfalso; omega) _ (OV.fl h10 (by decide)) QF.fl
    · skip
      refine aw_istore_2 (q := 24) F dM_knownOne_23 rfl trivial ?_
      refine aw_iload_2 (q := 25) F dM_knownOne_24 rfl ?_
      refine aw_iconst (q := 26) F dM_knownOne_25 rfl (by decide) ?_
      refine aw_icmp_eq (q := 29) (t := 42) F dM_knownOne_26 rfl (by decide) (fun c26 => ?_) (fun c26 => absurd c26 (by decide))
      refine aw_aload_0 (q := 43) F dM_knownOne_42 rfl ?_
      refine aw_iconst (q := 44) F dM_knownOne_43 rfl (by decide) ?_
      refine av_callV1 (q := 47) (ci := 9) F hm mM_flaw_i mM_flaw_n lM_143 dM_knownOne_44 rfl rfl rfl (by first | exact hM.o | exact hl.o | exact hl.a6 | exact hl.a7 | exact hl.a8) (by decide) (Nat.le_refl _) (Nat.le_refl _) (Nat.le_of_ble_eq_true rfl) (wM_flaw hM hm9 ?_)
      refine aw_aload_0 (q := 48) F dM_knownOne_47 rfl ?_
      refine av_geti (q := 51) F fM_78 dM_knownOne_48 rfl rfl (by first | exact hM.o | exact hl.o | exact hl.a6 | exact hl.a7 | exact hl.a8) ?_
      refine aw_iconst (q := 52) F dM_knownOne_51 rfl (by decide) ?_
      refine aw_icmp_ne (q := 55) (t := 59) F dM_knownOne_52 rfl (by decide) (fun c52 => by exact absurd (up2_same _ _ _ _) c52) (fun c52 => ?_)
      refine aw_iconst (q := 56) F dM_knownOne_55 rfl (by decide) ?_
      refine aw_goto (t := 68) F dM_knownOne_56 (by decide) ?_
      refine aw_iret F C dM_knownOne_68 rfl (Nat.le_refl _) (Nat.le_refl _) ?_
      rw [hnn] at h0
      first
      | exact h0 (fun _ => Or.inl (fnd0 h (isNm_1 hnn) a20)) _ (OV.fl h10 (by decide)) QF.fl
      | (obtain ⟨i, i1, i2, i3, i4⟩ := fnd1 h (isNm_1 hnn) a20 b20
         refine h0 (fun _ => Or.inr ⟨i, i1, i2, fun q => c39 ?_⟩) _ (OV.fl h10 (by decide)) QF.fl
         rw [Int.toNat_natCast, i3, q])
      | exact h0 (fun _ => by exfalso; omega) _ (OV.fl h10 (by decide)) QF.fl
  · refine aw_if_ne (q := 7) (t := 12) F dM_knownOne_4 rfl (by decide) (fun c4 => absurd c4 (by decide)) (fun c4 => ?_)
    refine aw_aload_0 (q := 8) F dM_knownOne_7 rfl ?_
    refine aw_iconst (q := 9) F dM_knownOne_8 rfl (by decide) ?_
    refine av_callV1 (q := 12) (ci := 9) F hm mM_flaw_i mM_flaw_n lM_143 dM_knownOne_9 rfl rfl rfl (by first | exact hM.o | exact hl.o | exact hl.a6 | exact hl.a7 | exact hl.a8) (by decide) (Nat.le_refl _) (Nat.le_refl _) (Nat.le_of_ble_eq_true rfl) (wM_flaw hM hm9 ?_)
    skip
    refine aw_aload_0 (q := 13) F dM_knownOne_12 rfl ?_
    refine av_getaE (q := 16) F fM_147 dM_knownOne_13 rfl rfl (by first | exact hM.o | exact hl.o | exact hl.a6 | exact hl.a7 | exact hl.a8) h4p ?_
    refine aw_aload_0 (q := 17) F dM_knownOne_16 rfl ?_
    refine av_getl (q := 20) F fM_94 dM_knownOne_17 rfl rfl (by first | exact hM.o | exact hl.o | exact hl.a6 | exact hl.a7 | exact hl.a8) ?_
    skip
    refine av_callV1 (q := 23) (ci := 8) F hm mN_find_i mN_find_n lM_160 dM_knownOne_20 rfl rfl rfl (by first | exact hM.o | exact hl.o | exact hl.a6 | exact hl.a7 | exact hl.a8) (by decide) (Nat.le_refl _) (Nat.le_refl _) (Nat.le_of_ble_eq_true rfl) (wN_find (N := tDn r.1 + tPn r.1) hl (f8 _) hn6 (fun k20 a20 b20 d20 => ?_) (fun a20 => ?_))
    · skip
      refine aw_istore_2 (q := 24) F dM_knownOne_23 rfl trivial ?_
      refine aw_iload_2 (q := 25) F dM_knownOne_24 rfl ?_
      refine aw_iconst (q := 26) F dM_knownOne_25 rfl (by decide) ?_
      refine aw_icmp_eq (q := 29) (t := 42) F dM_knownOne_26 rfl (by decide) (fun c26 => ?_) (fun c26 => ?_)
      · refine aw_aload_0 (q := 43) F dM_knownOne_42 rfl ?_
        refine aw_iconst (q := 44) F dM_knownOne_43 rfl (by decide) ?_
        refine av_callV1 (q := 47) (ci := 9) F hm mM_flaw_i mM_flaw_n lM_143 dM_knownOne_44 rfl rfl rfl (by first | exact hM.o | exact hl.o | exact hl.a6 | exact hl.a7 | exact hl.a8) (by decide) (Nat.le_refl _) (Nat.le_refl _) (Nat.le_of_ble_eq_true rfl) (wM_flawO hM (up2_same _ _ _ _) ?_)
        refine aw_aload_0 (q := 48) F dM_knownOne_47 rfl ?_
        refine av_geti (q := 51) F fM_78 dM_knownOne_48 rfl rfl (by first | exact hM.o | exact hl.o | exact hl.a6 | exact hl.a7 | exact hl.a8) ?_
        refine aw_iconst (q := 52) F dM_knownOne_51 rfl (by decide) ?_
        refine aw_icmp_ne (q := 55) (t := 59) F dM_knownOne_52 rfl (by decide) (fun c52 => by exact absurd (up2_same _ _ _ _) c52) (fun c52 => ?_)
        refine aw_iconst (q := 56) F dM_knownOne_55 rfl (by decide) ?_
        refine aw_goto (t := 68) F dM_knownOne_56 (by decide) ?_
        refine aw_iret F C dM_knownOne_68 rfl (Nat.le_refl _) (Nat.le_refl _) ?_
        have hnn : isNm t = false := Bool.eq_false_iff.mpr (fun q => c1 (hnm.mpr q))
        rw [hnn] at h0
        exact h0 (fun q => by cases q) _ (OV.fl h10 (by decide)) QF.fl
      · refine aw_aload_0 (q := 30) F dM_knownOne_29 rfl ?_
        refine av_getaE (q := 33) F fM_147 dM_knownOne_30 rfl rfl (by first | exact hM.o | exact hl.o | exact hl.a6 | exact hl.a7 | exact hl.a8) h4p ?_
        refine av_getaE (q := 36) F fM_171 dM_knownOne_33 rfl rfl (by first | exact hM.o | exact hl.o | exact hl.a6 | exact hl.a7 | exact hl.a8) hl.p16 ?_
        refine aw_iload_2 (q := 37) F dM_knownOne_36 rfl ?_
        refine av_iaload (q := 38) F dM_knownOne_37 rfl (by first | exact hM.o | exact hl.o | exact hl.a6 | exact hl.a7 | exact hl.a8) (by omega) (by omega) ?_
        refine aw_iload_1 (q := 39) F dM_knownOne_38 rfl ?_
        refine aw_icmp_eq (q := 42) (t := 47) F dM_knownOne_39 rfl (by decide) (fun c39 => ?_) (fun c39 => ?_)
        · refine aw_aload_0 (q := 48) F dM_knownOne_47 rfl ?_
          refine av_geti (q := 51) F fM_78 dM_knownOne_48 rfl rfl (by first | exact hM.o | exact hl.o | exact hl.a6 | exact hl.a7 | exact hl.a8) ?_
          refine aw_iconst (q := 52) F dM_knownOne_51 rfl (by decide) ?_
          refine aw_icmp_ne (q := 55) (t := 59) F dM_knownOne_52 rfl (by decide) (fun c52 => by exact absurd (up2_same _ _ _ _) c52) (fun c52 => ?_)
          refine aw_iconst (q := 56) F dM_knownOne_55 rfl (by decide) ?_
          refine aw_goto (t := 68) F dM_knownOne_56 (by decide) ?_
          refine aw_iret F C dM_knownOne_68 rfl (Nat.le_refl _) (Nat.le_refl _) ?_
          have hnn : isNm t = false := Bool.eq_false_iff.mpr (fun q => c1 (hnm.mpr q))
          rw [hnn] at h0
          exact h0 (fun q => by cases q) _ (OV.fl h10 (by decide)) QF.fl
        · refine aw_aload_0 (q := 43) F dM_knownOne_42 rfl ?_
          refine aw_iconst (q := 44) F dM_knownOne_43 rfl (by decide) ?_
          refine av_callV1 (q := 47) (ci := 9) F hm mM_flaw_i mM_flaw_n lM_143 dM_knownOne_44 rfl rfl rfl (by first | exact hM.o | exact hl.o | exact hl.a6 | exact hl.a7 | exact hl.a8) (by decide) (Nat.le_refl _) (Nat.le_refl _) (Nat.le_of_ble_eq_true rfl) (wM_flawO hM (up2_same _ _ _ _) ?_)
          refine aw_aload_0 (q := 48) F dM_knownOne_47 rfl ?_
          refine av_geti (q := 51) F fM_78 dM_knownOne_48 rfl rfl (by first | exact hM.o | exact hl.o | exact hl.a6 | exact hl.a7 | exact hl.a8) ?_
          refine aw_iconst (q := 52) F dM_knownOne_51 rfl (by decide) ?_
          refine aw_icmp_ne (q := 55) (t := 59) F dM_knownOne_52 rfl (by decide) (fun c52 => by exact absurd (up2_same _ _ _ _) c52) (fun c52 => ?_)
          refine aw_iconst (q := 56) F dM_knownOne_55 rfl (by decide) ?_
          refine aw_goto (t := 68) F dM_knownOne_56 (by decide) ?_
          refine aw_iret F C dM_knownOne_68 rfl (Nat.le_refl _) (Nat.le_refl _) ?_
          have hnn : isNm t = false := Bool.eq_false_iff.mpr (fun q => c1 (hnm.mpr q))
          rw [hnn] at h0
          exact h0 (fun q => by cases q) _ (OV.fl h10 (by decide)) QF.fl
    · skip
      refine aw_istore_2 (q := 24) F dM_knownOne_23 rfl trivial ?_
      refine aw_iload_2 (q := 25) F dM_knownOne_24 rfl ?_
      refine aw_iconst (q := 26) F dM_knownOne_25 rfl (by decide) ?_
      refine aw_icmp_eq (q := 29) (t := 42) F dM_knownOne_26 rfl (by decide) (fun c26 => ?_) (fun c26 => absurd c26 (by decide))
      refine aw_aload_0 (q := 43) F dM_knownOne_42 rfl ?_
      refine aw_iconst (q := 44) F dM_knownOne_43 rfl (by decide) ?_
      refine av_callV1 (q := 47) (ci := 9) F hm mM_flaw_i mM_flaw_n lM_143 dM_knownOne_44 rfl rfl rfl (by first | exact hM.o | exact hl.o | exact hl.a6 | exact hl.a7 | exact hl.a8) (by decide) (Nat.le_refl _) (Nat.le_refl _) (Nat.le_of_ble_eq_true rfl) (wM_flawO hM (up2_same _ _ _ _) ?_)
      refine aw_aload_0 (q := 48) F dM_knownOne_47 rfl ?_
      refine av_geti (q := 51) F fM_78 dM_knownOne_48 rfl rfl (by first | exact hM.o | exact hl.o | exact hl.a6 | exact hl.a7 | exact hl.a8) ?_
      refine aw_iconst (q := 52) F dM_knownOne_51 rfl (by decide) ?_
      refine aw_icmp_ne (q := 55) (t := 59) F dM_knownOne_52 rfl (by decide) (fun c52 => by exact absurd (up2_same _ _ _ _) c52) (fun c52 => ?_)
      refine aw_iconst (q := 56) F dM_knownOne_55 rfl (by decide) ?_
      refine aw_goto (t := 68) F dM_knownOne_56 (by decide) ?_
      refine aw_iret F C dM_knownOne_68 rfl (Nat.le_refl _) (Nat.le_refl _) ?_
      have hnn : isNm t = false := Bool.eq_false_iff.mpr (fun q => c1 (hnm.mpr q))
      rw [hnn] at h0
      exact h0 (fun q => by cases q) _ (OV.fl h10 (by decide)) QF.fl
theorem wM_readFresh (hM : moS σ l) (hl : laS σ e) (h4p : sP σ 53 4 = e) (he : 64 ≤ e) (h : GS V e n B r t) (h1 : isNm t = true → nmI r t = -1 → ∀ V', GF V V' → GS V' e n B r (nxT B n t) → K (some (vL t.2.2.2)) (V', σ)) (h0 : ∀ c, (isNm t = true → nmI r t ≠ -1) → c = (if isNm t then 3 else 1) → ∀ V' z, OV V' c t.2.1 → QF V V' → K (some (vL z)) (V', σ)) : Wp G 7 mM_readFresh [vR 53] (V, σ) 0 0 K := by
  have hm9 := h.1.1.2
  have h10 := h.1.1.1
  have h8 : V e 8 = (tDn r.1 + tPn r.1 : Nat) := h.2.1.1.2.2.2.2.2.2.2.2.1
  have hn6 := h.n6
  have hnm := h.1.nm
  have h14 : isNm t = true → V 53 14 = t.2.2.2 := fun q => h.1.2.2.2.2.1 (isNm_1 q)
  have f8 : ∀ k : Int, up2 (up2 (up2 V 53 12 k) 53 13 (V 53 10)) 53 9 5 e 8 = (tDn r.1 + tPn r.1 : Nat) := fun k => by rw [up2_nea _ _ (by omega), up2_nea _ _ (by omega), up2_nea _ _ (by omega)]; exact h8
  refine wp_intro mM_readFresh_i.1 [some (vR 53), none, none] rfl rfl (Nat.le_of_ble_eq_true rfl) ?_
  intro X hG F C
  have hm := C.rm
  refine aw_aload_0 (q := 1) F dM_readFresh_0 rfl ?_
  refine av_callV0 (q := 4) (ci := 9) F hm mM_isName_i mM_isName_n lM_156 dM_readFresh_1 rfl rfl rfl (by first | exact hM.o | exact hl.o | exact hl.a6 | exact hl.a7 | exact hl.a8) (by decide) (Nat.le_refl _) (Nat.le_refl _) (Nat.le_of_ble_eq_true rfl) (wM_isName hM (fun c1 => ?_) (fun c1 => ?_))
  · refine aw_if_ne (q := 7) (t := 12) F dM_readFresh_4 rfl (by decide) (fun c4 => ?_) (fun c4 => absurd c4 (by decide))
    have hnn : isNm t = true := hnm.mp c1
    refine aw_aload_0 (q := 13) F dM_readFresh_12 rfl ?_
    refine av_getaE (q := 16) F fM_147 dM_readFresh_13 rfl rfl (by first | exact hM.o | exact hl.o | exact hl.a6 | exact hl.a7 | exact hl.a8) h4p ?_
    refine aw_aload_0 (q := 17) F dM_readFresh_16 rfl ?_
    refine av_getl (q := 20) F fM_94 dM_readFresh_17 rfl rfl (by first | exact hM.o | exact hl.o | exact hl.a6 | exact hl.a7 | exact hl.a8) ?_
    rw [h14 hnn]
    refine av_callV1 (q := 23) (ci := 8) F hm mN_find_i mN_find_n lM_160 dM_readFresh_20 rfl rfl rfl (by first | exact hM.o | exact hl.o | exact hl.a6 | exact hl.a7 | exact hl.a8) (by decide) (Nat.le_refl _) (Nat.le_refl _) (Nat.le_of_ble_eq_true rfl) (wN_find (N := tDn r.1 + tPn r.1) hl h8 hn6 (fun k20 a20 b20 d20 => ?_) (fun a20 => ?_))
    · skip
      refine aw_iconst (q := 24) F dM_readFresh_23 rfl (by decide) ?_
      refine aw_icmp_eq (q := 27) (t := 32) F dM_readFresh_24 rfl (by decide) (fun c24 => ?_) (fun c24 => ?_)
      · refine aw_aload_0 (q := 33) F dM_readFresh_32 rfl ?_
        refine av_getl (q := 36) F fM_94 dM_readFresh_33 rfl rfl (by first | exact hM.o | exact hl.o | exact hl.a6 | exact hl.a7 | exact hl.a8) ?_
        rw [h14 hnn]
        refine aw_lstore_1 (q := 37) F dM_readFresh_36 rfl trivial ?_
        refine aw_aload_0 (q := 38) F dM_readFresh_37 rfl ?_
        refine av_callV0 (q := 41) (ci := 9) F hm mM_goesOn_i mM_goesOn_n lM_114 dM_readFresh_38 rfl rfl rfl (by first | exact hM.o | exact hl.o | exact hl.a6 | exact hl.a7 | exact hl.a8) (by decide) (Nat.le_refl _) (Nat.le_refl _) (Nat.le_of_ble_eq_true rfl) (wM_goesOn (p := t.2.2.1) hm9 (h.1.2.1 (by rw [isNm_1 hnn]; decide)) h.2.2.2.2.2.1.2.1 h.2.2.1 hM (fun V2 f38 g38 => ?_))
        refine aw_lload_1 (q := 42) F dM_readFresh_41 rfl ?_
        refine aw_lret F C dM_readFresh_42 rfl (Nat.le_refl _) (Nat.le_refl _) ?_
        first | exact h1 hnn (fnd0 h (isNm_1 hnn) a20) V2 f38 (h.nx f38 g38 he) | (exfalso; omega)
      · refine aw_aload_0 (q := 28) F dM_readFresh_27 rfl ?_
        refine aw_iconst (q := 29) F dM_readFresh_28 rfl (by decide) ?_
        refine av_callV1 (q := 32) (ci := 9) F hm mM_flaw_i mM_flaw_n lM_143 dM_readFresh_29 rfl rfl rfl (by first | exact hM.o | exact hl.o | exact hl.a6 | exact hl.a7 | exact hl.a8) (by decide) (Nat.le_refl _) (Nat.le_refl _) (Nat.le_of_ble_eq_true rfl) (wM_flaw hM hm9 ?_)
        refine aw_aload_0 (q := 33) F dM_readFresh_32 rfl ?_
        refine av_getl (q := 36) F fM_94 dM_readFresh_33 rfl rfl (by first | exact hM.o | exact hl.o | exact hl.a6 | exact hl.a7 | exact hl.a8) ?_
        skip
        refine aw_lstore_1 (q := 37) F dM_readFresh_36 rfl trivial ?_
        refine aw_aload_0 (q := 38) F dM_readFresh_37 rfl ?_
        refine av_callV0 (q := 41) (ci := 9) F hm mM_goesOn_i mM_goesOn_n lM_114 dM_readFresh_38 rfl rfl rfl (by first | exact hM.o | exact hl.o | exact hl.a6 | exact hl.a7 | exact hl.a8) (by decide) (Nat.le_refl _) (Nat.le_refl _) (Nat.le_of_ble_eq_true rfl) (wM_goesOnO hM (up2_same _ _ _ _) ?_)
        refine aw_lload_1 (q := 42) F dM_readFresh_41 rfl ?_
        refine aw_lret F C dM_readFresh_42 rfl (Nat.le_refl _) (Nat.le_refl _) ?_
        first
        | (obtain ⟨i, i1, i2, i3, i4⟩ := fnd1 h (isNm_1 hnn) a20 b20
           exact h0 3 (fun _ => by omega) (by rw [hnn]; rfl) _ _ (OV.fl h10 (by decide)) QF.fl)
        | (exfalso; omega)
    · skip
      refine aw_iconst (q := 24) F dM_readFresh_23 rfl (by decide) ?_
      refine aw_icmp_eq (q := 27) (t := 32) F dM_readFresh_24 rfl (by decide) (fun c24 => ?_) (fun c24 => absurd c24 (by decide))
      refine aw_aload_0 (q := 33) F dM_readFresh_32 rfl ?_
      refine av_getl (q := 36) F fM_94 dM_readFresh_33 rfl rfl (by first | exact hM.o | exact hl.o | exact hl.a6 | exact hl.a7 | exact hl.a8) ?_
      rw [h14 hnn]
      refine aw_lstore_1 (q := 37) F dM_readFresh_36 rfl trivial ?_
      refine aw_aload_0 (q := 38) F dM_readFresh_37 rfl ?_
      refine av_callV0 (q := 41) (ci := 9) F hm mM_goesOn_i mM_goesOn_n lM_114 dM_readFresh_38 rfl rfl rfl (by first | exact hM.o | exact hl.o | exact hl.a6 | exact hl.a7 | exact hl.a8) (by decide) (Nat.le_refl _) (Nat.le_refl _) (Nat.le_of_ble_eq_true rfl) (wM_goesOn (p := t.2.2.1) hm9 (h.1.2.1 (by rw [isNm_1 hnn]; decide)) h.2.2.2.2.2.1.2.1 h.2.2.1 hM (fun V2 f38 g38 => ?_))
      refine aw_lload_1 (q := 42) F dM_readFresh_41 rfl ?_
      refine aw_lret F C dM_readFresh_42 rfl (Nat.le_refl _) (Nat.le_refl _) ?_
      first | exact h1 hnn (fnd0 h (isNm_1 hnn) a20) V2 f38 (h.nx f38 g38 he) | (exfalso; omega)
  · refine aw_if_ne (q := 7) (t := 12) F dM_readFresh_4 rfl (by decide) (fun c4 => absurd c4 (by decide)) (fun c4 => ?_)
    refine aw_aload_0 (q := 8) F dM_readFresh_7 rfl ?_
    refine aw_iconst (q := 9) F dM_readFresh_8 rfl (by decide) ?_
    refine av_callV1 (q := 12) (ci := 9) F hm mM_flaw_i mM_flaw_n lM_143 dM_readFresh_9 rfl rfl rfl (by first | exact hM.o | exact hl.o | exact hl.a6 | exact hl.a7 | exact hl.a8) (by decide) (Nat.le_refl _) (Nat.le_refl _) (Nat.le_of_ble_eq_true rfl) (wM_flaw hM hm9 ?_)
    skip
    refine aw_aload_0 (q := 13) F dM_readFresh_12 rfl ?_
    refine av_getaE (q := 16) F fM_147 dM_readFresh_13 rfl rfl (by first | exact hM.o | exact hl.o | exact hl.a6 | exact hl.a7 | exact hl.a8) h4p ?_
    refine aw_aload_0 (q := 17) F dM_readFresh_16 rfl ?_
    refine av_getl (q := 20) F fM_94 dM_readFresh_17 rfl rfl (by first | exact hM.o | exact hl.o | exact hl.a6 | exact hl.a7 | exact hl.a8) ?_
    skip
    refine av_callV1 (q := 23) (ci := 8) F hm mN_find_i mN_find_n lM_160 dM_readFresh_20 rfl rfl rfl (by first | exact hM.o | exact hl.o | exact hl.a6 | exact hl.a7 | exact hl.a8) (by decide) (Nat.le_refl _) (Nat.le_refl _) (Nat.le_of_ble_eq_true rfl) (wN_find (N := tDn r.1 + tPn r.1) hl (f8 _) hn6 (fun k20 a20 b20 d20 => ?_) (fun a20 => ?_))
    · skip
      refine aw_iconst (q := 24) F dM_readFresh_23 rfl (by decide) ?_
      refine aw_icmp_eq (q := 27) (t := 32) F dM_readFresh_24 rfl (by decide) (fun c24 => ?_) (fun c24 => ?_)
      · refine aw_aload_0 (q := 33) F dM_readFresh_32 rfl ?_
        refine av_getl (q := 36) F fM_94 dM_readFresh_33 rfl rfl (by first | exact hM.o | exact hl.o | exact hl.a6 | exact hl.a7 | exact hl.a8) ?_
        skip
        refine aw_lstore_1 (q := 37) F dM_readFresh_36 rfl trivial ?_
        refine aw_aload_0 (q := 38) F dM_readFresh_37 rfl ?_
        refine av_callV0 (q := 41) (ci := 9) F hm mM_goesOn_i mM_goesOn_n lM_114 dM_readFresh_38 rfl rfl rfl (by first | exact hM.o | exact hl.o | exact hl.a6 | exact hl.a7 | exact hl.a8) (by decide) (Nat.le_refl _) (Nat.le_refl _) (Nat.le_of_ble_eq_true rfl) (wM_goesOnO hM (up2_same _ _ _ _) ?_)
        refine aw_lload_1 (q := 42) F dM_readFresh_41 rfl ?_
        refine aw_lret F C dM_readFresh_42 rfl (Nat.le_refl _) (Nat.le_refl _) ?_
        have hnn : isNm t = false := Bool.eq_false_iff.mpr (fun q => c1 (hnm.mpr q))
        exact h0 1 (fun q => by rw [hnn] at q; cases q) (by rw [hnn]; rfl) _ _ (OV.fl h10 (by decide)) QF.fl
      · refine aw_aload_0 (q := 28) F dM_readFresh_27 rfl ?_
        refine aw_iconst (q := 29) F dM_readFresh_28 rfl (by decide) ?_
        refine av_callV1 (q := 32) (ci := 9) F hm mM_flaw_i mM_flaw_n lM_143 dM_readFresh_29 rfl rfl rfl (by first | exact hM.o | exact hl.o | exact hl.a6 | exact hl.a7 | exact hl.a8) (by decide) (Nat.le_refl _) (Nat.le_refl _) (Nat.le_of_ble_eq_true rfl) (wM_flawO hM (up2_same _ _ _ _) ?_)
        refine aw_aload_0 (q := 33) F dM_readFresh_32 rfl ?_
        refine av_getl (q := 36) F fM_94 dM_readFresh_33 rfl rfl (by first | exact hM.o | exact hl.o | exact hl.a6 | exact hl.a7 | exact hl.a8) ?_
        skip
        refine aw_lstore_1 (q := 37) F dM_readFresh_36 rfl trivial ?_
        refine aw_aload_0 (q := 38) F dM_readFresh_37 rfl ?_
        refine av_callV0 (q := 41) (ci := 9) F hm mM_goesOn_i mM_goesOn_n lM_114 dM_readFresh_38 rfl rfl rfl (by first | exact hM.o | exact hl.o | exact hl.a6 | exact hl.a7 | exact hl.a8) (by decide) (Nat.le_refl _) (Nat.le_refl _) (Nat.le_of_ble_eq_true rfl) (wM_goesOnO hM (up2_same _ _ _ _) ?_)
        refine aw_lload_1 (q := 42) F dM_readFresh_41 rfl ?_
        refine aw_lret F C dM_readFresh_42 rfl (Nat.le_refl _) (Nat.le_refl _) ?_
        have hnn : isNm t = false := Bool.eq_false_iff.mpr (fun q => c1 (hnm.mpr q))
        exact h0 1 (fun q => by rw [hnn] at q; cases q) (by rw [hnn]; rfl) _ _ (OV.fl h10 (by decide)) QF.fl
    · skip
      refine aw_iconst (q := 24) F dM_readFresh_23 rfl (by decide) ?_
      refine aw_icmp_eq (q := 27) (t := 32) F dM_readFresh_24 rfl (by decide) (fun c24 => ?_) (fun c24 => absurd c24 (by decide))
      refine aw_aload_0 (q := 33) F dM_readFresh_32 rfl ?_
      refine av_getl (q := 36) F fM_94 dM_readFresh_33 rfl rfl (by first | exact hM.o | exact hl.o | exact hl.a6 | exact hl.a7 | exact hl.a8) ?_
      skip
      refine aw_lstore_1 (q := 37) F dM_readFresh_36 rfl trivial ?_
      refine aw_aload_0 (q := 38) F dM_readFresh_37 rfl ?_
      refine av_callV0 (q := 41) (ci := 9) F hm mM_goesOn_i mM_goesOn_n lM_114 dM_readFresh_38 rfl rfl rfl (by first | exact hM.o | exact hl.o | exact hl.a6 | exact hl.a7 | exact hl.a8) (by decide) (Nat.le_refl _) (Nat.le_refl _) (Nat.le_of_ble_eq_true rfl) (wM_goesOnO hM (up2_same _ _ _ _) ?_)
      refine aw_lload_1 (q := 42) F dM_readFresh_41 rfl ?_
      refine aw_lret F C dM_readFresh_42 rfl (Nat.le_refl _) (Nat.le_refl _) ?_
      have hnn : isNm t = false := Bool.eq_false_iff.mpr (fun q => c1 (hnm.mpr q))
      exact h0 1 (fun q => by rw [hnn] at q; cases q) (by rw [hnn]; rfl) _ _ (OV.fl h10 (by decide)) QF.fl
end Mod41
