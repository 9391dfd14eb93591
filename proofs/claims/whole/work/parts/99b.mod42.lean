theorem dM_readLocked_0 : decode mM_readLocked.2.1 0 = .ok (.aload_n 0, 1) := by decide +kernel
theorem dM_readLocked_1 : decode mM_readLocked.2.1 1 = .ok (.iconst 0, 1) := by decide +kernel
theorem dM_readLocked_2 : decode mM_readLocked.2.1 2 = .ok (.iconst 1, 1) := by decide +kernel
theorem dM_readLocked_3 : decode mM_readLocked.2.1 3 = .ok (.invokevirtual 214, 3) := by decide +kernel
theorem dM_readLocked_6 : decode mM_readLocked.2.1 6 = .ok (.aload_n 0, 1) := by decide +kernel
theorem dM_readLocked_7 : decode mM_readLocked.2.1 7 = .ok (.iconst 0, 1) := by decide +kernel
theorem dM_readLocked_8 : decode mM_readLocked.2.1 8 = .ok (.invokevirtual 236, 3) := by decide +kernel
theorem dM_readLocked_11 : decode mM_readLocked.2.1 11 = .ok (.istore_n 1, 1) := by decide +kernel
theorem dM_readLocked_12 : decode mM_readLocked.2.1 12 = .ok (.aload_n 0, 1) := by decide +kernel
theorem dM_readLocked_13 : decode mM_readLocked.2.1 13 = .ok (.getfield 78, 3) := by decide +kernel
theorem dM_readLocked_16 : decode mM_readLocked.2.1 16 = .ok (.iconst 5, 1) := by decide +kernel
theorem dM_readLocked_17 : decode mM_readLocked.2.1 17 = .ok (.if_icmp .eq 22, 3) := by decide +kernel
theorem dM_readLocked_20 : decode mM_readLocked.2.1 20 = .ok (.aload_n 0, 1) := by decide +kernel
theorem dM_readLocked_21 : decode mM_readLocked.2.1 21 = .ok (.getfield 147, 3) := by decide +kernel
theorem dM_readLocked_24 : decode mM_readLocked.2.1 24 = .ok (.getfield 239, 3) := by decide +kernel
theorem dM_readLocked_27 : decode mM_readLocked.2.1 27 = .ok (.iload_n 1, 1) := by decide +kernel
theorem dM_readLocked_28 : decode mM_readLocked.2.1 28 = .ok (.invokestatic 241, 3) := by decide +kernel
theorem dM_readLocked_31 : decode mM_readLocked.2.1 31 = .ok (.ifCond .eq 8, 3) := by decide +kernel
theorem dM_readLocked_34 : decode mM_readLocked.2.1 34 = .ok (.aload_n 0, 1) := by decide +kernel
theorem dM_readLocked_35 : decode mM_readLocked.2.1 35 = .ok (.iconst 3, 1) := by decide +kernel
theorem dM_readLocked_36 : decode mM_readLocked.2.1 36 = .ok (.invokevirtual 143, 3) := by decide +kernel
theorem dM_readLocked_39 : decode mM_readLocked.2.1 39 = .ok (.aload_n 0, 1) := by decide +kernel
theorem dM_readLocked_40 : decode mM_readLocked.2.1 40 = .ok (.invokevirtual 114, 3) := by decide +kernel
theorem dM_readLocked_43 : decode mM_readLocked.2.1 43 = .ok (.aload_n 0, 1) := by decide +kernel
theorem dM_readLocked_44 : decode mM_readLocked.2.1 44 = .ok (.getfield 78, 3) := by decide +kernel
theorem dM_readLocked_47 : decode mM_readLocked.2.1 47 = .ok (.iconst 5, 1) := by decide +kernel
theorem dM_readLocked_48 : decode mM_readLocked.2.1 48 = .ok (.if_icmp .eq 18, 3) := by decide +kernel
theorem dM_readLocked_51 : decode mM_readLocked.2.1 51 = .ok (.aload_n 0, 1) := by decide +kernel
theorem dM_readLocked_52 : decode mM_readLocked.2.1 52 = .ok (.getfield 147, 3) := by decide +kernel
theorem dM_readLocked_55 : decode mM_readLocked.2.1 55 = .ok (.dup, 1) := by decide +kernel
theorem dM_readLocked_56 : decode mM_readLocked.2.1 56 = .ok (.getfield 239, 3) := by decide +kernel
theorem dM_readLocked_59 : decode mM_readLocked.2.1 59 = .ok (.iconst 1, 1) := by decide +kernel
theorem dM_readLocked_60 : decode mM_readLocked.2.1 60 = .ok (.iload_n 1, 1) := by decide +kernel
theorem dM_readLocked_61 : decode mM_readLocked.2.1 61 = .ok (.ishl, 1) := by decide +kernel
theorem dM_readLocked_62 : decode mM_readLocked.2.1 62 = .ok (.ior, 1) := by decide +kernel
theorem dM_readLocked_63 : decode mM_readLocked.2.1 63 = .ok (.putfield 239, 3) := by decide +kernel
theorem dM_readLocked_66 : decode mM_readLocked.2.1 66 = .ok (.return_, 1) := by decide +kernel
theorem dM_readKey_0 : decode mM_readKey.2.1 0 = .ok (.aload_n 0, 1) := by decide +kernel
theorem dM_readKey_1 : decode mM_readKey.2.1 1 = .ok (.iconst 0, 1) := by decide +kernel
theorem dM_readKey_2 : decode mM_readKey.2.1 2 = .ok (.iconst 1, 1) := by decide +kernel
theorem dM_readKey_3 : decode mM_readKey.2.1 3 = .ok (.invokevirtual 214, 3) := by decide +kernel
theorem dM_readKey_6 : decode mM_readKey.2.1 6 = .ok (.aload_n 0, 1) := by decide +kernel
theorem dM_readKey_7 : decode mM_readKey.2.1 7 = .ok (.iconst 1, 1) := by decide +kernel
theorem dM_readKey_8 : decode mM_readKey.2.1 8 = .ok (.invokevirtual 236, 3) := by decide +kernel
theorem dM_readKey_11 : decode mM_readKey.2.1 11 = .ok (.istore_n 1, 1) := by decide +kernel
theorem dM_readKey_12 : decode mM_readKey.2.1 12 = .ok (.aload_n 0, 1) := by decide +kernel
theorem dM_readKey_13 : decode mM_readKey.2.1 13 = .ok (.getfield 78, 3) := by decide +kernel
theorem dM_readKey_16 : decode mM_readKey.2.1 16 = .ok (.iconst 5, 1) := by decide +kernel
theorem dM_readKey_17 : decode mM_readKey.2.1 17 = .ok (.if_icmp .eq 22, 3) := by decide +kernel
theorem dM_readKey_20 : decode mM_readKey.2.1 20 = .ok (.aload_n 0, 1) := by decide +kernel
theorem dM_readKey_21 : decode mM_readKey.2.1 21 = .ok (.getfield 147, 3) := by decide +kernel
theorem dM_readKey_24 : decode mM_readKey.2.1 24 = .ok (.getfield 265, 3) := by decide +kernel
theorem dM_readKey_27 : decode mM_readKey.2.1 27 = .ok (.iload_n 1, 1) := by decide +kernel
theorem dM_readKey_28 : decode mM_readKey.2.1 28 = .ok (.invokestatic 241, 3) := by decide +kernel
theorem dM_readKey_31 : decode mM_readKey.2.1 31 = .ok (.ifCond .eq 8, 3) := by decide +kernel
theorem dM_readKey_34 : decode mM_readKey.2.1 34 = .ok (.aload_n 0, 1) := by decide +kernel
theorem dM_readKey_35 : decode mM_readKey.2.1 35 = .ok (.iconst 3, 1) := by decide +kernel
theorem dM_readKey_36 : decode mM_readKey.2.1 36 = .ok (.invokevirtual 143, 3) := by decide +kernel
theorem dM_readKey_39 : decode mM_readKey.2.1 39 = .ok (.aload_n 0, 1) := by decide +kernel
theorem dM_readKey_40 : decode mM_readKey.2.1 40 = .ok (.invokevirtual 114, 3) := by decide +kernel
theorem dM_readKey_43 : decode mM_readKey.2.1 43 = .ok (.aload_n 0, 1) := by decide +kernel
theorem dM_readKey_44 : decode mM_readKey.2.1 44 = .ok (.getfield 78, 3) := by decide +kernel
theorem dM_readKey_47 : decode mM_readKey.2.1 47 = .ok (.iconst 5, 1) := by decide +kernel
theorem dM_readKey_48 : decode mM_readKey.2.1 48 = .ok (.if_icmp .eq 18, 3) := by decide +kernel
theorem dM_readKey_51 : decode mM_readKey.2.1 51 = .ok (.aload_n 0, 1) := by decide +kernel
theorem dM_readKey_52 : decode mM_readKey.2.1 52 = .ok (.getfield 147, 3) := by decide +kernel
theorem dM_readKey_55 : decode mM_readKey.2.1 55 = .ok (.dup, 1) := by decide +kernel
theorem dM_readKey_56 : decode mM_readKey.2.1 56 = .ok (.getfield 265, 3) := by decide +kernel
theorem dM_readKey_59 : decode mM_readKey.2.1 59 = .ok (.iconst 1, 1) := by decide +kernel
theorem dM_readKey_60 : decode mM_readKey.2.1 60 = .ok (.iload_n 1, 1) := by decide +kernel
theorem dM_readKey_61 : decode mM_readKey.2.1 61 = .ok (.ishl, 1) := by decide +kernel
theorem dM_readKey_62 : decode mM_readKey.2.1 62 = .ok (.ior, 1) := by decide +kernel
theorem dM_readKey_63 : decode mM_readKey.2.1 63 = .ok (.putfield 265, 3) := by decide +kernel
theorem dM_readKey_66 : decode mM_readKey.2.1 66 = .ok (.return_, 1) := by decide +kernel
theorem dM_readLast_0 : decode mM_readLast.2.1 0 = .ok (.aload_n 0, 1) := by decide +kernel
theorem dM_readLast_1 : decode mM_readLast.2.1 1 = .ok (.getfield 147, 3) := by decide +kernel
theorem dM_readLast_4 : decode mM_readLast.2.1 4 = .ok (.getfield 245, 3) := by decide +kernel
theorem dM_readLast_7 : decode mM_readLast.2.1 7 = .ok (.iconst (-1), 1) := by decide +kernel
theorem dM_readLast_8 : decode mM_readLast.2.1 8 = .ok (.if_icmp .eq 8, 3) := by decide +kernel
theorem dM_readLast_11 : decode mM_readLast.2.1 11 = .ok (.aload_n 0, 1) := by decide +kernel
theorem dM_readLast_12 : decode mM_readLast.2.1 12 = .ok (.iconst 3, 1) := by decide +kernel
theorem dM_readLast_13 : decode mM_readLast.2.1 13 = .ok (.invokevirtual 143, 3) := by decide +kernel
theorem dM_readLast_16 : decode mM_readLast.2.1 16 = .ok (.aload_n 0, 1) := by decide +kernel
theorem dM_readLast_17 : decode mM_readLast.2.1 17 = .ok (.iconst 0, 1) := by decide +kernel
theorem dM_readLast_18 : decode mM_readLast.2.1 18 = .ok (.iconst 1, 1) := by decide +kernel
theorem dM_readLast_19 : decode mM_readLast.2.1 19 = .ok (.invokevirtual 214, 3) := by decide +kernel
theorem dM_readLast_22 : decode mM_readLast.2.1 22 = .ok (.aload_n 0, 1) := by decide +kernel
theorem dM_readLast_23 : decode mM_readLast.2.1 23 = .ok (.iconst 0, 1) := by decide +kernel
theorem dM_readLast_24 : decode mM_readLast.2.1 24 = .ok (.invokevirtual 236, 3) := by decide +kernel
theorem dM_readLast_27 : decode mM_readLast.2.1 27 = .ok (.istore_n 1, 1) := by decide +kernel
theorem dM_readLast_28 : decode mM_readLast.2.1 28 = .ok (.aload_n 0, 1) := by decide +kernel
theorem dM_readLast_29 : decode mM_readLast.2.1 29 = .ok (.getfield 78, 3) := by decide +kernel
theorem dM_readLast_32 : decode mM_readLast.2.1 32 = .ok (.iconst 5, 1) := by decide +kernel
theorem dM_readLast_33 : decode mM_readLast.2.1 33 = .ok (.if_icmp .eq 21, 3) := by decide +kernel
theorem dM_readLast_36 : decode mM_readLast.2.1 36 = .ok (.aload_n 0, 1) := by decide +kernel
theorem dM_readLast_37 : decode mM_readLast.2.1 37 = .ok (.getfield 147, 3) := by decide +kernel
theorem dM_readLast_40 : decode mM_readLast.2.1 40 = .ok (.getfield 247, 3) := by decide +kernel
theorem dM_readLast_43 : decode mM_readLast.2.1 43 = .ok (.iload_n 1, 1) := by decide +kernel
theorem dM_readLast_44 : decode mM_readLast.2.1 44 = .ok (.iaload, 1) := by decide +kernel
theorem dM_readLast_45 : decode mM_readLast.2.1 45 = .ok (.ifCond .le 9, 3) := by decide +kernel
theorem dM_readLast_48 : decode mM_readLast.2.1 48 = .ok (.aload_n 0, 1) := by decide +kernel
theorem dM_readLast_49 : decode mM_readLast.2.1 49 = .ok (.bipush 7, 2) := by decide +kernel
theorem dM_readLast_51 : decode mM_readLast.2.1 51 = .ok (.invokevirtual 143, 3) := by decide +kernel
theorem dM_readLast_54 : decode mM_readLast.2.1 54 = .ok (.aload_n 0, 1) := by decide +kernel
theorem dM_readLast_55 : decode mM_readLast.2.1 55 = .ok (.invokevirtual 114, 3) := by decide +kernel
theorem dM_readLast_58 : decode mM_readLast.2.1 58 = .ok (.aload_n 0, 1) := by decide +kernel
theorem dM_readLast_59 : decode mM_readLast.2.1 59 = .ok (.getfield 78, 3) := by decide +kernel
theorem dM_readLast_62 : decode mM_readLast.2.1 62 = .ok (.iconst 5, 1) := by decide +kernel
theorem dM_readLast_63 : decode mM_readLast.2.1 63 = .ok (.if_icmp .eq 11, 3) := by decide +kernel
theorem dM_readLast_66 : decode mM_readLast.2.1 66 = .ok (.aload_n 0, 1) := by decide +kernel
theorem dM_readLast_67 : decode mM_readLast.2.1 67 = .ok (.getfield 147, 3) := by decide +kernel
theorem dM_readLast_70 : decode mM_readLast.2.1 70 = .ok (.iload_n 1, 1) := by decide +kernel
theorem dM_readLast_71 : decode mM_readLast.2.1 71 = .ok (.putfield 245, 3) := by decide +kernel
theorem dM_readLast_74 : decode mM_readLast.2.1 74 = .ok (.return_, 1) := by decide +kernel
theorem dM_readLane_0 : decode mM_readLane.2.1 0 = .ok (.aload_n 0, 1) := by decide +kernel
theorem dM_readLane_1 : decode mM_readLane.2.1 1 = .ok (.getfield 147, 3) := by decide +kernel
theorem dM_readLane_4 : decode mM_readLane.2.1 4 = .ok (.getfield 151, 3) := by decide +kernel
theorem dM_readLane_7 : decode mM_readLane.2.1 7 = .ok (.iconst (-1), 1) := by decide +kernel
theorem dM_readLane_8 : decode mM_readLane.2.1 8 = .ok (.if_icmp .eq 8, 3) := by decide +kernel
theorem dM_readLane_11 : decode mM_readLane.2.1 11 = .ok (.aload_n 0, 1) := by decide +kernel
theorem dM_readLane_12 : decode mM_readLane.2.1 12 = .ok (.iconst 3, 1) := by decide +kernel
theorem dM_readLane_13 : decode mM_readLane.2.1 13 = .ok (.invokevirtual 143, 3) := by decide +kernel
theorem dM_readLane_16 : decode mM_readLane.2.1 16 = .ok (.aload_n 0, 1) := by decide +kernel
theorem dM_readLane_17 : decode mM_readLane.2.1 17 = .ok (.invokevirtual 114, 3) := by decide +kernel
theorem dM_readLane_20 : decode mM_readLane.2.1 20 = .ok (.aload_n 0, 1) := by decide +kernel
theorem dM_readLane_21 : decode mM_readLane.2.1 21 = .ok (.ldc 213, 2) := by decide +kernel
theorem dM_readLane_23 : decode mM_readLane.2.1 23 = .ok (.invokevirtual 119, 3) := by decide +kernel
theorem dM_readLane_26 : decode mM_readLane.2.1 26 = .ok (.ifCond .ne 8, 3) := by decide +kernel
theorem dM_readLane_29 : decode mM_readLane.2.1 29 = .ok (.aload_n 0, 1) := by decide +kernel
theorem dM_readLane_30 : decode mM_readLane.2.1 30 = .ok (.iconst 1, 1) := by decide +kernel
theorem dM_readLane_31 : decode mM_readLane.2.1 31 = .ok (.invokevirtual 143, 3) := by decide +kernel
theorem dM_readLane_34 : decode mM_readLane.2.1 34 = .ok (.aload_n 0, 1) := by decide +kernel
theorem dM_readLane_35 : decode mM_readLane.2.1 35 = .ok (.invokevirtual 114, 3) := by decide +kernel
theorem dM_readLane_38 : decode mM_readLane.2.1 38 = .ok (.aload_n 0, 1) := by decide +kernel
theorem dM_readLane_39 : decode mM_readLane.2.1 39 = .ok (.getfield 78, 3) := by decide +kernel
theorem dM_readLane_42 : decode mM_readLane.2.1 42 = .ok (.iconst 3, 1) := by decide +kernel
theorem dM_readLane_43 : decode mM_readLane.2.1 43 = .ok (.if_icmp .eq 11, 3) := by decide +kernel
theorem dM_readLane_46 : decode mM_readLane.2.1 46 = .ok (.aload_n 0, 1) := by decide +kernel
theorem dM_readLane_47 : decode mM_readLane.2.1 47 = .ok (.iconst 1, 1) := by decide +kernel
theorem dM_readLane_48 : decode mM_readLane.2.1 48 = .ok (.invokevirtual 143, 3) := by decide +kernel
theorem dM_readLane_51 : decode mM_readLane.2.1 51 = .ok (.goto 17, 3) := by decide +kernel
theorem dM_readLane_54 : decode mM_readLane.2.1 54 = .ok (.aload_n 0, 1) := by decide +kernel
theorem dM_readLane_55 : decode mM_readLane.2.1 55 = .ok (.getfield 101, 3) := by decide +kernel
theorem dM_readLane_58 : decode mM_readLane.2.1 58 = .ok (.bipush 100, 2) := by decide +kernel
theorem dM_readLane_60 : decode mM_readLane.2.1 60 = .ok (.if_icmp .le 8, 3) := by decide +kernel
theorem dM_readLane_63 : decode mM_readLane.2.1 63 = .ok (.aload_n 0, 1) := by decide +kernel
theorem dM_readLane_64 : decode mM_readLane.2.1 64 = .ok (.iconst 4, 1) := by decide +kernel
theorem dM_readLane_65 : decode mM_readLane.2.1 65 = .ok (.invokevirtual 143, 3) := by decide +kernel
theorem dM_readLane_68 : decode mM_readLane.2.1 68 = .ok (.aload_n 0, 1) := by decide +kernel
theorem dM_readLane_69 : decode mM_readLane.2.1 69 = .ok (.getfield 101, 3) := by decide +kernel
theorem dM_readLane_72 : decode mM_readLane.2.1 72 = .ok (.istore_n 1, 1) := by decide +kernel
theorem dM_readLane_73 : decode mM_readLane.2.1 73 = .ok (.aload_n 0, 1) := by decide +kernel
theorem dM_readLane_74 : decode mM_readLane.2.1 74 = .ok (.invokevirtual 114, 3) := by decide +kernel
theorem dM_readLane_77 : decode mM_readLane.2.1 77 = .ok (.aload_n 0, 1) := by decide +kernel
theorem dM_readLane_78 : decode mM_readLane.2.1 78 = .ok (.getfield 78, 3) := by decide +kernel
theorem dM_readLane_81 : decode mM_readLane.2.1 81 = .ok (.iconst 5, 1) := by decide +kernel
theorem dM_readLane_82 : decode mM_readLane.2.1 82 = .ok (.if_icmp .eq 11, 3) := by decide +kernel
theorem dM_readLane_85 : decode mM_readLane.2.1 85 = .ok (.aload_n 0, 1) := by decide +kernel
theorem dM_readLane_86 : decode mM_readLane.2.1 86 = .ok (.getfield 147, 3) := by decide +kernel
theorem dM_readLane_89 : decode mM_readLane.2.1 89 = .ok (.iload_n 1, 1) := by decide +kernel
theorem dM_readLane_90 : decode mM_readLane.2.1 90 = .ok (.putfield 151, 3) := by decide +kernel
theorem dM_readLane_93 : decode mM_readLane.2.1 93 = .ok (.return_, 1) := by decide +kernel
def MrK (K : Option AV → Mem → Prop) (V : Nat → Nat → Int) (σ : Shp) (e n : Nat) (B : Nat → Int) (po : PO) : Prop := (∀ V' r' t', po = .inl (r', t') → PF V V' e → (MT V' t' ∧ LR V' e r' ∧ MTX V' n B ∧ okTk n t' ∧ V' 53 12 = 0) → K none (V', σ)) ∧ ∀ V' c p, po = .inr (c, p) → PF V V' e → OV V' c p → K none (V', σ)
def N8 (V : Nat → Nat → Int) (e : Nat) : Prop := ∃ N : Nat, N ≤ 6 ∧ V e 8 = N
section Mod42
variable {G : GE} {V V' V1 V2 : Nat → Nat → Int} {σ : Shp} {K : Option AV → Mem → Prop} {l n e : Nat} {B : Nat → Int} {r : PR} {t : TK}
theorem GS.n8 (h : GS V e n B r t) (g : QF V V1) (he : 64 ≤ e) : N8 V1 e := ⟨_, h.n6, by rw [g.1 e (by omega)]; exact h.2.1.1.2.2.2.2.2.2.2.2.1⟩
theorem GS.ov (h : GS V e n B r t) (hM : moS σ l) {x : Int} {k : Nat} (hx : x = k) (hk : 0 < k) (hK : ∀ V', OV V' k t.2.1 → QF V V' → K none (V', σ)) : Wp G 0 mM_flaw [vR 53, vI x] (V, σ) 0 0 K := by
  subst hx
  exact wM_flaw hM h.1.1.2 (hK _ (OV.fl h.1.1.1 hk) QF.fl)
theorem GS.go (h : GS V e n B r t) (hM : moS σ l) (he : 64 ≤ e) (h4 : t.1 ≠ 4) (hK : ∀ V', QF V V' → GS V' e n B r (nxT B n t) → K none (V', σ)) : Wp G 1 mM_goesOn [vR 53] (V, σ) 0 0 K :=
  wM_goesOn (p := t.2.2.1) h.1.1.2 (h.1.2.1 h4) h.2.2.2.2.2.1.2.1 h.2.2.1 hM (fun V' f g => hK V' f.qf (h.nx f g he))
/-- the lane's cells alone have changed -/
theorem GS.w {r' : PR} (h : GS V e n B r t) (e3 : V' 53 = V 53) (e4 : V' 54 = V 54) (hL : LR V' e r') : MT V' t ∧ LR V' e r' ∧ MTX V' n B ∧ okTk n t ∧ V' 53 12 = 0 := by
  obtain ⟨h1, -, h3, -, -, h6, h7⟩ := h
  refine ⟨?_, hL, ?_, h6, by rw [e3]; exact h7⟩
  · unfold MT; rw [e3]; exact h1
  · unfold MTX; rw [e3, e4]; exact h3
theorem wM_isNameO (hM : moS σ l) (ho : V 53 9 = 5) (hK : K (some (vI 0)) (V, σ)) : Wp G 6 mM_isName [vR 53] (V, σ) 0 0 K := wM_isName hM (fun q => absurd (ho.symm.trans q.1) (by decide)) (fun _ => hK)
theorem wM_isWordO {j : Nat} (hj3 : 3 ≤ j) (hj : j < 19) (hM : moS σ l) (ho : V 53 9 = 5) (hK : K (some (vI 0)) (V, σ)) : Wp G 5 mM_isWord [vR 53, vR (BG + j)] (V, σ) 0 0 K := wM_isWord hj3 hj hM (fun q => absurd (ho.symm.trans q.1) (by decide)) (fun _ => hK)
theorem wM_knownOneO {x : Int} (hM : moS σ l) (hl : laS σ e) (h4p : sP σ 53 4 = e) (h8 : N8 V e) (ho : V 53 9 = 5) (hK : K (some (vI 0)) (V, σ)) : Wp G 7 mM_knownOne [vR 53, vI x] (V, σ) 0 0 K := by
  obtain ⟨N, n6, h8⟩ := h8
  refine wp_intro mM_knownOne_i.1 [some (vR 53), some (vI x), none] rfl rfl (Nat.le_of_ble_eq_true rfl) ?_
  intro X hG F C
  have hm := C.rm
  refine aw_aload_0 (q := 1) F dM_knownOne_0 rfl ?_
  refine av_callV0 (q := 4) (ci := 9) F hm mM_isName_i mM_isName_n lM_156 dM_knownOne_1 rfl rfl rfl (by first | exact hM.o | exact hl.o | exact hl.a6 | exact hl.a7 | exact hl.a8 | exact hl.a2) (by decide) (Nat.le_refl _) (Nat.le_refl _) (Nat.le_of_ble_eq_true rfl) (wM_isNameO hM ho ?_)
  refine aw_if_ne (q := 7) (t := 12) F dM_knownOne_4 rfl (by decide) (fun c4 => absurd c4 (by decide)) (fun c4 => ?_)
  refine aw_aload_0 (q := 8) F dM_knownOne_7 rfl ?_
  refine aw_iconst (q := 9) F dM_knownOne_8 rfl (by decide) ?_
  refine av_callV1 (q := 12) (ci := 9) F hm mM_flaw_i mM_flaw_n lM_143 dM_knownOne_9 rfl rfl rfl (by first | exact hM.o | exact hl.o | exact hl.a6 | exact hl.a7 | exact hl.a8 | exact hl.a2) (by decide) (Nat.le_refl _) (Nat.le_refl _) (Nat.le_of_ble_eq_true rfl) (wM_flawO hM ho ?_)
  refine aw_aload_0 (q := 13) F dM_knownOne_12 rfl ?_
  refine av_getaE (q := 16) F fM_147 dM_knownOne_13 rfl rfl (by first | exact hM.o | exact hl.o | exact hl.a6 | exact hl.a7 | exact hl.a8 | exact hl.a2) h4p ?_
  refine aw_aload_0 (q := 17) F dM_knownOne_16 rfl ?_
  refine av_getl (q := 20) F fM_94 dM_knownOne_17 rfl rfl (by first | exact hM.o | exact hl.o | exact hl.a6 | exact hl.a7 | exact hl.a8 | exact hl.a2) ?_
  refine av_callV1 (q := 23) (ci := 8) F hm mN_find_i mN_find_n lM_160 dM_knownOne_20 rfl rfl rfl (by first | exact hM.o | exact hl.o | exact hl.a6 | exact hl.a7 | exact hl.a8 | exact hl.a2) (by decide) (Nat.le_refl _) (Nat.le_refl _) (Nat.le_of_ble_eq_true rfl) (wN_find (N := N) hl h8 n6 (fun k20 a20 b20 d20 => ?_) (fun a20 => ?_))
  · refine aw_istore_2 (q := 24) F dM_knownOne_23 rfl trivial ?_
    refine aw_iload_2 (q := 25) F dM_knownOne_24 rfl ?_
    refine aw_iconst (q := 26) F dM_knownOne_25 rfl (by decide) ?_
    refine aw_icmp_eq (q := 29) (t := 42) F dM_knownOne_26 rfl (by decide) (fun c26 => ?_) (fun c26 => ?_)
    · refine aw_aload_0 (q := 43) F dM_knownOne_42 rfl ?_
      refine aw_iconst (q := 44) F dM_knownOne_43 rfl (by decide) ?_
      refine av_callV1 (q := 47) (ci := 9) F hm mM_flaw_i mM_flaw_n lM_143 dM_knownOne_44 rfl rfl rfl (by first | exact hM.o | exact hl.o | exact hl.a6 | exact hl.a7 | exact hl.a8 | exact hl.a2) (by decide) (Nat.le_refl _) (Nat.le_refl _) (Nat.le_of_ble_eq_true rfl) (wM_flawO hM ho ?_)
      refine aw_aload_0 (q := 48) F dM_knownOne_47 rfl ?_
      refine av_geti (q := 51) F fM_78 dM_knownOne_48 rfl rfl (by first | exact hM.o | exact hl.o | exact hl.a6 | exact hl.a7 | exact hl.a8 | exact hl.a2) ?_
      refine aw_iconst (q := 52) F dM_knownOne_51 rfl (by decide) ?_
      refine aw_icmp_ne (q := 55) (t := 59) F dM_knownOne_52 rfl (by decide) (fun c52 => by exact absurd ho c52) (fun c52 => ?_)
      refine aw_iconst (q := 56) F dM_knownOne_55 rfl (by decide) ?_
      refine aw_goto (t := 68) F dM_knownOne_56 (by decide) ?_
      refine aw_iret F C dM_knownOne_68 rfl (Nat.le_refl _) (Nat.le_refl _) ?_
      exact hK
    · refine aw_aload_0 (q := 30) F dM_knownOne_29 rfl ?_
      refine av_getaE (q := 33) F fM_147 dM_knownOne_30 rfl rfl (by first | exact hM.o | exact hl.o | exact hl.a6 | exact hl.a7 | exact hl.a8 | exact hl.a2) h4p ?_
      refine av_getaE (q := 36) F fM_171 dM_knownOne_33 rfl rfl (by first | exact hM.o | exact hl.o | exact hl.a6 | exact hl.a7 | exact hl.a8 | exact hl.a2) hl.p16 ?_
      refine aw_iload_2 (q := 37) F dM_knownOne_36 rfl ?_
      refine av_iaload (q := 38) F dM_knownOne_37 rfl (by first | exact hM.o | exact hl.o | exact hl.a6 | exact hl.a7 | exact hl.a8 | exact hl.a2) (by omega) (by omega) ?_
      refine aw_iload_1 (q := 39) F dM_knownOne_38 rfl ?_
      refine aw_icmp_eq (q := 42) (t := 47) F dM_knownOne_39 rfl (by decide) (fun c39 => ?_) (fun c39 => ?_)
      · refine aw_aload_0 (q := 48) F dM_knownOne_47 rfl ?_
        refine av_geti (q := 51) F fM_78 dM_knownOne_48 rfl rfl (by first | exact hM.o | exact hl.o | exact hl.a6 | exact hl.a7 | exact hl.a8 | exact hl.a2) ?_
        refine aw_iconst (q := 52) F dM_knownOne_51 rfl (by decide) ?_
        refine aw_icmp_ne (q := 55) (t := 59) F dM_knownOne_52 rfl (by decide) (fun c52 => by exact absurd ho c52) (fun c52 => ?_)
        refine aw_iconst (q := 56) F dM_knownOne_55 rfl (by decide) ?_
        refine aw_goto (t := 68) F dM_knownOne_56 (by decide) ?_
        refine aw_iret F C dM_knownOne_68 rfl (Nat.le_refl _) (Nat.le_refl _) ?_
        exact hK
      · refine aw_aload_0 (q := 43) F dM_knownOne_42 rfl ?_
        refine aw_iconst (q := 44) F dM_knownOne_43 rfl (by decide) ?_
        refine av_callV1 (q := 47) (ci := 9) F hm mM_flaw_i mM_flaw_n lM_143 dM_knownOne_44 rfl rfl rfl (by first | exact hM.o | exact hl.o | exact hl.a6 | exact hl.a7 | exact hl.a8 | exact hl.a2) (by decide) (Nat.le_refl _) (Nat.le_refl _) (Nat.le_of_ble_eq_true rfl) (wM_flawO hM ho ?_)
        refine aw_aload_0 (q := 48) F dM_knownOne_47 rfl ?_
        refine av_geti (q := 51) F fM_78 dM_knownOne_48 rfl rfl (by first | exact hM.o | exact hl.o | exact hl.a6 | exact hl.a7 | exact hl.a8 | exact hl.a2) ?_
        refine aw_iconst (q := 52) F dM_knownOne_51 rfl (by decide) ?_
        refine aw_icmp_ne (q := 55) (t := 59) F dM_knownOne_52 rfl (by decide) (fun c52 => by exact absurd ho c52) (fun c52 => ?_)
        refine aw_iconst (q := 56) F dM_knownOne_55 rfl (by decide) ?_
        refine aw_goto (t := 68) F dM_knownOne_56 (by decide) ?_
        refine aw_iret F C dM_knownOne_68 rfl (Nat.le_refl _) (Nat.le_refl _) ?_
        exact hK
  · refine aw_istore_2 (q := 24) F dM_knownOne_23 rfl trivial ?_
    refine aw_iload_2 (q := 25) F dM_knownOne_24 rfl ?_
    refine aw_iconst (q := 26) F dM_knownOne_25 rfl (by decide) ?_
    refine aw_icmp_eq (q := 29) (t := 42) F dM_knownOne_26 rfl (by decide) (fun c26 => ?_) (fun c26 => absurd c26 (by decide))
    refine aw_aload_0 (q := 43) F dM_knownOne_42 rfl ?_
    refine aw_iconst (q := 44) F dM_knownOne_43 rfl (by decide) ?_
    refine av_callV1 (q := 47) (ci := 9) F hm mM_flaw_i mM_flaw_n lM_143 dM_knownOne_44 rfl rfl rfl (by first | exact hM.o | exact hl.o | exact hl.a6 | exact hl.a7 | exact hl.a8 | exact hl.a2) (by decide) (Nat.le_refl _) (Nat.le_refl _) (Nat.le_of_ble_eq_true rfl) (wM_flawO hM ho ?_)
    refine aw_aload_0 (q := 48) F dM_knownOne_47 rfl ?_
    refine av_geti (q := 51) F fM_78 dM_knownOne_48 rfl rfl (by first | exact hM.o | exact hl.o | exact hl.a6 | exact hl.a7 | exact hl.a8 | exact hl.a2) ?_
    refine aw_iconst (q := 52) F dM_knownOne_51 rfl (by decide) ?_
    refine aw_icmp_ne (q := 55) (t := 59) F dM_knownOne_52 rfl (by decide) (fun c52 => by exact absurd ho c52) (fun c52 => ?_)
    refine aw_iconst (q := 56) F dM_knownOne_55 rfl (by decide) ?_
    refine aw_goto (t := 68) F dM_knownOne_56 (by decide) ?_
    refine aw_iret F C dM_knownOne_68 rfl (Nat.le_refl _) (Nat.le_refl _) ?_
    exact hK
theorem wM_readFreshO (hM : moS σ l) (hl : laS σ e) (h4p : sP σ 53 4 = e) (h8 : N8 V e) (ho : V 53 9 = 5) (hK : ∀ z, K (some (vL z)) (V, σ)) : Wp G 7 mM_readFresh [vR 53] (V, σ) 0 0 K := by
  obtain ⟨N, n6, h8⟩ := h8
  refine wp_intro mM_readFresh_i.1 [some (vR 53), none, none] rfl rfl (Nat.le_of_ble_eq_true rfl) ?_
  intro X hG F C
  have hm := C.rm
  refine aw_aload_0 (q := 1) F dM_readFresh_0 rfl ?_
  refine av_callV0 (q := 4) (ci := 9) F hm mM_isName_i mM_isName_n lM_156 dM_readFresh_1 rfl rfl rfl (by first | exact hM.o | exact hl.o | exact hl.a6 | exact hl.a7 | exact hl.a8 | exact hl.a2) (by decide) (Nat.le_refl _) (Nat.le_refl _) (Nat.le_of_ble_eq_true rfl) (wM_isNameO hM ho ?_)
  refine aw_if_ne (q := 7) (t := 12) F dM_readFresh_4 rfl (by decide) (fun c4 => absurd c4 (by decide)) (fun c4 => ?_)
  refine aw_aload_0 (q := 8) F dM_readFresh_7 rfl ?_
  refine aw_iconst (q := 9) F dM_readFresh_8 rfl (by decide) ?_
  refine av_callV1 (q := 12) (ci := 9) F hm mM_flaw_i mM_flaw_n lM_143 dM_readFresh_9 rfl rfl rfl (by first | exact hM.o | exact hl.o | exact hl.a6 | exact hl.a7 | exact hl.a8 | exact hl.a2) (by decide) (Nat.le_refl _) (Nat.le_refl _) (Nat.le_of_ble_eq_true rfl) (wM_flawO hM ho ?_)
  refine aw_aload_0 (q := 13) F dM_readFresh_12 rfl ?_
  refine av_getaE (q := 16) F fM_147 dM_readFresh_13 rfl rfl (by first | exact hM.o | exact hl.o | exact hl.a6 | exact hl.a7 | exact hl.a8 | exact hl.a2) h4p ?_
  refine aw_aload_0 (q := 17) F dM_readFresh_16 rfl ?_
  refine av_getl (q := 20) F fM_94 dM_readFresh_17 rfl rfl (by first | exact hM.o | exact hl.o | exact hl.a6 | exact hl.a7 | exact hl.a8 | exact hl.a2) ?_
  refine av_callV1 (q := 23) (ci := 8) F hm mN_find_i mN_find_n lM_160 dM_readFresh_20 rfl rfl rfl (by first | exact hM.o | exact hl.o | exact hl.a6 | exact hl.a7 | exact hl.a8 | exact hl.a2) (by decide) (Nat.le_refl _) (Nat.le_refl _) (Nat.le_of_ble_eq_true rfl) (wN_find (N := N) hl h8 n6 (fun k20 a20 b20 d20 => ?_) (fun a20 => ?_))
  · refine aw_iconst (q := 24) F dM_readFresh_23 rfl (by decide) ?_
    refine aw_icmp_eq (q := 27) (t := 32) F dM_readFresh_24 rfl (by decide) (fun c24 => ?_) (fun c24 => ?_)
    · refine aw_aload_0 (q := 33) F dM_readFresh_32 rfl ?_
      refine av_getl (q := 36) F fM_94 dM_readFresh_33 rfl rfl (by first | exact hM.o | exact hl.o | exact hl.a6 | exact hl.a7 | exact hl.a8 | exact hl.a2) ?_
      refine aw_lstore_1 (q := 37) F dM_readFresh_36 rfl trivial ?_
      refine aw_aload_0 (q := 38) F dM_readFresh_37 rfl ?_
      refine av_callV0 (q := 41) (ci := 9) F hm mM_goesOn_i mM_goesOn_n lM_114 dM_readFresh_38 rfl rfl rfl (by first | exact hM.o | exact hl.o | exact hl.a6 | exact hl.a7 | exact hl.a8 | exact hl.a2) (by decide) (Nat.le_refl _) (Nat.le_refl _) (Nat.le_of_ble_eq_true rfl) (wM_goesOnO hM ho ?_)
      refine aw_lload_1 (q := 42) F dM_readFresh_41 rfl ?_
      refine aw_lret F C dM_readFresh_42 rfl (Nat.le_refl _) (Nat.le_refl _) ?_
      exact hK _
    · refine aw_aload_0 (q := 28) F dM_readFresh_27 rfl ?_
      refine aw_iconst (q := 29) F dM_readFresh_28 rfl (by decide) ?_
      refine av_callV1 (q := 32) (ci := 9) F hm mM_flaw_i mM_flaw_n lM_143 dM_readFresh_29 rfl rfl rfl (by first | exact hM.o | exact hl.o | exact hl.a6 | exact hl.a7 | exact hl.a8 | exact hl.a2) (by decide) (Nat.le_refl _) (Nat.le_refl _) (Nat.le_of_ble_eq_true rfl) (wM_flawO hM ho ?_)
      refine aw_aload_0 (q := 33) F dM_readFresh_32 rfl ?_
      refine av_getl (q := 36) F fM_94 dM_readFresh_33 rfl rfl (by first | exact hM.o | exact hl.o | exact hl.a6 | exact hl.a7 | exact hl.a8 | exact hl.a2) ?_
      refine aw_lstore_1 (q := 37) F dM_readFresh_36 rfl trivial ?_
      refine aw_aload_0 (q := 38) F dM_readFresh_37 rfl ?_
      refine av_callV0 (q := 41) (ci := 9) F hm mM_goesOn_i mM_goesOn_n lM_114 dM_readFresh_38 rfl rfl rfl (by first | exact hM.o | exact hl.o | exact hl.a6 | exact hl.a7 | exact hl.a8 | exact hl.a2) (by decide) (Nat.le_refl _) (Nat.le_refl _) (Nat.le_of_ble_eq_true rfl) (wM_goesOnO hM ho ?_)
      refine aw_lload_1 (q := 42) F dM_readFresh_41 rfl ?_
      refine aw_lret F C dM_readFresh_42 rfl (Nat.le_refl _) (Nat.le_refl _) ?_
      exact hK _
  · refine aw_iconst (q := 24) F dM_readFresh_23 rfl (by decide) ?_
    refine aw_icmp_eq (q := 27) (t := 32) F dM_readFresh_24 rfl (by decide) (fun c24 => ?_) (fun c24 => absurd c24 (by decide))
    refine aw_aload_0 (q := 33) F dM_readFresh_32 rfl ?_
    refine av_getl (q := 36) F fM_94 dM_readFresh_33 rfl rfl (by first | exact hM.o | exact hl.o | exact hl.a6 | exact hl.a7 | exact hl.a8 | exact hl.a2) ?_
    refine aw_lstore_1 (q := 37) F dM_readFresh_36 rfl trivial ?_
    refine aw_aload_0 (q := 38) F dM_readFresh_37 rfl ?_
    refine av_callV0 (q := 41) (ci := 9) F hm mM_goesOn_i mM_goesOn_n lM_114 dM_readFresh_38 rfl rfl rfl (by first | exact hM.o | exact hl.o | exact hl.a6 | exact hl.a7 | exact hl.a8 | exact hl.a2) (by decide) (Nat.le_refl _) (Nat.le_refl _) (Nat.le_of_ble_eq_true rfl) (wM_goesOnO hM ho ?_)
    refine aw_lload_1 (q := 42) F dM_readFresh_41 rfl ?_
    refine aw_lret F C dM_readFresh_42 rfl (Nat.le_refl _) (Nat.le_refl _) ?_
    exact hK _
theorem wM_lineBeginsO {x y : Int} (hM : moS σ l) (hl : laS σ e) (h4p : sP σ 53 4 = e) (ho : V 53 9 = 5) (hK : K none (V, σ)) : Wp G 2 mM_lineBegins [vR 53, vI x, vI y] (V, σ) 0 0 K := by
  refine wp_intro mM_lineBegins_i.1 [some (vR 53), some (vI x), some (vI y)] rfl rfl (Nat.le_of_ble_eq_true rfl) ?_
  intro X hG F C
  have hm := C.rm
  refine aw_iload_1 (q := 1) F dM_lineBegins_0 rfl ?_
  refine aw_iload_2 (q := 2) F dM_lineBegins_1 rfl ?_
  refine aw_icmp_ne (q := 5) (t := 10) F dM_lineBegins_2 rfl (by decide) (fun c2 => ?_) (fun c2 => ?_)
  · refine aw_aload_0 (q := 11) F dM_lineBegins_10 rfl ?_
    refine av_getaE (q := 14) F fM_147 dM_lineBegins_11 rfl rfl (by first | exact hM.o | exact hl.o | exact hl.a6 | exact hl.a7 | exact hl.a8 | exact hl.a2) h4p ?_
    refine av_geti (q := 17) F fM_151 dM_lineBegins_14 rfl rfl (by first | exact hM.o | exact hl.o | exact hl.a6 | exact hl.a7 | exact hl.a8 | exact hl.a2) ?_
    refine aw_iconst (q := 18) F dM_lineBegins_17 rfl (by decide) ?_
    refine aw_icmp_ne (q := 21) (t := 27) F dM_lineBegins_18 rfl (by decide) (fun c18 => ?_) (fun c18 => ?_)
    · refine aw_aload_0 (q := 28) F dM_lineBegins_27 rfl ?_
      refine av_callV0 (q := 31) (ci := 9) F hm mM_goesOn_i mM_goesOn_n lM_114 dM_lineBegins_28 rfl rfl rfl (by first | exact hM.o | exact hl.o | exact hl.a6 | exact hl.a7 | exact hl.a8 | exact hl.a2) (by decide) (Nat.le_refl _) (Nat.le_refl _) (Nat.le_of_ble_eq_true rfl) (wM_goesOnO hM ho ?_)
      refine aw_vret F C dM_lineBegins_31 rfl (Nat.le_refl _) (Nat.le_refl _) ?_
      exact hK
    · refine aw_aload_0 (q := 22) F dM_lineBegins_21 rfl ?_
      refine aw_bipush (q := 24) F dM_lineBegins_22 rfl (by decide) ?_
      refine av_callV1 (q := 27) (ci := 9) F hm mM_flaw_i mM_flaw_n lM_143 dM_lineBegins_24 rfl rfl rfl (by first | exact hM.o | exact hl.o | exact hl.a6 | exact hl.a7 | exact hl.a8 | exact hl.a2) (by decide) (Nat.le_refl _) (Nat.le_refl _) (Nat.le_of_ble_eq_true rfl) (wM_flawO hM ho ?_)
      refine aw_aload_0 (q := 28) F dM_lineBegins_27 rfl ?_
      refine av_callV0 (q := 31) (ci := 9) F hm mM_goesOn_i mM_goesOn_n lM_114 dM_lineBegins_28 rfl rfl rfl (by first | exact hM.o | exact hl.o | exact hl.a6 | exact hl.a7 | exact hl.a8 | exact hl.a2) (by decide) (Nat.le_refl _) (Nat.le_refl _) (Nat.le_of_ble_eq_true rfl) (wM_goesOnO hM ho ?_)
      refine aw_vret F C dM_lineBegins_31 rfl (Nat.le_refl _) (Nat.le_refl _) ?_
      exact hK
  · refine aw_aload_0 (q := 6) F dM_lineBegins_5 rfl ?_
    refine aw_iconst (q := 7) F dM_lineBegins_6 rfl (by decide) ?_
    refine av_callV1 (q := 10) (ci := 9) F hm mM_flaw_i mM_flaw_n lM_143 dM_lineBegins_7 rfl rfl rfl (by first | exact hM.o | exact hl.o | exact hl.a6 | exact hl.a7 | exact hl.a8 | exact hl.a2) (by decide) (Nat.le_refl _) (Nat.le_refl _) (Nat.le_of_ble_eq_true rfl) (wM_flawO hM ho ?_)
    refine aw_aload_0 (q := 11) F dM_lineBegins_10 rfl ?_
    refine av_getaE (q := 14) F fM_147 dM_lineBegins_11 rfl rfl (by first | exact hM.o | exact hl.o | exact hl.a6 | exact hl.a7 | exact hl.a8 | exact hl.a2) h4p ?_
    refine av_geti (q := 17) F fM_151 dM_lineBegins_14 rfl rfl (by first | exact hM.o | exact hl.o | exact hl.a6 | exact hl.a7 | exact hl.a8 | exact hl.a2) ?_
    refine aw_iconst (q := 18) F dM_lineBegins_17 rfl (by decide) ?_
    refine aw_icmp_ne (q := 21) (t := 27) F dM_lineBegins_18 rfl (by decide) (fun c18 => ?_) (fun c18 => ?_)
    · refine aw_aload_0 (q := 28) F dM_lineBegins_27 rfl ?_
      refine av_callV0 (q := 31) (ci := 9) F hm mM_goesOn_i mM_goesOn_n lM_114 dM_lineBegins_28 rfl rfl rfl (by first | exact hM.o | exact hl.o | exact hl.a6 | exact hl.a7 | exact hl.a8 | exact hl.a2) (by decide) (Nat.le_refl _) (Nat.le_refl _) (Nat.le_of_ble_eq_true rfl) (wM_goesOnO hM ho ?_)
      refine aw_vret F C dM_lineBegins_31 rfl (Nat.le_refl _) (Nat.le_refl _) ?_
      exact hK
    · refine aw_aload_0 (q := 22) F dM_lineBegins_21 rfl ?_
      refine aw_bipush (q := 24) F dM_lineBegins_22 rfl (by decide) ?_
      refine av_callV1 (q := 27) (ci := 9) F hm mM_flaw_i mM_flaw_n lM_143 dM_lineBegins_24 rfl rfl rfl (by first | exact hM.o | exact hl.o | exact hl.a6 | exact hl.a7 | exact hl.a8 | exact hl.a2) (by decide) (Nat.le_refl _) (Nat.le_refl _) (Nat.le_of_ble_eq_true rfl) (wM_flawO hM ho ?_)
      refine aw_aload_0 (q := 28) F dM_lineBegins_27 rfl ?_
      refine av_callV0 (q := 31) (ci := 9) F hm mM_goesOn_i mM_goesOn_n lM_114 dM_lineBegins_28 rfl rfl rfl (by first | exact hM.o | exact hl.o | exact hl.a6 | exact hl.a7 | exact hl.a8 | exact hl.a2) (by decide) (Nat.le_refl _) (Nat.le_refl _) (Nat.le_of_ble_eq_true rfl) (wM_goesOnO hM ho ?_)
      refine aw_vret F C dM_lineBegins_31 rfl (Nat.le_refl _) (Nat.le_refl _) ?_
      exact hK
/-- a door is known, or not -/
theorem kD {i4 : Nat} (h : i4 < 6) (h1 : isNm t = true) (h2 : nmI r t = (i4 : Nat)) (h3 : (0 : Int) = (if i4 < 4 then 0 else 1)) (k : Nat → PO) : i4 < 4 ∧ pDr r t k = k i4 := by
  have a : i4 < 4 := by
    by_cases q : i4 < 4
    · exact q
    · rw [if_neg q] at h3; exact absurd h3 (by decide)
  exact ⟨a, pDr_1 ⟨h1, by omega, by omega⟩ (by omega)⟩
theorem kD0 (h : isNm t = true → nmI r t = -1 ∨ ∃ i : Nat, i < 6 ∧ nmI r t = i ∧ (0 : Int) ≠ (if i < 4 then 0 else 1)) (k : Nat → PO) : pDr r t k = .inr (if isNm t then 2 else 1, t.2.1) := by
  refine pDr_0 (fun q => ?_)
  rcases h q.1 with a | ⟨i, a, b, d⟩
  · omega
  · exact d (by rw [if_pos (by omega)])
theorem kP {i4 : Nat} (h : i4 < 6) (h1 : isNm t = true) (h2 : nmI r t = (i4 : Nat)) (h3 : (1 : Int) = (if i4 < 4 then 0 else 1)) (k : Nat → PO) : ¬ i4 < 4 ∧ pPe r t k = k (i4 - 4) := by
  have a : ¬ i4 < 4 := fun q => by rw [if_pos q] at h3; exact absurd h3 (by decide)
  exact ⟨a, pPe_1 ⟨h1, by omega⟩ (by omega)⟩
theorem kP0 (h : isNm t = true → nmI r t = -1 ∨ ∃ i : Nat, i < 6 ∧ nmI r t = i ∧ (1 : Int) ≠ (if i < 4 then 0 else 1)) (k : Nat → PO) : pPe r t k = .inr (if isNm t then 2 else 1, t.2.1) := by
  refine pPe_0 (fun q => ?_)
  rcases h q.1 with a | ⟨i, a, b, d⟩
  · omega
  · exact d (by rw [if_neg (by omega)])
end Mod42
