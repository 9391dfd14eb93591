theorem dN_init_0 : decode mN_init.2.1 0 = .ok (.aload_n 0, 1) := by decide +kernel
theorem dN_init_1 : decode mN_init.2.1 1 = .ok (.invokespecial 3, 3) := by decide +kernel
theorem dN_init_4 : decode mN_init.2.1 4 = .ok (.aload_n 0, 1) := by decide +kernel
theorem dN_init_5 : decode mN_init.2.1 5 = .ok (.iconst (-1), 1) := by decide +kernel
theorem dN_init_6 : decode mN_init.2.1 6 = .ok (.putfield 9, 3) := by decide +kernel
theorem dN_init_9 : decode mN_init.2.1 9 = .ok (.aload_n 0, 1) := by decide +kernel
theorem dN_init_10 : decode mN_init.2.1 10 = .ok (.iconst (-1), 1) := by decide +kernel
theorem dN_init_11 : decode mN_init.2.1 11 = .ok (.putfield 15, 3) := by decide +kernel
theorem dN_init_14 : decode mN_init.2.1 14 = .ok (.aload_n 0, 1) := by decide +kernel
theorem dN_init_15 : decode mN_init.2.1 15 = .ok (.iconst 4, 1) := by decide +kernel
theorem dN_init_16 : decode mN_init.2.1 16 = .ok (.newarray .int, 2) := by decide +kernel
theorem dN_init_18 : decode mN_init.2.1 18 = .ok (.putfield 18, 3) := by decide +kernel
theorem dN_init_21 : decode mN_init.2.1 21 = .ok (.aload_n 0, 1) := by decide +kernel
theorem dN_init_22 : decode mN_init.2.1 22 = .ok (.iconst 4, 1) := by decide +kernel
theorem dN_init_23 : decode mN_init.2.1 23 = .ok (.newarray .int, 2) := by decide +kernel
theorem dN_init_25 : decode mN_init.2.1 25 = .ok (.putfield 22, 3) := by decide +kernel
theorem dN_init_28 : decode mN_init.2.1 28 = .ok (.aload_n 0, 1) := by decide +kernel
theorem dN_init_29 : decode mN_init.2.1 29 = .ok (.iconst 2, 1) := by decide +kernel
theorem dN_init_30 : decode mN_init.2.1 30 = .ok (.newarray .int, 2) := by decide +kernel
theorem dN_init_32 : decode mN_init.2.1 32 = .ok (.putfield 25, 3) := by decide +kernel
theorem dN_init_35 : decode mN_init.2.1 35 = .ok (.aload_n 0, 1) := by decide +kernel
theorem dN_init_36 : decode mN_init.2.1 36 = .ok (.bipush 6, 2) := by decide +kernel
theorem dN_init_38 : decode mN_init.2.1 38 = .ok (.newarray .int, 2) := by decide +kernel
theorem dN_init_40 : decode mN_init.2.1 40 = .ok (.putfield 28, 3) := by decide +kernel
theorem dN_init_43 : decode mN_init.2.1 43 = .ok (.aload_n 0, 1) := by decide +kernel
theorem dN_init_44 : decode mN_init.2.1 44 = .ok (.iconst 3, 1) := by decide +kernel
theorem dN_init_45 : decode mN_init.2.1 45 = .ok (.newarray .int, 2) := by decide +kernel
theorem dN_init_47 : decode mN_init.2.1 47 = .ok (.putfield 31, 3) := by decide +kernel
theorem dN_init_50 : decode mN_init.2.1 50 = .ok (.aload_n 0, 1) := by decide +kernel
theorem dN_init_51 : decode mN_init.2.1 51 = .ok (.bipush 6, 2) := by decide +kernel
theorem dN_init_53 : decode mN_init.2.1 53 = .ok (.newarray .long, 2) := by decide +kernel
theorem dN_init_55 : decode mN_init.2.1 55 = .ok (.putfield 34, 3) := by decide +kernel
theorem dN_init_58 : decode mN_init.2.1 58 = .ok (.aload_n 0, 1) := by decide +kernel
theorem dN_init_59 : decode mN_init.2.1 59 = .ok (.bipush 6, 2) := by decide +kernel
theorem dN_init_61 : decode mN_init.2.1 61 = .ok (.newarray .int, 2) := by decide +kernel
theorem dN_init_63 : decode mN_init.2.1 63 = .ok (.putfield 38, 3) := by decide +kernel
theorem dN_init_66 : decode mN_init.2.1 66 = .ok (.aload_n 0, 1) := by decide +kernel
theorem dN_init_67 : decode mN_init.2.1 67 = .ok (.bipush 6, 2) := by decide +kernel
theorem dN_init_69 : decode mN_init.2.1 69 = .ok (.newarray .int, 2) := by decide +kernel
theorem dN_init_71 : decode mN_init.2.1 71 = .ok (.putfield 41, 3) := by decide +kernel
theorem dN_init_74 : decode mN_init.2.1 74 = .ok (.iconst 0, 1) := by decide +kernel
theorem dN_init_75 : decode mN_init.2.1 75 = .ok (.istore_n 1, 1) := by decide +kernel
theorem dN_init_76 : decode mN_init.2.1 76 = .ok (.iload_n 1, 1) := by decide +kernel
theorem dN_init_77 : decode mN_init.2.1 77 = .ok (.bipush 6, 2) := by decide +kernel
theorem dN_init_79 : decode mN_init.2.1 79 = .ok (.if_icmp .ge 17, 3) := by decide +kernel
theorem dN_init_82 : decode mN_init.2.1 82 = .ok (.aload_n 0, 1) := by decide +kernel
theorem dN_init_83 : decode mN_init.2.1 83 = .ok (.getfield 28, 3) := by decide +kernel
theorem dN_init_86 : decode mN_init.2.1 86 = .ok (.iload_n 1, 1) := by decide +kernel
theorem dN_init_87 : decode mN_init.2.1 87 = .ok (.bipush (-2), 2) := by decide +kernel
theorem dN_init_89 : decode mN_init.2.1 89 = .ok (.iastore, 1) := by decide +kernel
theorem dN_init_90 : decode mN_init.2.1 90 = .ok (.iinc 1 1, 3) := by decide +kernel
theorem dN_init_93 : decode mN_init.2.1 93 = .ok (.goto (-17), 3) := by decide +kernel
theorem dN_init_96 : decode mN_init.2.1 96 = .ok (.return_, 1) := by decide +kernel
theorem dM_init_0 : decode mM_init.2.1 0 = .ok (.aload_n 0, 1) := by decide +kernel
theorem dM_init_1 : decode mM_init.2.1 1 = .ok (.invokespecial 3, 3) := by decide +kernel
theorem dM_init_4 : decode mM_init.2.1 4 = .ok (.aload_n 0, 1) := by decide +kernel
theorem dM_init_5 : decode mM_init.2.1 5 = .ok (.iconst (-1), 1) := by decide +kernel
theorem dM_init_6 : decode mM_init.2.1 6 = .ok (.putfield 9, 3) := by decide +kernel
theorem dM_init_9 : decode mM_init.2.1 9 = .ok (.aload_n 0, 1) := by decide +kernel
theorem dM_init_10 : decode mM_init.2.1 10 = .ok (.sipush 800, 3) := by decide +kernel
theorem dM_init_13 : decode mM_init.2.1 13 = .ok (.newarray .byte, 2) := by decide +kernel
theorem dM_init_15 : decode mM_init.2.1 15 = .ok (.putfield 13, 3) := by decide +kernel
theorem dM_init_18 : decode mM_init.2.1 18 = .ok (.aload_n 0, 1) := by decide +kernel
theorem dM_init_19 : decode mM_init.2.1 19 = .ok (.bipush 12, 2) := by decide +kernel
theorem dM_init_21 : decode mM_init.2.1 21 = .ok (.newarray .int, 2) := by decide +kernel
theorem dM_init_23 : decode mM_init.2.1 23 = .ok (.putfield 17, 3) := by decide +kernel
theorem dM_init_26 : decode mM_init.2.1 26 = .ok (.aload_n 0, 1) := by decide +kernel
theorem dM_init_27 : decode mM_init.2.1 27 = .ok (.bipush 12, 2) := by decide +kernel
theorem dM_init_29 : decode mM_init.2.1 29 = .ok (.newarray .int, 2) := by decide +kernel
theorem dM_init_31 : decode mM_init.2.1 31 = .ok (.putfield 21, 3) := by decide +kernel
theorem dM_init_34 : decode mM_init.2.1 34 = .ok (.aload_n 0, 1) := by decide +kernel
theorem dM_init_35 : decode mM_init.2.1 35 = .ok (.sipush 192, 3) := by decide +kernel
theorem dM_init_38 : decode mM_init.2.1 38 = .ok (.newarray .int, 2) := by decide +kernel
theorem dM_init_40 : decode mM_init.2.1 40 = .ok (.putfield 24, 3) := by decide +kernel
theorem dM_init_43 : decode mM_init.2.1 43 = .ok (.aload_n 0, 1) := by decide +kernel
theorem dM_init_44 : decode mM_init.2.1 44 = .ok (.bipush 36, 2) := by decide +kernel
theorem dM_init_46 : decode mM_init.2.1 46 = .ok (.newarray .int, 2) := by decide +kernel
theorem dM_init_48 : decode mM_init.2.1 48 = .ok (.putfield 27, 3) := by decide +kernel
theorem dM_init_51 : decode mM_init.2.1 51 = .ok (.aload_n 0, 1) := by decide +kernel
theorem dM_init_52 : decode mM_init.2.1 52 = .ok (.ldc 30, 2) := by decide +kernel
theorem dM_init_54 : decode mM_init.2.1 54 = .ok (.newarray .int, 2) := by decide +kernel
theorem dM_init_56 : decode mM_init.2.1 56 = .ok (.putfield 31, 3) := by decide +kernel
theorem dM_init_59 : decode mM_init.2.1 59 = .ok (.aload_n 0, 1) := by decide +kernel
theorem dM_init_60 : decode mM_init.2.1 60 = .ok (.ldc 30, 2) := by decide +kernel
theorem dM_init_62 : decode mM_init.2.1 62 = .ok (.newarray .int, 2) := by decide +kernel
theorem dM_init_64 : decode mM_init.2.1 64 = .ok (.putfield 34, 3) := by decide +kernel
theorem dM_init_67 : decode mM_init.2.1 67 = .ok (.aload_n 0, 1) := by decide +kernel
theorem dM_init_68 : decode mM_init.2.1 68 = .ok (.ldc 30, 2) := by decide +kernel
theorem dM_init_70 : decode mM_init.2.1 70 = .ok (.newarray .int, 2) := by decide +kernel
theorem dM_init_72 : decode mM_init.2.1 72 = .ok (.putfield 37, 3) := by decide +kernel
theorem dM_init_75 : decode mM_init.2.1 75 = .ok (.aload_n 0, 1) := by decide +kernel
theorem dM_init_76 : decode mM_init.2.1 76 = .ok (.ldc 30, 2) := by decide +kernel
theorem dM_init_78 : decode mM_init.2.1 78 = .ok (.newarray .int, 2) := by decide +kernel
theorem dM_init_80 : decode mM_init.2.1 80 = .ok (.putfield 40, 3) := by decide +kernel
theorem dM_init_83 : decode mM_init.2.1 83 = .ok (.aload_n 0, 1) := by decide +kernel
theorem dM_init_84 : decode mM_init.2.1 84 = .ok (.iconst 4, 1) := by decide +kernel
theorem dM_init_85 : decode mM_init.2.1 85 = .ok (.newarray .int, 2) := by decide +kernel
theorem dM_init_87 : decode mM_init.2.1 87 = .ok (.putfield 43, 3) := by decide +kernel
theorem dM_init_90 : decode mM_init.2.1 90 = .ok (.return_, 1) := by decide +kernel
def niS (σ : Shp) (a : Nat) : Shp := pS (newS (pS (newS (pS (newS (pS (newS (pS (newS (pS (newS (pS (newS (pS (newS σ 11 4) a 9 (sX σ)) 11 4) a 10 (sX σ + 1)) 11 2) a 11 (sX σ + 2)) 11 6) a 12 (sX σ + 3)) 11 3) a 13 (sX σ + 4)) 12 6) a 15 (sX σ + 5)) 11 6) a 16 (sX σ + 6)) 11 6) a 17 (sX σ + 7)
def niV (V : Nat → Nat → Int) (σ : Shp) (a : Nat) : Nat → Nat → Int := newV (newV (newV (newV (newV (newV (newV (newV (up2 (up2 V a 0 (-1)) a 7 (-1)) (sX σ)) (sX σ + 1)) (sX σ + 2)) (sX σ + 3)) (sX σ + 4)) (sX σ + 5)) (sX σ + 6)) (sX σ + 7)
def miS (σ : Shp) (a : Nat) : Shp := pS (newS (pS (newS (pS (newS (pS (newS (pS (newS (pS (newS (pS (newS (pS (newS (pS (newS (pS (newS σ 10 800) a 5 (sX σ)) 11 12) a 15 (sX σ + 1)) 11 12) a 16 (sX σ + 2)) 11 192) a 17 (sX σ + 3)) 11 36) a 18 (sX σ + 4)) 11 62500) a 21 (sX σ + 5)) 11 62500) a 22 (sX σ + 6)) 11 62500) a 23 (sX σ + 7)) 11 62500) a 24 (sX σ + 8)) 11 4) a 28 (sX σ + 9)
def miV (V : Nat → Nat → Int) (σ : Shp) (a : Nat) : Nat → Nat → Int := newV (newV (newV (newV (newV (newV (newV (newV (newV (newV (up2 V a 2 (-1)) (sX σ)) (sX σ + 1)) (sX σ + 2)) (sX σ + 3)) (sX σ + 4)) (sX σ + 5)) (sX σ + 6)) (sX σ + 7)) (sX σ + 8)) (sX σ + 9)
theorem ni_laS {σ : Shp} {a : Nat} (ha : sO σ a 8) (hX : sX σ = a + 1) : laS (niS σ a) a := by
  have hx : σ.2.2.2 = a + 1 := hX
  have ht : σ.2.1 a = 8 := ha.1
  have h0 : 0 < a := ha.2.1
  refine ⟨⟨?_, h0, ?_⟩, ⟨?_, ?_, ?_, ?_, ?_, ?_, ?_, ?_⟩, ?_, ?_, ?_, ?_, ?_, ?_, ?_, ?_⟩
  · simp [niS, pS, newS, up2, sP, sX, sT, sN, hx, ht, Nat.add_assoc]
  · simp [niS, pS, newS, up2, sP, sX, sT, sN, hx, Nat.add_assoc]
  · simp [niS, pS, newS, up2, sP, sX, sT, sN, hx, Nat.add_assoc]
  · simp [niS, pS, newS, up2, sP, sX, sT, sN, hx, Nat.add_assoc]
  · simp [niS, pS, newS, up2, sP, sX, sT, sN, hx, Nat.add_assoc]
  · simp [niS, pS, newS, up2, sP, sX, sT, sN, hx, Nat.add_assoc]
  · simp [niS, pS, newS, up2, sP, sX, sT, sN, hx, Nat.add_assoc]
  · simp [niS, pS, newS, up2, sP, sX, sT, sN, hx, Nat.add_assoc]
  · simp [niS, pS, newS, up2, sP, sX, sT, sN, hx, Nat.add_assoc]
  · simp [niS, pS, newS, up2, sP, sX, sT, sN, hx, Nat.add_assoc]
  · simp [sA, niS, pS, newS, up2, sP, sX, sT, sN, hx, Nat.add_assoc]
  · simp [sA, niS, pS, newS, up2, sP, sX, sT, sN, hx, Nat.add_assoc]
  · simp [sA, niS, pS, newS, up2, sP, sX, sT, sN, hx, Nat.add_assoc]
  · simp [sA, niS, pS, newS, up2, sP, sX, sT, sN, hx, Nat.add_assoc]
  · simp [sA, niS, pS, newS, up2, sP, sX, sT, sN, hx, Nat.add_assoc]
  · simp [sA, niS, pS, newS, up2, sP, sX, sT, sN, hx, Nat.add_assoc]
  · simp [sA, niS, pS, newS, up2, sP, sX, sT, sN, hx, Nat.add_assoc]
  · simp [sA, niS, pS, newS, up2, sP, sX, sT, sN, hx, Nat.add_assoc]
theorem eS_ni {σ : Shp} {a : Nat} : eS σ (niS σ a) (fun b _ => b = a) := by
  unfold niS pS
  exact ((((((((((((((((eS_new σ 11 4 _).tr (eS_put _ a 9 _ rfl)).tr (eS_new _ 11 4 _)).tr (eS_put _ a 10 _ rfl)).tr (eS_new _ 11 2 _)).tr (eS_put _ a 11 _ rfl)).tr (eS_new _ 11 6 _)).tr (eS_put _ a 12 _ rfl)).tr (eS_new _ 11 3 _)).tr (eS_put _ a 13 _ rfl)).tr (eS_new _ 12 6 _)).tr (eS_put _ a 15 _ rfl)).tr (eS_new _ 11 6 _)).tr (eS_put _ a 16 _ rfl)).tr (eS_new _ 11 6 _)).tr (eS_put _ a 17 _ rfl))
section Mod50
variable {G : GE} {V V' : Nat → Nat → Int} {σ σ' : Shp} {K : Option AV → Mem → Prop} {a e l : Nat}
theorem niV_lo {b : Nat} (h1 : b ≠ a) (h2 : b < sX σ) : niV V σ a b = V b := by
  have hx : b < σ.2.2.2 := h2
  have n0 : b ≠ σ.2.2.2 := by omega
  have n1 : b ≠ σ.2.2.2 + 1 := by omega
  have n2 : b ≠ σ.2.2.2 + 2 := by omega
  have n3 : b ≠ σ.2.2.2 + 3 := by omega
  have n4 : b ≠ σ.2.2.2 + 4 := by omega
  have n5 : b ≠ σ.2.2.2 + 5 := by omega
  have n6 : b ≠ σ.2.2.2 + 6 := by omega
  have n7 : b ≠ σ.2.2.2 + 7 := by omega
  funext j
  simp [niV, newV, up2, sX, n0, n1, n2, n3, n4, n5, n6, n7, h1]
theorem niV_o {j : Nat} (h2 : a < sX σ) : niV V σ a a j = if j = 7 then -1 else if j = 0 then -1 else V a j := by
  have hx : a < σ.2.2.2 := h2
  have n0 : a ≠ σ.2.2.2 := by omega
  have n1 : a ≠ σ.2.2.2 + 1 := by omega
  have n2 : a ≠ σ.2.2.2 + 2 := by omega
  have n3 : a ≠ σ.2.2.2 + 3 := by omega
  have n4 : a ≠ σ.2.2.2 + 4 := by omega
  have n5 : a ≠ σ.2.2.2 + 5 := by omega
  have n6 : a ≠ σ.2.2.2 + 6 := by omega
  have n7 : a ≠ σ.2.2.2 + 7 := by omega
  simp [niV, newV, up2, sX, n0, n1, n2, n3, n4, n5, n6, n7]
theorem niV_hi {b j : Nat} (h : b = sX σ ∨ b = sX σ + 1 ∨ b = sX σ + 2 ∨ b = sX σ + 3 ∨ b = sX σ + 4 ∨ b = sX σ + 5 ∨ b = sX σ + 6 ∨ b = sX σ + 7) : niV V σ a b j = 0 := by
  rcases h with h | h | h | h | h | h | h | h <;> subst h <;> simp [niV, newV]
theorem LR0 (hX : sX σ = e + 1) (hz : ∀ j, V e j = 0) (hv : ∀ b, b ≠ e + 4 → V' b = niV V σ e b) (h4 : ∀ k, k < 6 → V' (e + 4) k = -2) : LR V' e r0 := by
  have he : e < sX σ := by omega
  have oj : ∀ j, j ≠ 0 → j ≠ 7 → V' e j = 0 := fun j h0 h7 => by rw [hv e (by omega), niV_o he, if_neg h7, if_neg h0]; exact hz j
  have hh : ∀ b j, e < b → b ≤ e + 8 → b ≠ e + 4 → V' b j = 0 := fun b j h1 h2 h3 => by rw [hv b h3]; exact niV_hi (by omega)
  refine ⟨⟨?_, oj 1 (by decide) (by decide), oj 2 (by decide) (by decide), oj 3 (by decide) (by decide), oj 4 (by decide) (by decide), oj 5 (by decide) (by decide), oj 6 (by decide) (by decide), ?_, oj 8 (by decide) (by decide), oj 14 (by decide) (by decide)⟩, ⟨fun d _ => ⟨hh _ d (by omega) (by omega) (by omega), hh _ d (by omega) (by omega) (by omega)⟩, fun p _ => hh _ p (by omega) (by omega) (by omega), fun s p hs hp => ?_, fun s hs => ?_⟩, fun k hk => absurd hk (by show ¬ k < 0 + 0; omega), fun i _ hi => absurd hi (by show ¬ 0 < 0; omega)⟩
  · rw [hv e (by omega), niV_o he]; rfl
  · rw [hv e (by omega), niV_o he]; rfl
  · rw [h4 _ (by omega)]
    match s, hs with
    | 0, _ => rfl
    | 1, _ => rfl
    | 2, _ => rfl
  · rw [hh _ s (by omega) (by omega) (by omega)]
    match s, hs with
    | 0, _ => rfl
    | 1, _ => rfl
    | 2, _ => rfl
theorem wN_init (ha : sO σ e 8) (hX : sX σ = e + 1) (hz : ∀ j, V e j = 0) (hB : e + 20 < BG) (hK : ∀ V' : Nat → Nat → Int, (∀ b, b < e → V' b = V b) → LR V' e r0 → K none (V', niS σ e)) : Wp G 0 mN_init [vR e] (V, σ) 8 60 K := by
  have hl := ni_laS ha hX
  have h0 : 0 < e := ha.2.1
  have he : e < sX σ := by omega
  refine wp_intro mN_init_i.1 [some (vR e), none] rfl rfl (Nat.le_of_ble_eq_true rfl) ?_
  intro X hG F C
  have hm := C.rm
  have loop : ∀ (j i : Nat), i + j = 6 → ∀ (V1 : Nat → Nat → Int) (w : Int) (k n : Nat), w = i → k ≤ 8 → n ≤ 60 → (∀ b, b ≠ e + 4 → V1 b = niV V σ e b) → (∀ k, k < i → V1 (e + 4) k = -2) → AW X 76 [some (vR e), some (vI w)] [] (V1, niS σ e) k n := by
    intro j
    induction j with
    | zero =>
      intro i hi V1 w k n hw hk hn hF hI
      refine aw_iload_1 (q := 77) F dN_init_76 rfl ?_
      refine aw_bipush (q := 79) F dN_init_77 rfl (by decide) ?_
      refine aw_icmp_ge (q := 82) (t := 96) F dN_init_79 rfl (by decide) (fun c79 => ?_) (fun c79 => by omega)
      refine aw_vret F C dN_init_96 rfl hk hn ?_
      refine hK V1 (fun b hb => ?_) (LR0 hX hz hF (fun k hk => hI k (by omega)))
      rw [hF b (by omega)]; exact niV_lo (by omega) (by omega)
    | succ j ih =>
      intro i hi V1 w k n hw hk hn hF hI
      refine aw_iload_1 (q := 77) F dN_init_76 rfl ?_
      refine aw_bipush (q := 79) F dN_init_77 rfl (by decide) ?_
      refine aw_icmp_ge (q := 82) (t := 96) F dN_init_79 rfl (by decide) (fun c79 => by omega) (fun c79 => ?_)
      refine aw_aload_0 (q := 83) F dN_init_82 rfl ?_
      refine av_getaE (q := 86) F fN_28 dN_init_83 rfl rfl (by first | exact ha | exact hl.o | exact hl.a4) hl.p12 ?_
      refine aw_iload_1 (q := 87) F dN_init_86 rfl ?_
      refine aw_bipush (q := 89) F dN_init_87 rfl (by decide) ?_
      refine av_iastore (q := 90) F dN_init_89 rfl (by first | exact ha | exact hl.o | exact hl.a4) (by omega) (by omega) ?_
      refine aw_iinc_1 (q := 93) F dN_init_90 rfl trivial (by constructor <;> omega) ?_
      refine aw_goto (t := 76) F dN_init_93 (by decide) ?_
      refine ih (i + 1) (by omega) _ _ k n (by omega) hk hn (fun b hb => ?_) (fun k hk => ?_)
      · rw [up2_nea _ _ hb]; exact hF b hb
      · rw [show w.toNat = i by omega]
        by_cases q : k = i
        · rw [q, up2_same]
        · rw [up2_nek _ _ q]; exact hI k (by omega)
  refine aw_aload_0 (q := 1) F dN_init_0 rfl ?_
  refine aw_oinit (q := 4) F hm (by first | exact oi_N_3) dN_init_1 rfl (by omega) (Nat.le_of_ble_eq_true rfl) ?_
  refine aw_aload_0 (q := 5) F dN_init_4 rfl ?_
  refine aw_iconst (q := 6) F dN_init_5 rfl (by decide) ?_
  refine av_puti (q := 9) F fN_9 dN_init_6 rfl rfl (wr_8_0 _) (by repeat' first | exact ha | apply sO_p | apply sO_n) ?_
  refine aw_aload_0 (q := 10) F dN_init_9 rfl ?_
  refine aw_iconst (q := 11) F dN_init_10 rfl (by decide) ?_
  refine av_puti (q := 14) F fN_15 dN_init_11 rfl rfl (wr_8_7 _) (by repeat' first | exact ha | apply sO_p | apply sO_n) ?_
  refine aw_aload_0 (q := 15) F dN_init_14 rfl ?_
  refine aw_iconst (q := 16) F dN_init_15 rfl (by decide) ?_
  refine av_newarr (q := 18) (t := 11) F hm dN_init_16 rfl (Or.inr (Or.inl ⟨rfl, rfl⟩)) (by first | (show sX σ < BG; omega) | (show sX σ + 1 < BG; omega) | (show sX σ + 2 < BG; omega) | (show sX σ + 3 < BG; omega) | (show sX σ + 4 < BG; omega) | (show sX σ + 5 < BG; omega) | (show sX σ + 6 < BG; omega) | (show sX σ + 7 < BG; omega)) (by omega) (by omega) (by first | omega | decide) (by first | omega | decide) ?_
  refine av_puta (q := 21) F fN_18 dN_init_18 rfl rfl wf_8_9 (by repeat' first | exact ha | apply sO_p | apply sO_n) ?_
  refine aw_aload_0 (q := 22) F dN_init_21 rfl ?_
  refine aw_iconst (q := 23) F dN_init_22 rfl (by decide) ?_
  refine av_newarr (q := 25) (t := 11) F hm dN_init_23 rfl (Or.inr (Or.inl ⟨rfl, rfl⟩)) (by first | (show sX σ < BG; omega) | (show sX σ + 1 < BG; omega) | (show sX σ + 2 < BG; omega) | (show sX σ + 3 < BG; omega) | (show sX σ + 4 < BG; omega) | (show sX σ + 5 < BG; omega) | (show sX σ + 6 < BG; omega) | (show sX σ + 7 < BG; omega)) (by omega) (by omega) (by first | omega | decide) (by first | omega | decide) ?_
  refine av_puta (q := 28) F fN_22 dN_init_25 rfl rfl wf_8_10 (by repeat' first | exact ha | apply sO_p | apply sO_n) ?_
  refine aw_aload_0 (q := 29) F dN_init_28 rfl ?_
  refine aw_iconst (q := 30) F dN_init_29 rfl (by decide) ?_
  refine av_newarr (q := 32) (t := 11) F hm dN_init_30 rfl (Or.inr (Or.inl ⟨rfl, rfl⟩)) (by first | (show sX σ < BG; omega) | (show sX σ + 1 < BG; omega) | (show sX σ + 2 < BG; omega) | (show sX σ + 3 < BG; omega) | (show sX σ + 4 < BG; omega) | (show sX σ + 5 < BG; omega) | (show sX σ + 6 < BG; omega) | (show sX σ + 7 < BG; omega)) (by omega) (by omega) (by first | omega | decide) (by first | omega | decide) ?_
  refine av_puta (q := 35) F fN_25 dN_init_32 rfl rfl wf_8_11 (by repeat' first | exact ha | apply sO_p | apply sO_n) ?_
  refine aw_aload_0 (q := 36) F dN_init_35 rfl ?_
  refine aw_bipush (q := 38) F dN_init_36 rfl (by decide) ?_
  refine av_newarr (q := 40) (t := 11) F hm dN_init_38 rfl (Or.inr (Or.inl ⟨rfl, rfl⟩)) (by first | (show sX σ < BG; omega) | (show sX σ + 1 < BG; omega) | (show sX σ + 2 < BG; omega) | (show sX σ + 3 < BG; omega) | (show sX σ + 4 < BG; omega) | (show sX σ + 5 < BG; omega) | (show sX σ + 6 < BG; omega) | (show sX σ + 7 < BG; omega)) (by omega) (by omega) (by first | omega | decide) (by first | omega | decide) ?_
  refine av_puta (q := 43) F fN_28 dN_init_40 rfl rfl wf_8_12 (by repeat' first | exact ha | apply sO_p | apply sO_n) ?_
  refine aw_aload_0 (q := 44) F dN_init_43 rfl ?_
  refine aw_iconst (q := 45) F dN_init_44 rfl (by decide) ?_
  refine av_newarr (q := 47) (t := 11) F hm dN_init_45 rfl (Or.inr (Or.inl ⟨rfl, rfl⟩)) (by first | (show sX σ < BG; omega) | (show sX σ + 1 < BG; omega) | (show sX σ + 2 < BG; omega) | (show sX σ + 3 < BG; omega) | (show sX σ + 4 < BG; omega) | (show sX σ + 5 < BG; omega) | (show sX σ + 6 < BG; omega) | (show sX σ + 7 < BG; omega)) (by omega) (by omega) (by first | omega | decide) (by first | omega | decide) ?_
  refine av_puta (q := 50) F fN_31 dN_init_47 rfl rfl wf_8_13 (by repeat' first | exact ha | apply sO_p | apply sO_n) ?_
  refine aw_aload_0 (q := 51) F dN_init_50 rfl ?_
  refine aw_bipush (q := 53) F dN_init_51 rfl (by decide) ?_
  refine av_newarr (q := 55) (t := 12) F hm dN_init_53 rfl (Or.inr (Or.inr ⟨rfl, rfl⟩)) (by first | (show sX σ < BG; omega) | (show sX σ + 1 < BG; omega) | (show sX σ + 2 < BG; omega) | (show sX σ + 3 < BG; omega) | (show sX σ + 4 < BG; omega) | (show sX σ + 5 < BG; omega) | (show sX σ + 6 < BG; omega) | (show sX σ + 7 < BG; omega)) (by omega) (by omega) (by first | omega | decide) (by first | omega | decide) ?_
  refine av_puta (q := 58) F fN_34 dN_init_55 rfl rfl wf_8_15 (by repeat' first | exact ha | apply sO_p | apply sO_n) ?_
  refine aw_aload_0 (q := 59) F dN_init_58 rfl ?_
  refine aw_bipush (q := 61) F dN_init_59 rfl (by decide) ?_
  refine av_newarr (q := 63) (t := 11) F hm dN_init_61 rfl (Or.inr (Or.inl ⟨rfl, rfl⟩)) (by first | (show sX σ < BG; omega) | (show sX σ + 1 < BG; omega) | (show sX σ + 2 < BG; omega) | (show sX σ + 3 < BG; omega) | (show sX σ + 4 < BG; omega) | (show sX σ + 5 < BG; omega) | (show sX σ + 6 < BG; omega) | (show sX σ + 7 < BG; omega)) (by omega) (by omega) (by first | omega | decide) (by first | omega | decide) ?_
  refine av_puta (q := 66) F fN_38 dN_init_63 rfl rfl wf_8_16 (by repeat' first | exact ha | apply sO_p | apply sO_n) ?_
  refine aw_aload_0 (q := 67) F dN_init_66 rfl ?_
  refine aw_bipush (q := 69) F dN_init_67 rfl (by decide) ?_
  refine av_newarr (q := 71) (t := 11) F hm dN_init_69 rfl (Or.inr (Or.inl ⟨rfl, rfl⟩)) (by first | (show sX σ < BG; omega) | (show sX σ + 1 < BG; omega) | (show sX σ + 2 < BG; omega) | (show sX σ + 3 < BG; omega) | (show sX σ + 4 < BG; omega) | (show sX σ + 5 < BG; omega) | (show sX σ + 6 < BG; omega) | (show sX σ + 7 < BG; omega)) (by omega) (by omega) (by first | omega | decide) (by first | omega | decide) ?_
  refine av_puta (q := 74) F fN_41 dN_init_71 rfl rfl wf_8_17 (by repeat' first | exact ha | apply sO_p | apply sO_n) ?_
  refine aw_iconst (q := 75) F dN_init_74 rfl (by decide) ?_
  refine aw_istore_1 (q := 76) F dN_init_75 rfl trivial ?_
  exact loop 6 0 rfl (niV V σ e) _ _ _ rfl (by decide) (by decide) (fun b hb => rfl) (fun k hk => absurd hk (by omega))
theorem wM_init (ha : sO σ a 9) (hB : sX σ + 10 < BG) (hK : K none (miV V σ a, miS σ a)) : Wp G 0 mM_init [vR a] (V, σ) 10 252000 K := by
  have h0 : 0 < a := ha.2.1
  refine wp_intro mM_init_i.1 [some (vR a)] rfl rfl (Nat.le_of_ble_eq_true rfl) ?_
  intro X hG F C
  have hm := C.rm
  refine aw_aload_0 (q := 1) F dM_init_0 rfl ?_
  refine aw_oinit (q := 4) F hm (by first | exact oi_M_3) dM_init_1 rfl (by omega) (Nat.le_of_ble_eq_true rfl) ?_
  refine aw_aload_0 (q := 5) F dM_init_4 rfl ?_
  refine aw_iconst (q := 6) F dM_init_5 rfl (by decide) ?_
  refine av_puti (q := 9) F fM_9 dM_init_6 rfl rfl (wr_9_2 _) (by repeat' first | exact ha | apply sO_p | apply sO_n) ?_
  refine aw_aload_0 (q := 10) F dM_init_9 rfl ?_
  refine aw_sipush (q := 13) F dM_init_10 rfl (by decide) ?_
  refine av_newarr (q := 15) (t := 10) F hm dM_init_13 rfl (Or.inl ⟨rfl, rfl⟩) (by first | (show sX σ < BG; omega) | (show sX σ + 1 < BG; omega) | (show sX σ + 2 < BG; omega) | (show sX σ + 3 < BG; omega) | (show sX σ + 4 < BG; omega) | (show sX σ + 5 < BG; omega) | (show sX σ + 6 < BG; omega) | (show sX σ + 7 < BG; omega) | (show sX σ + 8 < BG; omega) | (show sX σ + 9 < BG; omega)) (by omega) (by omega) (by first | omega | decide) (by first | omega | decide) ?_
  refine av_puta (q := 18) F fM_13 dM_init_15 rfl rfl wf_9_5 (by repeat' first | exact ha | apply sO_p | apply sO_n) ?_
  refine aw_aload_0 (q := 19) F dM_init_18 rfl ?_
  refine aw_bipush (q := 21) F dM_init_19 rfl (by decide) ?_
  refine av_newarr (q := 23) (t := 11) F hm dM_init_21 rfl (Or.inr (Or.inl ⟨rfl, rfl⟩)) (by first | (show sX σ < BG; omega) | (show sX σ + 1 < BG; omega) | (show sX σ + 2 < BG; omega) | (show sX σ + 3 < BG; omega) | (show sX σ + 4 < BG; omega) | (show sX σ + 5 < BG; omega) | (show sX σ + 6 < BG; omega) | (show sX σ + 7 < BG; omega) | (show sX σ + 8 < BG; omega) | (show sX σ + 9 < BG; omega)) (by omega) (by omega) (by first | omega | decide) (by first | omega | decide) ?_
  refine av_puta (q := 26) F fM_17 dM_init_23 rfl rfl wf_9_15 (by repeat' first | exact ha | apply sO_p | apply sO_n) ?_
  refine aw_aload_0 (q := 27) F dM_init_26 rfl ?_
  refine aw_bipush (q := 29) F dM_init_27 rfl (by decide) ?_
  refine av_newarr (q := 31) (t := 11) F hm dM_init_29 rfl (Or.inr (Or.inl ⟨rfl, rfl⟩)) (by first | (show sX σ < BG; omega) | (show sX σ + 1 < BG; omega) | (show sX σ + 2 < BG; omega) | (show sX σ + 3 < BG; omega) | (show sX σ + 4 < BG; omega) | (show sX σ + 5 < BG; omega) | (show sX σ + 6 < BG; omega) | (show sX σ + 7 < BG; omega) | (show sX σ + 8 < BG; omega) | (show sX σ + 9 < BG; omega)) (by omega) (by omega) (by first | omega | decide) (by first | omega | decide) ?_
  refine av_puta (q := 34) F fM_21 dM_init_31 rfl rfl wf_9_16 (by repeat' first | exact ha | apply sO_p | apply sO_n) ?_
  refine aw_aload_0 (q := 35) F dM_init_34 rfl ?_
  refine aw_sipush (q := 38) F dM_init_35 rfl (by decide) ?_
  refine av_newarr (q := 40) (t := 11) F hm dM_init_38 rfl (Or.inr (Or.inl ⟨rfl, rfl⟩)) (by first | (show sX σ < BG; omega) | (show sX σ + 1 < BG; omega) | (show sX σ + 2 < BG; omega) | (show sX σ + 3 < BG; omega) | (show sX σ + 4 < BG; omega) | (show sX σ + 5 < BG; omega) | (show sX σ + 6 < BG; omega) | (show sX σ + 7 < BG; omega) | (show sX σ + 8 < BG; omega) | (show sX σ + 9 < BG; omega)) (by omega) (by omega) (by first | omega | decide) (by first | omega | decide) ?_
  refine av_puta (q := 43) F fM_24 dM_init_40 rfl rfl wf_9_17 (by repeat' first | exact ha | apply sO_p | apply sO_n) ?_
  refine aw_aload_0 (q := 44) F dM_init_43 rfl ?_
  refine aw_bipush (q := 46) F dM_init_44 rfl (by decide) ?_
  refine av_newarr (q := 48) (t := 11) F hm dM_init_46 rfl (Or.inr (Or.inl ⟨rfl, rfl⟩)) (by first | (show sX σ < BG; omega) | (show sX σ + 1 < BG; omega) | (show sX σ + 2 < BG; omega) | (show sX σ + 3 < BG; omega) | (show sX σ + 4 < BG; omega) | (show sX σ + 5 < BG; omega) | (show sX σ + 6 < BG; omega) | (show sX σ + 7 < BG; omega) | (show sX σ + 8 < BG; omega) | (show sX σ + 9 < BG; omega)) (by omega) (by omega) (by first | omega | decide) (by first | omega | decide) ?_
  refine av_puta (q := 51) F fM_27 dM_init_48 rfl rfl wf_9_18 (by repeat' first | exact ha | apply sO_p | apply sO_n) ?_
  refine aw_aload_0 (q := 52) F dM_init_51 rfl ?_
  refine aw_ldc (q := 54) (z := 62500) F dM_init_52 rfl kM_30 (by decide) ?_
  refine av_newarr (q := 56) (t := 11) F hm dM_init_54 rfl (Or.inr (Or.inl ⟨rfl, rfl⟩)) (by first | (show sX σ < BG; omega) | (show sX σ + 1 < BG; omega) | (show sX σ + 2 < BG; omega) | (show sX σ + 3 < BG; omega) | (show sX σ + 4 < BG; omega) | (show sX σ + 5 < BG; omega) | (show sX σ + 6 < BG; omega) | (show sX σ + 7 < BG; omega) | (show sX σ + 8 < BG; omega) | (show sX σ + 9 < BG; omega)) (by omega) (by omega) (by first | omega | decide) (by first | omega | decide) ?_
  refine av_puta (q := 59) F fM_31 dM_init_56 rfl rfl wf_9_21 (by repeat' first | exact ha | apply sO_p | apply sO_n) ?_
  refine aw_aload_0 (q := 60) F dM_init_59 rfl ?_
  refine aw_ldc (q := 62) (z := 62500) F dM_init_60 rfl kM_30 (by decide) ?_
  refine av_newarr (q := 64) (t := 11) F hm dM_init_62 rfl (Or.inr (Or.inl ⟨rfl, rfl⟩)) (by first | (show sX σ < BG; omega) | (show sX σ + 1 < BG; omega) | (show sX σ + 2 < BG; omega) | (show sX σ + 3 < BG; omega) | (show sX σ + 4 < BG; omega) | (show sX σ + 5 < BG; omega) | (show sX σ + 6 < BG; omega) | (show sX σ + 7 < BG; omega) | (show sX σ + 8 < BG; omega) | (show sX σ + 9 < BG; omega)) (by omega) (by omega) (by first | omega | decide) (by first | omega | decide) ?_
  refine av_puta (q := 67) F fM_34 dM_init_64 rfl rfl wf_9_22 (by repeat' first | exact ha | apply sO_p | apply sO_n) ?_
  refine aw_aload_0 (q := 68) F dM_init_67 rfl ?_
  refine aw_ldc (q := 70) (z := 62500) F dM_init_68 rfl kM_30 (by decide) ?_
  refine av_newarr (q := 72) (t := 11) F hm dM_init_70 rfl (Or.inr (Or.inl ⟨rfl, rfl⟩)) (by first | (show sX σ < BG; omega) | (show sX σ + 1 < BG; omega) | (show sX σ + 2 < BG; omega) | (show sX σ + 3 < BG; omega) | (show sX σ + 4 < BG; omega) | (show sX σ + 5 < BG; omega) | (show sX σ + 6 < BG; omega) | (show sX σ + 7 < BG; omega) | (show sX σ + 8 < BG; omega) | (show sX σ + 9 < BG; omega)) (by omega) (by omega) (by first | omega | decide) (by first | omega | decide) ?_
  refine av_puta (q := 75) F fM_37 dM_init_72 rfl rfl wf_9_23 (by repeat' first | exact ha | apply sO_p | apply sO_n) ?_
  refine aw_aload_0 (q := 76) F dM_init_75 rfl ?_
  refine aw_ldc (q := 78) (z := 62500) F dM_init_76 rfl kM_30 (by decide) ?_
  refine av_newarr (q := 80) (t := 11) F hm dM_init_78 rfl (Or.inr (Or.inl ⟨rfl, rfl⟩)) (by first | (show sX σ < BG; omega) | (show sX σ + 1 < BG; omega) | (show sX σ + 2 < BG; omega) | (show sX σ + 3 < BG; omega) | (show sX σ + 4 < BG; omega) | (show sX σ + 5 < BG; omega) | (show sX σ + 6 < BG; omega) | (show sX σ + 7 < BG; omega) | (show sX σ + 8 < BG; omega) | (show sX σ + 9 < BG; omega)) (by omega) (by omega) (by first | omega | decide) (by first | omega | decide) ?_
  refine av_puta (q := 83) F fM_40 dM_init_80 rfl rfl wf_9_24 (by repeat' first | exact ha | apply sO_p | apply sO_n) ?_
  refine aw_aload_0 (q := 84) F dM_init_83 rfl ?_
  refine aw_iconst (q := 85) F dM_init_84 rfl (by decide) ?_
  refine av_newarr (q := 87) (t := 11) F hm dM_init_85 rfl (Or.inr (Or.inl ⟨rfl, rfl⟩)) (by first | (show sX σ < BG; omega) | (show sX σ + 1 < BG; omega) | (show sX σ + 2 < BG; omega) | (show sX σ + 3 < BG; omega) | (show sX σ + 4 < BG; omega) | (show sX σ + 5 < BG; omega) | (show sX σ + 6 < BG; omega) | (show sX σ + 7 < BG; omega) | (show sX σ + 8 < BG; omega) | (show sX σ + 9 < BG; omega)) (by omega) (by omega) (by first | omega | decide) (by first | omega | decide) ?_
  refine av_puta (q := 90) F fM_43 dM_init_87 rfl rfl wf_9_28 (by repeat' first | exact ha | apply sO_p | apply sO_n) ?_
  refine aw_vret F C dM_init_90 rfl (by decide) (by decide) ?_
  exact hK
end Mod50
