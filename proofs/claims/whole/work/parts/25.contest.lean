theorem dC_begin_0 : decode mC_begin.2.1 0 = .ok (.aload_n 0, 1) := by decide +kernel
theorem dC_begin_1 : decode mC_begin.2.1 1 = .ok (.getfield 12, 3) := by decide +kernel
theorem dC_begin_4 : decode mC_begin.2.1 4 = .ok (.aload_n 1, 1) := by decide +kernel
theorem dC_begin_5 : decode mC_begin.2.1 5 = .ok (.invokevirtual 18, 3) := by decide +kernel
theorem dC_begin_8 : decode mC_begin.2.1 8 = .ok (.aload_n 0, 1) := by decide +kernel
theorem dC_begin_9 : decode mC_begin.2.1 9 = .ok (.getfield 12, 3) := by decide +kernel
theorem dC_begin_12 : decode mC_begin.2.1 12 = .ok (.iload_n 2, 1) := by decide +kernel
theorem dC_begin_13 : decode mC_begin.2.1 13 = .ok (.invokevirtual 22, 3) := by decide +kernel
theorem dC_begin_16 : decode mC_begin.2.1 16 = .ok (.aload_n 0, 1) := by decide +kernel
theorem dC_begin_17 : decode mC_begin.2.1 17 = .ok (.iload_n 3, 1) := by decide +kernel
theorem dC_begin_18 : decode mC_begin.2.1 18 = .ok (.putfield 26, 3) := by decide +kernel
theorem dC_begin_21 : decode mC_begin.2.1 21 = .ok (.aload_n 0, 1) := by decide +kernel
theorem dC_begin_22 : decode mC_begin.2.1 22 = .ok (.iload 4, 2) := by decide +kernel
theorem dC_begin_24 : decode mC_begin.2.1 24 = .ok (.putfield 30, 3) := by decide +kernel
theorem dC_begin_27 : decode mC_begin.2.1 27 = .ok (.return_, 1) := by decide +kernel
theorem dC_getsIn_0 : decode mC_getsIn.2.1 0 = .ok (.iload_n 2, 1) := by decide +kernel
theorem dC_getsIn_1 : decode mC_getsIn.2.1 1 = .ok (.ifCond .gt 35, 3) := by decide +kernel
theorem dC_getsIn_4 : decode mC_getsIn.2.1 4 = .ok (.aload_n 0, 1) := by decide +kernel
theorem dC_getsIn_5 : decode mC_getsIn.2.1 5 = .ok (.getfield 12, 3) := by decide +kernel
theorem dC_getsIn_8 : decode mC_getsIn.2.1 8 = .ok (.iload_n 1, 1) := by decide +kernel
theorem dC_getsIn_9 : decode mC_getsIn.2.1 9 = .ok (.invokevirtual 37, 3) := by decide +kernel
theorem dC_getsIn_12 : decode mC_getsIn.2.1 12 = .ok (.aload_n 0, 1) := by decide +kernel
theorem dC_getsIn_13 : decode mC_getsIn.2.1 13 = .ok (.getfield 12, 3) := by decide +kernel
theorem dC_getsIn_16 : decode mC_getsIn.2.1 16 = .ok (.aload_n 0, 1) := by decide +kernel
theorem dC_getsIn_17 : decode mC_getsIn.2.1 17 = .ok (.getfield 26, 3) := by decide +kernel
theorem dC_getsIn_20 : decode mC_getsIn.2.1 20 = .ok (.invokevirtual 40, 3) := by decide +kernel
theorem dC_getsIn_23 : decode mC_getsIn.2.1 23 = .ok (.aload_n 0, 1) := by decide +kernel
theorem dC_getsIn_24 : decode mC_getsIn.2.1 24 = .ok (.getfield 30, 3) := by decide +kernel
theorem dC_getsIn_27 : decode mC_getsIn.2.1 27 = .ok (.if_icmp .ne 7, 3) := by decide +kernel
theorem dC_getsIn_30 : decode mC_getsIn.2.1 30 = .ok (.iconst 1, 1) := by decide +kernel
theorem dC_getsIn_31 : decode mC_getsIn.2.1 31 = .ok (.goto 4, 3) := by decide +kernel
theorem dC_getsIn_34 : decode mC_getsIn.2.1 34 = .ok (.iconst 0, 1) := by decide +kernel
theorem dC_getsIn_35 : decode mC_getsIn.2.1 35 = .ok (.ireturn, 1) := by decide +kernel
theorem dC_getsIn_36 : decode mC_getsIn.2.1 36 = .ok (.aload_n 0, 1) := by decide +kernel
theorem dC_getsIn_37 : decode mC_getsIn.2.1 37 = .ok (.iload_n 1, 1) := by decide +kernel
theorem dC_getsIn_38 : decode mC_getsIn.2.1 38 = .ok (.iload_n 2, 1) := by decide +kernel
theorem dC_getsIn_39 : decode mC_getsIn.2.1 39 = .ok (.iconst 1, 1) := by decide +kernel
theorem dC_getsIn_40 : decode mC_getsIn.2.1 40 = .ok (.isub, 1) := by decide +kernel
theorem dC_getsIn_41 : decode mC_getsIn.2.1 41 = .ok (.iload_n 3, 1) := by decide +kernel
theorem dC_getsIn_42 : decode mC_getsIn.2.1 42 = .ok (.ifCond .ne 7, 3) := by decide +kernel
theorem dC_getsIn_45 : decode mC_getsIn.2.1 45 = .ok (.iconst 1, 1) := by decide +kernel
theorem dC_getsIn_46 : decode mC_getsIn.2.1 46 = .ok (.goto 4, 3) := by decide +kernel
theorem dC_getsIn_49 : decode mC_getsIn.2.1 49 = .ok (.iconst 0, 1) := by decide +kernel
theorem dC_getsIn_50 : decode mC_getsIn.2.1 50 = .ok (.invokevirtual 33, 3) := by decide +kernel
theorem dC_getsIn_53 : decode mC_getsIn.2.1 53 = .ok (.iload_n 3, 1) := by decide +kernel
theorem dC_getsIn_54 : decode mC_getsIn.2.1 54 = .ok (.if_icmp .ne 5, 3) := by decide +kernel
theorem dC_getsIn_57 : decode mC_getsIn.2.1 57 = .ok (.iload_n 3, 1) := by decide +kernel
theorem dC_getsIn_58 : decode mC_getsIn.2.1 58 = .ok (.ireturn, 1) := by decide +kernel
theorem dC_getsIn_59 : decode mC_getsIn.2.1 59 = .ok (.aload_n 0, 1) := by decide +kernel
theorem dC_getsIn_60 : decode mC_getsIn.2.1 60 = .ok (.iload_n 1, 1) := by decide +kernel
theorem dC_getsIn_61 : decode mC_getsIn.2.1 61 = .ok (.iload_n 2, 1) := by decide +kernel
theorem dC_getsIn_62 : decode mC_getsIn.2.1 62 = .ok (.iload_n 3, 1) := by decide +kernel
theorem dC_getsIn_63 : decode mC_getsIn.2.1 63 = .ok (.invokevirtual 44, 3) := by decide +kernel
theorem dC_getsIn_66 : decode mC_getsIn.2.1 66 = .ok (.iconst (-1), 1) := by decide +kernel
theorem dC_getsIn_67 : decode mC_getsIn.2.1 67 = .ok (.if_icmp .eq 7, 3) := by decide +kernel
theorem dC_getsIn_70 : decode mC_getsIn.2.1 70 = .ok (.iload_n 3, 1) := by decide +kernel
theorem dC_getsIn_71 : decode mC_getsIn.2.1 71 = .ok (.goto 12, 3) := by decide +kernel
theorem dC_getsIn_74 : decode mC_getsIn.2.1 74 = .ok (.iload_n 3, 1) := by decide +kernel
theorem dC_getsIn_75 : decode mC_getsIn.2.1 75 = .ok (.ifCond .ne 7, 3) := by decide +kernel
theorem dC_getsIn_78 : decode mC_getsIn.2.1 78 = .ok (.iconst 1, 1) := by decide +kernel
theorem dC_getsIn_79 : decode mC_getsIn.2.1 79 = .ok (.goto 4, 3) := by decide +kernel
theorem dC_getsIn_82 : decode mC_getsIn.2.1 82 = .ok (.iconst 0, 1) := by decide +kernel
theorem dC_getsIn_83 : decode mC_getsIn.2.1 83 = .ok (.ireturn, 1) := by decide +kernel
theorem dC_findMove_0 : decode mC_findMove.2.1 0 = .ok (.iconst 1, 1) := by decide +kernel
theorem dC_findMove_1 : decode mC_findMove.2.1 1 = .ok (.iload_n 3, 1) := by decide +kernel
theorem dC_findMove_2 : decode mC_findMove.2.1 2 = .ok (.ifCond .eq 10, 3) := by decide +kernel
theorem dC_findMove_5 : decode mC_findMove.2.1 5 = .ok (.aload_n 0, 1) := by decide +kernel
theorem dC_findMove_6 : decode mC_findMove.2.1 6 = .ok (.getfield 26, 3) := by decide +kernel
theorem dC_findMove_9 : decode mC_findMove.2.1 9 = .ok (.goto 9, 3) := by decide +kernel
theorem dC_findMove_12 : decode mC_findMove.2.1 12 = .ok (.iconst 1, 1) := by decide +kernel
theorem dC_findMove_13 : decode mC_findMove.2.1 13 = .ok (.aload_n 0, 1) := by decide +kernel
theorem dC_findMove_14 : decode mC_findMove.2.1 14 = .ok (.getfield 26, 3) := by decide +kernel
theorem dC_findMove_17 : decode mC_findMove.2.1 17 = .ok (.isub, 1) := by decide +kernel
theorem dC_findMove_18 : decode mC_findMove.2.1 18 = .ok (.ishl, 1) := by decide +kernel
theorem dC_findMove_19 : decode mC_findMove.2.1 19 = .ok (.istore 4, 2) := by decide +kernel
theorem dC_findMove_21 : decode mC_findMove.2.1 21 = .ok (.iconst 0, 1) := by decide +kernel
theorem dC_findMove_22 : decode mC_findMove.2.1 22 = .ok (.istore 5, 2) := by decide +kernel
theorem dC_findMove_24 : decode mC_findMove.2.1 24 = .ok (.iload 5, 2) := by decide +kernel
theorem dC_findMove_26 : decode mC_findMove.2.1 26 = .ok (.aload_n 0, 1) := by decide +kernel
theorem dC_findMove_27 : decode mC_findMove.2.1 27 = .ok (.getfield 12, 3) := by decide +kernel
theorem dC_findMove_30 : decode mC_findMove.2.1 30 = .ok (.getfield 48, 3) := by decide +kernel
theorem dC_findMove_33 : decode mC_findMove.2.1 33 = .ok (.if_icmp .ge 63, 3) := by decide +kernel
theorem dC_findMove_36 : decode mC_findMove.2.1 36 = .ok (.aload_n 0, 1) := by decide +kernel
theorem dC_findMove_37 : decode mC_findMove.2.1 37 = .ok (.getfield 12, 3) := by decide +kernel
theorem dC_findMove_40 : decode mC_findMove.2.1 40 = .ok (.iload_n 1, 1) := by decide +kernel
theorem dC_findMove_41 : decode mC_findMove.2.1 41 = .ok (.invokevirtual 37, 3) := by decide +kernel
theorem dC_findMove_44 : decode mC_findMove.2.1 44 = .ok (.aload_n 0, 1) := by decide +kernel
theorem dC_findMove_45 : decode mC_findMove.2.1 45 = .ok (.getfield 12, 3) := by decide +kernel
theorem dC_findMove_48 : decode mC_findMove.2.1 48 = .ok (.iload 5, 2) := by decide +kernel
theorem dC_findMove_50 : decode mC_findMove.2.1 50 = .ok (.iload 4, 2) := by decide +kernel
theorem dC_findMove_52 : decode mC_findMove.2.1 52 = .ok (.invokevirtual 51, 3) := by decide +kernel
theorem dC_findMove_55 : decode mC_findMove.2.1 55 = .ok (.ifCond .eq 35, 3) := by decide +kernel
theorem dC_findMove_58 : decode mC_findMove.2.1 58 = .ok (.aload_n 0, 1) := by decide +kernel
theorem dC_findMove_59 : decode mC_findMove.2.1 59 = .ok (.aload_n 0, 1) := by decide +kernel
theorem dC_findMove_60 : decode mC_findMove.2.1 60 = .ok (.getfield 12, 3) := by decide +kernel
theorem dC_findMove_63 : decode mC_findMove.2.1 63 = .ok (.iload 5, 2) := by decide +kernel
theorem dC_findMove_65 : decode mC_findMove.2.1 65 = .ok (.invokevirtual 55, 3) := by decide +kernel
theorem dC_findMove_68 : decode mC_findMove.2.1 68 = .ok (.iload_n 2, 1) := by decide +kernel
theorem dC_findMove_69 : decode mC_findMove.2.1 69 = .ok (.iconst 1, 1) := by decide +kernel
theorem dC_findMove_70 : decode mC_findMove.2.1 70 = .ok (.isub, 1) := by decide +kernel
theorem dC_findMove_71 : decode mC_findMove.2.1 71 = .ok (.iload_n 3, 1) := by decide +kernel
theorem dC_findMove_72 : decode mC_findMove.2.1 72 = .ok (.ifCond .ne 7, 3) := by decide +kernel
theorem dC_findMove_75 : decode mC_findMove.2.1 75 = .ok (.iconst 1, 1) := by decide +kernel
theorem dC_findMove_76 : decode mC_findMove.2.1 76 = .ok (.goto 4, 3) := by decide +kernel
theorem dC_findMove_79 : decode mC_findMove.2.1 79 = .ok (.iconst 0, 1) := by decide +kernel
theorem dC_findMove_80 : decode mC_findMove.2.1 80 = .ok (.invokevirtual 33, 3) := by decide +kernel
theorem dC_findMove_83 : decode mC_findMove.2.1 83 = .ok (.iload_n 3, 1) := by decide +kernel
theorem dC_findMove_84 : decode mC_findMove.2.1 84 = .ok (.if_icmp .ne 6, 3) := by decide +kernel
theorem dC_findMove_87 : decode mC_findMove.2.1 87 = .ok (.iload 5, 2) := by decide +kernel
theorem dC_findMove_89 : decode mC_findMove.2.1 89 = .ok (.ireturn, 1) := by decide +kernel
theorem dC_findMove_90 : decode mC_findMove.2.1 90 = .ok (.iinc 5 1, 3) := by decide +kernel
theorem dC_findMove_93 : decode mC_findMove.2.1 93 = .ok (.goto (-69), 3) := by decide +kernel
theorem dC_findMove_96 : decode mC_findMove.2.1 96 = .ok (.iconst (-1), 1) := by decide +kernel
theorem dC_findMove_97 : decode mC_findMove.2.1 97 = .ok (.ireturn, 1) := by decide +kernel
theorem dC_firstMove_0 : decode mC_firstMove.2.1 0 = .ok (.iload_n 2, 1) := by decide +kernel
theorem dC_firstMove_1 : decode mC_firstMove.2.1 1 = .ok (.ifCond .le 15, 3) := by decide +kernel
theorem dC_firstMove_4 : decode mC_firstMove.2.1 4 = .ok (.aload_n 0, 1) := by decide +kernel
theorem dC_firstMove_5 : decode mC_firstMove.2.1 5 = .ok (.iload_n 1, 1) := by decide +kernel
theorem dC_firstMove_6 : decode mC_firstMove.2.1 6 = .ok (.iload_n 2, 1) := by decide +kernel
theorem dC_firstMove_7 : decode mC_firstMove.2.1 7 = .ok (.iconst 1, 1) := by decide +kernel
theorem dC_firstMove_8 : decode mC_firstMove.2.1 8 = .ok (.isub, 1) := by decide +kernel
theorem dC_firstMove_9 : decode mC_firstMove.2.1 9 = .ok (.iconst 0, 1) := by decide +kernel
theorem dC_firstMove_10 : decode mC_firstMove.2.1 10 = .ok (.invokevirtual 33, 3) := by decide +kernel
theorem dC_firstMove_13 : decode mC_firstMove.2.1 13 = .ok (.ifCond .eq 6, 3) := by decide +kernel
theorem dC_firstMove_16 : decode mC_firstMove.2.1 16 = .ok (.bipush (-2), 2) := by decide +kernel
theorem dC_firstMove_18 : decode mC_firstMove.2.1 18 = .ok (.ireturn, 1) := by decide +kernel
theorem dC_firstMove_19 : decode mC_firstMove.2.1 19 = .ok (.aload_n 0, 1) := by decide +kernel
theorem dC_firstMove_20 : decode mC_firstMove.2.1 20 = .ok (.iload_n 1, 1) := by decide +kernel
theorem dC_firstMove_21 : decode mC_firstMove.2.1 21 = .ok (.iload_n 2, 1) := by decide +kernel
theorem dC_firstMove_22 : decode mC_firstMove.2.1 22 = .ok (.iconst 1, 1) := by decide +kernel
theorem dC_firstMove_23 : decode mC_firstMove.2.1 23 = .ok (.invokevirtual 44, 3) := by decide +kernel
theorem dC_firstMove_26 : decode mC_firstMove.2.1 26 = .ok (.istore_n 3, 1) := by decide +kernel
theorem dC_firstMove_27 : decode mC_firstMove.2.1 27 = .ok (.iload_n 3, 1) := by decide +kernel
theorem dC_firstMove_28 : decode mC_firstMove.2.1 28 = .ok (.iconst (-1), 1) := by decide +kernel
theorem dC_firstMove_29 : decode mC_firstMove.2.1 29 = .ok (.if_icmp .ne 8, 3) := by decide +kernel
theorem dC_firstMove_32 : decode mC_firstMove.2.1 32 = .ok (.bipush (-2), 2) := by decide +kernel
theorem dC_firstMove_34 : decode mC_firstMove.2.1 34 = .ok (.goto 4, 3) := by decide +kernel
theorem dC_firstMove_37 : decode mC_firstMove.2.1 37 = .ok (.iload_n 3, 1) := by decide +kernel
theorem dC_firstMove_38 : decode mC_firstMove.2.1 38 = .ok (.ireturn, 1) := by decide +kernel
theorem dC_succeeds_0 : decode mC_succeeds.2.1 0 = .ok (.aload_n 0, 1) := by decide +kernel
theorem dC_succeeds_1 : decode mC_succeeds.2.1 1 = .ok (.iload_n 1, 1) := by decide +kernel
theorem dC_succeeds_2 : decode mC_succeeds.2.1 2 = .ok (.iload_n 2, 1) := by decide +kernel
theorem dC_succeeds_3 : decode mC_succeeds.2.1 3 = .ok (.iconst 1, 1) := by decide +kernel
theorem dC_succeeds_4 : decode mC_succeeds.2.1 4 = .ok (.invokevirtual 33, 3) := by decide +kernel
theorem dC_succeeds_7 : decode mC_succeeds.2.1 7 = .ok (.ireturn, 1) := by decide +kernel
def bz (b : Bool) : Int := if b then 1 else 0
theorem bz_n (b : Bool) : bz (!b) = 1 - bz b ∧ (bz b = 0 ∨ bz b = 1) := by cases b <;> decide
theorem bz_inj {a b : Bool} (h : bz a = bz b) : a = b := by cases a <;> cases b <;> first | rfl | (exact absurd h (by decide))
def anyB (f : Nat → Bool) : Nat → Bool
  | 0 => false
  | k + 1 => anyB f k || f k
theorem anyB_no {f : Nat → Bool} : ∀ {n : Nat}, (∀ k, k < n → f k = false) → anyB f n = false
  | 0, _ => rfl
  | n + 1, h => by
    show (anyB f n || f n) = false
    rw [anyB_no (fun k hk => h k (by omega)), h n (by omega)]
    rfl
theorem anyB_yes {f : Nat → Bool} {k : Nat} (h : f k = true) : ∀ {n : Nat}, k < n → anyB f n = true
  | 0, hk => absurd hk (by omega)
  | n + 1, hk => by
    show (anyB f n || f n) = true
    by_cases e : k = n
    · rw [← e, h, Bool.or_true]
    · rw [anyB_yes h (by omega), Bool.true_or]
def FBr (f : Nat → Bool) (n : Nat) (r : Int) : Prop := (∃ k : Nat, r = k ∧ k < n ∧ f k = true ∧ ∀ k', k' < k → f k' = false) ∨ (r = -1 ∧ ∀ k, k < n → f k = false)
theorem FBr_ex (f : Nat → Bool) : ∀ n, ∃ r, FBr f n r
  | 0 => ⟨-1, Or.inr ⟨rfl, fun k h => absurd h (by omega)⟩⟩
  | n + 1 => by
    obtain ⟨r, hr⟩ := FBr_ex f n
    rcases hr with ⟨k, hr, hk, hf, hb⟩ | ⟨hr, hf⟩
    · exact ⟨r, Or.inl ⟨k, hr, by omega, hf, hb⟩⟩
    · cases h : f n with
      | true => exact ⟨n, Or.inl ⟨n, rfl, by omega, h, hf⟩⟩
      | false => exact ⟨-1, Or.inr ⟨rfl, fun k hk => by
          by_cases e : k = n
          · rw [e]; exact h
          · exact hf k (by omega)⟩⟩
def mvr (sk : Nat) (b : Bool) : Nat := if b then sk else 1 - sk
def gI (c : Cfg) (sk go : Nat) : Nat → Nat → Bool → Bool
  | 0, n, _ => pl c n sk == go
  | l + 1, n, b => if gI c sk go l n (!b) == b then b else if anyB (fun k => mayN c n (2 ^ mvr sk b) k && (gI c sk go l (aftN c n k) (!b) == b)) (stN c) then b else !b
def fmK (c : Cfg) (sk go l n : Nat) (b : Bool) (k : Nat) : Bool := mayN c n (2 ^ mvr sk b) k && (gI c sk go l (aftN c n k) (!b) == b)
theorem gI_s (c : Cfg) (sk go l n : Nat) (b : Bool) : gI c sk go (l + 1) n b = if gI c sk go l n (!b) == b then b else if anyB (fmK c sk go l n b) (stN c) then b else !b := rfl
def coS (σ : Shp) (a : Nat) : Prop := sO σ a 0 ∧ sP σ a 0 = a + 1 ∧ hS σ (a + 1)
theorem coS.o {σ : Shp} {a : Nat} (h : coS σ a) : sO σ a 0 := h.1
theorem coS.p0 {σ : Shp} {a : Nat} (h : coS σ a) : sP σ a 0 = a + 1 := h.2.1
theorem coS.h {σ : Shp} {a : Nat} (h : coS σ a) : hS σ (a + 1) := h.2.2
theorem coS.ho {σ : Shp} {a : Nat} (h : coS σ a) : sO σ (a + 1) 2 := h.2.2.o
def CI (V : Nat → Nat → Int) (a : Nat) (c : Cfg) (sk go : Nat) : Prop := (∃ m, HH V (a + 1) c m) ∧ V a 1 = sk ∧ V a 2 = go
def chF (V V' : Nat → Nat → Int) (a : Nat) : Prop := ∀ b, b ≤ a ∨ a + 6 < b → V' b = V b
theorem chF.rf (V : Nat → Nat → Int) (a : Nat) : chF V V a := fun _ _ => rfl
theorem chF.tr {V V1 V2 : Nat → Nat → Int} {a : Nat} (h : chF V V1 a) (g : chF V1 V2 a) : chF V V2 a := fun b hb => (g b hb).trans (h b hb)
theorem putF.ch {V V' : Nat → Nat → Int} {a : Nat} (g : putF V V' (a + 1)) : chF V V' a := fun b hb => g.1 b (by omega) (by omega) (by omega)
theorem CI.put {V V' : Nat → Nat → Int} {a n sk go : Nat} {c : Cfg} (h : CI V a c sk go) (g : putF V V' (a + 1)) (hA : HA V' (a + 1) c n) : CI V' a c sk go := ⟨⟨n, h.1.choose_spec.put g hA⟩, by rw [g.ch a (by omega)]; exact h.2.1, by rw [g.ch a (by omega)]; exact h.2.2⟩
section Contest
variable {G : GE} {σ : Shp} {c : Cfg} {a sk go : Nat}
def GP (G : GE) (σ : Shp) (c : Cfg) (a sk go l : Nat) : Prop := ∀ (V : Nat → Nat → Int) (K : Option AV → Mem → Prop) (n : Nat) (x y z : Int) (b : Bool), CI V a c sk go → n < spc c → x = n → y = l → z = bz b → (∀ V', chF V V' a → CI V' a c sk go → K (some (vI (bz (gI c sk go l n b)))) (V', σ)) → Wp G (2 * l + 3) mC_getsIn [vR a, vI x, vI y, vI z] (V, σ) 0 0 K
theorem wC_findMove {V : Nat → Nat → Int} {K : Option AV → Mem → Prop} {l n : Nat} {x y z : Int} {b : Bool} (hP : GP G σ c a sk go l) (ha : coS σ a) (hsk : sk < 2) (hC : CI V a c sk go) (hn : n < spc c) (hx : x = n) (hy : y = (l + 1 : Nat)) (hl : l < 100) (hz : z = bz b) (hK : ∀ V' r, chF V V' a → CI V' a c sk go → FBr (fmK c sk go l n b) (stN c) r → K (some (vI r)) (V', σ)) : Wp G (2 * l + 4) mC_findMove [vR a, vI x, vI y, vI z] (V, σ) 0 0 K := by
  obtain ⟨m0, hh0⟩ := hC.1
  have hc := hh0.1
  have hst := stN_le hc
  have hsp := spc_le hc
  obtain ⟨bn, b01⟩ := bz_n b
  have hv1 := hC.2.1
  have hmv : mvr sk b < 2 := by unfold mvr; split <;> omega
  have hp4 : 2 ^ mvr sk b < 4 := by have : 2 ^ mvr sk b ≤ 2 ^ 1 := Nat.pow_le_pow_right (by decide) (by omega); omega
  have em1 : z ≠ 0 → mvr sk b = sk := fun h => by cases b with | true => rfl | false => exact absurd hz h
  have em0 : z = 0 → mvr sk b = 1 - sk := fun h => by cases b with | true => rw [hz] at h; exact absurd h (by decide) | false => rfl
  refine wp_intro mC_findMove_i.1 [some (vR a), some (vI x), some (vI y), some (vI z), none, none] rfl rfl (Nat.le_of_ble_eq_true rfl) ?_
  intro X hG F C
  have hm := C.rm
  subst hG
  have loop : ∀ (j k : Nat), stN c - k = j → k ≤ stN c → ∀ (V1 : Nat → Nat → Int) (w : Int), chF V V1 a → CI V1 a c sk go → (∀ k', k' < k → fmK c sk go l n b k' = false) → w = k → AW X 24 [some (vR a), some (vI x), some (vI y), some (vI z), some (vI (2 ^ mvr sk b : Nat)), some (vI w)] [] (V1, σ) 0 0 := by
    intro j
    induction j using Nat.strongRecOn with
    | ind j ih =>
      intro k hj hk V1 w hF hC1 hno hw
      obtain ⟨m1, hh1⟩ := hC1.1
      have v2 : V1 (a + 1) 2 = stN c := hh1.2.1.2.2.1
      have ew : w.toNat = k := by omega
      have hnx : ∀ (V2 : Nat → Nat → Int) (r : Int), chF V V2 a → CI V2 a c sk go → fmK c sk go l n b k = false → k < stN c → r = w + 1 → AW X 24 [some (vR a), some (vI x), some (vI y), some (vI z), some (vI (2 ^ mvr sk b : Nat)), some (vI r)] [] (V2, σ) 0 0 := fun V2 r hF2 hC2 hf hks hr =>
        ih _ (by omega) (k + 1) rfl (by omega) V2 r hF2 hC2 (fun k' hk' => by
          by_cases e : k' = k
          · rw [e]; exact hf
          · exact hno k' (by omega)) (by omega)
      refine aw_iload_5 (q := 26) F dC_findMove_24 rfl ?_
      refine aw_aload_0 (q := 27) F dC_findMove_26 rfl ?_
      refine av_getaE (q := 30) F fC_12 dC_findMove_27 rfl rfl (by first | exact ha.o | exact ha.ho) ha.p0 ?_
      refine av_geti (q := 33) F fC_48 dC_findMove_30 rfl rfl (by first | exact ha.o | exact ha.ho) ?_
      refine aw_icmp_ge (q := 36) (t := 96) F dC_findMove_33 rfl (by decide) (fun c33 => ?_) (fun c33 => ?_)
      · refine aw_iconst (q := 97) F dC_findMove_96 rfl (by decide) ?_
        refine aw_iret F C dC_findMove_97 rfl (Nat.le_refl _) (Nat.le_refl _) ?_
        exact hK V1 _ hF hC1 (Or.inr ⟨rfl, fun k' hk' => hno k' (by omega)⟩)
      · refine aw_aload_0 (q := 37) F dC_findMove_36 rfl ?_
        refine av_getaE (q := 40) F fC_12 dC_findMove_37 rfl rfl (by first | exact ha.o | exact ha.ho) ha.p0 ?_
        refine aw_iload_1 (q := 41) F dC_findMove_40 rfl ?_
        refine av_callV1 (q := 44) (ci := 2) F hm mH_put_i mH_put_n lC_37 dC_findMove_41 rfl rfl rfl (by first | exact ha.o | exact ha.ho) (by omega) (Nat.le_refl _) (Nat.le_refl _) (Nat.le_of_ble_eq_true rfl) (wH_put (c := c) hx (by omega) ha.h hc hh1.2.1 (fun v41 f41 g41 => ?_))
        have hh2 := hh1.put f41 g41
        have hC2 := hC1.put f41 g41
        have v22 : v41 (a + 1) 2 = stN c := hh2.2.1.2.2.1
        refine aw_aload_0 (q := 45) F dC_findMove_44 rfl ?_
        refine av_getaE (q := 48) F fC_12 dC_findMove_45 rfl rfl (by first | exact ha.o | exact ha.ho) ha.p0 ?_
        refine aw_iload_5 (q := 50) F dC_findMove_48 rfl ?_
        refine aw_iload_4 (q := 52) F dC_findMove_50 rfl ?_
        refine av_callV2 (q := 55) (ci := 2) F hm mH_may_i mH_may_n lC_51 dC_findMove_52 rfl rfl rfl (by first | exact ha.o | exact ha.ho) (by omega) (Nat.le_refl _) (Nat.le_refl _) (Nat.le_of_ble_eq_true rfl) (wH_may (c := c) (n := n) (th := 2 ^ mvr sk b) rfl hp4 ha.h hh2 (fun a52 b52 m52 => ?_) (fun m52 => ?_))
        · refine aw_if_eq (q := 58) (t := 90) F dC_findMove_55 rfl (by decide) (fun c55 => absurd c55 (by decide)) (fun c55 => ?_)
          rw [ew] at m52
          refine aw_aload_0 (q := 59) F dC_findMove_58 rfl ?_
          refine aw_aload_0 (q := 60) F dC_findMove_59 rfl ?_
          refine av_getaE (q := 63) F fC_12 dC_findMove_60 rfl rfl (by first | exact ha.o | exact ha.ho) ha.p0 ?_
          refine aw_iload_5 (q := 65) F dC_findMove_63 rfl ?_
          refine av_callV1 (q := 68) (ci := 2) F hm mH_after_i mH_after_n lC_55 dC_findMove_65 rfl rfl rfl (by first | exact ha.o | exact ha.ho) (by omega) (Nat.le_refl _) (Nat.le_refl _) (Nat.le_of_ble_eq_true rfl) (wH_after (by omega) hn ha.h hh2 ?_)
          refine aw_iload_2 (q := 69) F dC_findMove_68 rfl ?_
          refine aw_iconst (q := 70) F dC_findMove_69 rfl (by decide) ?_
          refine aw_isub (q := 71) F dC_findMove_70 rfl (by constructor <;> omega) ?_
          refine aw_iload_3 (q := 72) F dC_findMove_71 rfl ?_
          refine aw_if_ne (q := 75) (t := 79) F dC_findMove_72 rfl (by decide) (fun c72 => ?_) (fun c72 => ?_)
          · refine aw_iconst (q := 80) F dC_findMove_79 rfl (by decide) ?_
            refine av_callV3 (q := 83) (ci := 0) F hm mC_getsIn_i mC_getsIn_n lC_33 dC_findMove_80 rfl rfl rfl (by first | exact ha.o | exact ha.ho) (by omega) (Nat.le_refl _) (Nat.le_refl _) (Nat.le_of_ble_eq_true rfl) (hP v41 _ (aftN c n k) _ _ _ (!b) hC2 (aft_lt hn (by omega) m52) (by rw [ew]) (by omega) (by omega) (fun v80 f80 g80 => ?_))
            refine aw_iload_3 (q := 84) F dC_findMove_83 rfl ?_
            refine aw_icmp_ne (q := 87) (t := 90) F dC_findMove_84 rfl (by decide) (fun c84 => ?_) (fun c84 => ?_)
            · refine aw_iinc_5 (q := 93) F dC_findMove_90 rfl trivial (by constructor <;> omega) ?_
              refine aw_goto (t := 24) F dC_findMove_93 (by decide) ?_
              first
              | (refine hnx v80 _ ((hF.tr f41.ch).tr f80) g80 ?_ (by omega) rfl
                 unfold fmK
                 rw [Bool.and_eq_false_iff]
                 right
                 rw [beq_eq_false_iff_ne]
                 intro e
                 rw [e] at c84
                 exact c84 hz.symm)
              | (refine hnx v41 _ (hF.tr f41.ch) hC2 ?_ (by omega) rfl
                 have m52 := m52 (by omega) (by omega)
                 rw [ew] at m52
                 unfold fmK
                 rw [m52]
                 rfl)
            · refine aw_iload_5 (q := 89) F dC_findMove_87 rfl ?_
              refine aw_iret F C dC_findMove_89 rfl (Nat.le_refl _) (Nat.le_refl _) ?_
              refine hK v80 w ((hF.tr f41.ch).tr f80) g80 (Or.inl ⟨k, hw, by omega, ?_, hno⟩)
              unfold fmK
              rw [m52, bz_inj (c84.trans hz)]
              simp
          · refine aw_iconst (q := 76) F dC_findMove_75 rfl (by decide) ?_
            refine aw_goto (t := 80) F dC_findMove_76 (by decide) ?_
            refine av_callV3 (q := 83) (ci := 0) F hm mC_getsIn_i mC_getsIn_n lC_33 dC_findMove_80 rfl rfl rfl (by first | exact ha.o | exact ha.ho) (by omega) (Nat.le_refl _) (Nat.le_refl _) (Nat.le_of_ble_eq_true rfl) (hP v41 _ (aftN c n k) _ _ _ (!b) hC2 (aft_lt hn (by omega) m52) (by rw [ew]) (by omega) (by omega) (fun v80 f80 g80 => ?_))
            refine aw_iload_3 (q := 84) F dC_findMove_83 rfl ?_
            refine aw_icmp_ne (q := 87) (t := 90) F dC_findMove_84 rfl (by decide) (fun c84 => ?_) (fun c84 => ?_)
            · refine aw_iinc_5 (q := 93) F dC_findMove_90 rfl trivial (by constructor <;> omega) ?_
              refine aw_goto (t := 24) F dC_findMove_93 (by decide) ?_
              first
              | (refine hnx v80 _ ((hF.tr f41.ch).tr f80) g80 ?_ (by omega) rfl
                 unfold fmK
                 rw [Bool.and_eq_false_iff]
                 right
                 rw [beq_eq_false_iff_ne]
                 intro e
                 rw [e] at c84
                 exact c84 hz.symm)
              | (refine hnx v41 _ (hF.tr f41.ch) hC2 ?_ (by omega) rfl
                 have m52 := m52 (by omega) (by omega)
                 rw [ew] at m52
                 unfold fmK
                 rw [m52]
                 rfl)
            · refine aw_iload_5 (q := 89) F dC_findMove_87 rfl ?_
              refine aw_iret F C dC_findMove_89 rfl (Nat.le_refl _) (Nat.le_refl _) ?_
              refine hK v80 w ((hF.tr f41.ch).tr f80) g80 (Or.inl ⟨k, hw, by omega, ?_, hno⟩)
              unfold fmK
              rw [m52, bz_inj (c84.trans hz)]
              simp
        · refine aw_if_eq (q := 58) (t := 90) F dC_findMove_55 rfl (by decide) (fun c55 => ?_) (fun c55 => absurd c55 (by decide))
          refine aw_iinc_5 (q := 93) F dC_findMove_90 rfl trivial (by constructor <;> omega) ?_
          refine aw_goto (t := 24) F dC_findMove_93 (by decide) ?_
          first
          | (refine hnx v80 _ ((hF.tr f41.ch).tr f80) g80 ?_ (by omega) rfl
             unfold fmK
             rw [Bool.and_eq_false_iff]
             right
             rw [beq_eq_false_iff_ne]
             intro e
             rw [e] at c84
             exact c84 hz.symm)
          | (refine hnx v41 _ (hF.tr f41.ch) hC2 ?_ (by omega) rfl
             have m52 := m52 (by omega) (by omega)
             rw [ew] at m52
             unfold fmK
             rw [m52]
             rfl)
  refine aw_iconst (q := 1) F dC_findMove_0 rfl (by decide) ?_
  refine aw_iload_3 (q := 2) F dC_findMove_1 rfl ?_
  refine aw_if_eq (q := 5) (t := 12) F dC_findMove_2 rfl (by decide) (fun c2 => ?_) (fun c2 => ?_)
  · refine aw_iconst (q := 13) F dC_findMove_12 rfl (by decide) ?_
    refine aw_aload_0 (q := 14) F dC_findMove_13 rfl ?_
    refine av_geti (q := 17) F fC_26 dC_findMove_14 rfl rfl (by first | exact ha.o | exact ha.ho) ?_
    refine aw_isub (q := 18) F dC_findMove_17 rfl (by constructor <;> omega) ?_
    refine aw_ishl (q := 19) F dC_findMove_18 rfl ?_
    rw [show zshl 1 _ = ((2 ^ mvr sk b : Nat) : Int) by rw [shl1 (by omega) (by omega)]; congr 2; first | (rw [em1 (by omega)]; omega) | (rw [em0 (by omega)]; omega)]
    refine aw_istore_4 (q := 21) F dC_findMove_19 rfl trivial ?_
    refine aw_iconst (q := 22) F dC_findMove_21 rfl (by decide) ?_
    refine aw_istore_5 (q := 24) F dC_findMove_22 rfl trivial ?_
    exact loop _ 0 rfl (by omega) V _ (chF.rf V a) hC (fun k' h => absurd h (by omega)) rfl
  · refine aw_aload_0 (q := 6) F dC_findMove_5 rfl ?_
    refine av_geti (q := 9) F fC_26 dC_findMove_6 rfl rfl (by first | exact ha.o | exact ha.ho) ?_
    refine aw_goto (t := 18) F dC_findMove_9 (by decide) ?_
    refine aw_ishl (q := 19) F dC_findMove_18 rfl ?_
    rw [show zshl 1 _ = ((2 ^ mvr sk b : Nat) : Int) by rw [shl1 (by omega) (by omega)]; congr 2; first | (rw [em1 (by omega)]; omega) | (rw [em0 (by omega)]; omega)]
    refine aw_istore_4 (q := 21) F dC_findMove_19 rfl trivial ?_
    refine aw_iconst (q := 22) F dC_findMove_21 rfl (by decide) ?_
    refine aw_istore_5 (q := 24) F dC_findMove_22 rfl trivial ?_
    exact loop _ 0 rfl (by omega) V _ (chF.rf V a) hC (fun k' h => absurd h (by omega)) rfl
theorem wC_getsIn (ha : coS σ a) (hsk : sk < 2) (hpn : pN c = 2) : ∀ l, l < 100 → GP G σ c a sk go l
  | 0, _ => by
    intro V K n x y z b hC hn hx hy hz hK
    obtain ⟨m0, hh0⟩ := hC.1
    have hc := hh0.1
    have hsp := spc_le hc
    have hv1 := hC.2.1
    have hv2 := hC.2.2
    refine wp_intro mC_getsIn_i.1 [some (vR a), some (vI x), some (vI y), some (vI z)] rfl rfl (Nat.le_of_ble_eq_true rfl) ?_
    intro X hG F C
    have hm := C.rm
    refine aw_iload_2 (q := 1) F dC_getsIn_0 rfl ?_
    refine aw_if_gt (q := 4) (t := 36) F dC_getsIn_1 rfl (by decide) (fun c1 => by omega) (fun c1 => ?_)
    refine aw_aload_0 (q := 5) F dC_getsIn_4 rfl ?_
    refine av_getaE (q := 8) F fC_12 dC_getsIn_5 rfl rfl (by first | exact ha.o | exact ha.ho) ha.p0 ?_
    refine aw_iload_1 (q := 9) F dC_getsIn_8 rfl ?_
    refine av_callV1 (q := 12) (ci := 2) F hm mH_put_i mH_put_n lC_37 dC_getsIn_9 rfl rfl rfl (by first | exact ha.o | exact ha.ho) (by omega) (Nat.le_refl _) (Nat.le_refl _) (Nat.le_of_ble_eq_true rfl) (wH_put (c := c) hx (by omega) ha.h hc hh0.2.1 (fun v9 f9 g9 => ?_))
    have hh2 := hh0.put f9 g9
    have hC2 := hC.put f9 g9
    have w1 := hC2.2.1
    have w2 := hC2.2.2
    refine aw_aload_0 (q := 13) F dC_getsIn_12 rfl ?_
    refine av_getaE (q := 16) F fC_12 dC_getsIn_13 rfl rfl (by first | exact ha.o | exact ha.ho) ha.p0 ?_
    refine aw_aload_0 (q := 17) F dC_getsIn_16 rfl ?_
    refine av_geti (q := 20) F fC_26 dC_getsIn_17 rfl rfl (by first | exact ha.o | exact ha.ho) ?_
    refine av_callV1 (q := 23) (ci := 2) F hm mH_placeOf_i mH_placeOf_n lC_40 dC_getsIn_20 rfl rfl rfl (by first | exact ha.o | exact ha.ho) (by omega) (Nat.le_refl _) (Nat.le_refl _) (Nat.le_of_ble_eq_true rfl) (wH_placeOf ha.h hh2 (fun a20 b20 => ?_) (fun hne => absurd hne (by omega)))
    refine aw_aload_0 (q := 24) F dC_getsIn_23 rfl ?_
    refine av_geti (q := 27) F fC_30 dC_getsIn_24 rfl rfl (by first | exact ha.o | exact ha.ho) ?_
    refine aw_icmp_ne (q := 30) (t := 34) F dC_getsIn_27 rfl (by decide) (fun c27 => ?_) (fun c27 => ?_)
    · refine aw_iconst (q := 35) F dC_getsIn_34 rfl (by decide) ?_
      refine aw_zret F C dC_getsIn_35 rfl (by decide) (Nat.le_refl _) (Nat.le_refl _) ?_
      refine kI (hK v9 f9.ch hC2) ?_
      rw [show (v9 a 1).toNat = sk by omega] at c27
      show bz (pl c n sk == go) = _
      by_cases e : pl c n sk = go
      · first | (rw [e]; simp [bz]; done) | (exfalso; omega)
      · first | (rw [beq_eq_false_iff_ne.mpr e]; rfl) | (exfalso; omega)
    · refine aw_iconst (q := 31) F dC_getsIn_30 rfl (by decide) ?_
      refine aw_goto (t := 35) F dC_getsIn_31 (by decide) ?_
      refine aw_zret F C dC_getsIn_35 rfl (by decide) (Nat.le_refl _) (Nat.le_refl _) ?_
      refine kI (hK v9 f9.ch hC2) ?_
      rw [show (v9 a 1).toNat = sk by omega] at c27
      show bz (pl c n sk == go) = _
      by_cases e : pl c n sk = go
      · first | (rw [e]; simp [bz]; done) | (exfalso; omega)
      · first | (rw [beq_eq_false_iff_ne.mpr e]; rfl) | (exfalso; omega)
  | l + 1, hl => by
    intro V K n x y z b hC hn hx hy hz hK
    have ih : GP G σ c a sk go l := wC_getsIn ha hsk hpn l (by omega)
    obtain ⟨bn, b01⟩ := bz_n b
    have e1 : gI c sk go l n (!b) = b → gI c sk go (l + 1) n b = b := fun h => by rw [gI_s, h]; simp
    have e2 : gI c sk go l n (!b) ≠ b → ∀ r, FBr (fmK c sk go l n b) (stN c) r → gI c sk go (l + 1) n b = if r = -1 then !b else b := fun h r hr => by
      rw [gI_s, if_neg (by simpa using h)]
      rcases hr with ⟨k, hr, hk, hf, -⟩ | ⟨hr, hf⟩
      · rw [anyB_yes hf hk, if_pos rfl, if_neg (by omega)]
      · rw [anyB_no hf, if_neg (by decide), if_pos hr]
    refine wp_intro mC_getsIn_i.1 [some (vR a), some (vI x), some (vI y), some (vI z)] rfl rfl (Nat.le_of_ble_eq_true rfl) ?_
    intro X hG F C
    have hm := C.rm
    subst hG
    refine aw_iload_2 (q := 1) F dC_getsIn_0 rfl ?_
    refine aw_if_gt (q := 4) (t := 36) F dC_getsIn_1 rfl (by decide) (fun c1 => ?_) (fun c1 => by omega)
    refine aw_aload_0 (q := 37) F dC_getsIn_36 rfl ?_
    refine aw_iload_1 (q := 38) F dC_getsIn_37 rfl ?_
    refine aw_iload_2 (q := 39) F dC_getsIn_38 rfl ?_
    refine aw_iconst (q := 40) F dC_getsIn_39 rfl (by decide) ?_
    refine aw_isub (q := 41) F dC_getsIn_40 rfl (by constructor <;> omega) ?_
    refine aw_iload_3 (q := 42) F dC_getsIn_41 rfl ?_
    refine aw_if_ne (q := 45) (t := 49) F dC_getsIn_42 rfl (by decide) (fun c42 => ?_) (fun c42 => ?_)
    · refine aw_iconst (q := 50) F dC_getsIn_49 rfl (by decide) ?_
      refine av_callV3 (q := 53) (ci := 0) F hm mC_getsIn_i mC_getsIn_n lC_33 dC_getsIn_50 rfl rfl rfl (by first | exact ha.o | exact ha.ho) (by omega) (Nat.le_refl _) (Nat.le_refl _) (Nat.le_of_ble_eq_true rfl) (ih V _ n _ _ _ (!b) hC hn hx (by omega) (by omega) (fun v50 f50 g50 => ?_))
      refine aw_iload_3 (q := 54) F dC_getsIn_53 rfl ?_
      refine aw_icmp_ne (q := 57) (t := 59) F dC_getsIn_54 rfl (by decide) (fun c54 => ?_) (fun c54 => ?_)
      · refine aw_aload_0 (q := 60) F dC_getsIn_59 rfl ?_
        refine aw_iload_1 (q := 61) F dC_getsIn_60 rfl ?_
        refine aw_iload_2 (q := 62) F dC_getsIn_61 rfl ?_
        refine aw_iload_3 (q := 63) F dC_getsIn_62 rfl ?_
        refine av_callV3 (q := 66) (ci := 0) F hm mC_findMove_i mC_findMove_n lC_44 dC_getsIn_63 rfl rfl rfl (by first | exact ha.o | exact ha.ho) (by omega) (Nat.le_refl _) (Nat.le_refl _) (Nat.le_of_ble_eq_true rfl) (wC_findMove (l := l) (b := b) ih ha hsk g50 hn hx (by omega) (by omega) hz (fun v63 r63 f63 g63 h63 => ?_))
        refine aw_iconst (q := 67) F dC_getsIn_66 rfl (by decide) ?_
        refine aw_icmp_eq (q := 70) (t := 74) F dC_getsIn_67 rfl (by decide) (fun c67 => ?_) (fun c67 => ?_)
        · refine aw_iload_3 (q := 75) F dC_getsIn_74 rfl ?_
          refine aw_if_ne (q := 78) (t := 82) F dC_getsIn_75 rfl (by decide) (fun c75 => ?_) (fun c75 => ?_)
          · refine aw_iconst (q := 83) F dC_getsIn_82 rfl (by decide) ?_
            refine aw_zret F C dC_getsIn_83 rfl (by decide) (Nat.le_refl _) (Nat.le_refl _) ?_
            refine kI (hK v63 (f50.tr f63) g63) ?_
            have e2 := e2 (fun e => c54 (by rw [e, hz])) r63 h63
            first
            | (rw [e2, if_neg c67, hz])
            | (rw [e2, if_pos c67]; omega)
          · refine aw_iconst (q := 79) F dC_getsIn_78 rfl (by decide) ?_
            refine aw_goto (t := 83) F dC_getsIn_79 (by decide) ?_
            refine aw_zret F C dC_getsIn_83 rfl (by decide) (Nat.le_refl _) (Nat.le_refl _) ?_
            refine kI (hK v63 (f50.tr f63) g63) ?_
            have e2 := e2 (fun e => c54 (by rw [e, hz])) r63 h63
            first
            | (rw [e2, if_neg c67, hz])
            | (rw [e2, if_pos c67]; omega)
        · refine aw_iload_3 (q := 71) F dC_getsIn_70 rfl ?_
          refine aw_goto (t := 83) F dC_getsIn_71 (by decide) ?_
          refine aw_zret F C dC_getsIn_83 rfl (by omega) (Nat.le_refl _) (Nat.le_refl _) ?_
          refine kI (hK v63 (f50.tr f63) g63) ?_
          have e2 := e2 (fun e => c54 (by rw [e, hz])) r63 h63
          first
          | (rw [e2, if_neg c67, hz])
          | (rw [e2, if_pos c67]; omega)
      · refine aw_iload_3 (q := 58) F dC_getsIn_57 rfl ?_
        refine aw_zret F C dC_getsIn_58 rfl (by omega) (Nat.le_refl _) (Nat.le_refl _) ?_
        refine kI (hK v50 f50 g50) ?_
        rw [e1 (bz_inj (c54.trans hz)), hz]
    · refine aw_iconst (q := 46) F dC_getsIn_45 rfl (by decide) ?_
      refine aw_goto (t := 50) F dC_getsIn_46 (by decide) ?_
      refine av_callV3 (q := 53) (ci := 0) F hm mC_getsIn_i mC_getsIn_n lC_33 dC_getsIn_50 rfl rfl rfl (by first | exact ha.o | exact ha.ho) (by omega) (Nat.le_refl _) (Nat.le_refl _) (Nat.le_of_ble_eq_true rfl) (ih V _ n _ _ _ (!b) hC hn hx (by omega) (by omega) (fun v50 f50 g50 => ?_))
      refine aw_iload_3 (q := 54) F dC_getsIn_53 rfl ?_
      refine aw_icmp_ne (q := 57) (t := 59) F dC_getsIn_54 rfl (by decide) (fun c54 => ?_) (fun c54 => ?_)
      · refine aw_aload_0 (q := 60) F dC_getsIn_59 rfl ?_
        refine aw_iload_1 (q := 61) F dC_getsIn_60 rfl ?_
        refine aw_iload_2 (q := 62) F dC_getsIn_61 rfl ?_
        refine aw_iload_3 (q := 63) F dC_getsIn_62 rfl ?_
        refine av_callV3 (q := 66) (ci := 0) F hm mC_findMove_i mC_findMove_n lC_44 dC_getsIn_63 rfl rfl rfl (by first | exact ha.o | exact ha.ho) (by omega) (Nat.le_refl _) (Nat.le_refl _) (Nat.le_of_ble_eq_true rfl) (wC_findMove (l := l) (b := b) ih ha hsk g50 hn hx (by omega) (by omega) hz (fun v63 r63 f63 g63 h63 => ?_))
        refine aw_iconst (q := 67) F dC_getsIn_66 rfl (by decide) ?_
        refine aw_icmp_eq (q := 70) (t := 74) F dC_getsIn_67 rfl (by decide) (fun c67 => ?_) (fun c67 => ?_)
        · refine aw_iload_3 (q := 75) F dC_getsIn_74 rfl ?_
          refine aw_if_ne (q := 78) (t := 82) F dC_getsIn_75 rfl (by decide) (fun c75 => ?_) (fun c75 => ?_)
          · refine aw_iconst (q := 83) F dC_getsIn_82 rfl (by decide) ?_
            refine aw_zret F C dC_getsIn_83 rfl (by decide) (Nat.le_refl _) (Nat.le_refl _) ?_
            refine kI (hK v63 (f50.tr f63) g63) ?_
            have e2 := e2 (fun e => c54 (by rw [e, hz])) r63 h63
            first
            | (rw [e2, if_neg c67, hz])
            | (rw [e2, if_pos c67]; omega)
          · refine aw_iconst (q := 79) F dC_getsIn_78 rfl (by decide) ?_
            refine aw_goto (t := 83) F dC_getsIn_79 (by decide) ?_
            refine aw_zret F C dC_getsIn_83 rfl (by decide) (Nat.le_refl _) (Nat.le_refl _) ?_
            refine kI (hK v63 (f50.tr f63) g63) ?_
            have e2 := e2 (fun e => c54 (by rw [e, hz])) r63 h63
            first
            | (rw [e2, if_neg c67, hz])
            | (rw [e2, if_pos c67]; omega)
        · refine aw_iload_3 (q := 71) F dC_getsIn_70 rfl ?_
          refine aw_goto (t := 83) F dC_getsIn_71 (by decide) ?_
          refine aw_zret F C dC_getsIn_83 rfl (by omega) (Nat.le_refl _) (Nat.le_refl _) ?_
          refine kI (hK v63 (f50.tr f63) g63) ?_
          have e2 := e2 (fun e => c54 (by rw [e, hz])) r63 h63
          first
          | (rw [e2, if_neg c67, hz])
          | (rw [e2, if_pos c67]; omega)
      · refine aw_iload_3 (q := 58) F dC_getsIn_57 rfl ?_
        refine aw_zret F C dC_getsIn_58 rfl (by omega) (Nat.le_refl _) (Nat.le_refl _) ?_
        refine kI (hK v50 f50 g50) ?_
        rw [e1 (bz_inj (c54.trans hz)), hz]
theorem wC_succeeds {V : Nat → Nat → Int} {K : Option AV → Mem → Prop} {l n : Nat} {x y : Int} (ha : coS σ a) (hsk : sk < 2) (hpn : pN c = 2) (hl : l < 100) (hC : CI V a c sk go) (hn : n < spc c) (hx : x = n) (hy : y = l) (hK : ∀ V', chF V V' a → CI V' a c sk go → K (some (vI (bz (gI c sk go l n true)))) (V', σ)) : Wp G (2 * l + 4) mC_succeeds [vR a, vI x, vI y] (V, σ) 0 0 K := by
  have hP : GP G σ c a sk go l := wC_getsIn ha hsk hpn l hl
  have b01 := (bz_n (gI c sk go l n true)).2
  refine wp_intro mC_succeeds_i.1 [some (vR a), some (vI x), some (vI y)] rfl rfl (Nat.le_of_ble_eq_true rfl) ?_
  intro X hG F C
  have hm := C.rm
  subst hG
  refine aw_aload_0 (q := 1) F dC_succeeds_0 rfl ?_
  refine aw_iload_1 (q := 2) F dC_succeeds_1 rfl ?_
  refine aw_iload_2 (q := 3) F dC_succeeds_2 rfl ?_
  refine aw_iconst (q := 4) F dC_succeeds_3 rfl (by decide) ?_
  refine av_callV3 (q := 7) (ci := 0) F hm mC_getsIn_i mC_getsIn_n lC_33 dC_succeeds_4 rfl rfl rfl (by first | exact ha.o | exact ha.ho) (by omega) (Nat.le_refl _) (Nat.le_refl _) (Nat.le_of_ble_eq_true rfl) (hP V _ n _ _ _ true hC hn hx hy rfl (fun v4 f4 g4 => ?_))
  refine aw_zret F C dC_succeeds_7 rfl (by omega) (Nat.le_refl _) (Nat.le_refl _) ?_
  exact hK v4 f4 g4
theorem wC_firstMove {V : Nat → Nat → Int} {K : Option AV → Mem → Prop} {l n : Nat} {x y : Int} (ha : coS σ a) (hsk : sk < 2) (hpn : pN c = 2) (hC : CI V a c sk go) (hn : n < spc c) (hx : x = n) (hy : y = (l + 1 : Nat)) (hl : l < 100) (hK : ∀ V' r r', chF V V' a → CI V' a c sk go → FBr (fmK c sk go l n true) (stN c) r → r' = (if gI c sk go l n false then -2 else if r = -1 then -2 else r) → K (some (vI r')) (V', σ)) : Wp G (2 * l + 5) mC_firstMove [vR a, vI x, vI y] (V, σ) 0 0 K := by
  have hP : GP G σ c a sk go l := wC_getsIn ha hsk hpn l hl
  refine wp_intro mC_firstMove_i.1 [some (vR a), some (vI x), some (vI y), none] rfl rfl (Nat.le_of_ble_eq_true rfl) ?_
  intro X hG F C
  have hm := C.rm
  subst hG
  refine aw_iload_2 (q := 1) F dC_firstMove_0 rfl ?_
  refine aw_if_le (q := 4) (t := 16) F dC_firstMove_1 rfl (by decide) (fun c1 => by omega) (fun c1 => ?_)
  refine aw_aload_0 (q := 5) F dC_firstMove_4 rfl ?_
  refine aw_iload_1 (q := 6) F dC_firstMove_5 rfl ?_
  refine aw_iload_2 (q := 7) F dC_firstMove_6 rfl ?_
  refine aw_iconst (q := 8) F dC_firstMove_7 rfl (by decide) ?_
  refine aw_isub (q := 9) F dC_firstMove_8 rfl (by constructor <;> omega) ?_
  refine aw_iconst (q := 10) F dC_firstMove_9 rfl (by decide) ?_
  refine av_callV3 (q := 13) (ci := 0) F hm mC_getsIn_i mC_getsIn_n lC_33 dC_firstMove_10 rfl rfl rfl (by first | exact ha.o | exact ha.ho) (by omega) (Nat.le_refl _) (Nat.le_refl _) (Nat.le_of_ble_eq_true rfl) (hP V _ n _ _ _ false hC hn hx (by omega) rfl (fun v10 f10 g10 => ?_))
  refine aw_if_eq (q := 16) (t := 19) F dC_firstMove_13 rfl (by decide) (fun c13 => ?_) (fun c13 => ?_)
  · refine aw_aload_0 (q := 20) F dC_firstMove_19 rfl ?_
    refine aw_iload_1 (q := 21) F dC_firstMove_20 rfl ?_
    refine aw_iload_2 (q := 22) F dC_firstMove_21 rfl ?_
    refine aw_iconst (q := 23) F dC_firstMove_22 rfl (by decide) ?_
    refine av_callV3 (q := 26) (ci := 0) F hm mC_findMove_i mC_findMove_n lC_44 dC_firstMove_23 rfl rfl rfl (by first | exact ha.o | exact ha.ho) (by omega) (Nat.le_refl _) (Nat.le_refl _) (Nat.le_of_ble_eq_true rfl) (wC_findMove (l := l) (b := true) hP ha hsk g10 hn hx hy hl rfl (fun v23 r23 f23 g23 h23 => ?_))
    refine aw_istore_3 (q := 27) F dC_firstMove_26 rfl trivial ?_
    refine aw_iload_3 (q := 28) F dC_firstMove_27 rfl ?_
    refine aw_iconst (q := 29) F dC_firstMove_28 rfl (by decide) ?_
    refine aw_icmp_ne (q := 32) (t := 37) F dC_firstMove_29 rfl (by decide) (fun c29 => ?_) (fun c29 => ?_)
    · refine aw_iload_3 (q := 38) F dC_firstMove_37 rfl ?_
      refine aw_iret F C dC_firstMove_38 rfl (Nat.le_refl _) (Nat.le_refl _) ?_
      have hg : gI c sk go l n false = false := by cases h : gI c sk go l n false with | false => rfl | true => (rw [h] at c13; exact absurd c13 (by decide))
      refine hK v23 r23 _ (f10.tr f23) g23 h23 ?_
      rw [hg, if_neg (by decide)]
      first
      | (rw [if_pos c29])
      | (rw [if_neg c29])
    · refine aw_bipush (q := 34) F dC_firstMove_32 rfl (by decide) ?_
      refine aw_goto (t := 38) F dC_firstMove_34 (by decide) ?_
      refine aw_iret F C dC_firstMove_38 rfl (Nat.le_refl _) (Nat.le_refl _) ?_
      have hg : gI c sk go l n false = false := by cases h : gI c sk go l n false with | false => rfl | true => (rw [h] at c13; exact absurd c13 (by decide))
      refine hK v23 r23 _ (f10.tr f23) g23 h23 ?_
      rw [hg, if_neg (by decide)]
      first
      | (rw [if_pos c29])
      | (rw [if_neg c29])
  · refine aw_bipush (q := 18) F dC_firstMove_16 rfl (by decide) ?_
    refine aw_iret F C dC_firstMove_18 rfl (Nat.le_refl _) (Nat.le_refl _) ?_
    have hg : gI c sk go l n false = true := by cases h : gI c sk go l n false with | true => rfl | false => (rw [h] at c13; exact absurd rfl c13)
    obtain ⟨r, hr⟩ := FBr_ex (fmK c sk go l n true) (stN c)
    exact hK v10 r _ f10 g10 hr (by rw [hg, if_pos rfl])
theorem wC_begin {V : Nat → Nat → Int} {K : Option AV → Mem → Prop} {x y z : Int} {t n : Nat} (ha : coS σ a) (hx : x = scN c n) (hn : n < spc c) (hc : okC c) (hT : tS σ t) (hta : t < a ∨ a + 6 < t) (h1 : V t 1 = dN c) (h2 : V t 2 = pN c) (h3 : V t 3 = lkC c) (h4 : V t 4 = kyC c) (hy : y = sk) (hz : z = go) (hK : ∀ V', (∀ b, b < a ∨ a + 6 < b → V' b = V b) → CI V' a c sk go → K none (V', σ)) : Wp G 2 mC_begin [vR a, vR t, vI x, vI y, vI z] (V, σ) 0 0 K := by
  have hsp := spc_le hc
  refine wp_intro mC_begin_i.1 [some (vR a), some (vR t), some (vI x), some (vI y), some (vI z)] rfl rfl (Nat.le_of_ble_eq_true rfl) ?_
  intro X hG F C
  have hm := C.rm
  refine aw_aload_0 (q := 1) F dC_begin_0 rfl ?_
  refine av_getaE (q := 4) F fC_12 dC_begin_1 rfl rfl (by first | exact ha.o | exact ha.ho | exact hT.o) ha.p0 ?_
  refine aw_aload_1 (q := 5) F dC_begin_4 rfl ?_
  refine av_callV1 (q := 8) (ci := 2) F hm mH_fit_i mH_fit_n lC_18 dC_begin_5 rfl rfl rfl (by first | exact ha.o | exact ha.ho | exact hT.o) (by decide) (Nat.le_refl _) (Nat.le_refl _) (Nat.le_of_ble_eq_true rfl) (wH_fit (c := c) ha.h hT (by omega) hc h1 h2 h3 h4 (fun v5 f5 g5 => ?_))
  refine aw_aload_0 (q := 9) F dC_begin_8 rfl ?_
  refine av_getaE (q := 12) F fC_12 dC_begin_9 rfl rfl (by first | exact ha.o | exact ha.ho | exact hT.o) ha.p0 ?_
  refine aw_iload_2 (q := 13) F dC_begin_12 rfl ?_
  refine av_callV1 (q := 16) (ci := 2) F hm mH_load_i mH_load_n lC_22 dC_begin_13 rfl rfl rfl (by first | exact ha.o | exact ha.ho | exact hT.o) (by decide) (Nat.le_refl _) (Nat.le_refl _) (Nat.le_of_ble_eq_true rfl) (wH_load (c := c) hx (by omega) ha.h hc g5 (fun v13 f13 g13 => ?_))
  refine aw_aload_0 (q := 17) F dC_begin_16 rfl ?_
  refine aw_iload_3 (q := 18) F dC_begin_17 rfl ?_
  refine av_puti (q := 21) F fC_26 dC_begin_18 rfl rfl (wr_0_1 _) (by first | exact ha.o | exact ha.ho | exact hT.o) ?_
  refine aw_aload_0 (q := 22) F dC_begin_21 rfl ?_
  refine aw_iload_4 (q := 24) F dC_begin_22 rfl ?_
  refine av_puti (q := 27) F fC_30 dC_begin_24 rfl rfl (wr_0_2 _) (by first | exact ha.o | exact ha.ho | exact hT.o) ?_
  refine aw_vret F C dC_begin_27 rfl (Nat.le_refl _) (Nat.le_refl _) ?_
  refine hK _ (fun b hb => ?_) ⟨⟨n, g13.same (fun b h5 h6 => by rw [up2_nea _ _ (by omega), up2_nea _ _ (by omega)])⟩, ?_, ?_⟩
  · rw [up2_nea _ _ (by omega), up2_nea _ _ (by omega), f13.1 b (by omega) (by omega) (by omega) (by omega), f5.1 b (by omega) (by omega) (by omega)]
  · rw [up2_nek _ _ (by decide), up2_same]; exact hy
  · rw [up2_same]; exact hz
end Contest
