theorem ofN (n : Nat) : Int32.ofInt (n : Int) = nI n := Int32.ofInt_eq_ofNat
theorem ofNL (n : Nat) : Int64.ofInt (n : Int) = lN n := Int64.ofInt_eq_ofNat
theorem fa_and (a b : Nat) : nI a &&& nI b = nI (a &&& b) := by
  apply Int32.toBitVec_inj.1
  show BitVec.ofNat 32 a &&& BitVec.ofNat 32 b = BitVec.ofNat 32 (a &&& b)
  apply BitVec.eq_of_getLsbD_eq
  intro i hi
  simp [hi]
theorem fa_or (a b : Nat) : nI a ||| nI b = nI (a ||| b) := by
  apply Int32.toBitVec_inj.1
  show BitVec.ofNat 32 a ||| BitVec.ofNat 32 b = BitVec.ofNat 32 (a ||| b)
  apply BitVec.eq_of_getLsbD_eq
  intro i hi
  simp [hi]
theorem fb_xorI (a b : Nat) : nI a ^^^ nI b = nI (a ^^^ b) := by
  apply Int32.toBitVec_inj.1
  show BitVec.ofNat 32 a ^^^ BitVec.ofNat 32 b = BitVec.ofNat 32 (a ^^^ b)
  apply BitVec.eq_of_getLsbD_eq
  intro i hi
  simp [hi]
theorem fb_andL (a b : Nat) : lN a &&& lN b = lN (a &&& b) := by
  apply Int64.toBitVec_inj.1
  show BitVec.ofNat 64 a &&& BitVec.ofNat 64 b = BitVec.ofNat 64 (a &&& b)
  apply BitVec.eq_of_getLsbD_eq
  intro i hi
  simp [hi]
theorem fb_orL (a b : Nat) : lN a ||| lN b = lN (a ||| b) := by
  apply Int64.toBitVec_inj.1
  show BitVec.ofNat 64 a ||| BitVec.ofNat 64 b = BitVec.ofNat 64 (a ||| b)
  apply BitVec.eq_of_getLsbD_eq
  intro i hi
  simp [hi]
theorem zand_n {a b : Nat} (h : a &&& b < 2147483648) : zand a b = ((a &&& b : Nat) : Int) := by
  rw [zand_eq]
  rw [ofN, ofN, fa_and, nI_toInt h]
theorem zor_n {a b : Nat} (h : a ||| b < 2147483648) : zor a b = ((a ||| b : Nat) : Int) := by
  rw [zor_eq]
  rw [ofN, ofN, fa_or, nI_toInt h]
theorem zxor_n {a b : Nat} (h : a ^^^ b < 2147483648) : zxor a b = ((a ^^^ b : Nat) : Int) := by
  rw [zxor_eq]
  rw [ofN, ofN, fb_xorI, nI_toInt h]
theorem sh_amt : ∀ s : Nat, s < 32 → ((nI s &&& 31).toBitVec.smod 32).toNat = s := by decide +kernel
theorem zshl_n {x s : Nat} (hs : s < 32) (h : x * 2 ^ s < 2147483648) : zshl x s = ((x * 2 ^ s : Nat) : Int) := by
  rw [zshl_eq]
  rw [ofN, ofN, pk_shlN _ s (sh_amt s hs) (by omega), nI_toInt h]
theorem zshr_i {x : Int} {s : Nat} (hx : okI x) (hs : s < 32) : zshr x s = x / 2 ^ s := by
  rw [zshr_eq]
  rw [ofN, pk_shr _ _ s (sh_amt s hs), Int32.toInt_ofInt_of_le hx.1 hx.2, Int.shiftRight_eq_div_pow]
  simp
theorem bv_i {x : Int} : (Int32.ofInt x).toBitVec.toNat = (x % 4294967296).toNat := by
  show (BitVec.ofInt 32 x).toNat = _
  rw [BitVec.toNat_ofInt]
  rfl
theorem zand_mask {x : Int} {m : Nat} (k : Nat) (hk : k ≤ 30) (hm : m = 2 ^ k - 1) : zand x m = x % 2 ^ k := by
  subst hm
  rw [zand_eq]
  have hp : 2 ^ k ≤ 2 ^ 30 := Nat.pow_le_pow_right (by decide) hk
  have hp0 : 0 < 2 ^ k := Nat.two_pow_pos k
  rw [ofN, pk_and _ k (by rw [pk_tn]; omega), bv_i]
  have h1 : (x % 4294967296).toNat % 2 ^ k < 2 ^ k := Nat.mod_lt _ hp0
  rw [nI_toInt (by omega)]
  have e : (((x % 4294967296).toNat % 2 ^ k : Nat) : Int) = (x % 4294967296) % (2 ^ k : Nat) := by
    rw [Int.natCast_emod, Int.toNat_of_nonneg (Int.emod_nonneg _ (by decide))]
  rw [e, Int.emod_emod_of_dvd]
  · simp
  · rw [show (4294967296 : Int) = ((2 ^ 32 : Nat) : Int) by rfl]
    exact Int.natCast_dvd_natCast.mpr (Nat.pow_dvd_pow 2 (by omega))
theorem zand1 (x : Int) : zand x 1 = x % 2 := by
  have := zand_mask (x := x) (m := 1) 1 (by decide) rfl
  simpa using this
theorem bit_n {n s : Nat} (hn : n < 2147483648) (hs : s < 32) : zand (zshr n s) 1 = ((n / 2 ^ s % 2 : Nat) : Int) := by
  rw [zand1, zshr_i ⟨by omega, by omega⟩ hs]
  simp
theorem bit_tb {n s : Nat} : n / 2 ^ s % 2 = if n.testBit s then 1 else 0 := by
  rw [Nat.testBit_eq_decide_div_mod_eq]
  have := Nat.mod_two_eq_zero_or_one (n / 2 ^ s)
  rcases this with h | h <;> simp [h]
theorem bit_z {n : Nat} {d : Int} (hn : n < 2147483648) (h0 : 0 ≤ d) (h1 : d < 32) : zand (zshr n d) 1 = if n.testBit d.toNat then 1 else 0 := by
  obtain ⟨s, rfl⟩ := Int.eq_ofNat_of_zero_le h0
  rw [bit_n hn (by omega), bit_tb]
  simp
  split <;> rfl
theorem shl1 {d : Int} (h0 : 0 ≤ d) (h1 : d < 31) : zshl 1 d = ((2 ^ d.toNat : Nat) : Int) := by
  obtain ⟨s, rfl⟩ := Int.eq_ofNat_of_zero_le h0
  have hs : s < 31 := by have : (Int.ofNat s) = ((s : Nat) : Int) := rfl; omega
  have hp : 2 ^ s ≤ 2 ^ 30 := Nat.pow_le_pow_right (by decide) (by omega)
  have := zshl_n (x := 1) (s := s) (by omega) (by omega)
  rw [Nat.one_mul] at this
  exact this
/-- a 64 bit number as a long holds it -/
noncomputable def sg (m : Nat) : Int := Classical.choose (⟨_, rfl⟩ : ∃ w : Int, w = (lN m).toInt)
theorem sg_eq (m : Nat) : sg m = (lN m).toInt := Classical.choose_spec (⟨_, rfl⟩ : ∃ w : Int, w = (lN m).toInt)
theorem sg_of (m : Nat) : Int64.ofInt (sg m) = lN m := by rw [sg_eq]; exact Int64.ofInt_toInt _
theorem sg_small {m : Nat} (h : m < 9223372036854775808) : sg m = m := by
  rw [sg_eq]
  exact pk_lT h
theorem yand_s (a b : Nat) : yand (sg a) (sg b) = sg (a &&& b) := by rw [yand_eq]; rw [sg_of, sg_of, fb_andL, sg_eq]
theorem yor_s (a b : Nat) : yor (sg a) (sg b) = sg (a ||| b) := by rw [yor_eq]; rw [sg_of, sg_of, fb_orL, sg_eq]
theorem sg_inj {a b : Nat} (ha : a < 18446744073709551616) (hb : b < 18446744073709551616) (h : sg a = sg b) : a = b := by
  have h1 : lN a = lN b := by rw [← sg_of a, ← sg_of b, h]
  have h2 : (BitVec.ofNat 64 a).toNat = (BitVec.ofNat 64 b).toNat := congrArg (fun x : Int64 => x.toBitVec.toNat) h1
  rw [BitVec.toNat_ofNat, BitVec.toNat_ofNat] at h2
  omega
theorem sg_0 : sg 0 = 0 := by rw [sg_eq]; rfl
/-- wrapped sums of longs -/
noncomputable def wl (z : Int) : Int := Classical.choose (⟨_, rfl⟩ : ∃ w : Int, w = (Int64.ofInt z).toInt)
theorem wl_eq (z : Int) : wl z = (Int64.ofInt z).toInt := Classical.choose_spec (⟨_, rfl⟩ : ∃ w : Int, w = (Int64.ofInt z).toInt)
theorem wl_ok {z : Int} (h : okL z) : wl z = z := (wl_eq z).trans (Int64.toInt_ofInt_of_le h.1 h.2)
section Wraps
variable {X : CT} {Y : MD} {pc q : Nat} {ls : List (Option AV)} {st : List AV} {μ : Mem} {k n : Nat}
theorem aw_laddw (F : Fx X Y) {x y : Int} (hd : decode Y.2.1 pc = .ok (.ladd, 1)) (hp : pc + 1 = q) (kk : AW X q ls (vL (wl (x + y)) :: st) μ k n) : AW X pc ls (vL y :: vL x :: st) μ k n :=
  aw_go kk fun _ _ _ _ R => ⟨R.pop.pop.push (show okL _ by rw [wl_eq]; exact okL_toInt _), fun h => by
    subst hp
    refine lv_ladd F.1 F.2.1 hd ?_
    rw [← Int64.ofInt_add, ← Int64.ofInt_toInt (Int64.ofInt (x + y)), ← wl_eq]
    exact h⟩
theorem aw_lsubw (F : Fx X Y) {x y : Int} (hd : decode Y.2.1 pc = .ok (.lsub, 1)) (hp : pc + 1 = q) (kk : AW X q ls (vL (wl (x - y)) :: st) μ k n) : AW X pc ls (vL y :: vL x :: st) μ k n :=
  aw_go kk fun _ _ _ _ R => ⟨R.pop.pop.push (show okL _ by rw [wl_eq]; exact okL_toInt _), fun h => by
    subst hp
    refine lv_lsub F.1 F.2.1 hd ?_
    rw [← Int64.ofInt_sub, ← Int64.ofInt_toInt (Int64.ofInt (x - y)), ← wl_eq]
    exact h⟩
end Wraps
theorem wl_add (a b : Nat) : wl (sg a + sg b) = sg (a + b) := by
  rw [wl_eq, Int64.ofInt_add, sg_of, sg_of, lN_add, sg_eq]
theorem wl_sub {a b : Nat} (h : b ≤ a) : wl (sg a - sg b) = sg (a - b) := by
  rw [wl_eq, Int64.ofInt_sub, sg_of, sg_of, lN_sub h, sg_eq]
theorem shL_amt : ∀ s : Nat, s < 64 → (((nI s).toInt64 &&& 63).toBitVec.smod 64).toNat = s := by decide +kernel
theorem yshl_s {m : Nat} {s : Nat} (hs : s < 64) : yshl (sg m) s = sg (m * 2 ^ s) := by
  rw [yshl_eq]
  rw [sg_of, ofN, sg_eq]
  congr 1
  apply Int64.toBitVec_inj.mp
  apply BitVec.eq_of_toNat_eq
  show ((lN m).toBitVec <<< ((((nI s).toInt64 &&& 63)).toBitVec.smod 64).toNat).toNat = _
  rw [shL_amt s hs, BitVec.toNat_shiftLeft, Nat.shiftLeft_eq]
  show (BitVec.ofNat 64 m).toNat * 2 ^ s % 2 ^ 64 = (BitVec.ofNat 64 (m * 2 ^ s)).toNat
  rw [BitVec.toNat_ofNat, BitVec.toNat_ofNat, Nat.mod_mul_mod]
theorem shL_amtU : ∀ s : Nat, s < 64 → (((nI s).toInt64.toUInt64 &&& Int64.toUInt64 63).toNat % 64) = s := by decide +kernel
theorem yushr_s {m : Nat} {s : Nat} (hm : m < 18446744073709551616) (hs : s < 64) : yushr (sg m) s = sg (m / 2 ^ s) := by
  rw [yushr_eq]
  rw [sg_of, ofN, sg_eq]
  congr 1
  apply Int64.toBitVec_inj.mp
  apply BitVec.eq_of_toNat_eq
  show (((lN m).toUInt64 >>> ((nI s).toInt64.toUInt64 &&& Int64.toUInt64 63))).toNat = _
  rw [UInt64.toNat_shiftRight, shL_amtU s hs, Nat.shiftRight_eq_div_pow]
  show (BitVec.ofNat 64 m).toNat / 2 ^ s = (BitVec.ofNat 64 (m / 2 ^ s)).toNat
  rw [BitVec.toNat_ofNat, BitVec.toNat_ofNat]
  have : m / 2 ^ s ≤ m := Nat.div_le_self _ _
  rw [Nat.mod_eq_of_lt (by omega), Nat.mod_eq_of_lt (by omega)]
