theorem dW_law_0 : decode code 0 = .ok (.new 8, 3) := by decide +kernel
theorem dW_law_3 : decode code 3 = .ok (.dup, 1) := by decide +kernel
theorem dW_law_4 : decode code 4 = .ok (.invokespecial 15, 3) := by decide +kernel
theorem dW_law_7 : decode code 7 = .ok (.astore_n 1, 1) := by decide +kernel
theorem dW_law_8 : decode code 8 = .ok (.new 16, 3) := by decide +kernel
theorem dW_law_11 : decode code 11 = .ok (.dup, 1) := by decide +kernel
theorem dW_law_12 : decode code 12 = .ok (.invokespecial 18, 3) := by decide +kernel
theorem dW_law_15 : decode code 15 = .ok (.astore_n 2, 1) := by decide +kernel
theorem dW_law_16 : decode code 16 = .ok (.iconst 1, 1) := by decide +kernel
theorem dW_law_17 : decode code 17 = .ok (.newarray .long, 2) := by decide +kernel
theorem dW_law_19 : decode code 19 = .ok (.astore_n 3, 1) := by decide +kernel
theorem dW_law_20 : decode code 20 = .ok (.iconst 0, 1) := by decide +kernel
theorem dW_law_21 : decode code 21 = .ok (.istore 4, 2) := by decide +kernel
theorem dW_law_23 : decode code 23 = .ok (.iload 4, 2) := by decide +kernel
theorem dW_law_25 : decode code 25 = .ok (.aload_n 0, 1) := by decide +kernel
theorem dW_law_26 : decode code 26 = .ok (.arraylength, 1) := by decide +kernel
theorem dW_law_27 : decode code 27 = .ok (.bipush 6, 2) := by decide +kernel
theorem dW_law_29 : decode code 29 = .ok (.isub, 1) := by decide +kernel
theorem dW_law_30 : decode code 30 = .ok (.if_icmp .gt 1628, 3) := by decide +kernel
theorem dW_law_33 : decode code 33 = .ok (.aload_n 0, 1) := by decide +kernel
theorem dW_law_34 : decode code 34 = .ok (.iload 4, 2) := by decide +kernel
theorem dW_law_36 : decode code 36 = .ok (.iaload, 1) := by decide +kernel
theorem dW_law_37 : decode code 37 = .ok (.bipush 63, 2) := by decide +kernel
theorem dW_law_39 : decode code 39 = .ok (.iand, 1) := by decide +kernel
theorem dW_law_40 : decode code 40 = .ok (.tableswitch 1612 0 45 #[200, 273, 298, 311, 324, 361, 398, 411, 436, 449, 462, 475, 500, 537, 562, 599, 624, 637, 650, 663, 676, 701, 726, 763, 776, 813, 862, 911, 1020, 1045, 1070, 1136, 1202, 1256, 1293, 1330, 1355, 1380, 1417, 1442, 1467, 1480, 1493, 1518, 1574, 1599], 200) := by decide +kernel
theorem dW_law_1652 : decode code 1652 = .ok (.iinc 4 6, 3) := by decide +kernel
theorem dW_law_1655 : decode code 1655 = .ok (.goto (-1632), 3) := by decide +kernel
theorem dW_law_1658 : decode code 1658 = .ok (.iconst 1, 1) := by decide +kernel
theorem dW_law_1659 : decode code 1659 = .ok (.ireturn, 1) := by decide +kernel
-- the first world
def s0S : Shp := (fun _ _ => 0, fun _ => 0, fun _ => 0, 1)
def v0V : Nat → Nat → Int := fun _ _ => 0
def s1S : Shp := liS (newS s0S 7 0) 1
def v1V : Nat → Nat → Int := liV (newV v0V 1) (newS s0S 7 0) 1
def s2S : Shp := miS (newS s1S 9 0) 53
def v2V : Nat → Nat → Int := miV (newV v1V 53) (newS s1S 9 0) 53
def s3S : Shp := newS s2S 12 1
def v3V : Nat → Nat → Int := newV v2V 64
def y0D : Dy := (3, (25, 26, 0, 0), (34, 35, 0, 0), (40, 41, 42, 0, 0, 0), 51, 52)
def ow0 (b : Nat) : Nat := if 53 ≤ b then 1000 + b else if 3 ≤ b ∧ b ≤ 9 then 17 + b else if b = 25 then 11 else if b = 26 then 12 else if b = 34 then 13 else if b = 35 then 14 else if b = 40 then 15 else if b = 41 then 16 else if b = 42 then 17 else 100 + b
def S0P : PS := (fun _ => 0, 0, 0, 0, 0, T0, (fun _ => 0, 0, 0), [], [])
theorem i_h10 : hS s3S 10 := ⟨by unfold sO; decide +kernel, by decide +kernel, by unfold sA; decide +kernel, by unfold sA; decide +kernel, by unfold sA; decide +kernel, by unfold sA; decide +kernel, by unfold sA; decide +kernel⟩
theorem i_h19 : hS s3S 19 := ⟨by unfold sO; decide +kernel, by decide +kernel, by unfold sA; decide +kernel, by unfold sA; decide +kernel, by unfold sA; decide +kernel, by unfold sA; decide +kernel, by unfold sA; decide +kernel⟩
theorem i_h28 : hS s3S 28 := ⟨by unfold sO; decide +kernel, by decide +kernel, by unfold sA; decide +kernel, by unfold sA; decide +kernel, by unfold sA; decide +kernel, by unfold sA; decide +kernel, by unfold sA; decide +kernel⟩
theorem i_h44 : hS s3S 44 := ⟨by unfold sO; decide +kernel, by decide +kernel, by unfold sA; decide +kernel, by unfold sA; decide +kernel, by unfold sA; decide +kernel, by unfold sA; decide +kernel, by unfold sA; decide +kernel⟩
theorem i_s18 : sS0 s3S 18 25 26 0 0 := ⟨by unfold sO; decide +kernel, by decide +kernel, i_h19, by decide +kernel, by decide +kernel, by unfold sA; decide +kernel, by unfold sA; decide +kernel, by decide +kernel, by decide +kernel, by decide +kernel, by decide +kernel⟩
theorem i_s27 : sS0 s3S 27 34 35 0 0 := ⟨by unfold sO; decide +kernel, by decide +kernel, i_h28, by decide +kernel, by decide +kernel, by unfold sA; decide +kernel, by unfold sA; decide +kernel, by decide +kernel, by decide +kernel, by decide +kernel, by decide +kernel⟩
theorem i_cs : CS s3S y0D := ⟨by unfold sO; decide +kernel, by decide +kernel, by unfold sA; decide +kernel, i_h10, by unfold sA; decide +kernel, by unfold sA; decide +kernel, ⟨by unfold sO; decide +kernel, by decide +kernel, by unfold sA; decide +kernel, by unfold sA; decide +kernel, by unfold sA; decide +kernel, by unfold sA; decide +kernel, by unfold sA; decide +kernel, by unfold sA; decide +kernel⟩, i_s18, i_s27, ⟨by unfold sO; decide +kernel, by decide +kernel, by unfold sA; decide +kernel, by unfold sA; decide +kernel, by unfold sA; decide +kernel, by unfold sA; decide +kernel, by unfold sA; decide +kernel, by unfold sA; decide +kernel⟩, ⟨by unfold sO; decide +kernel, by decide +kernel, i_h44⟩, ⟨by unfold sO; decide +kernel, by decide +kernel, by decide +kernel, by unfold sA; decide +kernel, by unfold sA; decide +kernel, by decide +kernel, by decide +kernel, by decide +kernel⟩⟩
theorem i_cl : CL ow0 y0D := by
  refine ⟨fun b hb => ?_, by decide +kernel, by decide +kernel⟩
  unfold fx at hb
  unfold ow0
  rw [if_neg (by omega), if_neg (by omega), if_neg (by omega), if_neg (by omega), if_neg (by omega), if_neg (by omega), if_neg (by omega), if_neg (by omega), if_neg (by omega)]
theorem i_cb : CB y0D := by
  unfold CB
  decide +kernel
theorem i_ok : okP S0P := by
  have hnil : ∀ s : Sc, s ∈ ([] : List Sc) → okS T0 s := fun s hs => absurd hs List.not_mem_nil
  obtain ⟨a1, a2, a3, a4, a5, a6, a7, a8⟩ := r0_ok.1
  refine ⟨Nat.zero_le _, fun i => (by show (-128 : Int) ≤ 0 ∧ (0 : Int) < 128; decide), ⟨a1, a2, a3, a4, a5, a6, fun _ => ⟨rfl, rfl, rfl⟩, a8⟩, ⟨fun d => (by show 0 < 4; decide), fun d _ => rfl, (by show 0 < 2 ^ 0; decide), fun h => absurd h (by show ¬ 0 < 0; omega), fun _ => rfl⟩, Nat.zero_le _, hnil, Nat.zero_le _, hnil, fun _ => ⟨rfl, rfl⟩⟩
theorem i_tv : TV v3V 3 T0 := by
  unfold TV
  decide +kernel
theorem i_hw : HW v3V 10 (psC S0P) ∧ HA v3V 10 (psC S0P) (psA S0P) := by
  unfold HW HA
  decide +kernel
theorem i_cf : CF v3V S0P := ⟨by decide +kernel, by decide +kernel, by decide +kernel, fun h => absurd h (by show ¬ (0 : Int) = 4; decide), by decide +kernel, by decide +kernel⟩
theorem i_cw : CW v3V s3S ow0 y0D S0P false := by
  refine ⟨i_cs, i_cl, i_cb, i_ok, i_cf, ⟨fun i hi => absurd hi (by show ¬ i < 0; omega), i_tv, ⟨⟨by decide, by decide, by decide, by decide, fun d => (by show 0 < 4; decide), by decide⟩, i_hw.1, i_hw.2⟩, fun i s hi => (by have hi : ([] : List Sc)[i]? = some s := hi; simp at hi), fun i s hi => (by have hi : ([] : List Sc)[i]? = some s := hi; simp at hi), by decide +kernel, fun q => by cases q⟩, Or.inl (by decide +kernel)⟩
theorem i_mo : moS s3S 0 := ⟨by unfold sO; decide +kernel, by decide +kernel, by decide +kernel, by unfold sA; decide +kernel, by unfold sA; decide +kernel, by unfold sA; decide +kernel, by unfold sA; decide +kernel, by unfold sA; decide +kernel, by unfold sA; decide +kernel, by unfold sA; decide +kernel, by unfold sA; decide +kernel, by unfold sA; decide +kernel, by unfold sA; decide +kernel⟩
theorem i_mw : MW v3V s3S 0 S0P := ⟨i_ok, i_mo, fun _ => rfl, fun h => absurd h (by show ¬ 0 < 0; omega), fun i hi => absurd hi (by show ¬ i < 0; omega), ⟨by decide +kernel, by decide +kernel, by decide +kernel, by decide +kernel, by decide +kernel, by decide +kernel⟩, Or.inl (by decide +kernel)⟩
theorem i_lw : LW v3V s3S ow0 y0D 0 S0P false := by
  refine ⟨i_cw, i_mw, ⟨fun b h1 h2 => ?_, fun h => absurd rfl h⟩, by unfold sA; decide +kernel⟩
  unfold ow0
  rw [if_pos h1]
  omega
section Loop
variable {X : CT} {b L : Nat} {xs : Nat → Int32} {nm : String}
theorem law_loop (hl : (gl (cG X)).stackTraces = false) (hX : CX X nm b L xs) (hE : LX X b) : ∀ (j c : Nat), c + j = 64 → ∀ (V : Nat → Nat → Int) (σ : Shp) (ow : Nat → Nat) (y : Dy) (l : Nat) (S : PS) (kn : Bool) (k n : Nat) (z : Int), LW V σ ow y l S kn → k ≤ 70 + 30 * c → n + crd kn ≤ 355000 + 96000 * c → z = 6 * (c : Int) → AW X 23 [some (vR (BG + 39)), some (vR 1), some (vR 53), some (vR 64), some (vI z), none, none] [] (V, σ) k n := by
  obtain ⟨F, hm, HS, hA, hL⟩ := id hX
  have fin : ∀ (V : Nat → Nat → Int) (σ : Shp) (k n : Nat) (z : Int), k ≤ 600128 → n ≤ 7301097 → AW X 1658 [some (vR (BG + 39)), some (vR 1), some (vR 53), some (vR 64), some (vI z), none, none] [] (V, σ) k n := fun V σ k n z hk hn => aw_iconst (q := 1659) F dW_law_1658 rfl (by decide) (aw_lend F rfl hE dW_law_1659 hk hn)
  intro j
  induction j with
  | zero =>
    intro c hc V σ ow y l S kn k n z h hk hn hz
    refine aw_iload_4 (q := 25) F dW_law_23 rfl ?_
    refine aw_aload_0 (q := 26) F dW_law_25 rfl ?_
    refine aw_slen (q := 27) F HS hL dW_law_26 rfl ?_
    refine aw_bipush (q := 29) F dW_law_27 rfl (by decide) ?_
    refine aw_isub (q := 30) F dW_law_29 rfl (by constructor <;> omega) ?_
    refine aw_icmp_gt (q := 33) (t := 1658) F dW_law_30 rfl (by decide) (fun c30 => ?_) (fun c30 => by omega)
    exact fin _ _ _ _ _ (by omega) (by omega)
  | succ j ih =>
    intro c hc V σ ow y l S kn k n z h hk hn hz
    have nxt : NX X z c := by
      intro V1 σ1 ow1 y1 l1 S1 kn1 k1 n1 h1 hk1 hn1
      refine aw_iinc_4 (q := 1655) F dW_law_1652 rfl trivial (by constructor <;> omega) ?_
      refine aw_goto (t := 23) F dW_law_1655 (by decide) ?_
      exact ih (c + 1) (by omega) _ _ _ _ _ _ _ _ _ _ h1 hk1 hn1 (by omega)
    refine aw_iload_4 (q := 25) F dW_law_23 rfl ?_
    refine aw_aload_0 (q := 26) F dW_law_25 rfl ?_
    refine aw_slen (q := 27) F HS hL dW_law_26 rfl ?_
    refine aw_bipush (q := 29) F dW_law_27 rfl (by decide) ?_
    refine aw_isub (q := 30) F dW_law_29 rfl (by constructor <;> omega) ?_
    refine aw_icmp_gt (q := 33) (t := 1658) F dW_law_30 rfl (by decide) (fun c30 => ?_) (fun c30 => ?_)
    · exact fin _ _ _ _ _ (by omega) (by omega)
    · have hP : PX V σ ow y l S kn k n c z L := ⟨h, hk, hn, by omega, by omega, by omega⟩
      refine aw_aload_0 (q := 34) F dW_law_33 rfl ?_
      refine aw_iload_4 (q := 36) F dW_law_34 rfl ?_
      refine aw_sld (q := 37) F HS dW_law_36 rfl (by omega) (by omega) ?_
      refine aw_bipush (q := 39) F dW_law_37 rfl (by decide) ?_
      refine aw_iand (q := 40) F dW_law_39 rfl ?_
      refine aw_table (t := 1652) F (fun i => [240, 313, 338, 351, 364, 401, 438, 451, 476, 489, 502, 515, 540, 577, 602, 639, 664, 677, 690, 703, 716, 741, 766, 803, 816, 853, 902, 951, 1060, 1085, 1110, 1176, 1242, 1296, 1333, 1370, 1395, 1420, 1457, 1482, 1507, 1520, 1533, 1558, 1614, 1639].getD i 0) dW_law_40 (by decide) (by decide) (by decide) (fun i hi c40 => ?_) (fun c40 => ?_)
      · match i, hi, c40 with
        | 0, _, c40 =>
          show AW X 240 _ _ _ _ _
          exact ca_feed hX hP nxt
        | 1, _, c40 =>
          show AW X 313 _ _ _ _ _
          exact ca_lane hX hP nxt
        | 2, _, c40 =>
          show AW X 338 _ _ _ _ _
          exact ca_fault hX hP nxt
        | 3, _, c40 =>
          show AW X 351 _ _ _ _ _
          exact ca_where hX hP nxt
        | 4, _, c40 =>
          show AW X 364 _ _ _ _ _
          exact ca_door hX hP nxt
        | 5, _, c40 =>
          show AW X 401 _ _ _ _ _
          exact ca_person hX hP nxt
        | 6, _, c40 =>
          show AW X 438 _ _ _ _ _
          exact ca_last hX hP nxt
        | 7, _, c40 =>
          show AW X 451 _ _ _ _ _
          exact ca_can hX hP nxt
        | 8, _, c40 =>
          show AW X 476 _ _ _ _ _
          exact ca_choices hX hP nxt
        | 9, _, c40 =>
          show AW X 489 _ _ _ _ _
          exact ca_seen hX hP nxt
        | 10, _, c40 =>
          show AW X 502 _ _ _ _ _
          exact ca_shutIn hX hP nxt
        | 11, _, c40 =>
          show AW X 515 _ _ _ _ _
          exact ca_errand hX hP nxt
        | 12, _, c40 =>
          show AW X 540 _ _ _ _ _
          exact ca_errandAt hX hP nxt
        | 13, _, c40 =>
          show AW X 577 _ _ _ _ _
          exact ca_shuttings hX hP nxt
        | 14, _, c40 =>
          show AW X 602 _ _ _ _ _
          exact ca_wayTo hX hP nxt
        | 15, _, c40 =>
          show AW X 639 _ _ _ _ _
          exact ca_comes hX hP nxt
        | 16, _, c40 =>
          show AW X 664 _ _ _ _ _
          exact ca_reach hX hP nxt
        | 17, _, c40 =>
          show AW X 677 _ _ _ _ _
          exact ca_placings hX hP nxt
        | 18, _, c40 =>
          show AW X 690 _ _ _ _ _
          exact ca_deepest hX hP nxt
        | 19, _, c40 =>
          show AW X 703 _ _ _ _ _
          exact ca_stuckOnes hX hP nxt
        | 20, _, c40 =>
          show AW X 716 _ _ _ _ _
          exact ca_rows hX hP nxt
        | 21, _, c40 =>
          show AW X 741 _ _ _ _ _
          exact ca_lastBy hX hP nxt
        | 22, _, c40 =>
          show AW X 766 _ _ _ _ _
          exact ca_firstBy hX hP nxt
        | 23, _, c40 =>
          show AW X 803 _ _ _ _ _
          exact ca_fewestSeen hX hP nxt
        | 24, _, c40 =>
          show AW X 816 _ _ _ _ _
          exact ca_nails hX hP nxt
        | 25, _, c40 =>
          show AW X 853 _ _ _ _ _
          exact ca_gets hX hP nxt
        | 26, _, c40 =>
          show AW X 902 _ _ _ _ _
          exact ca_opensWith hX hP nxt
        | 27, _, c40 =>
          show AW X 951 _ _ _ _ _
          exact ca_slams hX hP nxt
        | 28, _, c40 =>
          show AW X 1060 _ _ _ _ _
          exact ca_rests hX hP nxt
        | 29, _, c40 =>
          show AW X 1085 _ _ _ _ _
          exact ca_rest hX hP nxt
        | 30, _, c40 =>
          show AW X 1110 _ _ _ _ _
          exact ca_odds hX hP nxt
        | 31, _, c40 =>
          show AW X 1176 _ _ _ _ _
          exact ca_shutOdds hX hP nxt
        | 32, _, c40 =>
          show AW X 1242 _ _ _ _ _
          exact ca_mean hX hP nxt
        | 33, _, c40 =>
          show AW X 1296 _ _ _ _ _
          exact ca_drafts hX hP nxt
        | 34, _, c40 =>
          show AW X 1333 _ _ _ _ _
          exact ca_stillAt hX hP nxt
        | 35, _, c40 =>
          show AW X 1370 _ _ _ _ _
          exact ca_open hX hP nxt
        | 36, _, c40 =>
          show AW X 1395 _ _ _ _ _
          exact ca_shut hX hP nxt
        | 37, _, c40 =>
          show AW X 1420 _ _ _ _ _
          exact ca_go hX hP nxt
        | 38, _, c40 =>
          show AW X 1457 _ _ _ _ _
          exact ca_nail hX hP nxt
        | 39, _, c40 =>
          show AW X 1482 _ _ _ _ _
          exact ca_spring hX hP nxt
        | 40, _, c40 =>
          show AW X 1507 _ _ _ _ _
          exact ca_undo hX hP nxt
        | 41, _, c40 =>
          show AW X 1520 _ _ _ _ _
          exact ca_image hX hP nxt
        | 42, _, c40 =>
          show AW X 1533 _ _ _ _ _
          exact ca_back hX hP nxt
        | 43, _, c40 =>
          show AW X 1558 _ _ _ _ _
          exact ca_led hl hX hP nxt
        | 44, _, c40 =>
          show AW X 1614 _ _ _ _ _
          exact ca_size hX hP nxt
        | 45, _, c40 =>
          show AW X 1639 _ _ _ _ _
          exact ca_trouble hX hP nxt
        | i + 46, hi, _ => exact absurd hi (by show ¬ i + 46 < 46; omega)
      · exact nxt _ _ _ _ _ _ _ _ _ h (by omega) (by omega)
/-- the law from its entry -/
theorem law_start (hl : (gl (cG X)).stackTraces = false) (hX : CX X nm b L xs) (hE : LX X b) : AW X 0 [some (vR (BG + 39)), none, none, none, none, none, none] [] (v0V, s0S) 0 0 := by
  obtain ⟨F, hm, HS, hA, hL⟩ := id hX
  refine av_new (q := 3) (ci := 7) F hm rfl cW_8 dW_law_0 rfl (by first | (show 1 < 1000000000; decide) | (show 53 < 1000000000; decide) | (show 64 < 1000000000; decide)) (by first | omega | decide) (by first | decide | omega) ?_
  refine aw_dup (q := 4) F dW_law_3 rfl trivial ?_
  refine av_callI0 (q := 7) F hm mL_init_i mL_init_n lW_15 dW_law_4 rfl (by show 0 < 1; decide) (by decide) (by decide) (by decide) (Nat.le_of_ble_eq_true rfl) (wL_init (sO_new s0S 7 0 (by decide)) (by show 2 + 60 < 1000000000; decide) ?_)
  refine aw_astore_1 (q := 8) F dW_law_7 rfl trivial ?_
  refine av_new (q := 11) (ci := 9) F hm rfl cW_16 dW_law_8 rfl (by first | (show 1 < 1000000000; decide) | (show 53 < 1000000000; decide) | (show 64 < 1000000000; decide)) (by first | omega | decide) (by first | decide | omega) ?_
  refine aw_dup (q := 12) F dW_law_11 rfl trivial ?_
  refine av_callI0 (q := 15) F hm mM_init_i mM_init_n lW_18 dW_law_12 rfl (by show 0 < 53; decide) (by decide) (by decide) (by decide) (Nat.le_of_ble_eq_true rfl) (wM_init (sO_new s1S 9 0 (by show 0 < 53; decide)) (by show 54 + 10 < 1000000000; decide) ?_)
  refine aw_astore_2 (q := 16) F dW_law_15 rfl trivial ?_
  refine aw_iconst (q := 17) F dW_law_16 rfl (by decide) ?_
  refine av_newarr (q := 19) (t := 12) F hm dW_law_17 rfl (Or.inr (Or.inr ⟨rfl, rfl⟩)) (by first | (show 1 < 1000000000; decide) | (show 53 < 1000000000; decide) | (show 64 < 1000000000; decide)) (by omega) (by omega) (by first | omega | decide) (by first | omega | decide) ?_
  refine aw_astore_3 (q := 20) F dW_law_19 rfl trivial ?_
  refine aw_iconst (q := 21) F dW_law_20 rfl (by decide) ?_
  refine aw_istore_4 (q := 23) F dW_law_21 rfl trivial ?_
  exact law_loop hl hX hE 64 0 rfl v3V s3S ow0 y0D 0 S0P false _ _ _ i_lw (by decide) (by decide) rfl
end Loop
