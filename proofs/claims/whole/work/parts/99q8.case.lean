theorem dW_law_1482 : decode code 1482 = .ok (.aload_n 1, 1) := by decide +kernel
theorem dW_law_1483 : decode code 1483 = .ok (.aload_n 0, 1) := by decide +kernel
theorem dW_law_1484 : decode code 1484 = .ok (.iload 4, 2) := by decide +kernel
theorem dW_law_1486 : decode code 1486 = .ok (.iconst 1, 1) := by decide +kernel
theorem dW_law_1487 : decode code 1487 = .ok (.iadd, 1) := by decide +kernel
theorem dW_law_1488 : decode code 1488 = .ok (.iaload, 1) := by decide +kernel
theorem dW_law_1489 : decode code 1489 = .ok (.invokevirtual 183, 3) := by decide +kernel
theorem dW_law_1492 : decode code 1492 = .ok (.aload_n 2, 1) := by decide +kernel
theorem dW_law_1493 : decode code 1493 = .ok (.aload_n 0, 1) := by decide +kernel
theorem dW_law_1494 : decode code 1494 = .ok (.iload 4, 2) := by decide +kernel
theorem dW_law_1496 : decode code 1496 = .ok (.iconst 1, 1) := by decide +kernel
theorem dW_law_1497 : decode code 1497 = .ok (.iadd, 1) := by decide +kernel
theorem dW_law_1498 : decode code 1498 = .ok (.iaload, 1) := by decide +kernel
theorem dW_law_1499 : decode code 1499 = .ok (.invokevirtual 186, 3) := by decide +kernel
theorem dW_law_1502 : decode code 1502 = .ok (.if_icmp .eq 150, 3) := by decide +kernel
theorem dW_law_1505 : decode code 1505 = .ok (.iconst 0, 1) := by decide +kernel
theorem dW_law_1506 : decode code 1506 = .ok (.ireturn, 1) := by decide +kernel
theorem dW_law_1507 : decode code 1507 = .ok (.aload_n 1, 1) := by decide +kernel
theorem dW_law_1508 : decode code 1508 = .ok (.invokevirtual 187, 3) := by decide +kernel
theorem dW_law_1511 : decode code 1511 = .ok (.aload_n 2, 1) := by decide +kernel
theorem dW_law_1512 : decode code 1512 = .ok (.invokevirtual 191, 3) := by decide +kernel
theorem dW_law_1515 : decode code 1515 = .ok (.if_icmp .eq 137, 3) := by decide +kernel
theorem dW_law_1518 : decode code 1518 = .ok (.iconst 0, 1) := by decide +kernel
theorem dW_law_1519 : decode code 1519 = .ok (.ireturn, 1) := by decide +kernel
theorem dW_law_1520 : decode code 1520 = .ok (.aload_n 1, 1) := by decide +kernel
theorem dW_law_1521 : decode code 1521 = .ok (.invokevirtual 192, 3) := by decide +kernel
theorem dW_law_1524 : decode code 1524 = .ok (.aload_n 2, 1) := by decide +kernel
theorem dW_law_1525 : decode code 1525 = .ok (.invokevirtual 195, 3) := by decide +kernel
theorem dW_law_1528 : decode code 1528 = .ok (.if_icmp .eq 124, 3) := by decide +kernel
theorem dW_law_1531 : decode code 1531 = .ok (.iconst 0, 1) := by decide +kernel
theorem dW_law_1532 : decode code 1532 = .ok (.ireturn, 1) := by decide +kernel
theorem dW_law_1533 : decode code 1533 = .ok (.aload_n 1, 1) := by decide +kernel
theorem dW_law_1534 : decode code 1534 = .ok (.aload_n 0, 1) := by decide +kernel
theorem dW_law_1535 : decode code 1535 = .ok (.iload 4, 2) := by decide +kernel
theorem dW_law_1537 : decode code 1537 = .ok (.iconst 1, 1) := by decide +kernel
theorem dW_law_1538 : decode code 1538 = .ok (.iadd, 1) := by decide +kernel
theorem dW_law_1539 : decode code 1539 = .ok (.iaload, 1) := by decide +kernel
theorem dW_law_1540 : decode code 1540 = .ok (.invokevirtual 196, 3) := by decide +kernel
theorem dW_law_1543 : decode code 1543 = .ok (.aload_n 2, 1) := by decide +kernel
theorem dW_law_1544 : decode code 1544 = .ok (.aload_n 0, 1) := by decide +kernel
theorem dW_law_1545 : decode code 1545 = .ok (.iload 4, 2) := by decide +kernel
theorem dW_law_1547 : decode code 1547 = .ok (.iconst 1, 1) := by decide +kernel
theorem dW_law_1548 : decode code 1548 = .ok (.iadd, 1) := by decide +kernel
theorem dW_law_1549 : decode code 1549 = .ok (.iaload, 1) := by decide +kernel
theorem dW_law_1550 : decode code 1550 = .ok (.invokevirtual 199, 3) := by decide +kernel
theorem dW_law_1553 : decode code 1553 = .ok (.if_icmp .eq 99, 3) := by decide +kernel
theorem dW_law_1556 : decode code 1556 = .ok (.iconst 0, 1) := by decide +kernel
theorem dW_law_1557 : decode code 1557 = .ok (.ireturn, 1) := by decide +kernel
theorem dW_law_1614 : decode code 1614 = .ok (.aload_n 1, 1) := by decide +kernel
theorem dW_law_1615 : decode code 1615 = .ok (.aload_n 0, 1) := by decide +kernel
theorem dW_law_1616 : decode code 1616 = .ok (.iload 4, 2) := by decide +kernel
theorem dW_law_1618 : decode code 1618 = .ok (.iconst 1, 1) := by decide +kernel
theorem dW_law_1619 : decode code 1619 = .ok (.iadd, 1) := by decide +kernel
theorem dW_law_1620 : decode code 1620 = .ok (.iaload, 1) := by decide +kernel
theorem dW_law_1621 : decode code 1621 = .ok (.invokevirtual 209, 3) := by decide +kernel
theorem dW_law_1624 : decode code 1624 = .ok (.aload_n 2, 1) := by decide +kernel
theorem dW_law_1625 : decode code 1625 = .ok (.aload_n 0, 1) := by decide +kernel
theorem dW_law_1626 : decode code 1626 = .ok (.iload 4, 2) := by decide +kernel
theorem dW_law_1628 : decode code 1628 = .ok (.iconst 1, 1) := by decide +kernel
theorem dW_law_1629 : decode code 1629 = .ok (.iadd, 1) := by decide +kernel
theorem dW_law_1630 : decode code 1630 = .ok (.iaload, 1) := by decide +kernel
theorem dW_law_1631 : decode code 1631 = .ok (.invokevirtual 212, 3) := by decide +kernel
theorem dW_law_1634 : decode code 1634 = .ok (.if_icmp .eq 18, 3) := by decide +kernel
theorem dW_law_1637 : decode code 1637 = .ok (.iconst 0, 1) := by decide +kernel
theorem dW_law_1638 : decode code 1638 = .ok (.ireturn, 1) := by decide +kernel
theorem dW_law_1639 : decode code 1639 = .ok (.aload_n 1, 1) := by decide +kernel
theorem dW_law_1640 : decode code 1640 = .ok (.invokevirtual 213, 3) := by decide +kernel
theorem dW_law_1643 : decode code 1643 = .ok (.aload_n 2, 1) := by decide +kernel
theorem dW_law_1644 : decode code 1644 = .ok (.invokevirtual 216, 3) := by decide +kernel
theorem dW_law_1647 : decode code 1647 = .ok (.if_icmp .eq 5, 3) := by decide +kernel
theorem dW_law_1650 : decode code 1650 = .ok (.iconst 0, 1) := by decide +kernel
theorem dW_law_1651 : decode code 1651 = .ok (.ireturn, 1) := by decide +kernel
section Casey
variable {X : CT} {b L : Nat} {xs : Nat → Int32} {V : Nat → Nat → Int} {σ : Shp} {ow : Nat → Nat} {y : Dy} {l : Nat} {S : PS} {kn : Bool} {k n c : Nat} {i : Int}
theorem ca_spring {nm : String} (hX : CX X nm b L xs) (hP : PX V σ ow y l S kn k n c i L) (nx : NX X i c) : AW X 1482 [some (vR (BG + 39)), some (vR 1), some (vR 53), some (vR 64), some (vI i), none, none] [] (V, σ) k n := by
  obtain ⟨F, hm, HS, hA, hL⟩ := hX
  obtain ⟨h, hk, hn, hc, h0, hi⟩ := hP
  have hBG : BG = 1000000000 := rfl
  have hcr : crd kn ≤ 95000 := crd_le kn
  have h1 := h.o1
  refine aw_sz hA (fun hz => ?_)
  have hz : sX σ ≤ k + 1 := hz
  refine aw_aload_1 (q := 1483) F dW_law_1482 rfl ?_
  refine aw_aload_0 (q := 1484) F dW_law_1483 rfl ?_
  refine aw_iload_4 (q := 1486) F dW_law_1484 rfl ?_
  refine aw_iconst (q := 1487) F dW_law_1486 rfl (by decide) ?_
  refine aw_iadd (q := 1488) F dW_law_1487 rfl (by constructor <;> omega) ?_
  refine aw_sld (q := 1489) F HS dW_law_1488 rfl (by omega) (by omega) ?_
  refine av_callV1 (q := 1492) (ci := 7) F hm mL_spring_i mL_spring_n lW_183 dW_law_1489 rfl rfl rfl (by first | exact h1 | exact hM.mo.o) (by decide) (by omega) (by omega) (Nat.le_of_ble_eq_true rfl) (wL_spring h.cw (fun v1489 sg1489 w1489 y1489 d1489 f1489 => ?_))
  have hM := h.m1 f1489
  refine aw_aload_2 (q := 1493) F dW_law_1492 rfl ?_
  refine aw_aload_0 (q := 1494) F dW_law_1493 rfl ?_
  refine aw_iload_4 (q := 1496) F dW_law_1494 rfl ?_
  refine aw_iconst (q := 1497) F dW_law_1496 rfl (by decide) ?_
  refine aw_iadd (q := 1498) F dW_law_1497 rfl (by constructor <;> omega) ?_
  refine aw_sld (q := 1499) F HS dW_law_1498 rfl (by omega) (by omega) ?_
  refine av_callV1 (q := 1502) (ci := 9) F hm mM_spring_i mM_spring_n lW_186 dW_law_1499 rfl rfl rfl (by first | exact h1 | exact hM.mo.o) (by decide) (by omega) (by omega) (Nat.le_of_ble_eq_true rfl) (wM_spring hM d1489.ok (fun v1499 m1499 r1499 => ?_))
  refine aw_icmp_eq (q := 1505) (t := 1652) F dW_law_1502 rfl (by decide) (fun c1502 => ?_) (fun c1502 => by exact absurd rfl c1502)
  exact nx _ _ _ _ _ _ _ _ _ (h.st d1489 f1489 m1499 r1499) (by omega) (by omega)
theorem ca_undo {nm : String} (hX : CX X nm b L xs) (hP : PX V σ ow y l S kn k n c i L) (nx : NX X i c) : AW X 1507 [some (vR (BG + 39)), some (vR 1), some (vR 53), some (vR 64), some (vI i), none, none] [] (V, σ) k n := by
  obtain ⟨F, hm, HS, hA, hL⟩ := hX
  obtain ⟨h, hk, hn, hc, h0, hi⟩ := hP
  have hBG : BG = 1000000000 := rfl
  have hcr : crd kn ≤ 95000 := crd_le kn
  have h1 := h.o1
  refine aw_sz hA (fun hz => ?_)
  have hz : sX σ ≤ k + 1 := hz
  refine aw_aload_1 (q := 1508) F dW_law_1507 rfl ?_
  refine av_callV0 (q := 1511) (ci := 7) F hm mL_undo_i mL_undo_n lW_187 dW_law_1508 rfl rfl rfl (by first | exact h1 | exact hM.mo.o) (by decide) (by omega) (by omega) (Nat.le_of_ble_eq_true rfl) (wL_undo h.cw (fun v1508 sg1508 w1508 y1508 d1508 f1508 => ?_))
  have hM := h.m1 f1508
  refine aw_aload_2 (q := 1512) F dW_law_1511 rfl ?_
  refine av_callV0 (q := 1515) (ci := 9) F hm mM_undo_i mM_undo_n lW_191 dW_law_1512 rfl rfl rfl (by first | exact h1 | exact hM.mo.o) (by decide) (by omega) (by omega) (Nat.le_of_ble_eq_true rfl) (wM_undo hM d1508.ok (fun v1512 m1512 r1512 => ?_))
  refine aw_icmp_eq (q := 1518) (t := 1652) F dW_law_1515 rfl (by decide) (fun c1515 => ?_) (fun c1515 => by exact absurd rfl c1515)
  exact nx _ _ _ _ _ _ _ _ _ (h.st d1508 f1508 m1512 r1512) (by omega) (by omega)
theorem ca_image {nm : String} (hX : CX X nm b L xs) (hP : PX V σ ow y l S kn k n c i L) (nx : NX X i c) : AW X 1520 [some (vR (BG + 39)), some (vR 1), some (vR 53), some (vR 64), some (vI i), none, none] [] (V, σ) k n := by
  obtain ⟨F, hm, HS, hA, hL⟩ := hX
  obtain ⟨h, hk, hn, hc, h0, hi⟩ := hP
  have hBG : BG = 1000000000 := rfl
  have hcr : crd kn ≤ 95000 := crd_le kn
  have h1 := h.o1
  refine aw_sz hA (fun hz => ?_)
  have hz : sX σ ≤ k + 1 := hz
  refine aw_aload_1 (q := 1521) F dW_law_1520 rfl ?_
  refine av_callV0 (q := 1524) (ci := 7) F hm mL_image_i mL_image_n lW_192 dW_law_1521 rfl rfl rfl (by first | exact h1 | exact hM.mo.o) (by decide) (by omega) (by omega) (Nat.le_of_ble_eq_true rfl) (wL_image h.cw (fun v1521 sg1521 w1521 y1521 d1521 f1521 => ?_))
  have hM := h.m1 f1521
  refine aw_aload_2 (q := 1525) F dW_law_1524 rfl ?_
  refine av_callV0 (q := 1528) (ci := 9) F hm mM_image_i mM_image_n lW_195 dW_law_1525 rfl rfl rfl (by first | exact h1 | exact hM.mo.o) (by decide) (by omega) (by omega) (Nat.le_of_ble_eq_true rfl) (wM_image hM d1521.ok (fun v1525 m1525 r1525 => ?_))
  refine aw_icmp_eq (q := 1531) (t := 1652) F dW_law_1528 rfl (by decide) (fun c1528 => ?_) (fun c1528 => by exact absurd rfl c1528)
  exact nx _ _ _ _ _ _ _ _ _ (h.st d1521 f1521 m1525 r1525) (by omega) (by omega)
theorem ca_back {nm : String} (hX : CX X nm b L xs) (hP : PX V σ ow y l S kn k n c i L) (nx : NX X i c) : AW X 1533 [some (vR (BG + 39)), some (vR 1), some (vR 53), some (vR 64), some (vI i), none, none] [] (V, σ) k n := by
  obtain ⟨F, hm, HS, hA, hL⟩ := hX
  obtain ⟨h, hk, hn, hc, h0, hi⟩ := hP
  have hBG : BG = 1000000000 := rfl
  have hcr : crd kn ≤ 95000 := crd_le kn
  have h1 := h.o1
  refine aw_sz hA (fun hz => ?_)
  have hz : sX σ ≤ k + 1 := hz
  refine aw_aload_1 (q := 1534) F dW_law_1533 rfl ?_
  refine aw_aload_0 (q := 1535) F dW_law_1534 rfl ?_
  refine aw_iload_4 (q := 1537) F dW_law_1535 rfl ?_
  refine aw_iconst (q := 1538) F dW_law_1537 rfl (by decide) ?_
  refine aw_iadd (q := 1539) F dW_law_1538 rfl (by constructor <;> omega) ?_
  refine aw_sld (q := 1540) F HS dW_law_1539 rfl (by omega) (by omega) ?_
  refine av_callV1 (q := 1543) (ci := 7) F hm mL_back_i mL_back_n lW_196 dW_law_1540 rfl rfl rfl (by first | exact h1 | exact hM.mo.o) (by decide) (by omega) (by omega) (Nat.le_of_ble_eq_true rfl) (wL_back h.cw (fun v1540 sg1540 w1540 y1540 d1540 f1540 => ?_))
  have hM := h.m1 f1540
  refine aw_aload_2 (q := 1544) F dW_law_1543 rfl ?_
  refine aw_aload_0 (q := 1545) F dW_law_1544 rfl ?_
  refine aw_iload_4 (q := 1547) F dW_law_1545 rfl ?_
  refine aw_iconst (q := 1548) F dW_law_1547 rfl (by decide) ?_
  refine aw_iadd (q := 1549) F dW_law_1548 rfl (by constructor <;> omega) ?_
  refine aw_sld (q := 1550) F HS dW_law_1549 rfl (by omega) (by omega) ?_
  refine av_callV1 (q := 1553) (ci := 9) F hm mM_back_i mM_back_n lW_199 dW_law_1550 rfl rfl rfl (by first | exact h1 | exact hM.mo.o) (by decide) (by omega) (by omega) (Nat.le_of_ble_eq_true rfl) (wM_back hM d1540.ok (fun v1550 m1550 r1550 => ?_))
  refine aw_icmp_eq (q := 1556) (t := 1652) F dW_law_1553 rfl (by decide) (fun c1553 => ?_) (fun c1553 => by exact absurd rfl c1553)
  exact nx _ _ _ _ _ _ _ _ _ (h.st d1540 f1540 m1550 r1550) (by omega) (by omega)
theorem ca_size {nm : String} (hX : CX X nm b L xs) (hP : PX V σ ow y l S kn k n c i L) (nx : NX X i c) : AW X 1614 [some (vR (BG + 39)), some (vR 1), some (vR 53), some (vR 64), some (vI i), none, none] [] (V, σ) k n := by
  obtain ⟨F, hm, HS, hA, hL⟩ := hX
  obtain ⟨h, hk, hn, hc, h0, hi⟩ := hP
  have hBG : BG = 1000000000 := rfl
  have hcr : crd kn ≤ 95000 := crd_le kn
  have h1 := h.o1
  refine aw_sz hA (fun hz => ?_)
  have hz : sX σ ≤ k + 1 := hz
  refine aw_aload_1 (q := 1615) F dW_law_1614 rfl ?_
  refine aw_aload_0 (q := 1616) F dW_law_1615 rfl ?_
  refine aw_iload_4 (q := 1618) F dW_law_1616 rfl ?_
  refine aw_iconst (q := 1619) F dW_law_1618 rfl (by decide) ?_
  refine aw_iadd (q := 1620) F dW_law_1619 rfl (by constructor <;> omega) ?_
  refine aw_sld (q := 1621) F HS dW_law_1620 rfl (by omega) (by omega) ?_
  refine av_callV1 (q := 1624) (ci := 7) F hm mL_size_i mL_size_n lW_209 dW_law_1621 rfl rfl rfl (by first | exact h1 | exact hM.mo.o) (by decide) (by omega) (by omega) (Nat.le_of_ble_eq_true rfl) (wL_size h.cw (fun v1621 sg1621 w1621 y1621 d1621 f1621 => ?_))
  have hM := h.m1 f1621
  refine aw_aload_2 (q := 1625) F dW_law_1624 rfl ?_
  refine aw_aload_0 (q := 1626) F dW_law_1625 rfl ?_
  refine aw_iload_4 (q := 1628) F dW_law_1626 rfl ?_
  refine aw_iconst (q := 1629) F dW_law_1628 rfl (by decide) ?_
  refine aw_iadd (q := 1630) F dW_law_1629 rfl (by constructor <;> omega) ?_
  refine aw_sld (q := 1631) F HS dW_law_1630 rfl (by omega) (by omega) ?_
  refine av_callV1 (q := 1634) (ci := 9) F hm mM_size_i mM_size_n lW_212 dW_law_1631 rfl rfl rfl (by first | exact h1 | exact hM.mo.o) (by decide) (by omega) (by omega) (Nat.le_of_ble_eq_true rfl) (wM_size hM (fun v1631 m1631 r1631 => ?_))
  refine aw_icmp_eq (q := 1637) (t := 1652) F dW_law_1634 rfl (by decide) (fun c1634 => ?_) (fun c1634 => by exact absurd rfl c1634)
  exact nx _ _ _ _ _ _ _ _ _ (h.st d1621 f1621 m1631 r1631) (by omega) (by omega)
theorem ca_trouble {nm : String} (hX : CX X nm b L xs) (hP : PX V σ ow y l S kn k n c i L) (nx : NX X i c) : AW X 1639 [some (vR (BG + 39)), some (vR 1), some (vR 53), some (vR 64), some (vI i), none, none] [] (V, σ) k n := by
  obtain ⟨F, hm, HS, hA, hL⟩ := hX
  obtain ⟨h, hk, hn, hc, h0, hi⟩ := hP
  have hBG : BG = 1000000000 := rfl
  have hcr : crd kn ≤ 95000 := crd_le kn
  have h1 := h.o1
  refine aw_sz hA (fun hz => ?_)
  have hz : sX σ ≤ k + 1 := hz
  refine aw_aload_1 (q := 1640) F dW_law_1639 rfl ?_
  refine av_callV0 (q := 1643) (ci := 7) F hm mL_trouble_i mL_trouble_n lW_213 dW_law_1640 rfl rfl rfl (by first | exact h1 | exact hM.mo.o) (by decide) (by omega) (by omega) (Nat.le_of_ble_eq_true rfl) (wL_trouble h.cw (fun v1640 sg1640 w1640 y1640 d1640 f1640 => ?_))
  have hM := h.m1 f1640
  refine aw_aload_2 (q := 1644) F dW_law_1643 rfl ?_
  refine av_callV0 (q := 1647) (ci := 9) F hm mM_trouble_i mM_trouble_n lW_216 dW_law_1644 rfl rfl rfl (by first | exact h1 | exact hM.mo.o) (by decide) (by omega) (by omega) (Nat.le_of_ble_eq_true rfl) (wM_trouble hM (fun v1644 m1644 r1644 => ?_))
  refine aw_icmp_eq (q := 1650) (t := 1652) F dW_law_1647 rfl (by decide) (fun c1647 => ?_) (fun c1647 => by exact absurd rfl c1647)
  exact nx _ _ _ _ _ _ _ _ _ (h.st d1640 f1640 m1644 r1644) (by omega) (by omega)
end Casey
