/-! THE LAW's calls, 3 of 3. -/
section LAW73
variable {p : Program} {e : Env} {s : State} {m : MethodId} {args : Array Value} {below : List Frame} {meth : Method} {c : Code} {D : wD} {Q : State → Prop}
variable {S : wS} {k n : Nat} {A : Nat → Prop} {q o la da b L : Nat} {B : Nat → Nat} {M : wM} {xs : Nat → Int32} {i : Int}
set_option maxHeartbeats 1000000 in
theorem b_passOn (l : Launch) (hfl : l.stackTraces = false) (C : Cx p l s m args meth c cL_law 9 RL D A) (hs : hN s) (hX : va_X b L xs s s.heap) (hb : b < s.heap.size ∧ ¬ A b) (hi : 0 ≤ i ∧ i + 5 ≤ (L : Int) ∧ L ≤ 2560) (I : LwI D S q o la da B M) (hR : k + 100 ≤ 603072 ∧ n + 10000 ≤ 7215209) (hd : M 29 0 + 99 ≤ 50688)
    (kk : ∀ (S' : wS) (M' : wM), LwI D S' q o la da B M' → M' 29 0 ≤ M 29 0 + 99 → J p l e room_1 s m args below meth c 9 D A Q 2278 (L0 b q o la da i) [] S' (k + 100) (n + 10000)) : J p l e room_1 s m args below meth c 9 D A Q 1460 (L0 b q o la da i) [] S k n := by
  refine j_aload_n C dL_law_1460 rfl ?_
  refine j_arg C hX hb (j := 1) ⟨by omega, by omega, hi.2.2⟩ rfl rfl dL_law_1461 dL_law_1462 dL_law_1464 dL_law_1465 dL_law_1466 ?_
  refine j_aload_n C dL_law_1467 rfl ?_
  refine j_wcall C hs (Or.inl ⟨rfl, rfl⟩) I (w_passOn l hfl I.1 I.2.2.1 (z := ax xs i 1) ax_rg) calH_passOn st_L_passOn ml_La_199 rfl rfl (Nat.le_of_ble_eq_true rfl) (Nat.le_of_ble_eq_true rfl) hR dL_law_1468 dL_law_1471 (fun S1 K1 v1 => ?_)
  refine j_aload_n C dL_law_1473 rfl ?_
  refine j_arg C hX hb (j := 1) ⟨by omega, by omega, hi.2.2⟩ rfl rfl dL_law_1474 dL_law_1475 dL_law_1477 dL_law_1478 dL_law_1479 ?_
  refine j_rcall C (kd := 10) (a := la) (rest := []) (Or.inl rfl) K1 (m_passOn l hfl (z := ax xs i 1) ax_rg I.1.inv) cal_X6_passOn vi_X6_passOn rfl ml_La_201 rfl rfl (Nat.le_of_ble_eq_true rfl) ⟨Nat.le_of_ble_eq_true rfl, Nat.le_of_ble_eq_true rfl⟩ hR dL_law_1480 (fun S2 K2 v2 => ?_)
  refine j_istore C dL_law_1483 (by decide) ?_
  refine j_tail l hfl C K2 qx_passOn qr_passOn (fun z => v2.trans (v1 z)) rfl rfl rfl rfl hR dL_law_1485 dL_law_1486 dL_law_1489 dL_law_1491 dL_law_1496 dL_law_1498 dL_law_1501 dL_law_1502 dL_law_1503 dL_law_1504 dL_law_1506 dL_law_1507 dL_law_1508 dL_law_1513 (by decide) (fun S3 K3 => ?_)
  exact J.lvs L0_67 (kk S3 _ K3 qd_passOn)
set_option maxHeartbeats 1000000 in
theorem b_gradeOf (l : Launch) (hfl : l.stackTraces = false) (C : Cx p l s m args meth c cL_law 9 RL D A) (hs : hN s) (hX : va_X b L xs s s.heap) (hb : b < s.heap.size ∧ ¬ A b) (hi : 0 ≤ i ∧ i + 5 ≤ (L : Int) ∧ L ≤ 2560) (I : LwI D S q o la da B M) (hR : k + 100 ≤ 603072 ∧ n + 10000 ≤ 7215209) (hd : M 29 0 + 99 ≤ 50688)
    (kk : ∀ (S' : wS) (M' : wM), LwI D S' q o la da B M' → M' 29 0 ≤ M 29 0 + 99 → J p l e room_1 s m args below meth c 9 D A Q 2278 (L0 b q o la da i) [] S' (k + 100) (n + 10000)) : J p l e room_1 s m args below meth c 9 D A Q 1516 (L0 b q o la da i) [] S k n := by
  refine j_aload_n C dL_law_1516 rfl ?_
  refine j_arg C hX hb (j := 1) ⟨by omega, by omega, hi.2.2⟩ rfl rfl dL_law_1517 dL_law_1518 dL_law_1520 dL_law_1521 dL_law_1522 ?_
  refine j_aload_n C dL_law_1523 rfl ?_
  refine j_wcall C hs (Or.inl ⟨rfl, rfl⟩) I (w_gradeOf l hfl I.1 I.2.2.1 (z := ax xs i 1) ax_rg) calH_gradeOf st_L_gradeOf ml_La_202 rfl rfl (Nat.le_of_ble_eq_true rfl) (Nat.le_of_ble_eq_true rfl) hR dL_law_1524 dL_law_1527 (fun S1 K1 v1 => ?_)
  refine j_aload_n C dL_law_1529 rfl ?_
  refine j_arg C hX hb (j := 1) ⟨by omega, by omega, hi.2.2⟩ rfl rfl dL_law_1530 dL_law_1531 dL_law_1533 dL_law_1534 dL_law_1535 ?_
  refine j_rcall C (kd := 10) (a := la) (rest := []) (Or.inl rfl) K1 (m_gradeOf l hfl (z := ax xs i 1) ax_rg I.1.inv) cal_X6_gradeOf vi_X6_gradeOf rfl ml_La_204 rfl rfl (Nat.le_of_ble_eq_true rfl) ⟨Nat.le_of_ble_eq_true rfl, Nat.le_of_ble_eq_true rfl⟩ hR dL_law_1536 (fun S2 K2 v2 => ?_)
  refine j_istore C dL_law_1539 (by decide) ?_
  refine j_tail l hfl C K2 qx_gradeOf qr_gradeOf (fun z => v2.trans (v1 z)) rfl rfl rfl rfl hR dL_law_1541 dL_law_1542 dL_law_1545 dL_law_1547 dL_law_1552 dL_law_1554 dL_law_1557 dL_law_1558 dL_law_1559 dL_law_1560 dL_law_1562 dL_law_1563 dL_law_1564 dL_law_1569 (by decide) (fun S3 K3 => ?_)
  exact J.lvs L0_67 (kk S3 _ K3 qd_gradeOf)
set_option maxHeartbeats 1000000 in
theorem b_gradeFrom (l : Launch) (hfl : l.stackTraces = false) (C : Cx p l s m args meth c cL_law 9 RL D A) (hs : hN s) (hX : va_X b L xs s s.heap) (hb : b < s.heap.size ∧ ¬ A b) (hi : 0 ≤ i ∧ i + 5 ≤ (L : Int) ∧ L ≤ 2560) (I : LwI D S q o la da B M) (hR : k + 100 ≤ 603072 ∧ n + 10000 ≤ 7215209) (hd : M 29 0 + 99 ≤ 50688)
    (kk : ∀ (S' : wS) (M' : wM), LwI D S' q o la da B M' → M' 29 0 ≤ M 29 0 + 99 → J p l e room_1 s m args below meth c 9 D A Q 2278 (L0 b q o la da i) [] S' (k + 100) (n + 10000)) : J p l e room_1 s m args below meth c 9 D A Q 1572 (L0 b q o la da i) [] S k n := by
  refine j_aload_n C dL_law_1572 rfl ?_
  refine j_arg C hX hb (j := 1) ⟨by omega, by omega, hi.2.2⟩ rfl rfl dL_law_1573 dL_law_1574 dL_law_1576 dL_law_1577 dL_law_1578 ?_
  refine j_aload_n C dL_law_1579 rfl ?_
  refine j_wcall C hs (Or.inl ⟨rfl, rfl⟩) I (w_gradeFrom l hfl I.1 I.2.2.1 (z := ax xs i 1) ax_rg) calH_gradeFrom st_L_gradeFrom ml_La_205 rfl rfl (Nat.le_of_ble_eq_true rfl) (Nat.le_of_ble_eq_true rfl) hR dL_law_1580 dL_law_1583 (fun S1 K1 v1 => ?_)
  refine j_aload_n C dL_law_1585 rfl ?_
  refine j_arg C hX hb (j := 1) ⟨by omega, by omega, hi.2.2⟩ rfl rfl dL_law_1586 dL_law_1587 dL_law_1589 dL_law_1590 dL_law_1591 ?_
  refine j_rcall C (kd := 10) (a := la) (rest := []) (Or.inl rfl) K1 (m_gradeFrom l hfl (z := ax xs i 1) ax_rg I.1.inv) cal_X6_gradeFrom vi_X6_gradeFrom rfl ml_La_207 rfl rfl (Nat.le_of_ble_eq_true rfl) ⟨Nat.le_of_ble_eq_true rfl, Nat.le_of_ble_eq_true rfl⟩ hR dL_law_1592 (fun S2 K2 v2 => ?_)
  refine j_istore C dL_law_1595 (by decide) ?_
  refine j_tail l hfl C K2 qx_gradeFrom qr_gradeFrom (fun z => v2.trans (v1 z)) rfl rfl rfl rfl hR dL_law_1597 dL_law_1598 dL_law_1601 dL_law_1603 dL_law_1608 dL_law_1610 dL_law_1613 dL_law_1614 dL_law_1615 dL_law_1616 dL_law_1618 dL_law_1619 dL_law_1620 dL_law_1625 (by decide) (fun S3 K3 => ?_)
  exact J.lvs L0_67 (kk S3 _ K3 qd_gradeFrom)
set_option maxHeartbeats 1000000 in
theorem b_addVersion (l : Launch) (hfl : l.stackTraces = false) (C : Cx p l s m args meth c cL_law 9 RL D A) (hs : hN s) (hX : va_X b L xs s s.heap) (hb : b < s.heap.size ∧ ¬ A b) (hi : 0 ≤ i ∧ i + 5 ≤ (L : Int) ∧ L ≤ 2560) (I : LwI D S q o la da B M) (hR : k + 100 ≤ 603072 ∧ n + 10000 ≤ 7215209) (hd : M 29 0 + 99 ≤ 50688)
    (kk : ∀ (S' : wS) (M' : wM), LwI D S' q o la da B M' → M' 29 0 ≤ M 29 0 + 99 → J p l e room_1 s m args below meth c 9 D A Q 2278 (L0 b q o la da i) [] S' (k + 100) (n + 10000)) : J p l e room_1 s m args below meth c 9 D A Q 1628 (L0 b q o la da i) [] S k n := by
  refine j_aload_n C dL_law_1628 rfl ?_
  refine j_arg C hX hb (j := 1) ⟨by omega, by omega, hi.2.2⟩ rfl rfl dL_law_1629 dL_law_1630 dL_law_1632 dL_law_1633 dL_law_1634 ?_
  refine j_arg C hX hb (j := 2) ⟨by omega, by omega, hi.2.2⟩ rfl rfl dL_law_1635 dL_law_1636 dL_law_1638 dL_law_1639 dL_law_1640 ?_
  refine j_aload_n C dL_law_1641 rfl ?_
  refine j_wcall C hs (Or.inl ⟨rfl, rfl⟩) I (w_addVersion l hfl I.1 I.2.2.1 (f := ax xs i 1) (a := ax xs i 2) ax_rg ax_rg) calH_addVersion st_L_addVersion ml_La_208 rfl rfl (Nat.le_of_ble_eq_true rfl) (Nat.le_of_ble_eq_true rfl) hR dL_law_1642 dL_law_1645 (fun S1 K1 v1 => ?_)
  refine j_aload_n C dL_law_1647 rfl ?_
  refine j_arg C hX hb (j := 1) ⟨by omega, by omega, hi.2.2⟩ rfl rfl dL_law_1648 dL_law_1649 dL_law_1651 dL_law_1652 dL_law_1653 ?_
  refine j_arg C hX hb (j := 2) ⟨by omega, by omega, hi.2.2⟩ rfl rfl dL_law_1654 dL_law_1655 dL_law_1657 dL_law_1658 dL_law_1659 ?_
  refine j_rcall C (kd := 10) (a := la) (rest := []) (Or.inl rfl) K1 (m_addVersion l hfl (f := ax xs i 1) (a := ax xs i 2) ax_rg ax_rg I.1.inv) cal_X6_addVersion vi_X6_addVersion rfl ml_La_210 rfl rfl (Nat.le_of_ble_eq_true rfl) ⟨Nat.le_of_ble_eq_true rfl, Nat.le_of_ble_eq_true rfl⟩ hR dL_law_1660 (fun S2 K2 v2 => ?_)
  refine j_istore C dL_law_1663 (by decide) ?_
  refine j_tail l hfl C K2 qx_addVersion qr_addVersion (fun z => v2.trans (v1 z)) rfl rfl rfl rfl hR dL_law_1665 dL_law_1666 dL_law_1669 dL_law_1671 dL_law_1676 dL_law_1678 dL_law_1681 dL_law_1682 dL_law_1683 dL_law_1684 dL_law_1686 dL_law_1687 dL_law_1688 dL_law_1693 (by decide) (fun S3 K3 => ?_)
  exact J.lvs L0_67 (kk S3 _ K3 qd_addVersion)
set_option maxHeartbeats 1000000 in
theorem b_leaveOut (l : Launch) (hfl : l.stackTraces = false) (C : Cx p l s m args meth c cL_law 9 RL D A) (hs : hN s) (hX : va_X b L xs s s.heap) (hb : b < s.heap.size ∧ ¬ A b) (hi : 0 ≤ i ∧ i + 5 ≤ (L : Int) ∧ L ≤ 2560) (I : LwI D S q o la da B M) (hR : k + 100 ≤ 603072 ∧ n + 10000 ≤ 7215209) (hd : M 29 0 + 99 ≤ 50688)
    (kk : ∀ (S' : wS) (M' : wM), LwI D S' q o la da B M' → M' 29 0 ≤ M 29 0 + 99 → J p l e room_1 s m args below meth c 9 D A Q 2278 (L0 b q o la da i) [] S' (k + 100) (n + 10000)) : J p l e room_1 s m args below meth c 9 D A Q 1696 (L0 b q o la da i) [] S k n := by
  refine j_aload_n C dL_law_1696 rfl ?_
  refine j_arg C hX hb (j := 1) ⟨by omega, by omega, hi.2.2⟩ rfl rfl dL_law_1697 dL_law_1698 dL_law_1700 dL_law_1701 dL_law_1702 ?_
  refine j_arg C hX hb (j := 2) ⟨by omega, by omega, hi.2.2⟩ rfl rfl dL_law_1703 dL_law_1704 dL_law_1706 dL_law_1707 dL_law_1708 ?_
  refine j_arg C hX hb (j := 3) ⟨by omega, by omega, hi.2.2⟩ rfl rfl dL_law_1709 dL_law_1710 dL_law_1712 dL_law_1713 dL_law_1714 ?_
  refine j_argB C hX hb (j := 4) ⟨by omega, by omega, hi.2.2⟩ rfl rfl dL_law_1715 dL_law_1716 dL_law_1718 dL_law_1719 dL_law_1720 dL_law_1721 dL_law_1724 dL_law_1725 dL_law_1728 ?_
  refine j_aload_n C dL_law_1729 rfl ?_
  refine j_wcall C hs (Or.inl ⟨rfl, rfl⟩) I (w_leaveOut l hfl I.1 I.2.2.1 (f := ax xs i 1) (a := ax xs i 2) (b := ax xs i 3) (w := decide (¬ ax xs i 4 = 0)) ax_rg ax_rg ax_rg) calH_leaveOut st_L_leaveOut ml_La_211 rfl rfl (Nat.le_of_ble_eq_true rfl) (Nat.le_of_ble_eq_true rfl) hR dL_law_1730 dL_law_1733 (fun S1 K1 v1 => ?_)
  refine j_aload_n C dL_law_1735 rfl ?_
  refine j_arg C hX hb (j := 1) ⟨by omega, by omega, hi.2.2⟩ rfl rfl dL_law_1736 dL_law_1737 dL_law_1739 dL_law_1740 dL_law_1741 ?_
  refine j_arg C hX hb (j := 2) ⟨by omega, by omega, hi.2.2⟩ rfl rfl dL_law_1742 dL_law_1743 dL_law_1745 dL_law_1746 dL_law_1747 ?_
  refine j_arg C hX hb (j := 3) ⟨by omega, by omega, hi.2.2⟩ rfl rfl dL_law_1748 dL_law_1749 dL_law_1751 dL_law_1752 dL_law_1753 ?_
  refine j_argB C hX hb (j := 4) ⟨by omega, by omega, hi.2.2⟩ rfl rfl dL_law_1754 dL_law_1755 dL_law_1757 dL_law_1758 dL_law_1759 dL_law_1760 dL_law_1763 dL_law_1764 dL_law_1767 ?_
  refine j_rcall C (kd := 10) (a := la) (rest := []) (Or.inl rfl) K1 (m_leaveOut l hfl (f := ax xs i 1) (a := ax xs i 2) (b := ax xs i 3) (w := decide (¬ ax xs i 4 = 0)) ax_rg ax_rg ax_rg I.1.inv) cal_X6_leaveOut vi_X6_leaveOut rfl ml_La_214 rfl rfl (Nat.le_of_ble_eq_true rfl) ⟨Nat.le_of_ble_eq_true rfl, Nat.le_of_ble_eq_true rfl⟩ hR dL_law_1768 (fun S2 K2 v2 => ?_)
  refine j_istore C dL_law_1771 (by decide) ?_
  refine j_tail l hfl C K2 qx_leaveOut qr_leaveOut (fun z => v2.trans (v1 z)) rfl rfl rfl rfl hR dL_law_1773 dL_law_1774 dL_law_1777 dL_law_1779 dL_law_1784 dL_law_1786 dL_law_1789 dL_law_1790 dL_law_1791 dL_law_1792 dL_law_1794 dL_law_1795 dL_law_1796 dL_law_1801 (by decide) (fun S3 K3 => ?_)
  exact J.lvs L0_67 (kk S3 _ K3 qd_leaveOut)
set_option maxHeartbeats 1000000 in
theorem b_frames (l : Launch) (hfl : l.stackTraces = false) (C : Cx p l s m args meth c cL_law 9 RL D A) (hs : hN s) (hX : va_X b L xs s s.heap) (hb : b < s.heap.size ∧ ¬ A b) (hi : 0 ≤ i ∧ i + 5 ≤ (L : Int) ∧ L ≤ 2560) (I : LwI D S q o la da B M) (hR : k + 100 ≤ 603072 ∧ n + 10000 ≤ 7215209) (hd : M 29 0 + 99 ≤ 50688)
    (kk : ∀ (S' : wS) (M' : wM), LwI D S' q o la da B M' → M' 29 0 ≤ M 29 0 + 99 → J p l e room_1 s m args below meth c 9 D A Q 2278 (L0 b q o la da i) [] S' (k + 100) (n + 10000)) : J p l e room_1 s m args below meth c 9 D A Q 1804 (L0 b q o la da i) [] S k n := by
  refine j_aload_n C dL_law_1804 rfl ?_
  refine j_arg C hX hb (j := 1) ⟨by omega, by omega, hi.2.2⟩ rfl rfl dL_law_1805 dL_law_1806 dL_law_1808 dL_law_1809 dL_law_1810 ?_
  refine j_aload_n C dL_law_1811 rfl ?_
  refine j_wcall C hs (Or.inl ⟨rfl, rfl⟩) I (w_frames l hfl I.1 I.2.2.1 (z := ax xs i 1) ax_rg) calH_frames st_L_frames ml_La_215 rfl rfl (Nat.le_of_ble_eq_true rfl) (Nat.le_of_ble_eq_true rfl) hR dL_law_1812 dL_law_1815 (fun S1 K1 v1 => ?_)
  refine j_aload_n C dL_law_1817 rfl ?_
  refine j_arg C hX hb (j := 1) ⟨by omega, by omega, hi.2.2⟩ rfl rfl dL_law_1818 dL_law_1819 dL_law_1821 dL_law_1822 dL_law_1823 ?_
  refine j_rcall C (kd := 10) (a := la) (rest := []) (Or.inl rfl) K1 (m_frames l hfl (z := ax xs i 1) ax_rg I.1.inv) cal_X6_frames vi_X6_frames rfl ml_La_217 rfl rfl (Nat.le_of_ble_eq_true rfl) ⟨Nat.le_of_ble_eq_true rfl, Nat.le_of_ble_eq_true rfl⟩ hR dL_law_1824 (fun S2 K2 v2 => ?_)
  refine j_istore C dL_law_1827 (by decide) ?_
  refine j_tail l hfl C K2 qx_frames qr_frames (fun z => v2.trans (v1 z)) rfl rfl rfl rfl hR dL_law_1829 dL_law_1830 dL_law_1833 dL_law_1835 dL_law_1840 dL_law_1842 dL_law_1845 dL_law_1846 dL_law_1847 dL_law_1848 dL_law_1850 dL_law_1851 dL_law_1852 dL_law_1857 (by decide) (fun S3 K3 => ?_)
  exact J.lvs L0_67 (kk S3 _ K3 qd_frames)
set_option maxHeartbeats 1000000 in
theorem b_lend (l : Launch) (hfl : l.stackTraces = false) (C : Cx p l s m args meth c cL_law 9 RL D A) (hs : hN s) (hX : va_X b L xs s s.heap) (hb : b < s.heap.size ∧ ¬ A b) (hi : 0 ≤ i ∧ i + 5 ≤ (L : Int) ∧ L ≤ 2560) (I : LwI D S q o la da B M) (hR : k + 100 ≤ 603072 ∧ n + 10000 ≤ 7215209) (hd : M 29 0 + 99 ≤ 50688)
    (kk : ∀ (S' : wS) (M' : wM), LwI D S' q o la da B M' → M' 29 0 ≤ M 29 0 + 99 → J p l e room_1 s m args below meth c 9 D A Q 2278 (L0 b q o la da i) [] S' (k + 100) (n + 10000)) : J p l e room_1 s m args below meth c 9 D A Q 1860 (L0 b q o la da i) [] S k n := by
  refine j_aload_n C dL_law_1860 rfl ?_
  refine j_arg C hX hb (j := 1) ⟨by omega, by omega, hi.2.2⟩ rfl rfl dL_law_1861 dL_law_1862 dL_law_1864 dL_law_1865 dL_law_1866 ?_
  refine j_arg C hX hb (j := 2) ⟨by omega, by omega, hi.2.2⟩ rfl rfl dL_law_1867 dL_law_1868 dL_law_1870 dL_law_1871 dL_law_1872 ?_
  refine j_arg C hX hb (j := 3) ⟨by omega, by omega, hi.2.2⟩ rfl rfl dL_law_1873 dL_law_1874 dL_law_1876 dL_law_1877 dL_law_1878 ?_
  refine j_arg C hX hb (j := 4) ⟨by omega, by omega, hi.2.2⟩ rfl rfl dL_law_1879 dL_law_1880 dL_law_1882 dL_law_1883 dL_law_1884 ?_
  refine j_aload_n C dL_law_1885 rfl ?_
  refine j_wcall C hs (Or.inl ⟨rfl, rfl⟩) I (w_lend l hfl I.1 I.2.2.1 (f := ax xs i 1) (a := ax xs i 2) (b := ax xs i 3) (g := ax xs i 4) ax_rg ax_rg ax_rg ax_rg) calH_lend st_L_lend ml_La_218 rfl rfl (Nat.le_of_ble_eq_true rfl) (Nat.le_of_ble_eq_true rfl) hR dL_law_1886 dL_law_1889 (fun S1 K1 v1 => ?_)
  refine j_aload_n C dL_law_1891 rfl ?_
  refine j_arg C hX hb (j := 1) ⟨by omega, by omega, hi.2.2⟩ rfl rfl dL_law_1892 dL_law_1893 dL_law_1895 dL_law_1896 dL_law_1897 ?_
  refine j_arg C hX hb (j := 2) ⟨by omega, by omega, hi.2.2⟩ rfl rfl dL_law_1898 dL_law_1899 dL_law_1901 dL_law_1902 dL_law_1903 ?_
  refine j_arg C hX hb (j := 3) ⟨by omega, by omega, hi.2.2⟩ rfl rfl dL_law_1904 dL_law_1905 dL_law_1907 dL_law_1908 dL_law_1909 ?_
  refine j_arg C hX hb (j := 4) ⟨by omega, by omega, hi.2.2⟩ rfl rfl dL_law_1910 dL_law_1911 dL_law_1913 dL_law_1914 dL_law_1915 ?_
  refine j_rcall C (kd := 10) (a := la) (rest := []) (Or.inl rfl) K1 (m_lend l hfl (f := ax xs i 1) (a := ax xs i 2) (b := ax xs i 3) (g := ax xs i 4) ax_rg ax_rg ax_rg ax_rg I.1.inv) cal_X6_lend vi_X6_lend rfl ml_La_220 rfl rfl (Nat.le_of_ble_eq_true rfl) ⟨Nat.le_of_ble_eq_true rfl, Nat.le_of_ble_eq_true rfl⟩ hR dL_law_1916 (fun S2 K2 v2 => ?_)
  refine j_istore C dL_law_1919 (by decide) ?_
  refine j_tail l hfl C K2 qx_lend qr_lend (fun z => v2.trans (v1 z)) rfl rfl rfl rfl hR dL_law_1921 dL_law_1922 dL_law_1925 dL_law_1927 dL_law_1932 dL_law_1934 dL_law_1937 dL_law_1938 dL_law_1939 dL_law_1940 dL_law_1942 dL_law_1943 dL_law_1944 dL_law_1949 (by decide) (fun S3 K3 => ?_)
  exact J.lvs L0_67 (kk S3 _ K3 qd_lend)
set_option maxHeartbeats 1000000 in
theorem b_show (l : Launch) (hfl : l.stackTraces = false) (C : Cx p l s m args meth c cL_law 9 RL D A) (hs : hN s) (hX : va_X b L xs s s.heap) (hb : b < s.heap.size ∧ ¬ A b) (hi : 0 ≤ i ∧ i + 5 ≤ (L : Int) ∧ L ≤ 2560) (I : LwI D S q o la da B M) (hR : k + 100 ≤ 603072 ∧ n + 10000 ≤ 7215209) (hd : M 29 0 + 99 ≤ 50688)
    (kk : ∀ (S' : wS) (M' : wM), LwI D S' q o la da B M' → M' 29 0 ≤ M 29 0 + 99 → J p l e room_1 s m args below meth c 9 D A Q 2278 (L0 b q o la da i) [] S' (k + 100) (n + 10000)) : J p l e room_1 s m args below meth c 9 D A Q 1952 (L0 b q o la da i) [] S k n := by
  refine j_aload_n C dL_law_1952 rfl ?_
  refine j_arg C hX hb (j := 1) ⟨by omega, by omega, hi.2.2⟩ rfl rfl dL_law_1953 dL_law_1954 dL_law_1956 dL_law_1957 dL_law_1958 ?_
  refine j_aload_n C dL_law_1959 rfl ?_
  refine j_wcall C hs (Or.inl ⟨rfl, rfl⟩) I (w_show l hfl I.1 I.2.2.1 (z := ax xs i 1) ax_rg) calH_show st_L_show ml_La_221 rfl rfl (Nat.le_of_ble_eq_true rfl) (Nat.le_of_ble_eq_true rfl) hR dL_law_1960 dL_law_1963 (fun S1 K1 v1 => ?_)
  refine j_aload_n C dL_law_1965 rfl ?_
  refine j_arg C hX hb (j := 1) ⟨by omega, by omega, hi.2.2⟩ rfl rfl dL_law_1966 dL_law_1967 dL_law_1969 dL_law_1970 dL_law_1971 ?_
  refine j_rcall C (kd := 10) (a := la) (rest := []) (Or.inl rfl) K1 (m_show l hfl (z := ax xs i 1) ax_rg I.1.inv) cal_X6_show vi_X6_show rfl ml_La_223 rfl rfl (Nat.le_of_ble_eq_true rfl) ⟨Nat.le_of_ble_eq_true rfl, Nat.le_of_ble_eq_true rfl⟩ hR dL_law_1972 (fun S2 K2 v2 => ?_)
  refine j_istore C dL_law_1975 (by decide) ?_
  refine j_tail l hfl C K2 qx_show qr_show (fun z => v2.trans (v1 z)) rfl rfl rfl rfl hR dL_law_1977 dL_law_1978 dL_law_1981 dL_law_1983 dL_law_1988 dL_law_1990 dL_law_1993 dL_law_1994 dL_law_1995 dL_law_1996 dL_law_1998 dL_law_1999 dL_law_2000 dL_law_2005 (by decide) (fun S3 K3 => ?_)
  exact J.lvs L0_67 (kk S3 _ K3 qd_show)
set_option maxHeartbeats 1000000 in
theorem b_giveBack (l : Launch) (hfl : l.stackTraces = false) (C : Cx p l s m args meth c cL_law 9 RL D A) (hs : hN s) (hX : va_X b L xs s s.heap) (hb : b < s.heap.size ∧ ¬ A b) (hi : 0 ≤ i ∧ i + 5 ≤ (L : Int) ∧ L ≤ 2560) (I : LwI D S q o la da B M) (hR : k + 100 ≤ 603072 ∧ n + 10000 ≤ 7215209) (hd : M 29 0 + 99 ≤ 50688)
    (kk : ∀ (S' : wS) (M' : wM), LwI D S' q o la da B M' → M' 29 0 ≤ M 29 0 + 99 → J p l e room_1 s m args below meth c 9 D A Q 2278 (L0 b q o la da i) [] S' (k + 100) (n + 10000)) : J p l e room_1 s m args below meth c 9 D A Q 2008 (L0 b q o la da i) [] S k n := by
  refine j_aload_n C dL_law_2008 rfl ?_
  refine j_arg C hX hb (j := 1) ⟨by omega, by omega, hi.2.2⟩ rfl rfl dL_law_2009 dL_law_2010 dL_law_2012 dL_law_2013 dL_law_2014 ?_
  refine j_aload_n C dL_law_2015 rfl ?_
  refine j_wcall C hs (Or.inl ⟨rfl, rfl⟩) I (w_giveBack l hfl I.1 I.2.2.1 (z := ax xs i 1) ax_rg) calH_giveBack st_L_giveBack ml_La_224 rfl rfl (Nat.le_of_ble_eq_true rfl) (Nat.le_of_ble_eq_true rfl) hR dL_law_2016 dL_law_2019 (fun S1 K1 v1 => ?_)
  refine j_aload_n C dL_law_2021 rfl ?_
  refine j_arg C hX hb (j := 1) ⟨by omega, by omega, hi.2.2⟩ rfl rfl dL_law_2022 dL_law_2023 dL_law_2025 dL_law_2026 dL_law_2027 ?_
  refine j_rcall C (kd := 10) (a := la) (rest := []) (Or.inl rfl) K1 (m_giveBack l hfl (z := ax xs i 1) ax_rg I.1.inv) cal_X6_giveBack vi_X6_giveBack rfl ml_La_226 rfl rfl (Nat.le_of_ble_eq_true rfl) ⟨Nat.le_of_ble_eq_true rfl, Nat.le_of_ble_eq_true rfl⟩ hR dL_law_2028 (fun S2 K2 v2 => ?_)
  refine j_istore C dL_law_2031 (by decide) ?_
  refine j_tail l hfl C K2 qx_giveBack qr_giveBack (fun z => v2.trans (v1 z)) rfl rfl rfl rfl hR dL_law_2033 dL_law_2034 dL_law_2037 dL_law_2039 dL_law_2044 dL_law_2046 dL_law_2049 dL_law_2050 dL_law_2051 dL_law_2052 dL_law_2054 dL_law_2055 dL_law_2056 dL_law_2061 (by decide) (fun S3 K3 => ?_)
  exact J.lvs L0_67 (kk S3 _ K3 qd_giveBack)
set_option maxHeartbeats 1000000 in
theorem b_advance (l : Launch) (hfl : l.stackTraces = false) (C : Cx p l s m args meth c cL_law 9 RL D A) (hs : hN s) (hX : va_X b L xs s s.heap) (hb : b < s.heap.size ∧ ¬ A b) (hi : 0 ≤ i ∧ i + 5 ≤ (L : Int) ∧ L ≤ 2560) (I : LwI D S q o la da B M) (hR : k + 100 ≤ 603072 ∧ n + 10000 ≤ 7215209) (hd : M 29 0 + 99 ≤ 50688)
    (kk : ∀ (S' : wS) (M' : wM), LwI D S' q o la da B M' → M' 29 0 ≤ M 29 0 + 99 → J p l e room_1 s m args below meth c 9 D A Q 2278 (L0 b q o la da i) [] S' (k + 100) (n + 10000)) : J p l e room_1 s m args below meth c 9 D A Q 2064 (L0 b q o la da i) [] S k n := by
  refine j_aload_n C dL_law_2064 rfl ?_
  refine j_arg C hX hb (j := 1) ⟨by omega, by omega, hi.2.2⟩ rfl rfl dL_law_2065 dL_law_2066 dL_law_2068 dL_law_2069 dL_law_2070 ?_
  refine j_aload_n C dL_law_2071 rfl ?_
  refine j_wcall C hs (Or.inl ⟨rfl, rfl⟩) I (w_advance l hfl I.1 I.2.2.1 (a := ax xs i 1) ax_rg hd) calH_advance st_L_advance ml_La_227 rfl rfl (Nat.le_of_ble_eq_true rfl) (Nat.le_of_ble_eq_true rfl) hR dL_law_2072 dL_law_2075 (fun S1 K1 v1 => ?_)
  refine j_aload_n C dL_law_2077 rfl ?_
  refine j_arg C hX hb (j := 1) ⟨by omega, by omega, hi.2.2⟩ rfl rfl dL_law_2078 dL_law_2079 dL_law_2081 dL_law_2082 dL_law_2083 ?_
  refine j_rcall C (kd := 10) (a := la) (rest := []) (Or.inl rfl) K1 (m_advance l hfl (a := ax xs i 1) ax_rg I.1.inv) cal_X6_advance vi_X6_advance rfl ml_La_229 rfl rfl (Nat.le_of_ble_eq_true rfl) ⟨Nat.le_of_ble_eq_true rfl, Nat.le_of_ble_eq_true rfl⟩ hR dL_law_2084 (fun S2 K2 v2 => ?_)
  refine j_istore C dL_law_2087 (by decide) ?_
  refine j_tail l hfl C K2 qx_advance qr_advance (fun z => v2.trans (v1 z)) rfl rfl rfl rfl hR dL_law_2089 dL_law_2090 dL_law_2093 dL_law_2095 dL_law_2100 dL_law_2102 dL_law_2105 dL_law_2106 dL_law_2107 dL_law_2108 dL_law_2110 dL_law_2111 dL_law_2112 dL_law_2117 (by decide) (fun S3 K3 => ?_)
  exact J.lvs L0_67 (kk S3 _ K3 qd_advance)
end LAW73
