/-! the law's cases -/
/-- hold -/
theorem lc_39 {K : LK} (C : LCx K) {σ : St} (hR : Rel σ) {i : Nat} (hi : i + 6 ≤ K.L) (kk : ∀ σ', Rel σ' → LW K σ' 1838 (lvL K i) []) : LW K σ 1482 (lvL K i) [] := by
  obtain ⟨Rz1, hM1, h1⟩ := p_hold hR (K.xs (i + 1)) (K.xs (i + 2))
  refine lw_aload C 2 dL_law_1482 rfl ?_
  refine lw_arg C 1 (by decide) (by omega) dL_law_1483 dL_law_1484 dL_law_1485 dL_law_1486 dL_law_1487 ?_
  refine lw_arg C 2 (by decide) (by omega) dL_law_1488 dL_law_1489 dL_law_1490 dL_law_1491 dL_law_1492 ?_
  refine lw_call C (b := 0) (ci := 8) [K.xs (i + 1), K.xs (i + 2)] (rest := []) hM1 lk_L_177 rfl rfl (by decide) rfl (by show (0 : Nat) ≤ 8; decide) rfl dL_law_1493 rfl (fun v σ1 hq => ?_)
  obtain ⟨⟨x, rfl⟩, Rz2, hM2, h2⟩ := h1 v σ1 hq
  refine lw_aload C 3 dL_law_1496 rfl ?_
  refine lw_arg C 1 (by decide) (by omega) dL_law_1497 dL_law_1498 dL_law_1499 dL_law_1500 dL_law_1501 ?_
  refine lw_arg C 2 (by decide) (by omega) dL_law_1502 dL_law_1503 dL_law_1504 dL_law_1505 dL_law_1506 ?_
  refine lw_call C (b := 73) (ci := 9) [K.xs (i + 1), K.xs (i + 2)] (rest := [.int x]) hM2 lk_L_180 rfl rfl (by decide) rfl (by show (1 : Nat) ≤ 8; decide) rfl dL_law_1507 rfl (fun w σ2 hq2 => ?_)
  obtain ⟨rfl, hR2⟩ := h2 w σ2 hq2
  exact lw_eqI C 1838 dL_law_1510 (by decide) (kk σ2 hR2)
/-- as -/
theorem lc_40 {K : LK} (C : LCx K) {σ : St} (hR : Rel σ) {i : Nat} (hi : i + 6 ≤ K.L) (kk : ∀ σ', Rel σ' → LW K σ' 1838 (lvL K i) []) : LW K σ 1515 (lvL K i) [] := by
  obtain ⟨Rz1, hM1, h1⟩ := p_as hR (K.xs (i + 1)) (K.xs (i + 2))
  refine lw_aload C 2 dL_law_1515 rfl ?_
  refine lw_arg C 1 (by decide) (by omega) dL_law_1516 dL_law_1517 dL_law_1518 dL_law_1519 dL_law_1520 ?_
  refine lw_arg C 2 (by decide) (by omega) dL_law_1521 dL_law_1522 dL_law_1523 dL_law_1524 dL_law_1525 ?_
  refine lw_call C (b := 0) (ci := 8) [K.xs (i + 1), K.xs (i + 2)] (rest := []) hM1 lk_L_181 rfl rfl (by decide) rfl (by show (0 : Nat) ≤ 8; decide) rfl dL_law_1526 rfl (fun v σ1 hq => ?_)
  obtain ⟨⟨x, rfl⟩, Rz2, hM2, h2⟩ := h1 v σ1 hq
  refine lw_aload C 3 dL_law_1529 rfl ?_
  refine lw_arg C 1 (by decide) (by omega) dL_law_1530 dL_law_1531 dL_law_1532 dL_law_1533 dL_law_1534 ?_
  refine lw_arg C 2 (by decide) (by omega) dL_law_1535 dL_law_1536 dL_law_1537 dL_law_1538 dL_law_1539 ?_
  refine lw_call C (b := 73) (ci := 9) [K.xs (i + 1), K.xs (i + 2)] (rest := [.int x]) hM2 lk_L_184 rfl rfl (by decide) rfl (by show (1 : Nat) ≤ 8; decide) rfl dL_law_1540 rfl (fun w σ2 hq2 => ?_)
  obtain ⟨rfl, hR2⟩ := h2 w σ2 hq2
  exact lw_eqI C 1838 dL_law_1543 (by decide) (kk σ2 hR2)
/-- sheet -/
theorem lc_41 {K : LK} (C : LCx K) {σ : St} (hR : Rel σ) {i : Nat} (hi : i + 6 ≤ K.L) (kk : ∀ σ', Rel σ' → LW K σ' 1838 (lvL K i) []) : LW K σ 1548 (lvL K i) [] := by
  obtain ⟨Rz1, hM1, h1⟩ := p_sheet hR (K.xs (i + 1)) (K.xs (i + 2)) (K.xs (i + 3))
  refine lw_aload C 2 dL_law_1548 rfl ?_
  refine lw_arg C 1 (by decide) (by omega) dL_law_1549 dL_law_1550 dL_law_1551 dL_law_1552 dL_law_1553 ?_
  refine lw_arg C 2 (by decide) (by omega) dL_law_1554 dL_law_1555 dL_law_1556 dL_law_1557 dL_law_1558 ?_
  refine lw_arg C 3 (by decide) (by omega) dL_law_1559 dL_law_1560 dL_law_1561 dL_law_1562 dL_law_1563 ?_
  refine lw_call C (b := 0) (ci := 8) [K.xs (i + 1), K.xs (i + 2), K.xs (i + 3)] (rest := []) hM1 lk_L_185 rfl rfl (by decide) rfl (by show (0 : Nat) ≤ 8; decide) rfl dL_law_1564 rfl (fun v σ1 hq => ?_)
  obtain ⟨⟨x, rfl⟩, Rz2, hM2, h2⟩ := h1 v σ1 hq
  refine lw_aload C 3 dL_law_1567 rfl ?_
  refine lw_arg C 1 (by decide) (by omega) dL_law_1568 dL_law_1569 dL_law_1570 dL_law_1571 dL_law_1572 ?_
  refine lw_arg C 2 (by decide) (by omega) dL_law_1573 dL_law_1574 dL_law_1575 dL_law_1576 dL_law_1577 ?_
  refine lw_arg C 3 (by decide) (by omega) dL_law_1578 dL_law_1579 dL_law_1580 dL_law_1581 dL_law_1582 ?_
  refine lw_call C (b := 73) (ci := 9) [K.xs (i + 1), K.xs (i + 2), K.xs (i + 3)] (rest := [.int x]) hM2 lk_L_188 rfl rfl (by decide) rfl (by show (1 : Nat) ≤ 8; decide) rfl dL_law_1583 rfl (fun w σ2 hq2 => ?_)
  obtain ⟨rfl, hR2⟩ := h2 w σ2 hq2
  exact lw_eqI C 1838 dL_law_1586 (by decide) (kk σ2 hR2)
/-- write -/
theorem lc_42 {K : LK} (C : LCx K) {σ : St} (hR : Rel σ) {i : Nat} (hi : i + 6 ≤ K.L) (kk : ∀ σ', Rel σ' → LW K σ' 1838 (lvL K i) []) : LW K σ 1591 (lvL K i) [] := by
  obtain ⟨Rz1, hM1, h1⟩ := p_write hR (K.xs (i + 1)) (K.xs (i + 2)) (K.xs (i + 3))
  refine lw_aload C 2 dL_law_1591 rfl ?_
  refine lw_arg C 1 (by decide) (by omega) dL_law_1592 dL_law_1593 dL_law_1594 dL_law_1595 dL_law_1596 ?_
  refine lw_arg C 2 (by decide) (by omega) dL_law_1597 dL_law_1598 dL_law_1599 dL_law_1600 dL_law_1601 ?_
  refine lw_arg C 3 (by decide) (by omega) dL_law_1602 dL_law_1603 dL_law_1604 dL_law_1605 dL_law_1606 ?_
  refine lw_call C (b := 0) (ci := 8) [K.xs (i + 1), K.xs (i + 2), K.xs (i + 3)] (rest := []) hM1 lk_L_189 rfl rfl (by decide) rfl (by show (0 : Nat) ≤ 8; decide) rfl dL_law_1607 rfl (fun v σ1 hq => ?_)
  obtain ⟨⟨x, rfl⟩, Rz2, hM2, h2⟩ := h1 v σ1 hq
  refine lw_aload C 3 dL_law_1610 rfl ?_
  refine lw_arg C 1 (by decide) (by omega) dL_law_1611 dL_law_1612 dL_law_1613 dL_law_1614 dL_law_1615 ?_
  refine lw_arg C 2 (by decide) (by omega) dL_law_1616 dL_law_1617 dL_law_1618 dL_law_1619 dL_law_1620 ?_
  refine lw_arg C 3 (by decide) (by omega) dL_law_1621 dL_law_1622 dL_law_1623 dL_law_1624 dL_law_1625 ?_
  refine lw_call C (b := 73) (ci := 9) [K.xs (i + 1), K.xs (i + 2), K.xs (i + 3)] (rest := [.int x]) hM2 lk_L_192 rfl rfl (by decide) rfl (by show (1 : Nat) ≤ 8; decide) rfl dL_law_1626 rfl (fun w σ2 hq2 => ?_)
  obtain ⟨rfl, hR2⟩ := h2 w σ2 hq2
  exact lw_eqI C 1838 dL_law_1629 (by decide) (kk σ2 hR2)
/-- copy -/
theorem lc_43 {K : LK} (C : LCx K) {σ : St} (hR : Rel σ) {i : Nat} (hi : i + 6 ≤ K.L) (kk : ∀ σ', Rel σ' → LW K σ' 1838 (lvL K i) []) : LW K σ 1634 (lvL K i) [] := by
  obtain ⟨Rz1, hM1, h1⟩ := p_copy hR (K.xs (i + 1)) (K.xs (i + 2)) (K.xs (i + 3)) (K.xs (i + 4)) (K.xs (i + 5))
  refine lw_aload C 2 dL_law_1634 rfl ?_
  refine lw_arg C 1 (by decide) (by omega) dL_law_1635 dL_law_1636 dL_law_1637 dL_law_1638 dL_law_1639 ?_
  refine lw_arg C 2 (by decide) (by omega) dL_law_1640 dL_law_1641 dL_law_1642 dL_law_1643 dL_law_1644 ?_
  refine lw_arg C 3 (by decide) (by omega) dL_law_1645 dL_law_1646 dL_law_1647 dL_law_1648 dL_law_1649 ?_
  refine lw_arg C 4 (by decide) (by omega) dL_law_1650 dL_law_1651 dL_law_1652 dL_law_1653 dL_law_1654 ?_
  refine lw_arg C 5 (by decide) (by omega) dL_law_1655 dL_law_1656 dL_law_1657 dL_law_1658 dL_law_1659 ?_
  refine lw_call C (b := 0) (ci := 8) [K.xs (i + 1), K.xs (i + 2), K.xs (i + 3), K.xs (i + 4), K.xs (i + 5)] (rest := []) hM1 lk_L_193 rfl rfl (by decide) rfl (by show (0 : Nat) ≤ 8; decide) rfl dL_law_1660 rfl (fun v σ1 hq => ?_)
  obtain ⟨⟨x, rfl⟩, Rz2, hM2, h2⟩ := h1 v σ1 hq
  refine lw_aload C 3 dL_law_1663 rfl ?_
  refine lw_arg C 1 (by decide) (by omega) dL_law_1664 dL_law_1665 dL_law_1666 dL_law_1667 dL_law_1668 ?_
  refine lw_arg C 2 (by decide) (by omega) dL_law_1669 dL_law_1670 dL_law_1671 dL_law_1672 dL_law_1673 ?_
  refine lw_arg C 3 (by decide) (by omega) dL_law_1674 dL_law_1675 dL_law_1676 dL_law_1677 dL_law_1678 ?_
  refine lw_arg C 4 (by decide) (by omega) dL_law_1679 dL_law_1680 dL_law_1681 dL_law_1682 dL_law_1683 ?_
  refine lw_arg C 5 (by decide) (by omega) dL_law_1684 dL_law_1685 dL_law_1686 dL_law_1687 dL_law_1688 ?_
  refine lw_call C (b := 73) (ci := 9) [K.xs (i + 1), K.xs (i + 2), K.xs (i + 3), K.xs (i + 4), K.xs (i + 5)] (rest := [.int x]) hM2 lk_L_197 rfl rfl (by decide) rfl (by show (1 : Nat) ≤ 8; decide) rfl dL_law_1689 rfl (fun w σ2 hq2 => ?_)
  obtain ⟨rfl, hR2⟩ := h2 w σ2 hq2
  exact lw_eqI C 1838 dL_law_1692 (by decide) (kk σ2 hR2)
/-- load -/
theorem lc_44 {K : LK} (C : LCx K) {σ : St} (hR : Rel σ) {i : Nat} (hi : i + 6 ≤ K.L) (kk : ∀ σ', Rel σ' → LW K σ' 1838 (lvL K i) []) : LW K σ 1697 (lvL K i) [] := by
  obtain ⟨Rz1, hM1, h1⟩ := p_load hR (K.xs (i + 1)) (K.xs (i + 2))
  refine lw_aload C 2 dL_law_1697 rfl ?_
  refine lw_arg C 1 (by decide) (by omega) dL_law_1698 dL_law_1699 dL_law_1700 dL_law_1701 dL_law_1702 ?_
  refine lw_arg C 2 (by decide) (by omega) dL_law_1703 dL_law_1704 dL_law_1705 dL_law_1706 dL_law_1707 ?_
  refine lw_call C (b := 0) (ci := 8) [K.xs (i + 1), K.xs (i + 2)] (rest := []) hM1 lk_L_198 rfl rfl (by decide) rfl (by show (0 : Nat) ≤ 8; decide) rfl dL_law_1708 rfl (fun v σ1 hq => ?_)
  obtain ⟨⟨x, rfl⟩, Rz2, hM2, h2⟩ := h1 v σ1 hq
  refine lw_aload C 3 dL_law_1711 rfl ?_
  refine lw_arg C 1 (by decide) (by omega) dL_law_1712 dL_law_1713 dL_law_1714 dL_law_1715 dL_law_1716 ?_
  refine lw_arg C 2 (by decide) (by omega) dL_law_1717 dL_law_1718 dL_law_1719 dL_law_1720 dL_law_1721 ?_
  refine lw_call C (b := 73) (ci := 9) [K.xs (i + 1), K.xs (i + 2)] (rest := [.int x]) hM2 lk_L_201 rfl rfl (by decide) rfl (by show (1 : Nat) ≤ 8; decide) rfl dL_law_1722 rfl (fun w σ2 hq2 => ?_)
  obtain ⟨rfl, hR2⟩ := h2 w σ2 hq2
  exact lw_eqI C 1838 dL_law_1725 (by decide) (kk σ2 hR2)
/-- judge -/
theorem lc_45 {K : LK} (C : LCx K) {σ : St} (hR : Rel σ) {i : Nat} (hi : i + 6 ≤ K.L) (kk : ∀ σ', Rel σ' → LW K σ' 1838 (lvL K i) []) : LW K σ 1730 (lvL K i) [] := by
  obtain ⟨Rz1, hM1, h1⟩ := p_judge hR (K.xs (i + 1))
  refine lw_aload C 2 dL_law_1730 rfl ?_
  refine lw_arg C 1 (by decide) (by omega) dL_law_1731 dL_law_1732 dL_law_1733 dL_law_1734 dL_law_1735 ?_
  refine lw_call C (b := 0) (ci := 8) [K.xs (i + 1)] (rest := []) hM1 lk_L_202 rfl rfl (by decide) rfl (by show (0 : Nat) ≤ 8; decide) rfl dL_law_1736 rfl (fun v σ1 hq => ?_)
  obtain ⟨⟨x, rfl⟩, Rz2, hM2, h2⟩ := h1 v σ1 hq
  refine lw_aload C 3 dL_law_1739 rfl ?_
  refine lw_arg C 1 (by decide) (by omega) dL_law_1740 dL_law_1741 dL_law_1742 dL_law_1743 dL_law_1744 ?_
  refine lw_call C (b := 73) (ci := 9) [K.xs (i + 1)] (rest := [.int x]) hM2 lk_L_205 rfl rfl (by decide) rfl (by show (1 : Nat) ≤ 8; decide) rfl dL_law_1745 rfl (fun w σ2 hq2 => ?_)
  obtain ⟨rfl, hR2⟩ := h2 w σ2 hq2
  exact lw_eqI C 1838 dL_law_1748 (by decide) (kk σ2 hR2)
/-- image -/
theorem lc_46 {K : LK} (C : LCx K) {σ : St} (hR : Rel σ) {i : Nat} (hi : i + 6 ≤ K.L) (kk : ∀ σ', Rel σ' → LW K σ' 1838 (lvL K i) []) : LW K σ 1753 (lvL K i) [] := by
  obtain ⟨Rz1, hM1, h1⟩ := p_image hR 
  refine lw_aload C 2 dL_law_1753 rfl ?_
  refine lw_call C (b := 0) (ci := 8) [] (rest := []) hM1 lk_L_206 rfl rfl (by decide) rfl (by show (0 : Nat) ≤ 8; decide) rfl dL_law_1754 rfl (fun v σ1 hq => ?_)
  obtain ⟨⟨x, rfl⟩, Rz2, hM2, h2⟩ := h1 v σ1 hq
  refine lw_aload C 3 dL_law_1757 rfl ?_
  refine lw_call C (b := 73) (ci := 9) [] (rest := [.int x]) hM2 lk_L_209 rfl rfl (by decide) rfl (by show (1 : Nat) ≤ 8; decide) rfl dL_law_1758 rfl (fun w σ2 hq2 => ?_)
  obtain ⟨rfl, hR2⟩ := h2 w σ2 hq2
  exact lw_eqI C 1838 dL_law_1761 (by decide) (kk σ2 hR2)
/-- undo -/
theorem lc_47 {K : LK} (C : LCx K) {σ : St} (hR : Rel σ) {i : Nat} (hi : i + 6 ≤ K.L) (kk : ∀ σ', Rel σ' → LW K σ' 1838 (lvL K i) []) : LW K σ 1766 (lvL K i) [] := by
  obtain ⟨Rz1, hM1, h1⟩ := p_undo hR 
  refine lw_aload C 2 dL_law_1766 rfl ?_
  refine lw_call C (b := 0) (ci := 8) [] (rest := []) hM1 lk_L_210 rfl rfl (by decide) rfl (by show (0 : Nat) ≤ 8; decide) rfl dL_law_1767 rfl (fun v σ1 hq => ?_)
  obtain ⟨⟨x, rfl⟩, Rz2, hM2, h2⟩ := h1 v σ1 hq
  refine lw_aload C 3 dL_law_1770 rfl ?_
  refine lw_call C (b := 73) (ci := 9) [] (rest := [.int x]) hM2 lk_L_213 rfl rfl (by decide) rfl (by show (1 : Nat) ≤ 8; decide) rfl dL_law_1771 rfl (fun w σ2 hq2 => ?_)
  obtain ⟨rfl, hR2⟩ := h2 w σ2 hq2
  exact lw_eqI C 1838 dL_law_1774 (by decide) (kk σ2 hR2)
/-- tear -/
theorem lc_48 {K : LK} (C : LCx K) {σ : St} (hR : Rel σ) {i : Nat} (hi : i + 6 ≤ K.L) (kk : ∀ σ', Rel σ' → LW K σ' 1838 (lvL K i) []) : LW K σ 1779 (lvL K i) [] := by
  obtain ⟨Rz1, hM1, h1⟩ := p_tear hR 
  refine lw_aload C 2 dL_law_1779 rfl ?_
  refine lw_call C (b := 0) (ci := 8) [] (rest := []) hM1 lk_L_214 rfl rfl (by decide) rfl (by show (0 : Nat) ≤ 8; decide) rfl dL_law_1780 rfl (fun v σ1 hq => ?_)
  obtain ⟨⟨x, rfl⟩, Rz2, hM2, h2⟩ := h1 v σ1 hq
  refine lw_aload C 3 dL_law_1783 rfl ?_
  refine lw_call C (b := 73) (ci := 9) [] (rest := [.int x]) hM2 lk_L_217 rfl rfl (by decide) rfl (by show (1 : Nat) ≤ 8; decide) rfl dL_law_1784 rfl (fun w σ2 hq2 => ?_)
  obtain ⟨rfl, hR2⟩ := h2 w σ2 hq2
  exact lw_eqI C 1838 dL_law_1787 (by decide) (kk σ2 hR2)
/-- count -/
theorem lc_49 {K : LK} (C : LCx K) {σ : St} (hR : Rel σ) {i : Nat} (hi : i + 6 ≤ K.L) (kk : ∀ σ', Rel σ' → LW K σ' 1838 (lvL K i) []) : LW K σ 1792 (lvL K i) [] := by
  obtain ⟨Rz1, hM1, h1⟩ := p_count hR (K.xs (i + 1))
  refine lw_aload C 2 dL_law_1792 rfl ?_
  refine lw_arg C 1 (by decide) (by omega) dL_law_1793 dL_law_1794 dL_law_1795 dL_law_1796 dL_law_1797 ?_
  refine lw_call C (b := 0) (ci := 8) [K.xs (i + 1)] (rest := []) hM1 lk_L_218 rfl rfl (by decide) rfl (by show (0 : Nat) ≤ 8; decide) rfl dL_law_1798 rfl (fun v σ1 hq => ?_)
  obtain ⟨⟨x, rfl⟩, Rz2, hM2, h2⟩ := h1 v σ1 hq
  refine lw_aload C 3 dL_law_1801 rfl ?_
  refine lw_arg C 1 (by decide) (by omega) dL_law_1802 dL_law_1803 dL_law_1804 dL_law_1805 dL_law_1806 ?_
  refine lw_call C (b := 73) (ci := 9) [K.xs (i + 1)] (rest := [.int x]) hM2 lk_L_221 rfl rfl (by decide) rfl (by show (1 : Nat) ≤ 8; decide) rfl dL_law_1807 rfl (fun w σ2 hq2 => ?_)
  obtain ⟨rfl, hR2⟩ := h2 w σ2 hq2
  exact lw_eqI C 1838 dL_law_1810 (by decide) (kk σ2 hR2)
/-- status -/
theorem lc_50 {K : LK} (C : LCx K) {σ : St} (hR : Rel σ) {i : Nat} (hi : i + 6 ≤ K.L) (kk : ∀ σ', Rel σ' → LW K σ' 1838 (lvL K i) []) : LW K σ 1815 (lvL K i) [] := by
  obtain ⟨Rz1, hM1, h1⟩ := p_status hR (K.xs (i + 1))
  refine lw_aload C 2 dL_law_1815 rfl ?_
  refine lw_arg C 1 (by decide) (by omega) dL_law_1816 dL_law_1817 dL_law_1818 dL_law_1819 dL_law_1820 ?_
  refine lw_call C (b := 0) (ci := 8) [K.xs (i + 1)] (rest := []) hM1 lk_L_222 rfl rfl (by decide) rfl (by show (0 : Nat) ≤ 8; decide) rfl dL_law_1821 rfl (fun v σ1 hq => ?_)
  obtain ⟨⟨x, rfl⟩, Rz2, hM2, h2⟩ := h1 v σ1 hq
  refine lw_aload C 3 dL_law_1824 rfl ?_
  refine lw_arg C 1 (by decide) (by omega) dL_law_1825 dL_law_1826 dL_law_1827 dL_law_1828 dL_law_1829 ?_
  refine lw_call C (b := 73) (ci := 9) [K.xs (i + 1)] (rest := [.int x]) hM2 lk_L_225 rfl rfl (by decide) rfl (by show (1 : Nat) ≤ 8; decide) rfl dL_law_1830 rfl (fun w σ2 hq2 => ?_)
  obtain ⟨rfl, hR2⟩ := h2 w σ2 hq2
  exact lw_eqI C 1838 dL_law_1833 (by decide) (kk σ2 hR2)
