/-! by program: wip/whole/genl.py: cases of the law's switch -/
theorem dL_law_1494 : decode code 1494 = .ok (.aload_n 1, 1) := by decide +kernel
theorem dL_law_1495 : decode code 1495 = .ok (.aload_n 0, 1) := by decide +kernel
theorem dL_law_1496 : decode code 1496 = .ok (.iload 4, 2) := by decide +kernel
theorem dL_law_1498 : decode code 1498 = .ok (.iconst 1, 1) := by decide +kernel
theorem dL_law_1499 : decode code 1499 = .ok (.iadd, 1) := by decide +kernel
theorem dL_law_1500 : decode code 1500 = .ok (.iaload, 1) := by decide +kernel
theorem dL_law_1501 : decode code 1501 = .ok (.aload_n 0, 1) := by decide +kernel
theorem dL_law_1502 : decode code 1502 = .ok (.iload 4, 2) := by decide +kernel
theorem dL_law_1504 : decode code 1504 = .ok (.iconst 2, 1) := by decide +kernel
theorem dL_law_1505 : decode code 1505 = .ok (.iadd, 1) := by decide +kernel
theorem dL_law_1506 : decode code 1506 = .ok (.iaload, 1) := by decide +kernel
theorem dL_law_1507 : decode code 1507 = .ok (.aload_n 3, 1) := by decide +kernel
theorem dL_law_1508 : decode code 1508 = .ok (.invokestatic 214, 3) := by decide +kernel
theorem dL_law_1511 : decode code 1511 = .ok (.istore 5, 2) := by decide +kernel
theorem dL_law_1513 : decode code 1513 = .ok (.aload_n 2, 1) := by decide +kernel
theorem dL_law_1514 : decode code 1514 = .ok (.aload_n 0, 1) := by decide +kernel
theorem dL_law_1515 : decode code 1515 = .ok (.iload 4, 2) := by decide +kernel
theorem dL_law_1517 : decode code 1517 = .ok (.iconst 1, 1) := by decide +kernel
theorem dL_law_1518 : decode code 1518 = .ok (.iadd, 1) := by decide +kernel
theorem dL_law_1519 : decode code 1519 = .ok (.iaload, 1) := by decide +kernel
theorem dL_law_1520 : decode code 1520 = .ok (.aload_n 0, 1) := by decide +kernel
theorem dL_law_1521 : decode code 1521 = .ok (.iload 4, 2) := by decide +kernel
theorem dL_law_1523 : decode code 1523 = .ok (.iconst 2, 1) := by decide +kernel
theorem dL_law_1524 : decode code 1524 = .ok (.iadd, 1) := by decide +kernel
theorem dL_law_1525 : decode code 1525 = .ok (.iaload, 1) := by decide +kernel
theorem dL_law_1526 : decode code 1526 = .ok (.invokevirtual 216, 3) := by decide +kernel
theorem dL_law_1529 : decode code 1529 = .ok (.istore 6, 2) := by decide +kernel
theorem dL_law_1531 : decode code 1531 = .ok (.aload_n 2, 1) := by decide +kernel
theorem dL_law_1532 : decode code 1532 = .ok (.invokevirtual 131, 3) := by decide +kernel
theorem dL_law_1535 : decode code 1535 = .ok (.iload 5, 2) := by decide +kernel
theorem dL_law_1537 : decode code 1537 = .ok (.if_icmp .eq 5, 3) := by decide +kernel
theorem dL_law_1542 : decode code 1542 = .ok (.iload 5, 2) := by decide +kernel
theorem dL_law_1544 : decode code 1544 = .ok (.ifCond .ne 15, 3) := by decide +kernel
theorem dL_law_1547 : decode code 1547 = .ok (.aload_n 3, 1) := by decide +kernel
theorem dL_law_1548 : decode code 1548 = .ok (.iconst 0, 1) := by decide +kernel
theorem dL_law_1549 : decode code 1549 = .ok (.laload, 1) := by decide +kernel
theorem dL_law_1550 : decode code 1550 = .ok (.iload 6, 2) := by decide +kernel
theorem dL_law_1552 : decode code 1552 = .ok (.i2l, 1) := by decide +kernel
theorem dL_law_1553 : decode code 1553 = .ok (.lcmp, 1) := by decide +kernel
theorem dL_law_1554 : decode code 1554 = .ok (.ifCond .eq 5, 3) := by decide +kernel
theorem dL_law_1559 : decode code 1559 = .ok (.goto 1019, 3) := by decide +kernel
theorem dL_law_1562 : decode code 1562 = .ok (.aload_n 1, 1) := by decide +kernel
theorem dL_law_1563 : decode code 1563 = .ok (.aload_n 0, 1) := by decide +kernel
theorem dL_law_1564 : decode code 1564 = .ok (.iload 4, 2) := by decide +kernel
theorem dL_law_1566 : decode code 1566 = .ok (.iconst 1, 1) := by decide +kernel
theorem dL_law_1567 : decode code 1567 = .ok (.iadd, 1) := by decide +kernel
theorem dL_law_1568 : decode code 1568 = .ok (.iaload, 1) := by decide +kernel
theorem dL_law_1569 : decode code 1569 = .ok (.aload_n 0, 1) := by decide +kernel
theorem dL_law_1570 : decode code 1570 = .ok (.iload 4, 2) := by decide +kernel
theorem dL_law_1572 : decode code 1572 = .ok (.iconst 2, 1) := by decide +kernel
theorem dL_law_1573 : decode code 1573 = .ok (.iadd, 1) := by decide +kernel
theorem dL_law_1574 : decode code 1574 = .ok (.iaload, 1) := by decide +kernel
theorem dL_law_1575 : decode code 1575 = .ok (.aload_n 3, 1) := by decide +kernel
theorem dL_law_1576 : decode code 1576 = .ok (.invokestatic 217, 3) := by decide +kernel
theorem dL_law_1579 : decode code 1579 = .ok (.istore 5, 2) := by decide +kernel
theorem dL_law_1581 : decode code 1581 = .ok (.aload_n 2, 1) := by decide +kernel
theorem dL_law_1582 : decode code 1582 = .ok (.aload_n 0, 1) := by decide +kernel
theorem dL_law_1583 : decode code 1583 = .ok (.iload 4, 2) := by decide +kernel
theorem dL_law_1585 : decode code 1585 = .ok (.iconst 1, 1) := by decide +kernel
theorem dL_law_1586 : decode code 1586 = .ok (.iadd, 1) := by decide +kernel
theorem dL_law_1587 : decode code 1587 = .ok (.iaload, 1) := by decide +kernel
theorem dL_law_1588 : decode code 1588 = .ok (.aload_n 0, 1) := by decide +kernel
theorem dL_law_1589 : decode code 1589 = .ok (.iload 4, 2) := by decide +kernel
theorem dL_law_1591 : decode code 1591 = .ok (.iconst 2, 1) := by decide +kernel
theorem dL_law_1592 : decode code 1592 = .ok (.iadd, 1) := by decide +kernel
theorem dL_law_1593 : decode code 1593 = .ok (.iaload, 1) := by decide +kernel
theorem dL_law_1594 : decode code 1594 = .ok (.invokevirtual 219, 3) := by decide +kernel
theorem dL_law_1597 : decode code 1597 = .ok (.istore 6, 2) := by decide +kernel
theorem dL_law_1599 : decode code 1599 = .ok (.aload_n 2, 1) := by decide +kernel
theorem dL_law_1600 : decode code 1600 = .ok (.invokevirtual 131, 3) := by decide +kernel
theorem dL_law_1603 : decode code 1603 = .ok (.iload 5, 2) := by decide +kernel
theorem dL_law_1605 : decode code 1605 = .ok (.if_icmp .eq 5, 3) := by decide +kernel
theorem dL_law_1610 : decode code 1610 = .ok (.iload 5, 2) := by decide +kernel
theorem dL_law_1612 : decode code 1612 = .ok (.ifCond .ne 15, 3) := by decide +kernel
theorem dL_law_1615 : decode code 1615 = .ok (.aload_n 3, 1) := by decide +kernel
theorem dL_law_1616 : decode code 1616 = .ok (.iconst 0, 1) := by decide +kernel
theorem dL_law_1617 : decode code 1617 = .ok (.laload, 1) := by decide +kernel
theorem dL_law_1618 : decode code 1618 = .ok (.iload 6, 2) := by decide +kernel
theorem dL_law_1620 : decode code 1620 = .ok (.i2l, 1) := by decide +kernel
theorem dL_law_1621 : decode code 1621 = .ok (.lcmp, 1) := by decide +kernel
theorem dL_law_1622 : decode code 1622 = .ok (.ifCond .eq 5, 3) := by decide +kernel
theorem dL_law_1627 : decode code 1627 = .ok (.goto 951, 3) := by decide +kernel
theorem dL_law_1630 : decode code 1630 = .ok (.aload_n 1, 1) := by decide +kernel
theorem dL_law_1631 : decode code 1631 = .ok (.aload_n 0, 1) := by decide +kernel
theorem dL_law_1632 : decode code 1632 = .ok (.iload 4, 2) := by decide +kernel
theorem dL_law_1634 : decode code 1634 = .ok (.iconst 1, 1) := by decide +kernel
theorem dL_law_1635 : decode code 1635 = .ok (.iadd, 1) := by decide +kernel
theorem dL_law_1636 : decode code 1636 = .ok (.iaload, 1) := by decide +kernel
theorem dL_law_1637 : decode code 1637 = .ok (.aload_n 3, 1) := by decide +kernel
theorem dL_law_1638 : decode code 1638 = .ok (.invokestatic 220, 3) := by decide +kernel
theorem dL_law_1641 : decode code 1641 = .ok (.istore 5, 2) := by decide +kernel
theorem dL_law_1643 : decode code 1643 = .ok (.aload_n 2, 1) := by decide +kernel
theorem dL_law_1644 : decode code 1644 = .ok (.aload_n 0, 1) := by decide +kernel
theorem dL_law_1645 : decode code 1645 = .ok (.iload 4, 2) := by decide +kernel
theorem dL_law_1647 : decode code 1647 = .ok (.iconst 1, 1) := by decide +kernel
theorem dL_law_1648 : decode code 1648 = .ok (.iadd, 1) := by decide +kernel
theorem dL_law_1649 : decode code 1649 = .ok (.iaload, 1) := by decide +kernel
theorem dL_law_1650 : decode code 1650 = .ok (.invokevirtual 222, 3) := by decide +kernel
theorem dL_law_1653 : decode code 1653 = .ok (.istore 6, 2) := by decide +kernel
theorem dL_law_1655 : decode code 1655 = .ok (.aload_n 2, 1) := by decide +kernel
theorem dL_law_1656 : decode code 1656 = .ok (.invokevirtual 131, 3) := by decide +kernel
theorem dL_law_1659 : decode code 1659 = .ok (.iload 5, 2) := by decide +kernel
theorem dL_law_1661 : decode code 1661 = .ok (.if_icmp .eq 5, 3) := by decide +kernel
theorem dL_law_1666 : decode code 1666 = .ok (.iload 5, 2) := by decide +kernel
theorem dL_law_1668 : decode code 1668 = .ok (.ifCond .ne 15, 3) := by decide +kernel
theorem dL_law_1671 : decode code 1671 = .ok (.aload_n 3, 1) := by decide +kernel
theorem dL_law_1672 : decode code 1672 = .ok (.iconst 0, 1) := by decide +kernel
theorem dL_law_1673 : decode code 1673 = .ok (.laload, 1) := by decide +kernel
theorem dL_law_1674 : decode code 1674 = .ok (.iload 6, 2) := by decide +kernel
theorem dL_law_1676 : decode code 1676 = .ok (.i2l, 1) := by decide +kernel
theorem dL_law_1677 : decode code 1677 = .ok (.lcmp, 1) := by decide +kernel
theorem dL_law_1678 : decode code 1678 = .ok (.ifCond .eq 5, 3) := by decide +kernel
theorem dL_law_1683 : decode code 1683 = .ok (.goto 895, 3) := by decide +kernel
theorem dL_law_1686 : decode code 1686 = .ok (.aload_n 1, 1) := by decide +kernel
theorem dL_law_1687 : decode code 1687 = .ok (.aload_n 0, 1) := by decide +kernel
theorem dL_law_1688 : decode code 1688 = .ok (.iload 4, 2) := by decide +kernel
theorem dL_law_1690 : decode code 1690 = .ok (.iconst 1, 1) := by decide +kernel
theorem dL_law_1691 : decode code 1691 = .ok (.iadd, 1) := by decide +kernel
theorem dL_law_1692 : decode code 1692 = .ok (.iaload, 1) := by decide +kernel
theorem dL_law_1693 : decode code 1693 = .ok (.aload_n 0, 1) := by decide +kernel
theorem dL_law_1694 : decode code 1694 = .ok (.iload 4, 2) := by decide +kernel
theorem dL_law_1696 : decode code 1696 = .ok (.iconst 2, 1) := by decide +kernel
theorem dL_law_1697 : decode code 1697 = .ok (.iadd, 1) := by decide +kernel
theorem dL_law_1698 : decode code 1698 = .ok (.iaload, 1) := by decide +kernel
theorem dL_law_1699 : decode code 1699 = .ok (.aload_n 0, 1) := by decide +kernel
theorem dL_law_1700 : decode code 1700 = .ok (.iload 4, 2) := by decide +kernel
theorem dL_law_1702 : decode code 1702 = .ok (.iconst 3, 1) := by decide +kernel
theorem dL_law_1703 : decode code 1703 = .ok (.iadd, 1) := by decide +kernel
theorem dL_law_1704 : decode code 1704 = .ok (.iaload, 1) := by decide +kernel
theorem dL_law_1705 : decode code 1705 = .ok (.aload_n 0, 1) := by decide +kernel
theorem dL_law_1706 : decode code 1706 = .ok (.iload 4, 2) := by decide +kernel
theorem dL_law_1708 : decode code 1708 = .ok (.iconst 4, 1) := by decide +kernel
theorem dL_law_1709 : decode code 1709 = .ok (.iadd, 1) := by decide +kernel
theorem dL_law_1710 : decode code 1710 = .ok (.iaload, 1) := by decide +kernel
theorem dL_law_1711 : decode code 1711 = .ok (.aload_n 3, 1) := by decide +kernel
theorem dL_law_1712 : decode code 1712 = .ok (.invokestatic 223, 3) := by decide +kernel
theorem dL_law_1715 : decode code 1715 = .ok (.istore 5, 2) := by decide +kernel
theorem dL_law_1717 : decode code 1717 = .ok (.aload_n 2, 1) := by decide +kernel
theorem dL_law_1718 : decode code 1718 = .ok (.aload_n 0, 1) := by decide +kernel
theorem dL_law_1719 : decode code 1719 = .ok (.iload 4, 2) := by decide +kernel
theorem dL_law_1721 : decode code 1721 = .ok (.iconst 1, 1) := by decide +kernel
theorem dL_law_1722 : decode code 1722 = .ok (.iadd, 1) := by decide +kernel
theorem dL_law_1723 : decode code 1723 = .ok (.iaload, 1) := by decide +kernel
theorem dL_law_1724 : decode code 1724 = .ok (.aload_n 0, 1) := by decide +kernel
theorem dL_law_1725 : decode code 1725 = .ok (.iload 4, 2) := by decide +kernel
theorem dL_law_1727 : decode code 1727 = .ok (.iconst 2, 1) := by decide +kernel
theorem dL_law_1728 : decode code 1728 = .ok (.iadd, 1) := by decide +kernel
theorem dL_law_1729 : decode code 1729 = .ok (.iaload, 1) := by decide +kernel
theorem dL_law_1730 : decode code 1730 = .ok (.aload_n 0, 1) := by decide +kernel
theorem dL_law_1731 : decode code 1731 = .ok (.iload 4, 2) := by decide +kernel
theorem dL_law_1733 : decode code 1733 = .ok (.iconst 3, 1) := by decide +kernel
theorem dL_law_1734 : decode code 1734 = .ok (.iadd, 1) := by decide +kernel
theorem dL_law_1735 : decode code 1735 = .ok (.iaload, 1) := by decide +kernel
theorem dL_law_1736 : decode code 1736 = .ok (.aload_n 0, 1) := by decide +kernel
theorem dL_law_1737 : decode code 1737 = .ok (.iload 4, 2) := by decide +kernel
theorem dL_law_1739 : decode code 1739 = .ok (.iconst 4, 1) := by decide +kernel
theorem dL_law_1740 : decode code 1740 = .ok (.iadd, 1) := by decide +kernel
theorem dL_law_1741 : decode code 1741 = .ok (.iaload, 1) := by decide +kernel
theorem dL_law_1742 : decode code 1742 = .ok (.invokevirtual 226, 3) := by decide +kernel
theorem dL_law_1745 : decode code 1745 = .ok (.istore 6, 2) := by decide +kernel
theorem dL_law_1747 : decode code 1747 = .ok (.aload_n 2, 1) := by decide +kernel
theorem dL_law_1748 : decode code 1748 = .ok (.invokevirtual 131, 3) := by decide +kernel
theorem dL_law_1751 : decode code 1751 = .ok (.iload 5, 2) := by decide +kernel
theorem dL_law_1753 : decode code 1753 = .ok (.if_icmp .eq 5, 3) := by decide +kernel
theorem dL_law_1758 : decode code 1758 = .ok (.iload 5, 2) := by decide +kernel
theorem dL_law_1760 : decode code 1760 = .ok (.ifCond .ne 15, 3) := by decide +kernel
theorem dL_law_1763 : decode code 1763 = .ok (.aload_n 3, 1) := by decide +kernel
theorem dL_law_1764 : decode code 1764 = .ok (.iconst 0, 1) := by decide +kernel
theorem dL_law_1765 : decode code 1765 = .ok (.laload, 1) := by decide +kernel
theorem dL_law_1766 : decode code 1766 = .ok (.iload 6, 2) := by decide +kernel
theorem dL_law_1768 : decode code 1768 = .ok (.i2l, 1) := by decide +kernel
theorem dL_law_1769 : decode code 1769 = .ok (.lcmp, 1) := by decide +kernel
theorem dL_law_1770 : decode code 1770 = .ok (.ifCond .eq 5, 3) := by decide +kernel
theorem dL_law_1775 : decode code 1775 = .ok (.goto 803, 3) := by decide +kernel
theorem dL_law_1778 : decode code 1778 = .ok (.aload_n 1, 1) := by decide +kernel
theorem dL_law_1779 : decode code 1779 = .ok (.aload_n 0, 1) := by decide +kernel
theorem dL_law_1780 : decode code 1780 = .ok (.iload 4, 2) := by decide +kernel
theorem dL_law_1782 : decode code 1782 = .ok (.iconst 1, 1) := by decide +kernel
theorem dL_law_1783 : decode code 1783 = .ok (.iadd, 1) := by decide +kernel
theorem dL_law_1784 : decode code 1784 = .ok (.iaload, 1) := by decide +kernel
theorem dL_law_1785 : decode code 1785 = .ok (.ifCond .eq 7, 3) := by decide +kernel
theorem dL_law_1788 : decode code 1788 = .ok (.iconst 1, 1) := by decide +kernel
theorem dL_law_1789 : decode code 1789 = .ok (.goto 4, 3) := by decide +kernel
theorem dL_law_1792 : decode code 1792 = .ok (.iconst 0, 1) := by decide +kernel
theorem dL_law_1793 : decode code 1793 = .ok (.invokevirtual 227, 3) := by decide +kernel
theorem dL_law_1796 : decode code 1796 = .ok (.aload_n 2, 1) := by decide +kernel
theorem dL_law_1797 : decode code 1797 = .ok (.aload_n 0, 1) := by decide +kernel
theorem dL_law_1798 : decode code 1798 = .ok (.iload 4, 2) := by decide +kernel
theorem dL_law_1800 : decode code 1800 = .ok (.iconst 1, 1) := by decide +kernel
theorem dL_law_1801 : decode code 1801 = .ok (.iadd, 1) := by decide +kernel
theorem dL_law_1802 : decode code 1802 = .ok (.iaload, 1) := by decide +kernel
theorem dL_law_1803 : decode code 1803 = .ok (.ifCond .eq 7, 3) := by decide +kernel
theorem dL_law_1806 : decode code 1806 = .ok (.iconst 1, 1) := by decide +kernel
theorem dL_law_1807 : decode code 1807 = .ok (.goto 4, 3) := by decide +kernel
theorem dL_law_1810 : decode code 1810 = .ok (.iconst 0, 1) := by decide +kernel
theorem dL_law_1811 : decode code 1811 = .ok (.invokevirtual 231, 3) := by decide +kernel
theorem dL_law_1814 : decode code 1814 = .ok (.if_icmp .eq 764, 3) := by decide +kernel
theorem dL_law_1819 : decode code 1819 = .ok (.aload_n 1, 1) := by decide +kernel
theorem dL_law_1820 : decode code 1820 = .ok (.aload_n 3, 1) := by decide +kernel
theorem dL_law_1821 : decode code 1821 = .ok (.invokestatic 232, 3) := by decide +kernel
theorem dL_law_1824 : decode code 1824 = .ok (.istore 5, 2) := by decide +kernel
theorem dL_law_1826 : decode code 1826 = .ok (.aload_n 2, 1) := by decide +kernel
theorem dL_law_1827 : decode code 1827 = .ok (.invokevirtual 235, 3) := by decide +kernel
theorem dL_law_1830 : decode code 1830 = .ok (.istore 6, 2) := by decide +kernel
theorem dL_law_1832 : decode code 1832 = .ok (.aload_n 2, 1) := by decide +kernel
theorem dL_law_1833 : decode code 1833 = .ok (.invokevirtual 131, 3) := by decide +kernel
theorem dL_law_1836 : decode code 1836 = .ok (.iload 5, 2) := by decide +kernel
theorem dL_law_1838 : decode code 1838 = .ok (.if_icmp .eq 5, 3) := by decide +kernel
theorem dL_law_1843 : decode code 1843 = .ok (.iload 5, 2) := by decide +kernel
theorem dL_law_1845 : decode code 1845 = .ok (.ifCond .ne 15, 3) := by decide +kernel
theorem dL_law_1848 : decode code 1848 = .ok (.aload_n 3, 1) := by decide +kernel
theorem dL_law_1849 : decode code 1849 = .ok (.iconst 0, 1) := by decide +kernel
theorem dL_law_1850 : decode code 1850 = .ok (.laload, 1) := by decide +kernel
theorem dL_law_1851 : decode code 1851 = .ok (.iload 6, 2) := by decide +kernel
theorem dL_law_1853 : decode code 1853 = .ok (.i2l, 1) := by decide +kernel
theorem dL_law_1854 : decode code 1854 = .ok (.lcmp, 1) := by decide +kernel
theorem dL_law_1855 : decode code 1855 = .ok (.ifCond .eq 5, 3) := by decide +kernel
theorem dL_law_1860 : decode code 1860 = .ok (.goto 718, 3) := by decide +kernel
set_option maxRecDepth 100000 in
set_option maxHeartbeats 8000000 in
theorem case_24 {p : Program} {l : Launch} {e : Env} {s : State} {m : MethodId} {below : List Frame} {meth : Method} {c : Code} {Q : State → Prop} {D : va_G} {cys : Nat → ClassId} {ad : Nat → Int → Nat} {b Ls : Nat} {xs : Nat → Int32} (hi : injA ad) (hst : l.stackTraces = false) (G : GG p l s m #[Value.ref b] meth c D cys ad (fun q => s.heap.size ≤ q) code RL 9) (hN : NCS s) (hk4 : HK4 cys s) (hX : va_X b Ls xs s s.heap) (hbl : b < s.heap.size) (hL : Ls ≤ 2560) {L : List Nat} {g : Nat → va_E} {X : Int64} {Z : ZT} {ao : Nat} (hI : INV cys ad ao L g Z) {i : Int} (hi0 : 0 ≤ i) (hi5 : i + 5 ≤ Ls) {cells slots : Nat} (hc : cells + 200 ≤ 601024) (hs : slots + 3000 ≤ 7293034)
    (K : ∀ (L1 : List Nat) (g1 : Nat → va_E) (X1 : Int64) (Z1 : ZT), INV cys ad ao L1 g1 Z1 → JJ p l e room_1 s m #[Value.ref b] below meth c D cys ad (fun q => s.heap.size ≤ q) Q 9 (cells + 200) (slots + 3000) L1 g1 X1 Z1 2578 (LV5 b ad ao i) []) :
    JJ p l e room_1 s m #[Value.ref b] below meth c D cys ad (fun q => s.heap.size ≤ q) Q 9 cells slots L g X Z 1494 (LV5 b ad ao i) [] := by
  obtain ⟨hG, hRL, ⟨hao, hns, h33⟩, v0, hgo⟩ := hI
  have hW := hG.1.1
  have hbA : ¬ (fun q => s.heap.size ≤ q) b := Nat.not_le.mpr hbl
  refine j_aload_n G dL_law_1494 rfl ?_
  refine j_aload_n G dL_law_1495 rfl ?_
  refine j_iload G dL_law_1496 rfl ?_
  refine j_iconst G dL_law_1498 ?_
  refine j_iadd G dL_law_1499 ?_
  refine j_sld G hX hbl hbA dL_law_1500 (by omega) (by omega) hL ?_
  refine j_aload_n G dL_law_1501 rfl ?_
  refine j_iload G dL_law_1502 rfl ?_
  refine j_iconst G dL_law_1504 ?_
  refine j_iadd G dL_law_1505 ?_
  refine j_sld G hX hbl hbA dL_law_1506 (by omega) (by omega) hL ?_
  refine j_aload_n G dL_law_1507 rfl ?_
  refine j_callW (n := 4) G hN (TW_of 808 (by decide +kernel) (by decide +kernel)) (TW_of 71 (by decide +kernel) (by decide +kernel)) (TW_of 809 (by decide +kernel) (by decide +kernel)) ⟨by decide +kernel, by decide +kernel, by decide +kernel⟩ (TW_of 807 (by decide +kernel) (by decide +kernel)) (cw_share hi hst (SP.rf Z) hW (sv_in _ _) (sv_in _ _) hao hns hgo) dL_law_1508 ⟨by decide, by decide⟩ ⟨by rw [r1c]; omega, by rw [r1s]; omega⟩ rfl rfl (Nat.le_of_ble_eq_true rfl) (fun k L1 g1 X1 Z1 h => ?_)
  obtain ⟨eL, eX, v9, eg, hA⟩ := h
  subst L1 X1 g1
  have hR1 : RMZ Z Z1 := hG.2.hi (hi_share hA)
  have hRL1 := hRL.out h33 hgo v9
  have hgo1 : va_up g ao (OUT cys v9) ao = OUT cys v9 := va_up_self _ _ _
  refine j_istore G dL_law_1511 (by decide) rfl ?_
  refine j_aload_n G dL_law_1513 rfl ?_
  refine j_aload_n G dL_law_1514 rfl ?_
  refine j_iload G dL_law_1515 rfl ?_
  refine j_iconst G dL_law_1517 ?_
  refine j_iadd G dL_law_1518 ?_
  refine j_sld G hX hbl hbA dL_law_1519 (by omega) (by omega) hL ?_
  refine j_aload_n G dL_law_1520 rfl ?_
  refine j_iload G dL_law_1521 rfl ?_
  refine j_iconst G dL_law_1523 ?_
  refine j_iadd G dL_law_1524 ?_
  refine j_sld G hX hbl hbA dL_law_1525 (by omega) (by omega) hL ?_
  refine j_cVGI G cvX7_share mlL_216 (c_X7_share hi hR1 hRL1 hW (sv_in _ _) (sv_in _ _)) dL_law_1526 ⟨by decide, by decide⟩ ⟨by rw [r1c]; omega, by rw [r1s]; omega⟩ rfl rfl (Nat.le_of_ble_eq_true rfl) (by decide) rfl rfl rfl (fun x L2 g2 X2 Z2 h2 => ?_)
  obtain ⟨hB0, hE, eX⟩ := h2
  subst X2
  have hao2 : ao ∈ L2 := hE.1 _ hao
  have hgo2 : g2 ao = OUT cys v9 := (hE.2 _ hao).trans hgo1
  have hag := ag_share hG hA hB0
  have hRL2 := hag.2.1 cys ad _ _ (hRL1.ext hE)
  refine j_istore G dL_law_1529 (by decide) rfl ?_
  refine j_aload_n G dL_law_1531 rfl ?_
  refine j_cVI G cvX7_thrown mlL_131 (c_X7_thrown hi) dL_law_1532 ⟨by decide, by decide⟩ ⟨by rw [r1c]; omega, by rw [r1s]; omega⟩ rfl rfl (Nat.le_of_ble_eq_true rfl) (by decide) rfl rfl rfl (fun t ht => ?_)
  refine j_iload G dL_law_1535 rfl ?_
  refine j_icmpS G 1542 dL_law_1537 (by decide) (ht.trans hag.2.2.1) ?_
  refine j_iload G dL_law_1542 rfl ?_
  have hk02 := hag.2.2.2.2
  refine j_if_ne G 1559 dL_law_1544 (by decide) (by omega) (fun c0 => ?_) (fun c0 => ?_)
  · refine j_goto G 2578 dL_law_1559 (by decide) ?_
    refine j_keep [0, 1, 2, 3, 4] ?_
    refine j_wid (cells' := cells + 200) (slots' := slots + 3000) (by omega) (by omega) ?_
    exact K _ _ _ _ ⟨hag.1, hRL2, ⟨hao2, hns, h33⟩, v9, hgo2⟩
  · refine j_aload_n G dL_law_1547 rfl ?_
    refine j_iconst G dL_law_1548 ?_
    refine j_laldO G dL_law_1549 hao2 hns hgo2 ?_
    refine j_iload G dL_law_1550 rfl ?_
    refine j_i2l G dL_law_1552 ?_
    refine j_lcmpS G dL_law_1553 (hag.2.2.2.1 c0) ?_
    refine j_if_eq G 1559 dL_law_1554 (by decide) (by decide) (fun _ => ?_) (fun h => absurd rfl h)
    refine j_goto G 2578 dL_law_1559 (by decide) ?_
    refine j_keep [0, 1, 2, 3, 4] ?_
    refine j_wid (cells' := cells + 200) (slots' := slots + 3000) (by omega) (by omega) ?_
    exact K _ _ _ _ ⟨hag.1, hRL2, ⟨hao2, hns, h33⟩, v9, hgo2⟩
set_option maxRecDepth 100000 in
set_option maxHeartbeats 8000000 in
theorem case_25 {p : Program} {l : Launch} {e : Env} {s : State} {m : MethodId} {below : List Frame} {meth : Method} {c : Code} {Q : State → Prop} {D : va_G} {cys : Nat → ClassId} {ad : Nat → Int → Nat} {b Ls : Nat} {xs : Nat → Int32} (hi : injA ad) (hst : l.stackTraces = false) (G : GG p l s m #[Value.ref b] meth c D cys ad (fun q => s.heap.size ≤ q) code RL 9) (hN : NCS s) (hk4 : HK4 cys s) (hX : va_X b Ls xs s s.heap) (hbl : b < s.heap.size) (hL : Ls ≤ 2560) {L : List Nat} {g : Nat → va_E} {X : Int64} {Z : ZT} {ao : Nat} (hI : INV cys ad ao L g Z) {i : Int} (hi0 : 0 ≤ i) (hi5 : i + 5 ≤ Ls) {cells slots : Nat} (hc : cells + 200 ≤ 601024) (hs : slots + 3000 ≤ 7293034)
    (K : ∀ (L1 : List Nat) (g1 : Nat → va_E) (X1 : Int64) (Z1 : ZT), INV cys ad ao L1 g1 Z1 → JJ p l e room_1 s m #[Value.ref b] below meth c D cys ad (fun q => s.heap.size ≤ q) Q 9 (cells + 200) (slots + 3000) L1 g1 X1 Z1 2578 (LV5 b ad ao i) []) :
    JJ p l e room_1 s m #[Value.ref b] below meth c D cys ad (fun q => s.heap.size ≤ q) Q 9 cells slots L g X Z 1562 (LV5 b ad ao i) [] := by
  obtain ⟨hG, hRL, ⟨hao, hns, h33⟩, v0, hgo⟩ := hI
  have hW := hG.1.1
  have hbA : ¬ (fun q => s.heap.size ≤ q) b := Nat.not_le.mpr hbl
  refine j_aload_n G dL_law_1562 rfl ?_
  refine j_aload_n G dL_law_1563 rfl ?_
  refine j_iload G dL_law_1564 rfl ?_
  refine j_iconst G dL_law_1566 ?_
  refine j_iadd G dL_law_1567 ?_
  refine j_sld G hX hbl hbA dL_law_1568 (by omega) (by omega) hL ?_
  refine j_aload_n G dL_law_1569 rfl ?_
  refine j_iload G dL_law_1570 rfl ?_
  refine j_iconst G dL_law_1572 ?_
  refine j_iadd G dL_law_1573 ?_
  refine j_sld G hX hbl hbA dL_law_1574 (by omega) (by omega) hL ?_
  refine j_aload_n G dL_law_1575 rfl ?_
  refine j_callW (n := 4) G hN (TW_of 815 (by decide +kernel) (by decide +kernel)) (TW_of 71 (by decide +kernel) (by decide +kernel)) (TW_of 816 (by decide +kernel) (by decide +kernel)) ⟨by decide +kernel, by decide +kernel, by decide +kernel⟩ (TW_of 814 (by decide +kernel) (by decide +kernel)) (cw_fewest hi hst (SP.rf Z) hW (sv_in _ _) (sv_in _ _) hao hns hgo) dL_law_1576 ⟨by decide, by decide⟩ ⟨by rw [r1c]; omega, by rw [r1s]; omega⟩ rfl rfl (Nat.le_of_ble_eq_true rfl) (fun k L1 g1 X1 Z1 h => ?_)
  obtain ⟨eL, eX, v9, eg, hA⟩ := h
  subst L1 X1 g1
  have hR1 : RMZ Z Z1 := hG.2.hi (hi_fewest hA)
  have hRL1 := hRL.out h33 hgo v9
  have hgo1 : va_up g ao (OUT cys v9) ao = OUT cys v9 := va_up_self _ _ _
  refine j_istore G dL_law_1579 (by decide) rfl ?_
  refine j_aload_n G dL_law_1581 rfl ?_
  refine j_aload_n G dL_law_1582 rfl ?_
  refine j_iload G dL_law_1583 rfl ?_
  refine j_iconst G dL_law_1585 ?_
  refine j_iadd G dL_law_1586 ?_
  refine j_sld G hX hbl hbA dL_law_1587 (by omega) (by omega) hL ?_
  refine j_aload_n G dL_law_1588 rfl ?_
  refine j_iload G dL_law_1589 rfl ?_
  refine j_iconst G dL_law_1591 ?_
  refine j_iadd G dL_law_1592 ?_
  refine j_sld G hX hbl hbA dL_law_1593 (by omega) (by omega) hL ?_
  refine j_cVGI G cvX7_fewest mlL_219 (c_X7_fewest hi hR1 hRL1 hW (sv_in _ _) (sv_in _ _)) dL_law_1594 ⟨by decide, by decide⟩ ⟨by rw [r1c]; omega, by rw [r1s]; omega⟩ rfl rfl (Nat.le_of_ble_eq_true rfl) (by decide) rfl rfl rfl (fun x L2 g2 X2 Z2 h2 => ?_)
  obtain ⟨hB0, hE, eX⟩ := h2
  subst X2
  have hao2 : ao ∈ L2 := hE.1 _ hao
  have hgo2 : g2 ao = OUT cys v9 := (hE.2 _ hao).trans hgo1
  have hag := ag_fewest hG hA hB0
  have hRL2 := hag.2.1 cys ad _ _ (hRL1.ext hE)
  refine j_istore G dL_law_1597 (by decide) rfl ?_
  refine j_aload_n G dL_law_1599 rfl ?_
  refine j_cVI G cvX7_thrown mlL_131 (c_X7_thrown hi) dL_law_1600 ⟨by decide, by decide⟩ ⟨by rw [r1c]; omega, by rw [r1s]; omega⟩ rfl rfl (Nat.le_of_ble_eq_true rfl) (by decide) rfl rfl rfl (fun t ht => ?_)
  refine j_iload G dL_law_1603 rfl ?_
  refine j_icmpS G 1610 dL_law_1605 (by decide) (ht.trans hag.2.2.1) ?_
  refine j_iload G dL_law_1610 rfl ?_
  have hk02 := hag.2.2.2.2
  refine j_if_ne G 1627 dL_law_1612 (by decide) (by omega) (fun c0 => ?_) (fun c0 => ?_)
  · refine j_goto G 2578 dL_law_1627 (by decide) ?_
    refine j_keep [0, 1, 2, 3, 4] ?_
    refine j_wid (cells' := cells + 200) (slots' := slots + 3000) (by omega) (by omega) ?_
    exact K _ _ _ _ ⟨hag.1, hRL2, ⟨hao2, hns, h33⟩, v9, hgo2⟩
  · refine j_aload_n G dL_law_1615 rfl ?_
    refine j_iconst G dL_law_1616 ?_
    refine j_laldO G dL_law_1617 hao2 hns hgo2 ?_
    refine j_iload G dL_law_1618 rfl ?_
    refine j_i2l G dL_law_1620 ?_
    refine j_lcmpS G dL_law_1621 (hag.2.2.2.1 c0) ?_
    refine j_if_eq G 1627 dL_law_1622 (by decide) (by decide) (fun _ => ?_) (fun h => absurd rfl h)
    refine j_goto G 2578 dL_law_1627 (by decide) ?_
    refine j_keep [0, 1, 2, 3, 4] ?_
    refine j_wid (cells' := cells + 200) (slots' := slots + 3000) (by omega) (by omega) ?_
    exact K _ _ _ _ ⟨hag.1, hRL2, ⟨hao2, hns, h33⟩, v9, hgo2⟩
set_option maxRecDepth 100000 in
set_option maxHeartbeats 8000000 in
theorem case_26 {p : Program} {l : Launch} {e : Env} {s : State} {m : MethodId} {below : List Frame} {meth : Method} {c : Code} {Q : State → Prop} {D : va_G} {cys : Nat → ClassId} {ad : Nat → Int → Nat} {b Ls : Nat} {xs : Nat → Int32} (hi : injA ad) (hst : l.stackTraces = false) (G : GG p l s m #[Value.ref b] meth c D cys ad (fun q => s.heap.size ≤ q) code RL 9) (hN : NCS s) (hk4 : HK4 cys s) (hX : va_X b Ls xs s s.heap) (hbl : b < s.heap.size) (hL : Ls ≤ 2560) {L : List Nat} {g : Nat → va_E} {X : Int64} {Z : ZT} {ao : Nat} (hI : INV cys ad ao L g Z) {i : Int} (hi0 : 0 ≤ i) (hi5 : i + 5 ≤ Ls) {cells slots : Nat} (hc : cells + 200 ≤ 601024) (hs : slots + 3000 ≤ 7293034)
    (K : ∀ (L1 : List Nat) (g1 : Nat → va_E) (X1 : Int64) (Z1 : ZT), INV cys ad ao L1 g1 Z1 → JJ p l e room_1 s m #[Value.ref b] below meth c D cys ad (fun q => s.heap.size ≤ q) Q 9 (cells + 200) (slots + 3000) L1 g1 X1 Z1 2578 (LV5 b ad ao i) []) :
    JJ p l e room_1 s m #[Value.ref b] below meth c D cys ad (fun q => s.heap.size ≤ q) Q 9 cells slots L g X Z 1630 (LV5 b ad ao i) [] := by
  obtain ⟨hG, hRL, ⟨hao, hns, h33⟩, v0, hgo⟩ := hI
  have hW := hG.1.1
  have hbA : ¬ (fun q => s.heap.size ≤ q) b := Nat.not_le.mpr hbl
  refine j_aload_n G dL_law_1630 rfl ?_
  refine j_aload_n G dL_law_1631 rfl ?_
  refine j_iload G dL_law_1632 rfl ?_
  refine j_iconst G dL_law_1634 ?_
  refine j_iadd G dL_law_1635 ?_
  refine j_sld G hX hbl hbA dL_law_1636 (by omega) (by omega) hL ?_
  refine j_aload_n G dL_law_1637 rfl ?_
  refine j_callW (n := 3) G hN (TW_of 829 (by decide +kernel) (by decide +kernel)) (TW_of 71 (by decide +kernel) (by decide +kernel)) (TW_of 830 (by decide +kernel) (by decide +kernel)) ⟨by decide +kernel, by decide +kernel, by decide +kernel⟩ (TW_of 828 (by decide +kernel) (by decide +kernel)) (cw_drill hi hst (SP.rf Z) hW (sv_in _ _) hao hns hgo) dL_law_1638 ⟨by decide, by decide⟩ ⟨by rw [r1c]; omega, by rw [r1s]; omega⟩ rfl rfl (Nat.le_of_ble_eq_true rfl) (fun k L1 g1 X1 Z1 h => ?_)
  obtain ⟨eL, eX, v9, eg, hA⟩ := h
  subst L1 X1 g1
  have hR1 : RMZ Z Z1 := hG.2.hi (hi_drill hA)
  have hRL1 := hRL.out h33 hgo v9
  have hgo1 : va_up g ao (OUT cys v9) ao = OUT cys v9 := va_up_self _ _ _
  refine j_istore G dL_law_1641 (by decide) rfl ?_
  refine j_aload_n G dL_law_1643 rfl ?_
  refine j_aload_n G dL_law_1644 rfl ?_
  refine j_iload G dL_law_1645 rfl ?_
  refine j_iconst G dL_law_1647 ?_
  refine j_iadd G dL_law_1648 ?_
  refine j_sld G hX hbl hbA dL_law_1649 (by omega) (by omega) hL ?_
  refine j_cVGI G cvX7_drill mlL_222 (c_X7_drill hi hR1 hRL1 hW (sv_in _ _)) dL_law_1650 ⟨by decide, by decide⟩ ⟨by rw [r1c]; omega, by rw [r1s]; omega⟩ rfl rfl (Nat.le_of_ble_eq_true rfl) (by decide) rfl rfl rfl (fun x L2 g2 X2 Z2 h2 => ?_)
  obtain ⟨hB0, hE, eX⟩ := h2
  subst X2
  have hao2 : ao ∈ L2 := hE.1 _ hao
  have hgo2 : g2 ao = OUT cys v9 := (hE.2 _ hao).trans hgo1
  have hag := ag_drill hG hA hB0
  have hRL2 := hag.2.1 cys ad _ _ (hRL1.ext hE)
  refine j_istore G dL_law_1653 (by decide) rfl ?_
  refine j_aload_n G dL_law_1655 rfl ?_
  refine j_cVI G cvX7_thrown mlL_131 (c_X7_thrown hi) dL_law_1656 ⟨by decide, by decide⟩ ⟨by rw [r1c]; omega, by rw [r1s]; omega⟩ rfl rfl (Nat.le_of_ble_eq_true rfl) (by decide) rfl rfl rfl (fun t ht => ?_)
  refine j_iload G dL_law_1659 rfl ?_
  refine j_icmpS G 1666 dL_law_1661 (by decide) (ht.trans hag.2.2.1) ?_
  refine j_iload G dL_law_1666 rfl ?_
  have hk02 := hag.2.2.2.2
  refine j_if_ne G 1683 dL_law_1668 (by decide) (by omega) (fun c0 => ?_) (fun c0 => ?_)
  · refine j_goto G 2578 dL_law_1683 (by decide) ?_
    refine j_keep [0, 1, 2, 3, 4] ?_
    refine j_wid (cells' := cells + 200) (slots' := slots + 3000) (by omega) (by omega) ?_
    exact K _ _ _ _ ⟨hag.1, hRL2, ⟨hao2, hns, h33⟩, v9, hgo2⟩
  · refine j_aload_n G dL_law_1671 rfl ?_
    refine j_iconst G dL_law_1672 ?_
    refine j_laldO G dL_law_1673 hao2 hns hgo2 ?_
    refine j_iload G dL_law_1674 rfl ?_
    refine j_i2l G dL_law_1676 ?_
    refine j_lcmpS G dL_law_1677 (hag.2.2.2.1 c0) ?_
    refine j_if_eq G 1683 dL_law_1678 (by decide) (by decide) (fun _ => ?_) (fun h => absurd rfl h)
    refine j_goto G 2578 dL_law_1683 (by decide) ?_
    refine j_keep [0, 1, 2, 3, 4] ?_
    refine j_wid (cells' := cells + 200) (slots' := slots + 3000) (by omega) (by omega) ?_
    exact K _ _ _ _ ⟨hag.1, hRL2, ⟨hao2, hns, h33⟩, v9, hgo2⟩
set_option maxRecDepth 100000 in
set_option maxHeartbeats 8000000 in
theorem case_27 {p : Program} {l : Launch} {e : Env} {s : State} {m : MethodId} {below : List Frame} {meth : Method} {c : Code} {Q : State → Prop} {D : va_G} {cys : Nat → ClassId} {ad : Nat → Int → Nat} {b Ls : Nat} {xs : Nat → Int32} (hi : injA ad) (hst : l.stackTraces = false) (G : GG p l s m #[Value.ref b] meth c D cys ad (fun q => s.heap.size ≤ q) code RL 9) (hN : NCS s) (hk4 : HK4 cys s) (hX : va_X b Ls xs s s.heap) (hbl : b < s.heap.size) (hL : Ls ≤ 2560) {L : List Nat} {g : Nat → va_E} {X : Int64} {Z : ZT} {ao : Nat} (hI : INV cys ad ao L g Z) {i : Int} (hi0 : 0 ≤ i) (hi5 : i + 5 ≤ Ls) {cells slots : Nat} (hc : cells + 200 ≤ 601024) (hs : slots + 3000 ≤ 7293034)
    (K : ∀ (L1 : List Nat) (g1 : Nat → va_E) (X1 : Int64) (Z1 : ZT), INV cys ad ao L1 g1 Z1 → JJ p l e room_1 s m #[Value.ref b] below meth c D cys ad (fun q => s.heap.size ≤ q) Q 9 (cells + 200) (slots + 3000) L1 g1 X1 Z1 2578 (LV5 b ad ao i) []) :
    JJ p l e room_1 s m #[Value.ref b] below meth c D cys ad (fun q => s.heap.size ≤ q) Q 9 cells slots L g X Z 1686 (LV5 b ad ao i) [] := by
  obtain ⟨hG, hRL, ⟨hao, hns, h33⟩, v0, hgo⟩ := hI
  have hW := hG.1.1
  have hbA : ¬ (fun q => s.heap.size ≤ q) b := Nat.not_le.mpr hbl
  refine j_aload_n G dL_law_1686 rfl ?_
  refine j_aload_n G dL_law_1687 rfl ?_
  refine j_iload G dL_law_1688 rfl ?_
  refine j_iconst G dL_law_1690 ?_
  refine j_iadd G dL_law_1691 ?_
  refine j_sld G hX hbl hbA dL_law_1692 (by omega) (by omega) hL ?_
  refine j_aload_n G dL_law_1693 rfl ?_
  refine j_iload G dL_law_1694 rfl ?_
  refine j_iconst G dL_law_1696 ?_
  refine j_iadd G dL_law_1697 ?_
  refine j_sld G hX hbl hbA dL_law_1698 (by omega) (by omega) hL ?_
  refine j_aload_n G dL_law_1699 rfl ?_
  refine j_iload G dL_law_1700 rfl ?_
  refine j_iconst G dL_law_1702 ?_
  refine j_iadd G dL_law_1703 ?_
  refine j_sld G hX hbl hbA dL_law_1704 (by omega) (by omega) hL ?_
  refine j_aload_n G dL_law_1705 rfl ?_
  refine j_iload G dL_law_1706 rfl ?_
  refine j_iconst G dL_law_1708 ?_
  refine j_iadd G dL_law_1709 ?_
  refine j_sld G hX hbl hbA dL_law_1710 (by omega) (by omega) hL ?_
  refine j_aload_n G dL_law_1711 rfl ?_
  refine j_callW (n := 6) G hN (TW_of 836 (by decide +kernel) (by decide +kernel)) (TW_of 71 (by decide +kernel) (by decide +kernel)) (TW_of 837 (by decide +kernel) (by decide +kernel)) ⟨by decide +kernel, by decide +kernel, by decide +kernel⟩ (TW_of 835 (by decide +kernel) (by decide +kernel)) (cw_setAxes hi hst (SP.rf Z) hW (sv_in _ _) (sv_in _ _) (sv_in _ _) (sv_in _ _) hao hns hgo) dL_law_1712 ⟨by decide, by decide⟩ ⟨by rw [r1c]; omega, by rw [r1s]; omega⟩ rfl rfl (Nat.le_of_ble_eq_true rfl) (fun k L1 g1 X1 Z1 h => ?_)
  obtain ⟨eL, eX, v9, eg, hA⟩ := h
  subst L1 X1 g1
  have hR1 : RMZ Z Z1 := hG.2.hi (hi_setAxes hA)
  have hRL1 := hRL.out h33 hgo v9
  have hgo1 : va_up g ao (OUT cys v9) ao = OUT cys v9 := va_up_self _ _ _
  refine j_istore G dL_law_1715 (by decide) rfl ?_
  refine j_aload_n G dL_law_1717 rfl ?_
  refine j_aload_n G dL_law_1718 rfl ?_
  refine j_iload G dL_law_1719 rfl ?_
  refine j_iconst G dL_law_1721 ?_
  refine j_iadd G dL_law_1722 ?_
  refine j_sld G hX hbl hbA dL_law_1723 (by omega) (by omega) hL ?_
  refine j_aload_n G dL_law_1724 rfl ?_
  refine j_iload G dL_law_1725 rfl ?_
  refine j_iconst G dL_law_1727 ?_
  refine j_iadd G dL_law_1728 ?_
  refine j_sld G hX hbl hbA dL_law_1729 (by omega) (by omega) hL ?_
  refine j_aload_n G dL_law_1730 rfl ?_
  refine j_iload G dL_law_1731 rfl ?_
  refine j_iconst G dL_law_1733 ?_
  refine j_iadd G dL_law_1734 ?_
  refine j_sld G hX hbl hbA dL_law_1735 (by omega) (by omega) hL ?_
  refine j_aload_n G dL_law_1736 rfl ?_
  refine j_iload G dL_law_1737 rfl ?_
  refine j_iconst G dL_law_1739 ?_
  refine j_iadd G dL_law_1740 ?_
  refine j_sld G hX hbl hbA dL_law_1741 (by omega) (by omega) hL ?_
  refine j_cVGI G cvX7_setAxes mlL_226 (c_X7_setAxes hi hR1 hRL1 hW (sv_in _ _) (sv_in _ _) (sv_in _ _) (sv_in _ _)) dL_law_1742 ⟨by decide, by decide⟩ ⟨by rw [r1c]; omega, by rw [r1s]; omega⟩ rfl rfl (Nat.le_of_ble_eq_true rfl) (by decide) rfl rfl rfl (fun x L2 g2 X2 Z2 h2 => ?_)
  obtain ⟨hB0, hE, eX⟩ := h2
  subst X2
  have hao2 : ao ∈ L2 := hE.1 _ hao
  have hgo2 : g2 ao = OUT cys v9 := (hE.2 _ hao).trans hgo1
  have hag := ag_setAxes hG hA hB0
  have hRL2 := hag.2.1 cys ad _ _ (hRL1.ext hE)
  refine j_istore G dL_law_1745 (by decide) rfl ?_
  refine j_aload_n G dL_law_1747 rfl ?_
  refine j_cVI G cvX7_thrown mlL_131 (c_X7_thrown hi) dL_law_1748 ⟨by decide, by decide⟩ ⟨by rw [r1c]; omega, by rw [r1s]; omega⟩ rfl rfl (Nat.le_of_ble_eq_true rfl) (by decide) rfl rfl rfl (fun t ht => ?_)
  refine j_iload G dL_law_1751 rfl ?_
  refine j_icmpS G 1758 dL_law_1753 (by decide) (ht.trans hag.2.2.1) ?_
  refine j_iload G dL_law_1758 rfl ?_
  have hk02 := hag.2.2.2.2
  refine j_if_ne G 1775 dL_law_1760 (by decide) (by omega) (fun c0 => ?_) (fun c0 => ?_)
  · refine j_goto G 2578 dL_law_1775 (by decide) ?_
    refine j_keep [0, 1, 2, 3, 4] ?_
    refine j_wid (cells' := cells + 200) (slots' := slots + 3000) (by omega) (by omega) ?_
    exact K _ _ _ _ ⟨hag.1, hRL2, ⟨hao2, hns, h33⟩, v9, hgo2⟩
  · refine j_aload_n G dL_law_1763 rfl ?_
    refine j_iconst G dL_law_1764 ?_
    refine j_laldO G dL_law_1765 hao2 hns hgo2 ?_
    refine j_iload G dL_law_1766 rfl ?_
    refine j_i2l G dL_law_1768 ?_
    refine j_lcmpS G dL_law_1769 (hag.2.2.2.1 c0) ?_
    refine j_if_eq G 1775 dL_law_1770 (by decide) (by decide) (fun _ => ?_) (fun h => absurd rfl h)
    refine j_goto G 2578 dL_law_1775 (by decide) ?_
    refine j_keep [0, 1, 2, 3, 4] ?_
    refine j_wid (cells' := cells + 200) (slots' := slots + 3000) (by omega) (by omega) ?_
    exact K _ _ _ _ ⟨hag.1, hRL2, ⟨hao2, hns, h33⟩, v9, hgo2⟩
set_option maxRecDepth 100000 in
set_option maxHeartbeats 8000000 in
theorem case_28 {p : Program} {l : Launch} {e : Env} {s : State} {m : MethodId} {below : List Frame} {meth : Method} {c : Code} {Q : State → Prop} {D : va_G} {cys : Nat → ClassId} {ad : Nat → Int → Nat} {b Ls : Nat} {xs : Nat → Int32} (hi : injA ad) (hst : l.stackTraces = false) (G : GG p l s m #[Value.ref b] meth c D cys ad (fun q => s.heap.size ≤ q) code RL 9) (hN : NCS s) (hk4 : HK4 cys s) (hX : va_X b Ls xs s s.heap) (hbl : b < s.heap.size) (hL : Ls ≤ 2560) {L : List Nat} {g : Nat → va_E} {X : Int64} {Z : ZT} {ao : Nat} (hI : INV cys ad ao L g Z) {i : Int} (hi0 : 0 ≤ i) (hi5 : i + 5 ≤ Ls) {cells slots : Nat} (hc : cells + 200 ≤ 601024) (hs : slots + 3000 ≤ 7293034)
    (K : ∀ (L1 : List Nat) (g1 : Nat → va_E) (X1 : Int64) (Z1 : ZT), INV cys ad ao L1 g1 Z1 → JJ p l e room_1 s m #[Value.ref b] below meth c D cys ad (fun q => s.heap.size ≤ q) Q 9 (cells + 200) (slots + 3000) L1 g1 X1 Z1 2578 (LV5 b ad ao i) []) :
    JJ p l e room_1 s m #[Value.ref b] below meth c D cys ad (fun q => s.heap.size ≤ q) Q 9 cells slots L g X Z 1778 (LV5 b ad ao i) [] := by
  obtain ⟨hG, hRL, ⟨hao, hns, h33⟩, v0, hgo⟩ := hI
  have hW := hG.1.1
  have hbA : ¬ (fun q => s.heap.size ≤ q) b := Nat.not_le.mpr hbl
  refine j_aload_n G dL_law_1778 rfl ?_
  refine j_aload_n G dL_law_1779 rfl ?_
  refine j_iload G dL_law_1780 rfl ?_
  refine j_iconst G dL_law_1782 ?_
  refine j_iadd G dL_law_1783 ?_
  refine j_sld G hX hbl hbA dL_law_1784 (by omega) (by omega) hL ?_
  refine j_bool G (sv_in _ _) dL_law_1785 dL_law_1788 dL_law_1789 dL_law_1792 ?_
  refine j_cVIZ G cvX6_setBare mlL_227 (c_X6_setBare hi (bl_01 _) hW.ba) dL_law_1793 ⟨by decide, by decide⟩ ⟨by rw [r1c]; omega, by rw [r1s]; omega⟩ rfl rfl (Nat.le_of_ble_eq_true rfl) (by decide) rfl rfl rfl (fun r Z1 h => ?_)
  obtain ⟨hr, hz⟩ := h
  have hR1 : RMZ Z Z1 := by rw [hz]; exact hG.2.hi (fun k hk => zS_k (by omega))
  have hRL1 := hRL
  refine j_aload_n G dL_law_1796 rfl ?_
  refine j_aload_n G dL_law_1797 rfl ?_
  refine j_iload G dL_law_1798 rfl ?_
  refine j_iconst G dL_law_1800 ?_
  refine j_iadd G dL_law_1801 ?_
  refine j_sld G hX hbl hbA dL_law_1802 (by omega) (by omega) hL ?_
  refine j_bool G (sv_in _ _) dL_law_1803 dL_law_1806 dL_law_1807 dL_law_1810 ?_
  refine j_cVIZ G cvX7_setBare mlL_231 (c_X7_setBare hi hR1 hW (bl_01 _)) dL_law_1811 ⟨by decide, by decide⟩ ⟨by rw [r1c]; omega, by rw [r1s]; omega⟩ rfl rfl (Nat.le_of_ble_eq_true rfl) (by decide) rfl rfl rfl (fun x Z2 h2 => ?_)
  obtain ⟨hx, hz2⟩ := h2
  have hq := mu_setBare hG (bl_01 _) hz hz2
  have hrx : r = x := hr.trans hx.symm
  refine j_icmpS G 2578 dL_law_1814 (by decide) hrx ?_
  refine j_keep [0, 1, 2, 3, 4] ?_
  refine j_wid (cells' := cells + 200) (slots' := slots + 3000) (by omega) (by omega) ?_
  exact K _ _ _ _ ⟨hq.1, hq.2 cys ad _ _ hRL, ⟨hao, hns, h33⟩, v0, hgo⟩
set_option maxRecDepth 100000 in
set_option maxHeartbeats 8000000 in
theorem case_29 {p : Program} {l : Launch} {e : Env} {s : State} {m : MethodId} {below : List Frame} {meth : Method} {c : Code} {Q : State → Prop} {D : va_G} {cys : Nat → ClassId} {ad : Nat → Int → Nat} {b Ls : Nat} {xs : Nat → Int32} (hi : injA ad) (hst : l.stackTraces = false) (G : GG p l s m #[Value.ref b] meth c D cys ad (fun q => s.heap.size ≤ q) code RL 9) (hN : NCS s) (hk4 : HK4 cys s) (hX : va_X b Ls xs s s.heap) (hbl : b < s.heap.size) (hL : Ls ≤ 2560) {L : List Nat} {g : Nat → va_E} {X : Int64} {Z : ZT} {ao : Nat} (hI : INV cys ad ao L g Z) {i : Int} (hi0 : 0 ≤ i) (hi5 : i + 5 ≤ Ls) {cells slots : Nat} (hc : cells + 200 ≤ 601024) (hs : slots + 3000 ≤ 7293034)
    (K : ∀ (L1 : List Nat) (g1 : Nat → va_E) (X1 : Int64) (Z1 : ZT), INV cys ad ao L1 g1 Z1 → JJ p l e room_1 s m #[Value.ref b] below meth c D cys ad (fun q => s.heap.size ≤ q) Q 9 (cells + 200) (slots + 3000) L1 g1 X1 Z1 2578 (LV5 b ad ao i) []) :
    JJ p l e room_1 s m #[Value.ref b] below meth c D cys ad (fun q => s.heap.size ≤ q) Q 9 cells slots L g X Z 1819 (LV5 b ad ao i) [] := by
  obtain ⟨hG, hRL, ⟨hao, hns, h33⟩, v0, hgo⟩ := hI
  have hW := hG.1.1
  have hbA : ¬ (fun q => s.heap.size ≤ q) b := Nat.not_le.mpr hbl
  refine j_aload_n G dL_law_1819 rfl ?_
  refine j_aload_n G dL_law_1820 rfl ?_
  refine j_callW (n := 2) G hN (TW_of 848 (by decide +kernel) (by decide +kernel)) (TW_of 71 (by decide +kernel) (by decide +kernel)) (TW_of 849 (by decide +kernel) (by decide +kernel)) ⟨by decide +kernel, by decide +kernel, by decide +kernel⟩ (TW_of 847 (by decide +kernel) (by decide +kernel)) (cw_rows hi hst (SP.rf Z) hW hao hns hgo) dL_law_1821 ⟨by decide, by decide⟩ ⟨by rw [r1c]; omega, by rw [r1s]; omega⟩ rfl rfl (Nat.le_of_ble_eq_true rfl) (fun k L1 g1 X1 Z1 h => ?_)
  obtain ⟨eL, eX, v9, eg, hA⟩ := h
  subst L1 X1 g1
  have hR1 : RMZ Z Z1 := hG.2.hi (hi_rows hA)
  have hRL1 := hRL.out h33 hgo v9
  have hgo1 : va_up g ao (OUT cys v9) ao = OUT cys v9 := va_up_self _ _ _
  refine j_istore G dL_law_1824 (by decide) rfl ?_
  refine j_aload_n G dL_law_1826 rfl ?_
  refine j_cVGI G cvX7_rows mlL_235 (c_X7_rows hi hR1 hRL1 hW) dL_law_1827 ⟨by decide, by decide⟩ ⟨by rw [r1c]; omega, by rw [r1s]; omega⟩ rfl rfl (Nat.le_of_ble_eq_true rfl) (by decide) rfl rfl rfl (fun x L2 g2 X2 Z2 h2 => ?_)
  obtain ⟨hB0, hE, eX⟩ := h2
  subst X2
  have hao2 : ao ∈ L2 := hE.1 _ hao
  have hgo2 : g2 ao = OUT cys v9 := (hE.2 _ hao).trans hgo1
  have hag := ag_rows hG hA hB0
  have hRL2 := hag.2.1 cys ad _ _ (hRL1.ext hE)
  refine j_istore G dL_law_1830 (by decide) rfl ?_
  refine j_aload_n G dL_law_1832 rfl ?_
  refine j_cVI G cvX7_thrown mlL_131 (c_X7_thrown hi) dL_law_1833 ⟨by decide, by decide⟩ ⟨by rw [r1c]; omega, by rw [r1s]; omega⟩ rfl rfl (Nat.le_of_ble_eq_true rfl) (by decide) rfl rfl rfl (fun t ht => ?_)
  refine j_iload G dL_law_1836 rfl ?_
  refine j_icmpS G 1843 dL_law_1838 (by decide) (ht.trans hag.2.2.1) ?_
  refine j_iload G dL_law_1843 rfl ?_
  have hk02 := hag.2.2.2.2
  refine j_if_ne G 1860 dL_law_1845 (by decide) (by omega) (fun c0 => ?_) (fun c0 => ?_)
  · refine j_goto G 2578 dL_law_1860 (by decide) ?_
    refine j_keep [0, 1, 2, 3, 4] ?_
    refine j_wid (cells' := cells + 200) (slots' := slots + 3000) (by omega) (by omega) ?_
    exact K _ _ _ _ ⟨hag.1, hRL2, ⟨hao2, hns, h33⟩, v9, hgo2⟩
  · refine j_aload_n G dL_law_1848 rfl ?_
    refine j_iconst G dL_law_1849 ?_
    refine j_laldO G dL_law_1850 hao2 hns hgo2 ?_
    refine j_iload G dL_law_1851 rfl ?_
    refine j_i2l G dL_law_1853 ?_
    refine j_lcmpS G dL_law_1854 (hag.2.2.2.1 c0) ?_
    refine j_if_eq G 1860 dL_law_1855 (by decide) (by decide) (fun _ => ?_) (fun h => absurd rfl h)
    refine j_goto G 2578 dL_law_1860 (by decide) ?_
    refine j_keep [0, 1, 2, 3, 4] ?_
    refine j_wid (cells' := cells + 200) (slots' := slots + 3000) (by omega) (by omega) ?_
    exact K _ _ _ _ ⟨hag.1, hRL2, ⟨hao2, hns, h33⟩, v9, hgo2⟩
