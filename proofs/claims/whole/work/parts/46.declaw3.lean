def dlb_l0l : List (Nat × Instr × Nat) := [(1614, .iload 6, 2), (1616, .ifCond .ne 15, 3), (1619, .aload_n 3, 1), (1620, .iconst 0, 1), (1621, .laload, 1), (1622, .iload 7, 2), (1624, .i2l, 1), (1625, .lcmp, 1), (1626, .ifCond .eq 5, 3), (1629, .iconst 0, 1), (1630, .ireturn, 1), (1631, .goto 487, 3), (1634, .aload_n 1, 1), (1635, .aload_n 0, 1), (1636, .iload 5, 2), (1638, .iconst 1, 1), (1639, .iadd, 1), (1640, .iaload, 1), (1641, .aload_n 0, 1), (1642, .iload 5, 2), (1644, .iconst 2, 1), (1645, .iadd, 1), (1646, .iaload, 1), (1647, .aload_n 3, 1), (1648, .invokestatic 206, 3), (1651, .istore 6, 2), (1653, .aload_n 2, 1), (1654, .aload_n 0, 1), (1655, .iload 5, 2), (1657, .iconst 1, 1), (1658, .iadd, 1), (1659, .iaload, 1), (1660, .aload_n 0, 1), (1661, .iload 5, 2), (1663, .iconst 2, 1), (1664, .iadd, 1)]
theorem dlb_l0 : dcl (fun k => decode cL_law k) dlb_l0l = true := by decide +kernel
theorem dL_law_1614 : decode cL_law 1614 = .ok (.iload 6, 2) := dcl_at (f := fun k => decode cL_law k) dlb_l0 0 rfl
theorem dL_law_1616 : decode cL_law 1616 = .ok (.ifCond .ne 15, 3) := dcl_at (f := fun k => decode cL_law k) dlb_l0 1 rfl
theorem dL_law_1619 : decode cL_law 1619 = .ok (.aload_n 3, 1) := dcl_at (f := fun k => decode cL_law k) dlb_l0 2 rfl
theorem dL_law_1620 : decode cL_law 1620 = .ok (.iconst 0, 1) := dcl_at (f := fun k => decode cL_law k) dlb_l0 3 rfl
theorem dL_law_1621 : decode cL_law 1621 = .ok (.laload, 1) := dcl_at (f := fun k => decode cL_law k) dlb_l0 4 rfl
theorem dL_law_1622 : decode cL_law 1622 = .ok (.iload 7, 2) := dcl_at (f := fun k => decode cL_law k) dlb_l0 5 rfl
theorem dL_law_1624 : decode cL_law 1624 = .ok (.i2l, 1) := dcl_at (f := fun k => decode cL_law k) dlb_l0 6 rfl
theorem dL_law_1625 : decode cL_law 1625 = .ok (.lcmp, 1) := dcl_at (f := fun k => decode cL_law k) dlb_l0 7 rfl
theorem dL_law_1626 : decode cL_law 1626 = .ok (.ifCond .eq 5, 3) := dcl_at (f := fun k => decode cL_law k) dlb_l0 8 rfl
theorem dL_law_1629 : decode cL_law 1629 = .ok (.iconst 0, 1) := dcl_at (f := fun k => decode cL_law k) dlb_l0 9 rfl
theorem dL_law_1630 : decode cL_law 1630 = .ok (.ireturn, 1) := dcl_at (f := fun k => decode cL_law k) dlb_l0 10 rfl
theorem dL_law_1631 : decode cL_law 1631 = .ok (.goto 487, 3) := dcl_at (f := fun k => decode cL_law k) dlb_l0 11 rfl
theorem dL_law_1634 : decode cL_law 1634 = .ok (.aload_n 1, 1) := dcl_at (f := fun k => decode cL_law k) dlb_l0 12 rfl
theorem dL_law_1635 : decode cL_law 1635 = .ok (.aload_n 0, 1) := dcl_at (f := fun k => decode cL_law k) dlb_l0 13 rfl
theorem dL_law_1636 : decode cL_law 1636 = .ok (.iload 5, 2) := dcl_at (f := fun k => decode cL_law k) dlb_l0 14 rfl
theorem dL_law_1638 : decode cL_law 1638 = .ok (.iconst 1, 1) := dcl_at (f := fun k => decode cL_law k) dlb_l0 15 rfl
theorem dL_law_1639 : decode cL_law 1639 = .ok (.iadd, 1) := dcl_at (f := fun k => decode cL_law k) dlb_l0 16 rfl
theorem dL_law_1640 : decode cL_law 1640 = .ok (.iaload, 1) := dcl_at (f := fun k => decode cL_law k) dlb_l0 17 rfl
theorem dL_law_1641 : decode cL_law 1641 = .ok (.aload_n 0, 1) := dcl_at (f := fun k => decode cL_law k) dlb_l0 18 rfl
theorem dL_law_1642 : decode cL_law 1642 = .ok (.iload 5, 2) := dcl_at (f := fun k => decode cL_law k) dlb_l0 19 rfl
theorem dL_law_1644 : decode cL_law 1644 = .ok (.iconst 2, 1) := dcl_at (f := fun k => decode cL_law k) dlb_l0 20 rfl
theorem dL_law_1645 : decode cL_law 1645 = .ok (.iadd, 1) := dcl_at (f := fun k => decode cL_law k) dlb_l0 21 rfl
theorem dL_law_1646 : decode cL_law 1646 = .ok (.iaload, 1) := dcl_at (f := fun k => decode cL_law k) dlb_l0 22 rfl
theorem dL_law_1647 : decode cL_law 1647 = .ok (.aload_n 3, 1) := dcl_at (f := fun k => decode cL_law k) dlb_l0 23 rfl
theorem dL_law_1648 : decode cL_law 1648 = .ok (.invokestatic 206, 3) := dcl_at (f := fun k => decode cL_law k) dlb_l0 24 rfl
theorem dL_law_1651 : decode cL_law 1651 = .ok (.istore 6, 2) := dcl_at (f := fun k => decode cL_law k) dlb_l0 25 rfl
theorem dL_law_1653 : decode cL_law 1653 = .ok (.aload_n 2, 1) := dcl_at (f := fun k => decode cL_law k) dlb_l0 26 rfl
theorem dL_law_1654 : decode cL_law 1654 = .ok (.aload_n 0, 1) := dcl_at (f := fun k => decode cL_law k) dlb_l0 27 rfl
theorem dL_law_1655 : decode cL_law 1655 = .ok (.iload 5, 2) := dcl_at (f := fun k => decode cL_law k) dlb_l0 28 rfl
theorem dL_law_1657 : decode cL_law 1657 = .ok (.iconst 1, 1) := dcl_at (f := fun k => decode cL_law k) dlb_l0 29 rfl
theorem dL_law_1658 : decode cL_law 1658 = .ok (.iadd, 1) := dcl_at (f := fun k => decode cL_law k) dlb_l0 30 rfl
theorem dL_law_1659 : decode cL_law 1659 = .ok (.iaload, 1) := dcl_at (f := fun k => decode cL_law k) dlb_l0 31 rfl
theorem dL_law_1660 : decode cL_law 1660 = .ok (.aload_n 0, 1) := dcl_at (f := fun k => decode cL_law k) dlb_l0 32 rfl
theorem dL_law_1661 : decode cL_law 1661 = .ok (.iload 5, 2) := dcl_at (f := fun k => decode cL_law k) dlb_l0 33 rfl
theorem dL_law_1663 : decode cL_law 1663 = .ok (.iconst 2, 1) := dcl_at (f := fun k => decode cL_law k) dlb_l0 34 rfl
theorem dL_law_1664 : decode cL_law 1664 = .ok (.iadd, 1) := dcl_at (f := fun k => decode cL_law k) dlb_l0 35 rfl
def dlb_l1l : List (Nat × Instr × Nat) := [(1665, .iaload, 1), (1666, .invokevirtual 208, 3), (1669, .istore 7, 2), (1671, .aload_n 2, 1), (1672, .invokevirtual 125, 3), (1675, .iload 6, 2), (1677, .if_icmp .eq 5, 3), (1680, .iconst 0, 1), (1681, .ireturn, 1), (1682, .iload 6, 2), (1684, .ifCond .ne 15, 3), (1687, .aload_n 3, 1), (1688, .iconst 0, 1), (1689, .laload, 1), (1690, .iload 7, 2), (1692, .i2l, 1), (1693, .lcmp, 1), (1694, .ifCond .eq 5, 3), (1697, .iconst 0, 1), (1698, .ireturn, 1), (1699, .goto 419, 3), (1702, .aload_n 1, 1), (1703, .aload_n 0, 1), (1704, .iload 5, 2), (1706, .iconst 1, 1), (1707, .iadd, 1), (1708, .iaload, 1), (1709, .aload_n 0, 1), (1710, .iload 5, 2), (1712, .iconst 2, 1), (1713, .iadd, 1), (1714, .iaload, 1), (1715, .aload_n 3, 1), (1716, .invokestatic 209, 3), (1719, .istore 6, 2), (1721, .aload_n 2, 1)]
theorem dlb_l1 : dcl (fun k => decode cL_law k) dlb_l1l = true := by decide +kernel
theorem dL_law_1665 : decode cL_law 1665 = .ok (.iaload, 1) := dcl_at (f := fun k => decode cL_law k) dlb_l1 0 rfl
theorem dL_law_1666 : decode cL_law 1666 = .ok (.invokevirtual 208, 3) := dcl_at (f := fun k => decode cL_law k) dlb_l1 1 rfl
theorem dL_law_1669 : decode cL_law 1669 = .ok (.istore 7, 2) := dcl_at (f := fun k => decode cL_law k) dlb_l1 2 rfl
theorem dL_law_1671 : decode cL_law 1671 = .ok (.aload_n 2, 1) := dcl_at (f := fun k => decode cL_law k) dlb_l1 3 rfl
theorem dL_law_1672 : decode cL_law 1672 = .ok (.invokevirtual 125, 3) := dcl_at (f := fun k => decode cL_law k) dlb_l1 4 rfl
theorem dL_law_1675 : decode cL_law 1675 = .ok (.iload 6, 2) := dcl_at (f := fun k => decode cL_law k) dlb_l1 5 rfl
theorem dL_law_1677 : decode cL_law 1677 = .ok (.if_icmp .eq 5, 3) := dcl_at (f := fun k => decode cL_law k) dlb_l1 6 rfl
theorem dL_law_1680 : decode cL_law 1680 = .ok (.iconst 0, 1) := dcl_at (f := fun k => decode cL_law k) dlb_l1 7 rfl
theorem dL_law_1681 : decode cL_law 1681 = .ok (.ireturn, 1) := dcl_at (f := fun k => decode cL_law k) dlb_l1 8 rfl
theorem dL_law_1682 : decode cL_law 1682 = .ok (.iload 6, 2) := dcl_at (f := fun k => decode cL_law k) dlb_l1 9 rfl
theorem dL_law_1684 : decode cL_law 1684 = .ok (.ifCond .ne 15, 3) := dcl_at (f := fun k => decode cL_law k) dlb_l1 10 rfl
theorem dL_law_1687 : decode cL_law 1687 = .ok (.aload_n 3, 1) := dcl_at (f := fun k => decode cL_law k) dlb_l1 11 rfl
theorem dL_law_1688 : decode cL_law 1688 = .ok (.iconst 0, 1) := dcl_at (f := fun k => decode cL_law k) dlb_l1 12 rfl
theorem dL_law_1689 : decode cL_law 1689 = .ok (.laload, 1) := dcl_at (f := fun k => decode cL_law k) dlb_l1 13 rfl
theorem dL_law_1690 : decode cL_law 1690 = .ok (.iload 7, 2) := dcl_at (f := fun k => decode cL_law k) dlb_l1 14 rfl
theorem dL_law_1692 : decode cL_law 1692 = .ok (.i2l, 1) := dcl_at (f := fun k => decode cL_law k) dlb_l1 15 rfl
theorem dL_law_1693 : decode cL_law 1693 = .ok (.lcmp, 1) := dcl_at (f := fun k => decode cL_law k) dlb_l1 16 rfl
theorem dL_law_1694 : decode cL_law 1694 = .ok (.ifCond .eq 5, 3) := dcl_at (f := fun k => decode cL_law k) dlb_l1 17 rfl
theorem dL_law_1697 : decode cL_law 1697 = .ok (.iconst 0, 1) := dcl_at (f := fun k => decode cL_law k) dlb_l1 18 rfl
theorem dL_law_1698 : decode cL_law 1698 = .ok (.ireturn, 1) := dcl_at (f := fun k => decode cL_law k) dlb_l1 19 rfl
theorem dL_law_1699 : decode cL_law 1699 = .ok (.goto 419, 3) := dcl_at (f := fun k => decode cL_law k) dlb_l1 20 rfl
theorem dL_law_1702 : decode cL_law 1702 = .ok (.aload_n 1, 1) := dcl_at (f := fun k => decode cL_law k) dlb_l1 21 rfl
theorem dL_law_1703 : decode cL_law 1703 = .ok (.aload_n 0, 1) := dcl_at (f := fun k => decode cL_law k) dlb_l1 22 rfl
theorem dL_law_1704 : decode cL_law 1704 = .ok (.iload 5, 2) := dcl_at (f := fun k => decode cL_law k) dlb_l1 23 rfl
theorem dL_law_1706 : decode cL_law 1706 = .ok (.iconst 1, 1) := dcl_at (f := fun k => decode cL_law k) dlb_l1 24 rfl
theorem dL_law_1707 : decode cL_law 1707 = .ok (.iadd, 1) := dcl_at (f := fun k => decode cL_law k) dlb_l1 25 rfl
theorem dL_law_1708 : decode cL_law 1708 = .ok (.iaload, 1) := dcl_at (f := fun k => decode cL_law k) dlb_l1 26 rfl
theorem dL_law_1709 : decode cL_law 1709 = .ok (.aload_n 0, 1) := dcl_at (f := fun k => decode cL_law k) dlb_l1 27 rfl
theorem dL_law_1710 : decode cL_law 1710 = .ok (.iload 5, 2) := dcl_at (f := fun k => decode cL_law k) dlb_l1 28 rfl
theorem dL_law_1712 : decode cL_law 1712 = .ok (.iconst 2, 1) := dcl_at (f := fun k => decode cL_law k) dlb_l1 29 rfl
theorem dL_law_1713 : decode cL_law 1713 = .ok (.iadd, 1) := dcl_at (f := fun k => decode cL_law k) dlb_l1 30 rfl
theorem dL_law_1714 : decode cL_law 1714 = .ok (.iaload, 1) := dcl_at (f := fun k => decode cL_law k) dlb_l1 31 rfl
theorem dL_law_1715 : decode cL_law 1715 = .ok (.aload_n 3, 1) := dcl_at (f := fun k => decode cL_law k) dlb_l1 32 rfl
theorem dL_law_1716 : decode cL_law 1716 = .ok (.invokestatic 209, 3) := dcl_at (f := fun k => decode cL_law k) dlb_l1 33 rfl
theorem dL_law_1719 : decode cL_law 1719 = .ok (.istore 6, 2) := dcl_at (f := fun k => decode cL_law k) dlb_l1 34 rfl
theorem dL_law_1721 : decode cL_law 1721 = .ok (.aload_n 2, 1) := dcl_at (f := fun k => decode cL_law k) dlb_l1 35 rfl
def dlb_l2l : List (Nat × Instr × Nat) := [(1722, .aload_n 0, 1), (1723, .iload 5, 2), (1725, .iconst 1, 1), (1726, .iadd, 1), (1727, .iaload, 1), (1728, .aload_n 0, 1), (1729, .iload 5, 2), (1731, .iconst 2, 1), (1732, .iadd, 1), (1733, .iaload, 1), (1734, .invokevirtual 211, 3), (1737, .istore 7, 2), (1739, .aload_n 2, 1), (1740, .invokevirtual 125, 3), (1743, .iload 6, 2), (1745, .if_icmp .eq 5, 3), (1748, .iconst 0, 1), (1749, .ireturn, 1), (1750, .iload 6, 2), (1752, .ifCond .ne 15, 3), (1755, .aload_n 3, 1), (1756, .iconst 0, 1), (1757, .laload, 1), (1758, .iload 7, 2), (1760, .i2l, 1), (1761, .lcmp, 1), (1762, .ifCond .eq 5, 3), (1765, .iconst 0, 1), (1766, .ireturn, 1), (1767, .goto 351, 3), (1770, .aload_n 1, 1), (1771, .aload_n 0, 1), (1772, .iload 5, 2), (1774, .iconst 1, 1), (1775, .iadd, 1), (1776, .iaload, 1)]
theorem dlb_l2 : dcl (fun k => decode cL_law k) dlb_l2l = true := by decide +kernel
theorem dL_law_1722 : decode cL_law 1722 = .ok (.aload_n 0, 1) := dcl_at (f := fun k => decode cL_law k) dlb_l2 0 rfl
theorem dL_law_1723 : decode cL_law 1723 = .ok (.iload 5, 2) := dcl_at (f := fun k => decode cL_law k) dlb_l2 1 rfl
theorem dL_law_1725 : decode cL_law 1725 = .ok (.iconst 1, 1) := dcl_at (f := fun k => decode cL_law k) dlb_l2 2 rfl
theorem dL_law_1726 : decode cL_law 1726 = .ok (.iadd, 1) := dcl_at (f := fun k => decode cL_law k) dlb_l2 3 rfl
theorem dL_law_1727 : decode cL_law 1727 = .ok (.iaload, 1) := dcl_at (f := fun k => decode cL_law k) dlb_l2 4 rfl
theorem dL_law_1728 : decode cL_law 1728 = .ok (.aload_n 0, 1) := dcl_at (f := fun k => decode cL_law k) dlb_l2 5 rfl
theorem dL_law_1729 : decode cL_law 1729 = .ok (.iload 5, 2) := dcl_at (f := fun k => decode cL_law k) dlb_l2 6 rfl
theorem dL_law_1731 : decode cL_law 1731 = .ok (.iconst 2, 1) := dcl_at (f := fun k => decode cL_law k) dlb_l2 7 rfl
theorem dL_law_1732 : decode cL_law 1732 = .ok (.iadd, 1) := dcl_at (f := fun k => decode cL_law k) dlb_l2 8 rfl
theorem dL_law_1733 : decode cL_law 1733 = .ok (.iaload, 1) := dcl_at (f := fun k => decode cL_law k) dlb_l2 9 rfl
theorem dL_law_1734 : decode cL_law 1734 = .ok (.invokevirtual 211, 3) := dcl_at (f := fun k => decode cL_law k) dlb_l2 10 rfl
theorem dL_law_1737 : decode cL_law 1737 = .ok (.istore 7, 2) := dcl_at (f := fun k => decode cL_law k) dlb_l2 11 rfl
theorem dL_law_1739 : decode cL_law 1739 = .ok (.aload_n 2, 1) := dcl_at (f := fun k => decode cL_law k) dlb_l2 12 rfl
theorem dL_law_1740 : decode cL_law 1740 = .ok (.invokevirtual 125, 3) := dcl_at (f := fun k => decode cL_law k) dlb_l2 13 rfl
theorem dL_law_1743 : decode cL_law 1743 = .ok (.iload 6, 2) := dcl_at (f := fun k => decode cL_law k) dlb_l2 14 rfl
theorem dL_law_1745 : decode cL_law 1745 = .ok (.if_icmp .eq 5, 3) := dcl_at (f := fun k => decode cL_law k) dlb_l2 15 rfl
theorem dL_law_1748 : decode cL_law 1748 = .ok (.iconst 0, 1) := dcl_at (f := fun k => decode cL_law k) dlb_l2 16 rfl
theorem dL_law_1749 : decode cL_law 1749 = .ok (.ireturn, 1) := dcl_at (f := fun k => decode cL_law k) dlb_l2 17 rfl
theorem dL_law_1750 : decode cL_law 1750 = .ok (.iload 6, 2) := dcl_at (f := fun k => decode cL_law k) dlb_l2 18 rfl
theorem dL_law_1752 : decode cL_law 1752 = .ok (.ifCond .ne 15, 3) := dcl_at (f := fun k => decode cL_law k) dlb_l2 19 rfl
theorem dL_law_1755 : decode cL_law 1755 = .ok (.aload_n 3, 1) := dcl_at (f := fun k => decode cL_law k) dlb_l2 20 rfl
theorem dL_law_1756 : decode cL_law 1756 = .ok (.iconst 0, 1) := dcl_at (f := fun k => decode cL_law k) dlb_l2 21 rfl
theorem dL_law_1757 : decode cL_law 1757 = .ok (.laload, 1) := dcl_at (f := fun k => decode cL_law k) dlb_l2 22 rfl
theorem dL_law_1758 : decode cL_law 1758 = .ok (.iload 7, 2) := dcl_at (f := fun k => decode cL_law k) dlb_l2 23 rfl
theorem dL_law_1760 : decode cL_law 1760 = .ok (.i2l, 1) := dcl_at (f := fun k => decode cL_law k) dlb_l2 24 rfl
theorem dL_law_1761 : decode cL_law 1761 = .ok (.lcmp, 1) := dcl_at (f := fun k => decode cL_law k) dlb_l2 25 rfl
theorem dL_law_1762 : decode cL_law 1762 = .ok (.ifCond .eq 5, 3) := dcl_at (f := fun k => decode cL_law k) dlb_l2 26 rfl
theorem dL_law_1765 : decode cL_law 1765 = .ok (.iconst 0, 1) := dcl_at (f := fun k => decode cL_law k) dlb_l2 27 rfl
theorem dL_law_1766 : decode cL_law 1766 = .ok (.ireturn, 1) := dcl_at (f := fun k => decode cL_law k) dlb_l2 28 rfl
theorem dL_law_1767 : decode cL_law 1767 = .ok (.goto 351, 3) := dcl_at (f := fun k => decode cL_law k) dlb_l2 29 rfl
theorem dL_law_1770 : decode cL_law 1770 = .ok (.aload_n 1, 1) := dcl_at (f := fun k => decode cL_law k) dlb_l2 30 rfl
theorem dL_law_1771 : decode cL_law 1771 = .ok (.aload_n 0, 1) := dcl_at (f := fun k => decode cL_law k) dlb_l2 31 rfl
theorem dL_law_1772 : decode cL_law 1772 = .ok (.iload 5, 2) := dcl_at (f := fun k => decode cL_law k) dlb_l2 32 rfl
theorem dL_law_1774 : decode cL_law 1774 = .ok (.iconst 1, 1) := dcl_at (f := fun k => decode cL_law k) dlb_l2 33 rfl
theorem dL_law_1775 : decode cL_law 1775 = .ok (.iadd, 1) := dcl_at (f := fun k => decode cL_law k) dlb_l2 34 rfl
theorem dL_law_1776 : decode cL_law 1776 = .ok (.iaload, 1) := dcl_at (f := fun k => decode cL_law k) dlb_l2 35 rfl
def dlb_l3l : List (Nat × Instr × Nat) := [(1777, .aload_n 0, 1), (1778, .iload 5, 2), (1780, .iconst 2, 1), (1781, .iadd, 1), (1782, .iaload, 1), (1783, .aload_n 3, 1), (1784, .invokestatic 212, 3), (1787, .istore 6, 2), (1789, .aload_n 2, 1), (1790, .aload_n 0, 1), (1791, .iload 5, 2), (1793, .iconst 1, 1), (1794, .iadd, 1), (1795, .iaload, 1), (1796, .aload_n 0, 1), (1797, .iload 5, 2), (1799, .iconst 2, 1), (1800, .iadd, 1), (1801, .iaload, 1), (1802, .invokevirtual 214, 3), (1805, .istore 7, 2), (1807, .aload_n 2, 1), (1808, .invokevirtual 125, 3), (1811, .iload 6, 2), (1813, .if_icmp .eq 5, 3), (1816, .iconst 0, 1), (1817, .ireturn, 1), (1818, .iload 6, 2), (1820, .ifCond .ne 15, 3), (1823, .aload_n 3, 1), (1824, .iconst 0, 1), (1825, .laload, 1), (1826, .iload 7, 2), (1828, .i2l, 1), (1829, .lcmp, 1), (1830, .ifCond .eq 5, 3)]
theorem dlb_l3 : dcl (fun k => decode cL_law k) dlb_l3l = true := by decide +kernel
theorem dL_law_1777 : decode cL_law 1777 = .ok (.aload_n 0, 1) := dcl_at (f := fun k => decode cL_law k) dlb_l3 0 rfl
theorem dL_law_1778 : decode cL_law 1778 = .ok (.iload 5, 2) := dcl_at (f := fun k => decode cL_law k) dlb_l3 1 rfl
theorem dL_law_1780 : decode cL_law 1780 = .ok (.iconst 2, 1) := dcl_at (f := fun k => decode cL_law k) dlb_l3 2 rfl
theorem dL_law_1781 : decode cL_law 1781 = .ok (.iadd, 1) := dcl_at (f := fun k => decode cL_law k) dlb_l3 3 rfl
theorem dL_law_1782 : decode cL_law 1782 = .ok (.iaload, 1) := dcl_at (f := fun k => decode cL_law k) dlb_l3 4 rfl
theorem dL_law_1783 : decode cL_law 1783 = .ok (.aload_n 3, 1) := dcl_at (f := fun k => decode cL_law k) dlb_l3 5 rfl
theorem dL_law_1784 : decode cL_law 1784 = .ok (.invokestatic 212, 3) := dcl_at (f := fun k => decode cL_law k) dlb_l3 6 rfl
theorem dL_law_1787 : decode cL_law 1787 = .ok (.istore 6, 2) := dcl_at (f := fun k => decode cL_law k) dlb_l3 7 rfl
theorem dL_law_1789 : decode cL_law 1789 = .ok (.aload_n 2, 1) := dcl_at (f := fun k => decode cL_law k) dlb_l3 8 rfl
theorem dL_law_1790 : decode cL_law 1790 = .ok (.aload_n 0, 1) := dcl_at (f := fun k => decode cL_law k) dlb_l3 9 rfl
theorem dL_law_1791 : decode cL_law 1791 = .ok (.iload 5, 2) := dcl_at (f := fun k => decode cL_law k) dlb_l3 10 rfl
theorem dL_law_1793 : decode cL_law 1793 = .ok (.iconst 1, 1) := dcl_at (f := fun k => decode cL_law k) dlb_l3 11 rfl
theorem dL_law_1794 : decode cL_law 1794 = .ok (.iadd, 1) := dcl_at (f := fun k => decode cL_law k) dlb_l3 12 rfl
theorem dL_law_1795 : decode cL_law 1795 = .ok (.iaload, 1) := dcl_at (f := fun k => decode cL_law k) dlb_l3 13 rfl
theorem dL_law_1796 : decode cL_law 1796 = .ok (.aload_n 0, 1) := dcl_at (f := fun k => decode cL_law k) dlb_l3 14 rfl
theorem dL_law_1797 : decode cL_law 1797 = .ok (.iload 5, 2) := dcl_at (f := fun k => decode cL_law k) dlb_l3 15 rfl
theorem dL_law_1799 : decode cL_law 1799 = .ok (.iconst 2, 1) := dcl_at (f := fun k => decode cL_law k) dlb_l3 16 rfl
theorem dL_law_1800 : decode cL_law 1800 = .ok (.iadd, 1) := dcl_at (f := fun k => decode cL_law k) dlb_l3 17 rfl
theorem dL_law_1801 : decode cL_law 1801 = .ok (.iaload, 1) := dcl_at (f := fun k => decode cL_law k) dlb_l3 18 rfl
theorem dL_law_1802 : decode cL_law 1802 = .ok (.invokevirtual 214, 3) := dcl_at (f := fun k => decode cL_law k) dlb_l3 19 rfl
theorem dL_law_1805 : decode cL_law 1805 = .ok (.istore 7, 2) := dcl_at (f := fun k => decode cL_law k) dlb_l3 20 rfl
theorem dL_law_1807 : decode cL_law 1807 = .ok (.aload_n 2, 1) := dcl_at (f := fun k => decode cL_law k) dlb_l3 21 rfl
theorem dL_law_1808 : decode cL_law 1808 = .ok (.invokevirtual 125, 3) := dcl_at (f := fun k => decode cL_law k) dlb_l3 22 rfl
theorem dL_law_1811 : decode cL_law 1811 = .ok (.iload 6, 2) := dcl_at (f := fun k => decode cL_law k) dlb_l3 23 rfl
theorem dL_law_1813 : decode cL_law 1813 = .ok (.if_icmp .eq 5, 3) := dcl_at (f := fun k => decode cL_law k) dlb_l3 24 rfl
theorem dL_law_1816 : decode cL_law 1816 = .ok (.iconst 0, 1) := dcl_at (f := fun k => decode cL_law k) dlb_l3 25 rfl
theorem dL_law_1817 : decode cL_law 1817 = .ok (.ireturn, 1) := dcl_at (f := fun k => decode cL_law k) dlb_l3 26 rfl
theorem dL_law_1818 : decode cL_law 1818 = .ok (.iload 6, 2) := dcl_at (f := fun k => decode cL_law k) dlb_l3 27 rfl
theorem dL_law_1820 : decode cL_law 1820 = .ok (.ifCond .ne 15, 3) := dcl_at (f := fun k => decode cL_law k) dlb_l3 28 rfl
theorem dL_law_1823 : decode cL_law 1823 = .ok (.aload_n 3, 1) := dcl_at (f := fun k => decode cL_law k) dlb_l3 29 rfl
theorem dL_law_1824 : decode cL_law 1824 = .ok (.iconst 0, 1) := dcl_at (f := fun k => decode cL_law k) dlb_l3 30 rfl
theorem dL_law_1825 : decode cL_law 1825 = .ok (.laload, 1) := dcl_at (f := fun k => decode cL_law k) dlb_l3 31 rfl
theorem dL_law_1826 : decode cL_law 1826 = .ok (.iload 7, 2) := dcl_at (f := fun k => decode cL_law k) dlb_l3 32 rfl
theorem dL_law_1828 : decode cL_law 1828 = .ok (.i2l, 1) := dcl_at (f := fun k => decode cL_law k) dlb_l3 33 rfl
theorem dL_law_1829 : decode cL_law 1829 = .ok (.lcmp, 1) := dcl_at (f := fun k => decode cL_law k) dlb_l3 34 rfl
theorem dL_law_1830 : decode cL_law 1830 = .ok (.ifCond .eq 5, 3) := dcl_at (f := fun k => decode cL_law k) dlb_l3 35 rfl
def dlb_l4l : List (Nat × Instr × Nat) := [(1833, .iconst 0, 1), (1834, .ireturn, 1), (1835, .goto 283, 3), (1838, .aload_n 1, 1), (1839, .aload_n 0, 1), (1840, .iload 5, 2), (1842, .iconst 1, 1), (1843, .iadd, 1), (1844, .iaload, 1), (1845, .aload_n 0, 1), (1846, .iload 5, 2), (1848, .iconst 2, 1), (1849, .iadd, 1), (1850, .iaload, 1), (1851, .aload_n 3, 1), (1852, .invokestatic 215, 3), (1855, .istore 6, 2), (1857, .aload_n 2, 1), (1858, .aload_n 0, 1), (1859, .iload 5, 2), (1861, .iconst 1, 1), (1862, .iadd, 1), (1863, .iaload, 1), (1864, .aload_n 0, 1), (1865, .iload 5, 2), (1867, .iconst 2, 1), (1868, .iadd, 1), (1869, .iaload, 1), (1870, .invokevirtual 217, 3), (1873, .istore 7, 2), (1875, .aload_n 2, 1), (1876, .invokevirtual 125, 3), (1879, .iload 6, 2), (1881, .if_icmp .eq 5, 3), (1884, .iconst 0, 1), (1885, .ireturn, 1)]
theorem dlb_l4 : dcl (fun k => decode cL_law k) dlb_l4l = true := by decide +kernel
theorem dL_law_1833 : decode cL_law 1833 = .ok (.iconst 0, 1) := dcl_at (f := fun k => decode cL_law k) dlb_l4 0 rfl
theorem dL_law_1834 : decode cL_law 1834 = .ok (.ireturn, 1) := dcl_at (f := fun k => decode cL_law k) dlb_l4 1 rfl
theorem dL_law_1835 : decode cL_law 1835 = .ok (.goto 283, 3) := dcl_at (f := fun k => decode cL_law k) dlb_l4 2 rfl
theorem dL_law_1838 : decode cL_law 1838 = .ok (.aload_n 1, 1) := dcl_at (f := fun k => decode cL_law k) dlb_l4 3 rfl
theorem dL_law_1839 : decode cL_law 1839 = .ok (.aload_n 0, 1) := dcl_at (f := fun k => decode cL_law k) dlb_l4 4 rfl
theorem dL_law_1840 : decode cL_law 1840 = .ok (.iload 5, 2) := dcl_at (f := fun k => decode cL_law k) dlb_l4 5 rfl
theorem dL_law_1842 : decode cL_law 1842 = .ok (.iconst 1, 1) := dcl_at (f := fun k => decode cL_law k) dlb_l4 6 rfl
theorem dL_law_1843 : decode cL_law 1843 = .ok (.iadd, 1) := dcl_at (f := fun k => decode cL_law k) dlb_l4 7 rfl
theorem dL_law_1844 : decode cL_law 1844 = .ok (.iaload, 1) := dcl_at (f := fun k => decode cL_law k) dlb_l4 8 rfl
theorem dL_law_1845 : decode cL_law 1845 = .ok (.aload_n 0, 1) := dcl_at (f := fun k => decode cL_law k) dlb_l4 9 rfl
theorem dL_law_1846 : decode cL_law 1846 = .ok (.iload 5, 2) := dcl_at (f := fun k => decode cL_law k) dlb_l4 10 rfl
theorem dL_law_1848 : decode cL_law 1848 = .ok (.iconst 2, 1) := dcl_at (f := fun k => decode cL_law k) dlb_l4 11 rfl
theorem dL_law_1849 : decode cL_law 1849 = .ok (.iadd, 1) := dcl_at (f := fun k => decode cL_law k) dlb_l4 12 rfl
theorem dL_law_1850 : decode cL_law 1850 = .ok (.iaload, 1) := dcl_at (f := fun k => decode cL_law k) dlb_l4 13 rfl
theorem dL_law_1851 : decode cL_law 1851 = .ok (.aload_n 3, 1) := dcl_at (f := fun k => decode cL_law k) dlb_l4 14 rfl
theorem dL_law_1852 : decode cL_law 1852 = .ok (.invokestatic 215, 3) := dcl_at (f := fun k => decode cL_law k) dlb_l4 15 rfl
theorem dL_law_1855 : decode cL_law 1855 = .ok (.istore 6, 2) := dcl_at (f := fun k => decode cL_law k) dlb_l4 16 rfl
theorem dL_law_1857 : decode cL_law 1857 = .ok (.aload_n 2, 1) := dcl_at (f := fun k => decode cL_law k) dlb_l4 17 rfl
theorem dL_law_1858 : decode cL_law 1858 = .ok (.aload_n 0, 1) := dcl_at (f := fun k => decode cL_law k) dlb_l4 18 rfl
theorem dL_law_1859 : decode cL_law 1859 = .ok (.iload 5, 2) := dcl_at (f := fun k => decode cL_law k) dlb_l4 19 rfl
theorem dL_law_1861 : decode cL_law 1861 = .ok (.iconst 1, 1) := dcl_at (f := fun k => decode cL_law k) dlb_l4 20 rfl
theorem dL_law_1862 : decode cL_law 1862 = .ok (.iadd, 1) := dcl_at (f := fun k => decode cL_law k) dlb_l4 21 rfl
theorem dL_law_1863 : decode cL_law 1863 = .ok (.iaload, 1) := dcl_at (f := fun k => decode cL_law k) dlb_l4 22 rfl
theorem dL_law_1864 : decode cL_law 1864 = .ok (.aload_n 0, 1) := dcl_at (f := fun k => decode cL_law k) dlb_l4 23 rfl
theorem dL_law_1865 : decode cL_law 1865 = .ok (.iload 5, 2) := dcl_at (f := fun k => decode cL_law k) dlb_l4 24 rfl
theorem dL_law_1867 : decode cL_law 1867 = .ok (.iconst 2, 1) := dcl_at (f := fun k => decode cL_law k) dlb_l4 25 rfl
theorem dL_law_1868 : decode cL_law 1868 = .ok (.iadd, 1) := dcl_at (f := fun k => decode cL_law k) dlb_l4 26 rfl
theorem dL_law_1869 : decode cL_law 1869 = .ok (.iaload, 1) := dcl_at (f := fun k => decode cL_law k) dlb_l4 27 rfl
theorem dL_law_1870 : decode cL_law 1870 = .ok (.invokevirtual 217, 3) := dcl_at (f := fun k => decode cL_law k) dlb_l4 28 rfl
theorem dL_law_1873 : decode cL_law 1873 = .ok (.istore 7, 2) := dcl_at (f := fun k => decode cL_law k) dlb_l4 29 rfl
theorem dL_law_1875 : decode cL_law 1875 = .ok (.aload_n 2, 1) := dcl_at (f := fun k => decode cL_law k) dlb_l4 30 rfl
theorem dL_law_1876 : decode cL_law 1876 = .ok (.invokevirtual 125, 3) := dcl_at (f := fun k => decode cL_law k) dlb_l4 31 rfl
theorem dL_law_1879 : decode cL_law 1879 = .ok (.iload 6, 2) := dcl_at (f := fun k => decode cL_law k) dlb_l4 32 rfl
theorem dL_law_1881 : decode cL_law 1881 = .ok (.if_icmp .eq 5, 3) := dcl_at (f := fun k => decode cL_law k) dlb_l4 33 rfl
theorem dL_law_1884 : decode cL_law 1884 = .ok (.iconst 0, 1) := dcl_at (f := fun k => decode cL_law k) dlb_l4 34 rfl
theorem dL_law_1885 : decode cL_law 1885 = .ok (.ireturn, 1) := dcl_at (f := fun k => decode cL_law k) dlb_l4 35 rfl
def dlb_l5l : List (Nat × Instr × Nat) := [(1886, .iload 6, 2), (1888, .ifCond .ne 15, 3), (1891, .aload_n 3, 1), (1892, .iconst 0, 1), (1893, .laload, 1), (1894, .iload 7, 2), (1896, .i2l, 1), (1897, .lcmp, 1), (1898, .ifCond .eq 5, 3), (1901, .iconst 0, 1), (1902, .ireturn, 1), (1903, .goto 215, 3), (1906, .aload_n 1, 1), (1907, .aload_n 0, 1), (1908, .iload 5, 2), (1910, .iconst 1, 1), (1911, .iadd, 1), (1912, .iaload, 1), (1913, .aload_n 0, 1), (1914, .iload 5, 2), (1916, .iconst 2, 1), (1917, .iadd, 1), (1918, .iaload, 1), (1919, .aload_n 3, 1), (1920, .invokestatic 218, 3), (1923, .istore 6, 2), (1925, .aload_n 2, 1), (1926, .aload_n 0, 1), (1927, .iload 5, 2), (1929, .iconst 1, 1), (1930, .iadd, 1), (1931, .iaload, 1), (1932, .aload_n 0, 1), (1933, .iload 5, 2), (1935, .iconst 2, 1), (1936, .iadd, 1)]
theorem dlb_l5 : dcl (fun k => decode cL_law k) dlb_l5l = true := by decide +kernel
theorem dL_law_1886 : decode cL_law 1886 = .ok (.iload 6, 2) := dcl_at (f := fun k => decode cL_law k) dlb_l5 0 rfl
theorem dL_law_1888 : decode cL_law 1888 = .ok (.ifCond .ne 15, 3) := dcl_at (f := fun k => decode cL_law k) dlb_l5 1 rfl
theorem dL_law_1891 : decode cL_law 1891 = .ok (.aload_n 3, 1) := dcl_at (f := fun k => decode cL_law k) dlb_l5 2 rfl
theorem dL_law_1892 : decode cL_law 1892 = .ok (.iconst 0, 1) := dcl_at (f := fun k => decode cL_law k) dlb_l5 3 rfl
theorem dL_law_1893 : decode cL_law 1893 = .ok (.laload, 1) := dcl_at (f := fun k => decode cL_law k) dlb_l5 4 rfl
theorem dL_law_1894 : decode cL_law 1894 = .ok (.iload 7, 2) := dcl_at (f := fun k => decode cL_law k) dlb_l5 5 rfl
theorem dL_law_1896 : decode cL_law 1896 = .ok (.i2l, 1) := dcl_at (f := fun k => decode cL_law k) dlb_l5 6 rfl
theorem dL_law_1897 : decode cL_law 1897 = .ok (.lcmp, 1) := dcl_at (f := fun k => decode cL_law k) dlb_l5 7 rfl
theorem dL_law_1898 : decode cL_law 1898 = .ok (.ifCond .eq 5, 3) := dcl_at (f := fun k => decode cL_law k) dlb_l5 8 rfl
theorem dL_law_1901 : decode cL_law 1901 = .ok (.iconst 0, 1) := dcl_at (f := fun k => decode cL_law k) dlb_l5 9 rfl
theorem dL_law_1902 : decode cL_law 1902 = .ok (.ireturn, 1) := dcl_at (f := fun k => decode cL_law k) dlb_l5 10 rfl
theorem dL_law_1903 : decode cL_law 1903 = .ok (.goto 215, 3) := dcl_at (f := fun k => decode cL_law k) dlb_l5 11 rfl
theorem dL_law_1906 : decode cL_law 1906 = .ok (.aload_n 1, 1) := dcl_at (f := fun k => decode cL_law k) dlb_l5 12 rfl
theorem dL_law_1907 : decode cL_law 1907 = .ok (.aload_n 0, 1) := dcl_at (f := fun k => decode cL_law k) dlb_l5 13 rfl
theorem dL_law_1908 : decode cL_law 1908 = .ok (.iload 5, 2) := dcl_at (f := fun k => decode cL_law k) dlb_l5 14 rfl
theorem dL_law_1910 : decode cL_law 1910 = .ok (.iconst 1, 1) := dcl_at (f := fun k => decode cL_law k) dlb_l5 15 rfl
theorem dL_law_1911 : decode cL_law 1911 = .ok (.iadd, 1) := dcl_at (f := fun k => decode cL_law k) dlb_l5 16 rfl
theorem dL_law_1912 : decode cL_law 1912 = .ok (.iaload, 1) := dcl_at (f := fun k => decode cL_law k) dlb_l5 17 rfl
theorem dL_law_1913 : decode cL_law 1913 = .ok (.aload_n 0, 1) := dcl_at (f := fun k => decode cL_law k) dlb_l5 18 rfl
theorem dL_law_1914 : decode cL_law 1914 = .ok (.iload 5, 2) := dcl_at (f := fun k => decode cL_law k) dlb_l5 19 rfl
theorem dL_law_1916 : decode cL_law 1916 = .ok (.iconst 2, 1) := dcl_at (f := fun k => decode cL_law k) dlb_l5 20 rfl
theorem dL_law_1917 : decode cL_law 1917 = .ok (.iadd, 1) := dcl_at (f := fun k => decode cL_law k) dlb_l5 21 rfl
theorem dL_law_1918 : decode cL_law 1918 = .ok (.iaload, 1) := dcl_at (f := fun k => decode cL_law k) dlb_l5 22 rfl
theorem dL_law_1919 : decode cL_law 1919 = .ok (.aload_n 3, 1) := dcl_at (f := fun k => decode cL_law k) dlb_l5 23 rfl
theorem dL_law_1920 : decode cL_law 1920 = .ok (.invokestatic 218, 3) := dcl_at (f := fun k => decode cL_law k) dlb_l5 24 rfl
theorem dL_law_1923 : decode cL_law 1923 = .ok (.istore 6, 2) := dcl_at (f := fun k => decode cL_law k) dlb_l5 25 rfl
theorem dL_law_1925 : decode cL_law 1925 = .ok (.aload_n 2, 1) := dcl_at (f := fun k => decode cL_law k) dlb_l5 26 rfl
theorem dL_law_1926 : decode cL_law 1926 = .ok (.aload_n 0, 1) := dcl_at (f := fun k => decode cL_law k) dlb_l5 27 rfl
theorem dL_law_1927 : decode cL_law 1927 = .ok (.iload 5, 2) := dcl_at (f := fun k => decode cL_law k) dlb_l5 28 rfl
theorem dL_law_1929 : decode cL_law 1929 = .ok (.iconst 1, 1) := dcl_at (f := fun k => decode cL_law k) dlb_l5 29 rfl
theorem dL_law_1930 : decode cL_law 1930 = .ok (.iadd, 1) := dcl_at (f := fun k => decode cL_law k) dlb_l5 30 rfl
theorem dL_law_1931 : decode cL_law 1931 = .ok (.iaload, 1) := dcl_at (f := fun k => decode cL_law k) dlb_l5 31 rfl
theorem dL_law_1932 : decode cL_law 1932 = .ok (.aload_n 0, 1) := dcl_at (f := fun k => decode cL_law k) dlb_l5 32 rfl
theorem dL_law_1933 : decode cL_law 1933 = .ok (.iload 5, 2) := dcl_at (f := fun k => decode cL_law k) dlb_l5 33 rfl
theorem dL_law_1935 : decode cL_law 1935 = .ok (.iconst 2, 1) := dcl_at (f := fun k => decode cL_law k) dlb_l5 34 rfl
theorem dL_law_1936 : decode cL_law 1936 = .ok (.iadd, 1) := dcl_at (f := fun k => decode cL_law k) dlb_l5 35 rfl
def dlb_l6l : List (Nat × Instr × Nat) := [(1937, .iaload, 1), (1938, .invokevirtual 220, 3), (1941, .istore 7, 2), (1943, .aload_n 2, 1), (1944, .invokevirtual 125, 3), (1947, .iload 6, 2), (1949, .if_icmp .eq 5, 3), (1952, .iconst 0, 1), (1953, .ireturn, 1), (1954, .iload 6, 2), (1956, .ifCond .ne 15, 3), (1959, .aload_n 3, 1), (1960, .iconst 0, 1), (1961, .laload, 1), (1962, .iload 7, 2), (1964, .i2l, 1), (1965, .lcmp, 1), (1966, .ifCond .eq 5, 3), (1969, .iconst 0, 1), (1970, .ireturn, 1), (1971, .goto 147, 3), (1974, .aload_n 1, 1), (1975, .invokevirtual 221, 3), (1978, .aload_n 2, 1), (1979, .invokevirtual 224, 3), (1982, .if_icmp .eq 136, 3), (1985, .iconst 0, 1), (1986, .ireturn, 1), (1987, .aload_n 1, 1), (1988, .aload 4, 2), (1990, .invokestatic 225, 3), (1993, .istore 6, 2), (1995, .aload_n 2, 1), (1996, .invokevirtual 228, 3), (1999, .fstore 7, 2), (2001, .aload_n 2, 1)]
theorem dlb_l6 : dcl (fun k => decode cL_law k) dlb_l6l = true := by decide +kernel
theorem dL_law_1937 : decode cL_law 1937 = .ok (.iaload, 1) := dcl_at (f := fun k => decode cL_law k) dlb_l6 0 rfl
theorem dL_law_1938 : decode cL_law 1938 = .ok (.invokevirtual 220, 3) := dcl_at (f := fun k => decode cL_law k) dlb_l6 1 rfl
theorem dL_law_1941 : decode cL_law 1941 = .ok (.istore 7, 2) := dcl_at (f := fun k => decode cL_law k) dlb_l6 2 rfl
theorem dL_law_1943 : decode cL_law 1943 = .ok (.aload_n 2, 1) := dcl_at (f := fun k => decode cL_law k) dlb_l6 3 rfl
theorem dL_law_1944 : decode cL_law 1944 = .ok (.invokevirtual 125, 3) := dcl_at (f := fun k => decode cL_law k) dlb_l6 4 rfl
theorem dL_law_1947 : decode cL_law 1947 = .ok (.iload 6, 2) := dcl_at (f := fun k => decode cL_law k) dlb_l6 5 rfl
theorem dL_law_1949 : decode cL_law 1949 = .ok (.if_icmp .eq 5, 3) := dcl_at (f := fun k => decode cL_law k) dlb_l6 6 rfl
theorem dL_law_1952 : decode cL_law 1952 = .ok (.iconst 0, 1) := dcl_at (f := fun k => decode cL_law k) dlb_l6 7 rfl
theorem dL_law_1953 : decode cL_law 1953 = .ok (.ireturn, 1) := dcl_at (f := fun k => decode cL_law k) dlb_l6 8 rfl
theorem dL_law_1954 : decode cL_law 1954 = .ok (.iload 6, 2) := dcl_at (f := fun k => decode cL_law k) dlb_l6 9 rfl
theorem dL_law_1956 : decode cL_law 1956 = .ok (.ifCond .ne 15, 3) := dcl_at (f := fun k => decode cL_law k) dlb_l6 10 rfl
theorem dL_law_1959 : decode cL_law 1959 = .ok (.aload_n 3, 1) := dcl_at (f := fun k => decode cL_law k) dlb_l6 11 rfl
theorem dL_law_1960 : decode cL_law 1960 = .ok (.iconst 0, 1) := dcl_at (f := fun k => decode cL_law k) dlb_l6 12 rfl
theorem dL_law_1961 : decode cL_law 1961 = .ok (.laload, 1) := dcl_at (f := fun k => decode cL_law k) dlb_l6 13 rfl
theorem dL_law_1962 : decode cL_law 1962 = .ok (.iload 7, 2) := dcl_at (f := fun k => decode cL_law k) dlb_l6 14 rfl
theorem dL_law_1964 : decode cL_law 1964 = .ok (.i2l, 1) := dcl_at (f := fun k => decode cL_law k) dlb_l6 15 rfl
theorem dL_law_1965 : decode cL_law 1965 = .ok (.lcmp, 1) := dcl_at (f := fun k => decode cL_law k) dlb_l6 16 rfl
theorem dL_law_1966 : decode cL_law 1966 = .ok (.ifCond .eq 5, 3) := dcl_at (f := fun k => decode cL_law k) dlb_l6 17 rfl
theorem dL_law_1969 : decode cL_law 1969 = .ok (.iconst 0, 1) := dcl_at (f := fun k => decode cL_law k) dlb_l6 18 rfl
theorem dL_law_1970 : decode cL_law 1970 = .ok (.ireturn, 1) := dcl_at (f := fun k => decode cL_law k) dlb_l6 19 rfl
theorem dL_law_1971 : decode cL_law 1971 = .ok (.goto 147, 3) := dcl_at (f := fun k => decode cL_law k) dlb_l6 20 rfl
theorem dL_law_1974 : decode cL_law 1974 = .ok (.aload_n 1, 1) := dcl_at (f := fun k => decode cL_law k) dlb_l6 21 rfl
theorem dL_law_1975 : decode cL_law 1975 = .ok (.invokevirtual 221, 3) := dcl_at (f := fun k => decode cL_law k) dlb_l6 22 rfl
theorem dL_law_1978 : decode cL_law 1978 = .ok (.aload_n 2, 1) := dcl_at (f := fun k => decode cL_law k) dlb_l6 23 rfl
theorem dL_law_1979 : decode cL_law 1979 = .ok (.invokevirtual 224, 3) := dcl_at (f := fun k => decode cL_law k) dlb_l6 24 rfl
theorem dL_law_1982 : decode cL_law 1982 = .ok (.if_icmp .eq 136, 3) := dcl_at (f := fun k => decode cL_law k) dlb_l6 25 rfl
theorem dL_law_1985 : decode cL_law 1985 = .ok (.iconst 0, 1) := dcl_at (f := fun k => decode cL_law k) dlb_l6 26 rfl
theorem dL_law_1986 : decode cL_law 1986 = .ok (.ireturn, 1) := dcl_at (f := fun k => decode cL_law k) dlb_l6 27 rfl
theorem dL_law_1987 : decode cL_law 1987 = .ok (.aload_n 1, 1) := dcl_at (f := fun k => decode cL_law k) dlb_l6 28 rfl
theorem dL_law_1988 : decode cL_law 1988 = .ok (.aload 4, 2) := dcl_at (f := fun k => decode cL_law k) dlb_l6 29 rfl
theorem dL_law_1990 : decode cL_law 1990 = .ok (.invokestatic 225, 3) := dcl_at (f := fun k => decode cL_law k) dlb_l6 30 rfl
theorem dL_law_1993 : decode cL_law 1993 = .ok (.istore 6, 2) := dcl_at (f := fun k => decode cL_law k) dlb_l6 31 rfl
theorem dL_law_1995 : decode cL_law 1995 = .ok (.aload_n 2, 1) := dcl_at (f := fun k => decode cL_law k) dlb_l6 32 rfl
theorem dL_law_1996 : decode cL_law 1996 = .ok (.invokevirtual 228, 3) := dcl_at (f := fun k => decode cL_law k) dlb_l6 33 rfl
theorem dL_law_1999 : decode cL_law 1999 = .ok (.fstore 7, 2) := dcl_at (f := fun k => decode cL_law k) dlb_l6 34 rfl
theorem dL_law_2001 : decode cL_law 2001 = .ok (.aload_n 2, 1) := dcl_at (f := fun k => decode cL_law k) dlb_l6 35 rfl
def dlb_l7l : List (Nat × Instr × Nat) := [(2002, .invokevirtual 125, 3), (2005, .iload 6, 2), (2007, .if_icmp .eq 5, 3), (2010, .iconst 0, 1), (2011, .ireturn, 1), (2012, .iload 6, 2), (2014, .ifCond .ne 36, 3), (2017, .aload 4, 2), (2019, .iconst 0, 1), (2020, .daload, 1), (2021, .fload 7, 2), (2023, .f2d, 1), (2024, .dcmp .l, 1), (2025, .ifCond .eq 25, 3), (2028, .aload 4, 2), (2030, .iconst 0, 1), (2031, .daload, 1), (2032, .aload 4, 2), (2034, .iconst 0, 1), (2035, .daload, 1), (2036, .dcmp .l, 1), (2037, .ifCond .eq 11, 3), (2040, .fload 7, 2), (2042, .fload 7, 2), (2044, .fcmp .l, 1), (2045, .ifCond .ne 5, 3), (2048, .iconst 0, 1), (2049, .ireturn, 1), (2050, .goto 68, 3), (2053, .aload_n 1, 1), (2054, .aload 4, 2), (2056, .invokestatic 229, 3), (2059, .istore 6, 2), (2061, .aload_n 2, 1), (2062, .invokevirtual 231, 3), (2065, .dstore 7, 2)]
theorem dlb_l7 : dcl (fun k => decode cL_law k) dlb_l7l = true := by decide +kernel
theorem dL_law_2002 : decode cL_law 2002 = .ok (.invokevirtual 125, 3) := dcl_at (f := fun k => decode cL_law k) dlb_l7 0 rfl
theorem dL_law_2005 : decode cL_law 2005 = .ok (.iload 6, 2) := dcl_at (f := fun k => decode cL_law k) dlb_l7 1 rfl
theorem dL_law_2007 : decode cL_law 2007 = .ok (.if_icmp .eq 5, 3) := dcl_at (f := fun k => decode cL_law k) dlb_l7 2 rfl
theorem dL_law_2010 : decode cL_law 2010 = .ok (.iconst 0, 1) := dcl_at (f := fun k => decode cL_law k) dlb_l7 3 rfl
theorem dL_law_2011 : decode cL_law 2011 = .ok (.ireturn, 1) := dcl_at (f := fun k => decode cL_law k) dlb_l7 4 rfl
theorem dL_law_2012 : decode cL_law 2012 = .ok (.iload 6, 2) := dcl_at (f := fun k => decode cL_law k) dlb_l7 5 rfl
theorem dL_law_2014 : decode cL_law 2014 = .ok (.ifCond .ne 36, 3) := dcl_at (f := fun k => decode cL_law k) dlb_l7 6 rfl
theorem dL_law_2017 : decode cL_law 2017 = .ok (.aload 4, 2) := dcl_at (f := fun k => decode cL_law k) dlb_l7 7 rfl
theorem dL_law_2019 : decode cL_law 2019 = .ok (.iconst 0, 1) := dcl_at (f := fun k => decode cL_law k) dlb_l7 8 rfl
theorem dL_law_2020 : decode cL_law 2020 = .ok (.daload, 1) := dcl_at (f := fun k => decode cL_law k) dlb_l7 9 rfl
theorem dL_law_2021 : decode cL_law 2021 = .ok (.fload 7, 2) := dcl_at (f := fun k => decode cL_law k) dlb_l7 10 rfl
theorem dL_law_2023 : decode cL_law 2023 = .ok (.f2d, 1) := dcl_at (f := fun k => decode cL_law k) dlb_l7 11 rfl
theorem dL_law_2024 : decode cL_law 2024 = .ok (.dcmp .l, 1) := dcl_at (f := fun k => decode cL_law k) dlb_l7 12 rfl
theorem dL_law_2025 : decode cL_law 2025 = .ok (.ifCond .eq 25, 3) := dcl_at (f := fun k => decode cL_law k) dlb_l7 13 rfl
theorem dL_law_2028 : decode cL_law 2028 = .ok (.aload 4, 2) := dcl_at (f := fun k => decode cL_law k) dlb_l7 14 rfl
theorem dL_law_2030 : decode cL_law 2030 = .ok (.iconst 0, 1) := dcl_at (f := fun k => decode cL_law k) dlb_l7 15 rfl
theorem dL_law_2031 : decode cL_law 2031 = .ok (.daload, 1) := dcl_at (f := fun k => decode cL_law k) dlb_l7 16 rfl
theorem dL_law_2032 : decode cL_law 2032 = .ok (.aload 4, 2) := dcl_at (f := fun k => decode cL_law k) dlb_l7 17 rfl
theorem dL_law_2034 : decode cL_law 2034 = .ok (.iconst 0, 1) := dcl_at (f := fun k => decode cL_law k) dlb_l7 18 rfl
theorem dL_law_2035 : decode cL_law 2035 = .ok (.daload, 1) := dcl_at (f := fun k => decode cL_law k) dlb_l7 19 rfl
theorem dL_law_2036 : decode cL_law 2036 = .ok (.dcmp .l, 1) := dcl_at (f := fun k => decode cL_law k) dlb_l7 20 rfl
theorem dL_law_2037 : decode cL_law 2037 = .ok (.ifCond .eq 11, 3) := dcl_at (f := fun k => decode cL_law k) dlb_l7 21 rfl
theorem dL_law_2040 : decode cL_law 2040 = .ok (.fload 7, 2) := dcl_at (f := fun k => decode cL_law k) dlb_l7 22 rfl
theorem dL_law_2042 : decode cL_law 2042 = .ok (.fload 7, 2) := dcl_at (f := fun k => decode cL_law k) dlb_l7 23 rfl
theorem dL_law_2044 : decode cL_law 2044 = .ok (.fcmp .l, 1) := dcl_at (f := fun k => decode cL_law k) dlb_l7 24 rfl
theorem dL_law_2045 : decode cL_law 2045 = .ok (.ifCond .ne 5, 3) := dcl_at (f := fun k => decode cL_law k) dlb_l7 25 rfl
theorem dL_law_2048 : decode cL_law 2048 = .ok (.iconst 0, 1) := dcl_at (f := fun k => decode cL_law k) dlb_l7 26 rfl
theorem dL_law_2049 : decode cL_law 2049 = .ok (.ireturn, 1) := dcl_at (f := fun k => decode cL_law k) dlb_l7 27 rfl
theorem dL_law_2050 : decode cL_law 2050 = .ok (.goto 68, 3) := dcl_at (f := fun k => decode cL_law k) dlb_l7 28 rfl
theorem dL_law_2053 : decode cL_law 2053 = .ok (.aload_n 1, 1) := dcl_at (f := fun k => decode cL_law k) dlb_l7 29 rfl
theorem dL_law_2054 : decode cL_law 2054 = .ok (.aload 4, 2) := dcl_at (f := fun k => decode cL_law k) dlb_l7 30 rfl
theorem dL_law_2056 : decode cL_law 2056 = .ok (.invokestatic 229, 3) := dcl_at (f := fun k => decode cL_law k) dlb_l7 31 rfl
theorem dL_law_2059 : decode cL_law 2059 = .ok (.istore 6, 2) := dcl_at (f := fun k => decode cL_law k) dlb_l7 32 rfl
theorem dL_law_2061 : decode cL_law 2061 = .ok (.aload_n 2, 1) := dcl_at (f := fun k => decode cL_law k) dlb_l7 33 rfl
theorem dL_law_2062 : decode cL_law 2062 = .ok (.invokevirtual 231, 3) := dcl_at (f := fun k => decode cL_law k) dlb_l7 34 rfl
theorem dL_law_2065 : decode cL_law 2065 = .ok (.dstore 7, 2) := dcl_at (f := fun k => decode cL_law k) dlb_l7 35 rfl
def dlb_l8l : List (Nat × Instr × Nat) := [(2067, .aload_n 2, 1), (2068, .invokevirtual 125, 3), (2071, .iload 6, 2), (2073, .if_icmp .eq 5, 3), (2076, .iconst 0, 1), (2077, .ireturn, 1), (2078, .iload 6, 2), (2080, .ifCond .ne 35, 3), (2083, .aload 4, 2), (2085, .iconst 0, 1), (2086, .daload, 1), (2087, .dload 7, 2), (2089, .dcmp .l, 1), (2090, .ifCond .eq 25, 3), (2093, .aload 4, 2), (2095, .iconst 0, 1), (2096, .daload, 1), (2097, .aload 4, 2), (2099, .iconst 0, 1), (2100, .daload, 1), (2101, .dcmp .l, 1), (2102, .ifCond .eq 11, 3), (2105, .dload 7, 2), (2107, .dload 7, 2), (2109, .dcmp .l, 1), (2110, .ifCond .ne 5, 3), (2113, .iconst 0, 1), (2114, .ireturn, 1), (2115, .goto 3, 3), (2118, .iinc 5 4, 3), (2121, .goto (-2093), 3), (2124, .iconst 1, 1), (2125, .ireturn, 1)]
theorem dlb_l8 : dcl (fun k => decode cL_law k) dlb_l8l = true := by decide +kernel
theorem dL_law_2067 : decode cL_law 2067 = .ok (.aload_n 2, 1) := dcl_at (f := fun k => decode cL_law k) dlb_l8 0 rfl
theorem dL_law_2068 : decode cL_law 2068 = .ok (.invokevirtual 125, 3) := dcl_at (f := fun k => decode cL_law k) dlb_l8 1 rfl
theorem dL_law_2071 : decode cL_law 2071 = .ok (.iload 6, 2) := dcl_at (f := fun k => decode cL_law k) dlb_l8 2 rfl
theorem dL_law_2073 : decode cL_law 2073 = .ok (.if_icmp .eq 5, 3) := dcl_at (f := fun k => decode cL_law k) dlb_l8 3 rfl
theorem dL_law_2076 : decode cL_law 2076 = .ok (.iconst 0, 1) := dcl_at (f := fun k => decode cL_law k) dlb_l8 4 rfl
theorem dL_law_2077 : decode cL_law 2077 = .ok (.ireturn, 1) := dcl_at (f := fun k => decode cL_law k) dlb_l8 5 rfl
theorem dL_law_2078 : decode cL_law 2078 = .ok (.iload 6, 2) := dcl_at (f := fun k => decode cL_law k) dlb_l8 6 rfl
theorem dL_law_2080 : decode cL_law 2080 = .ok (.ifCond .ne 35, 3) := dcl_at (f := fun k => decode cL_law k) dlb_l8 7 rfl
theorem dL_law_2083 : decode cL_law 2083 = .ok (.aload 4, 2) := dcl_at (f := fun k => decode cL_law k) dlb_l8 8 rfl
theorem dL_law_2085 : decode cL_law 2085 = .ok (.iconst 0, 1) := dcl_at (f := fun k => decode cL_law k) dlb_l8 9 rfl
theorem dL_law_2086 : decode cL_law 2086 = .ok (.daload, 1) := dcl_at (f := fun k => decode cL_law k) dlb_l8 10 rfl
theorem dL_law_2087 : decode cL_law 2087 = .ok (.dload 7, 2) := dcl_at (f := fun k => decode cL_law k) dlb_l8 11 rfl
theorem dL_law_2089 : decode cL_law 2089 = .ok (.dcmp .l, 1) := dcl_at (f := fun k => decode cL_law k) dlb_l8 12 rfl
theorem dL_law_2090 : decode cL_law 2090 = .ok (.ifCond .eq 25, 3) := dcl_at (f := fun k => decode cL_law k) dlb_l8 13 rfl
theorem dL_law_2093 : decode cL_law 2093 = .ok (.aload 4, 2) := dcl_at (f := fun k => decode cL_law k) dlb_l8 14 rfl
theorem dL_law_2095 : decode cL_law 2095 = .ok (.iconst 0, 1) := dcl_at (f := fun k => decode cL_law k) dlb_l8 15 rfl
theorem dL_law_2096 : decode cL_law 2096 = .ok (.daload, 1) := dcl_at (f := fun k => decode cL_law k) dlb_l8 16 rfl
theorem dL_law_2097 : decode cL_law 2097 = .ok (.aload 4, 2) := dcl_at (f := fun k => decode cL_law k) dlb_l8 17 rfl
theorem dL_law_2099 : decode cL_law 2099 = .ok (.iconst 0, 1) := dcl_at (f := fun k => decode cL_law k) dlb_l8 18 rfl
theorem dL_law_2100 : decode cL_law 2100 = .ok (.daload, 1) := dcl_at (f := fun k => decode cL_law k) dlb_l8 19 rfl
theorem dL_law_2101 : decode cL_law 2101 = .ok (.dcmp .l, 1) := dcl_at (f := fun k => decode cL_law k) dlb_l8 20 rfl
theorem dL_law_2102 : decode cL_law 2102 = .ok (.ifCond .eq 11, 3) := dcl_at (f := fun k => decode cL_law k) dlb_l8 21 rfl
theorem dL_law_2105 : decode cL_law 2105 = .ok (.dload 7, 2) := dcl_at (f := fun k => decode cL_law k) dlb_l8 22 rfl
theorem dL_law_2107 : decode cL_law 2107 = .ok (.dload 7, 2) := dcl_at (f := fun k => decode cL_law k) dlb_l8 23 rfl
theorem dL_law_2109 : decode cL_law 2109 = .ok (.dcmp .l, 1) := dcl_at (f := fun k => decode cL_law k) dlb_l8 24 rfl
theorem dL_law_2110 : decode cL_law 2110 = .ok (.ifCond .ne 5, 3) := dcl_at (f := fun k => decode cL_law k) dlb_l8 25 rfl
theorem dL_law_2113 : decode cL_law 2113 = .ok (.iconst 0, 1) := dcl_at (f := fun k => decode cL_law k) dlb_l8 26 rfl
theorem dL_law_2114 : decode cL_law 2114 = .ok (.ireturn, 1) := dcl_at (f := fun k => decode cL_law k) dlb_l8 27 rfl
theorem dL_law_2115 : decode cL_law 2115 = .ok (.goto 3, 3) := dcl_at (f := fun k => decode cL_law k) dlb_l8 28 rfl
theorem dL_law_2118 : decode cL_law 2118 = .ok (.iinc 5 4, 3) := dcl_at (f := fun k => decode cL_law k) dlb_l8 29 rfl
theorem dL_law_2121 : decode cL_law 2121 = .ok (.goto (-2093), 3) := dcl_at (f := fun k => decode cL_law k) dlb_l8 30 rfl
theorem dL_law_2124 : decode cL_law 2124 = .ok (.iconst 1, 1) := dcl_at (f := fun k => decode cL_law k) dlb_l8 31 rfl
theorem dL_law_2125 : decode cL_law 2125 = .ok (.ireturn, 1) := dcl_at (f := fun k => decode cL_law k) dlb_l8 32 rfl
