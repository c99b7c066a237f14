theorem dL_law_1618 : decode cL_law 1618 = .ok (.iaload, 1) := by decide +kernel
theorem dL_law_1619 : decode cL_law 1619 = .ok (.aload_n 0, 1) := by decide +kernel
theorem dL_law_1620 : decode cL_law 1620 = .ok (.iload_n 3, 1) := by decide +kernel
theorem dL_law_1621 : decode cL_law 1621 = .ok (.iconst 2, 1) := by decide +kernel
theorem dL_law_1622 : decode cL_law 1622 = .ok (.iadd, 1) := by decide +kernel
theorem dL_law_1623 : decode cL_law 1623 = .ok (.iaload, 1) := by decide +kernel
theorem dL_law_1624 : decode cL_law 1624 = .ok (.invokevirtual 212, 3) := by decide +kernel
theorem dL_law_1627 : decode cL_law 1627 = .ok (.aload_n 2, 1) := by decide +kernel
theorem dL_law_1628 : decode cL_law 1628 = .ok (.aload_n 0, 1) := by decide +kernel
theorem dL_law_1629 : decode cL_law 1629 = .ok (.iload_n 3, 1) := by decide +kernel
theorem dL_law_1630 : decode cL_law 1630 = .ok (.iconst 1, 1) := by decide +kernel
theorem dL_law_1631 : decode cL_law 1631 = .ok (.iadd, 1) := by decide +kernel
theorem dL_law_1632 : decode cL_law 1632 = .ok (.iaload, 1) := by decide +kernel
theorem dL_law_1633 : decode cL_law 1633 = .ok (.aload_n 0, 1) := by decide +kernel
theorem dL_law_1634 : decode cL_law 1634 = .ok (.iload_n 3, 1) := by decide +kernel
theorem dL_law_1635 : decode cL_law 1635 = .ok (.iconst 2, 1) := by decide +kernel
theorem dL_law_1636 : decode cL_law 1636 = .ok (.iadd, 1) := by decide +kernel
theorem dL_law_1637 : decode cL_law 1637 = .ok (.iaload, 1) := by decide +kernel
theorem dL_law_1638 : decode cL_law 1638 = .ok (.invokevirtual 215, 3) := by decide +kernel
theorem dL_law_1641 : decode cL_law 1641 = .ok (.lcmp, 1) := by decide +kernel
theorem dL_law_1642 : decode cL_law 1642 = .ok (.ifCond .eq 525, 3) := by decide +kernel
theorem dL_law_1647 : decode cL_law 1647 = .ok (.aload_n 1, 1) := by decide +kernel
theorem dL_law_1648 : decode cL_law 1648 = .ok (.aload_n 0, 1) := by decide +kernel
theorem dL_law_1649 : decode cL_law 1649 = .ok (.iload_n 3, 1) := by decide +kernel
theorem dL_law_1650 : decode cL_law 1650 = .ok (.iconst 1, 1) := by decide +kernel
theorem dL_law_1651 : decode cL_law 1651 = .ok (.iadd, 1) := by decide +kernel
theorem dL_law_1652 : decode cL_law 1652 = .ok (.iaload, 1) := by decide +kernel
theorem dL_law_1653 : decode cL_law 1653 = .ok (.aload_n 0, 1) := by decide +kernel
theorem dL_law_1654 : decode cL_law 1654 = .ok (.iload_n 3, 1) := by decide +kernel
theorem dL_law_1655 : decode cL_law 1655 = .ok (.iconst 2, 1) := by decide +kernel
theorem dL_law_1656 : decode cL_law 1656 = .ok (.iadd, 1) := by decide +kernel
theorem dL_law_1657 : decode cL_law 1657 = .ok (.iaload, 1) := by decide +kernel
theorem dL_law_1658 : decode cL_law 1658 = .ok (.aload_n 0, 1) := by decide +kernel
theorem dL_law_1659 : decode cL_law 1659 = .ok (.iload_n 3, 1) := by decide +kernel
theorem dL_law_1660 : decode cL_law 1660 = .ok (.iconst 3, 1) := by decide +kernel
theorem dL_law_1661 : decode cL_law 1661 = .ok (.iadd, 1) := by decide +kernel
theorem dL_law_1662 : decode cL_law 1662 = .ok (.iaload, 1) := by decide +kernel
theorem dL_law_1663 : decode cL_law 1663 = .ok (.invokevirtual 216, 3) := by decide +kernel
theorem dL_law_1666 : decode cL_law 1666 = .ok (.aload_n 2, 1) := by decide +kernel
theorem dL_law_1667 : decode cL_law 1667 = .ok (.aload_n 0, 1) := by decide +kernel
theorem dL_law_1668 : decode cL_law 1668 = .ok (.iload_n 3, 1) := by decide +kernel
theorem dL_law_1669 : decode cL_law 1669 = .ok (.iconst 1, 1) := by decide +kernel
theorem dL_law_1670 : decode cL_law 1670 = .ok (.iadd, 1) := by decide +kernel
theorem dL_law_1671 : decode cL_law 1671 = .ok (.iaload, 1) := by decide +kernel
theorem dL_law_1672 : decode cL_law 1672 = .ok (.aload_n 0, 1) := by decide +kernel
theorem dL_law_1673 : decode cL_law 1673 = .ok (.iload_n 3, 1) := by decide +kernel
theorem dL_law_1674 : decode cL_law 1674 = .ok (.iconst 2, 1) := by decide +kernel
theorem dL_law_1675 : decode cL_law 1675 = .ok (.iadd, 1) := by decide +kernel
theorem dL_law_1676 : decode cL_law 1676 = .ok (.iaload, 1) := by decide +kernel
theorem dL_law_1677 : decode cL_law 1677 = .ok (.aload_n 0, 1) := by decide +kernel
theorem dL_law_1678 : decode cL_law 1678 = .ok (.iload_n 3, 1) := by decide +kernel
theorem dL_law_1679 : decode cL_law 1679 = .ok (.iconst 3, 1) := by decide +kernel
theorem dL_law_1680 : decode cL_law 1680 = .ok (.iadd, 1) := by decide +kernel
theorem dL_law_1681 : decode cL_law 1681 = .ok (.iaload, 1) := by decide +kernel
theorem dL_law_1682 : decode cL_law 1682 = .ok (.invokevirtual 220, 3) := by decide +kernel
theorem dL_law_1685 : decode cL_law 1685 = .ok (.lcmp, 1) := by decide +kernel
theorem dL_law_1686 : decode cL_law 1686 = .ok (.ifCond .eq 481, 3) := by decide +kernel
theorem dL_law_1691 : decode cL_law 1691 = .ok (.aload_n 1, 1) := by decide +kernel
theorem dL_law_1692 : decode cL_law 1692 = .ok (.aload_n 0, 1) := by decide +kernel
theorem dL_law_1693 : decode cL_law 1693 = .ok (.iload_n 3, 1) := by decide +kernel
theorem dL_law_1694 : decode cL_law 1694 = .ok (.iconst 1, 1) := by decide +kernel
theorem dL_law_1695 : decode cL_law 1695 = .ok (.iadd, 1) := by decide +kernel
theorem dL_law_1696 : decode cL_law 1696 = .ok (.iaload, 1) := by decide +kernel
theorem dL_law_1697 : decode cL_law 1697 = .ok (.aload_n 0, 1) := by decide +kernel
theorem dL_law_1698 : decode cL_law 1698 = .ok (.iload_n 3, 1) := by decide +kernel
theorem dL_law_1699 : decode cL_law 1699 = .ok (.iconst 2, 1) := by decide +kernel
theorem dL_law_1700 : decode cL_law 1700 = .ok (.iadd, 1) := by decide +kernel
theorem dL_law_1701 : decode cL_law 1701 = .ok (.iaload, 1) := by decide +kernel
theorem dL_law_1702 : decode cL_law 1702 = .ok (.aload_n 0, 1) := by decide +kernel
theorem dL_law_1703 : decode cL_law 1703 = .ok (.iload_n 3, 1) := by decide +kernel
theorem dL_law_1704 : decode cL_law 1704 = .ok (.iconst 3, 1) := by decide +kernel
theorem dL_law_1705 : decode cL_law 1705 = .ok (.iadd, 1) := by decide +kernel
theorem dL_law_1706 : decode cL_law 1706 = .ok (.iaload, 1) := by decide +kernel
theorem dL_law_1707 : decode cL_law 1707 = .ok (.invokevirtual 221, 3) := by decide +kernel
theorem dL_law_1710 : decode cL_law 1710 = .ok (.aload_n 2, 1) := by decide +kernel
theorem dL_law_1711 : decode cL_law 1711 = .ok (.aload_n 0, 1) := by decide +kernel
theorem dL_law_1712 : decode cL_law 1712 = .ok (.iload_n 3, 1) := by decide +kernel
theorem dL_law_1713 : decode cL_law 1713 = .ok (.iconst 1, 1) := by decide +kernel
theorem dL_law_1714 : decode cL_law 1714 = .ok (.iadd, 1) := by decide +kernel
theorem dL_law_1715 : decode cL_law 1715 = .ok (.iaload, 1) := by decide +kernel
theorem dL_law_1716 : decode cL_law 1716 = .ok (.aload_n 0, 1) := by decide +kernel
theorem dL_law_1717 : decode cL_law 1717 = .ok (.iload_n 3, 1) := by decide +kernel
theorem dL_law_1718 : decode cL_law 1718 = .ok (.iconst 2, 1) := by decide +kernel
theorem dL_law_1719 : decode cL_law 1719 = .ok (.iadd, 1) := by decide +kernel
theorem dL_law_1720 : decode cL_law 1720 = .ok (.iaload, 1) := by decide +kernel
theorem dL_law_1721 : decode cL_law 1721 = .ok (.aload_n 0, 1) := by decide +kernel
theorem dL_law_1722 : decode cL_law 1722 = .ok (.iload_n 3, 1) := by decide +kernel
theorem dL_law_1723 : decode cL_law 1723 = .ok (.iconst 3, 1) := by decide +kernel
theorem dL_law_1724 : decode cL_law 1724 = .ok (.iadd, 1) := by decide +kernel
theorem dL_law_1725 : decode cL_law 1725 = .ok (.iaload, 1) := by decide +kernel
theorem dL_law_1726 : decode cL_law 1726 = .ok (.invokevirtual 224, 3) := by decide +kernel
theorem dL_law_1729 : decode cL_law 1729 = .ok (.if_icmp .eq 438, 3) := by decide +kernel
theorem dL_law_1734 : decode cL_law 1734 = .ok (.aload_n 1, 1) := by decide +kernel
theorem dL_law_1735 : decode cL_law 1735 = .ok (.aload_n 0, 1) := by decide +kernel
theorem dL_law_1736 : decode cL_law 1736 = .ok (.iload_n 3, 1) := by decide +kernel
theorem dL_law_1737 : decode cL_law 1737 = .ok (.iconst 1, 1) := by decide +kernel
theorem dL_law_1738 : decode cL_law 1738 = .ok (.iadd, 1) := by decide +kernel
theorem dL_law_1739 : decode cL_law 1739 = .ok (.iaload, 1) := by decide +kernel
theorem dL_law_1740 : decode cL_law 1740 = .ok (.aload_n 0, 1) := by decide +kernel
theorem dL_law_1741 : decode cL_law 1741 = .ok (.iload_n 3, 1) := by decide +kernel
theorem dL_law_1742 : decode cL_law 1742 = .ok (.iconst 2, 1) := by decide +kernel
theorem dL_law_1743 : decode cL_law 1743 = .ok (.iadd, 1) := by decide +kernel
theorem dL_law_1744 : decode cL_law 1744 = .ok (.iaload, 1) := by decide +kernel
theorem dL_law_1745 : decode cL_law 1745 = .ok (.aload_n 0, 1) := by decide +kernel
theorem dL_law_1746 : decode cL_law 1746 = .ok (.iload_n 3, 1) := by decide +kernel
theorem dL_law_1747 : decode cL_law 1747 = .ok (.iconst 3, 1) := by decide +kernel
theorem dL_law_1748 : decode cL_law 1748 = .ok (.iadd, 1) := by decide +kernel
theorem dL_law_1749 : decode cL_law 1749 = .ok (.iaload, 1) := by decide +kernel
theorem dL_law_1750 : decode cL_law 1750 = .ok (.invokevirtual 225, 3) := by decide +kernel
theorem dL_law_1753 : decode cL_law 1753 = .ok (.aload_n 2, 1) := by decide +kernel
theorem dL_law_1754 : decode cL_law 1754 = .ok (.aload_n 0, 1) := by decide +kernel
theorem dL_law_1755 : decode cL_law 1755 = .ok (.iload_n 3, 1) := by decide +kernel
theorem dL_law_1756 : decode cL_law 1756 = .ok (.iconst 1, 1) := by decide +kernel
theorem dL_law_1757 : decode cL_law 1757 = .ok (.iadd, 1) := by decide +kernel
theorem dL_law_1758 : decode cL_law 1758 = .ok (.iaload, 1) := by decide +kernel
theorem dL_law_1759 : decode cL_law 1759 = .ok (.aload_n 0, 1) := by decide +kernel
theorem dL_law_1760 : decode cL_law 1760 = .ok (.iload_n 3, 1) := by decide +kernel
theorem dL_law_1761 : decode cL_law 1761 = .ok (.iconst 2, 1) := by decide +kernel
theorem dL_law_1762 : decode cL_law 1762 = .ok (.iadd, 1) := by decide +kernel
theorem dL_law_1763 : decode cL_law 1763 = .ok (.iaload, 1) := by decide +kernel
