theorem dL_law_1658 : decode cL_law 1658 = .ok (.iload_n 3, 1) := by decide +kernel
theorem dL_law_1659 : decode cL_law 1659 = .ok (.iconst 3, 1) := by decide +kernel
theorem dL_law_1660 : decode cL_law 1660 = .ok (.iadd, 1) := by decide +kernel
theorem dL_law_1661 : decode cL_law 1661 = .ok (.iaload, 1) := by decide +kernel
theorem dL_law_1662 : decode cL_law 1662 = .ok (.invokevirtual 239, 3) := by decide +kernel
theorem dL_law_1665 : decode cL_law 1665 = .ok (.aload_n 2, 1) := by decide +kernel
theorem dL_law_1666 : decode cL_law 1666 = .ok (.aload_n 0, 1) := by decide +kernel
theorem dL_law_1667 : decode cL_law 1667 = .ok (.iload_n 3, 1) := by decide +kernel
theorem dL_law_1668 : decode cL_law 1668 = .ok (.iconst 1, 1) := by decide +kernel
theorem dL_law_1669 : decode cL_law 1669 = .ok (.iadd, 1) := by decide +kernel
theorem dL_law_1670 : decode cL_law 1670 = .ok (.iaload, 1) := by decide +kernel
theorem dL_law_1671 : decode cL_law 1671 = .ok (.aload_n 0, 1) := by decide +kernel
theorem dL_law_1672 : decode cL_law 1672 = .ok (.iload_n 3, 1) := by decide +kernel
theorem dL_law_1673 : decode cL_law 1673 = .ok (.iconst 2, 1) := by decide +kernel
theorem dL_law_1674 : decode cL_law 1674 = .ok (.iadd, 1) := by decide +kernel
theorem dL_law_1675 : decode cL_law 1675 = .ok (.iaload, 1) := by decide +kernel
theorem dL_law_1676 : decode cL_law 1676 = .ok (.aload_n 0, 1) := by decide +kernel
theorem dL_law_1677 : decode cL_law 1677 = .ok (.iload_n 3, 1) := by decide +kernel
theorem dL_law_1678 : decode cL_law 1678 = .ok (.iconst 3, 1) := by decide +kernel
theorem dL_law_1679 : decode cL_law 1679 = .ok (.iadd, 1) := by decide +kernel
theorem dL_law_1680 : decode cL_law 1680 = .ok (.iaload, 1) := by decide +kernel
theorem dL_law_1681 : decode cL_law 1681 = .ok (.invokevirtual 242, 3) := by decide +kernel
theorem dL_law_1684 : decode cL_law 1684 = .ok (.if_icmp .eq 587, 3) := by decide +kernel
theorem dL_law_1689 : decode cL_law 1689 = .ok (.aload_n 1, 1) := by decide +kernel
theorem dL_law_1690 : decode cL_law 1690 = .ok (.aload_n 0, 1) := by decide +kernel
theorem dL_law_1691 : decode cL_law 1691 = .ok (.iload_n 3, 1) := by decide +kernel
theorem dL_law_1692 : decode cL_law 1692 = .ok (.iconst 1, 1) := by decide +kernel
theorem dL_law_1693 : decode cL_law 1693 = .ok (.iadd, 1) := by decide +kernel
theorem dL_law_1694 : decode cL_law 1694 = .ok (.iaload, 1) := by decide +kernel
theorem dL_law_1695 : decode cL_law 1695 = .ok (.aload_n 0, 1) := by decide +kernel
theorem dL_law_1696 : decode cL_law 1696 = .ok (.iload_n 3, 1) := by decide +kernel
theorem dL_law_1697 : decode cL_law 1697 = .ok (.iconst 2, 1) := by decide +kernel
theorem dL_law_1698 : decode cL_law 1698 = .ok (.iadd, 1) := by decide +kernel
theorem dL_law_1699 : decode cL_law 1699 = .ok (.iaload, 1) := by decide +kernel
theorem dL_law_1700 : decode cL_law 1700 = .ok (.aload_n 0, 1) := by decide +kernel
theorem dL_law_1701 : decode cL_law 1701 = .ok (.iload_n 3, 1) := by decide +kernel
theorem dL_law_1702 : decode cL_law 1702 = .ok (.iconst 3, 1) := by decide +kernel
theorem dL_law_1703 : decode cL_law 1703 = .ok (.iadd, 1) := by decide +kernel
theorem dL_law_1704 : decode cL_law 1704 = .ok (.iaload, 1) := by decide +kernel
theorem dL_law_1705 : decode cL_law 1705 = .ok (.invokevirtual 243, 3) := by decide +kernel
theorem dL_law_1708 : decode cL_law 1708 = .ok (.aload_n 2, 1) := by decide +kernel
theorem dL_law_1709 : decode cL_law 1709 = .ok (.aload_n 0, 1) := by decide +kernel
theorem dL_law_1710 : decode cL_law 1710 = .ok (.iload_n 3, 1) := by decide +kernel
theorem dL_law_1711 : decode cL_law 1711 = .ok (.iconst 1, 1) := by decide +kernel
theorem dL_law_1712 : decode cL_law 1712 = .ok (.iadd, 1) := by decide +kernel
theorem dL_law_1713 : decode cL_law 1713 = .ok (.iaload, 1) := by decide +kernel
theorem dL_law_1714 : decode cL_law 1714 = .ok (.aload_n 0, 1) := by decide +kernel
theorem dL_law_1715 : decode cL_law 1715 = .ok (.iload_n 3, 1) := by decide +kernel
theorem dL_law_1716 : decode cL_law 1716 = .ok (.iconst 2, 1) := by decide +kernel
theorem dL_law_1717 : decode cL_law 1717 = .ok (.iadd, 1) := by decide +kernel
theorem dL_law_1718 : decode cL_law 1718 = .ok (.iaload, 1) := by decide +kernel
theorem dL_law_1719 : decode cL_law 1719 = .ok (.aload_n 0, 1) := by decide +kernel
theorem dL_law_1720 : decode cL_law 1720 = .ok (.iload_n 3, 1) := by decide +kernel
theorem dL_law_1721 : decode cL_law 1721 = .ok (.iconst 3, 1) := by decide +kernel
theorem dL_law_1722 : decode cL_law 1722 = .ok (.iadd, 1) := by decide +kernel
theorem dL_law_1723 : decode cL_law 1723 = .ok (.iaload, 1) := by decide +kernel
theorem dL_law_1724 : decode cL_law 1724 = .ok (.invokevirtual 247, 3) := by decide +kernel
theorem dL_law_1727 : decode cL_law 1727 = .ok (.lcmp, 1) := by decide +kernel
theorem dL_law_1728 : decode cL_law 1728 = .ok (.ifCond .eq 543, 3) := by decide +kernel
theorem dL_law_1733 : decode cL_law 1733 = .ok (.aload_n 1, 1) := by decide +kernel
theorem dL_law_1734 : decode cL_law 1734 = .ok (.aload_n 0, 1) := by decide +kernel
theorem dL_law_1735 : decode cL_law 1735 = .ok (.iload_n 3, 1) := by decide +kernel
theorem dL_law_1736 : decode cL_law 1736 = .ok (.iconst 1, 1) := by decide +kernel
theorem dL_law_1737 : decode cL_law 1737 = .ok (.iadd, 1) := by decide +kernel
theorem dL_law_1738 : decode cL_law 1738 = .ok (.iaload, 1) := by decide +kernel
theorem dL_law_1739 : decode cL_law 1739 = .ok (.aload_n 0, 1) := by decide +kernel
theorem dL_law_1740 : decode cL_law 1740 = .ok (.iload_n 3, 1) := by decide +kernel
theorem dL_law_1741 : decode cL_law 1741 = .ok (.iconst 2, 1) := by decide +kernel
theorem dL_law_1742 : decode cL_law 1742 = .ok (.iadd, 1) := by decide +kernel
theorem dL_law_1743 : decode cL_law 1743 = .ok (.iaload, 1) := by decide +kernel
theorem dL_law_1744 : decode cL_law 1744 = .ok (.invokevirtual 248, 3) := by decide +kernel
theorem dL_law_1747 : decode cL_law 1747 = .ok (.aload_n 2, 1) := by decide +kernel
theorem dL_law_1748 : decode cL_law 1748 = .ok (.aload_n 0, 1) := by decide +kernel
theorem dL_law_1749 : decode cL_law 1749 = .ok (.iload_n 3, 1) := by decide +kernel
theorem dL_law_1750 : decode cL_law 1750 = .ok (.iconst 1, 1) := by decide +kernel
theorem dL_law_1751 : decode cL_law 1751 = .ok (.iadd, 1) := by decide +kernel
theorem dL_law_1752 : decode cL_law 1752 = .ok (.iaload, 1) := by decide +kernel
theorem dL_law_1753 : decode cL_law 1753 = .ok (.aload_n 0, 1) := by decide +kernel
theorem dL_law_1754 : decode cL_law 1754 = .ok (.iload_n 3, 1) := by decide +kernel
theorem dL_law_1755 : decode cL_law 1755 = .ok (.iconst 2, 1) := by decide +kernel
theorem dL_law_1756 : decode cL_law 1756 = .ok (.iadd, 1) := by decide +kernel
theorem dL_law_1757 : decode cL_law 1757 = .ok (.iaload, 1) := by decide +kernel
theorem dL_law_1758 : decode cL_law 1758 = .ok (.invokevirtual 251, 3) := by decide +kernel
theorem dL_law_1761 : decode cL_law 1761 = .ok (.if_icmp .eq 510, 3) := by decide +kernel
theorem dL_law_1766 : decode cL_law 1766 = .ok (.aload_n 1, 1) := by decide +kernel
theorem dL_law_1767 : decode cL_law 1767 = .ok (.aload_n 0, 1) := by decide +kernel
theorem dL_law_1768 : decode cL_law 1768 = .ok (.iload_n 3, 1) := by decide +kernel
theorem dL_law_1769 : decode cL_law 1769 = .ok (.iconst 1, 1) := by decide +kernel
theorem dL_law_1770 : decode cL_law 1770 = .ok (.iadd, 1) := by decide +kernel
theorem dL_law_1771 : decode cL_law 1771 = .ok (.iaload, 1) := by decide +kernel
theorem dL_law_1772 : decode cL_law 1772 = .ok (.aload_n 0, 1) := by decide +kernel
theorem dL_law_1773 : decode cL_law 1773 = .ok (.iload_n 3, 1) := by decide +kernel
theorem dL_law_1774 : decode cL_law 1774 = .ok (.iconst 2, 1) := by decide +kernel
theorem dL_law_1775 : decode cL_law 1775 = .ok (.iadd, 1) := by decide +kernel
theorem dL_law_1776 : decode cL_law 1776 = .ok (.iaload, 1) := by decide +kernel
theorem dL_law_1777 : decode cL_law 1777 = .ok (.invokevirtual 252, 3) := by decide +kernel
theorem dL_law_1780 : decode cL_law 1780 = .ok (.aload_n 2, 1) := by decide +kernel
theorem dL_law_1781 : decode cL_law 1781 = .ok (.aload_n 0, 1) := by decide +kernel
theorem dL_law_1782 : decode cL_law 1782 = .ok (.iload_n 3, 1) := by decide +kernel
theorem dL_law_1783 : decode cL_law 1783 = .ok (.iconst 1, 1) := by decide +kernel
theorem dL_law_1784 : decode cL_law 1784 = .ok (.iadd, 1) := by decide +kernel
theorem dL_law_1785 : decode cL_law 1785 = .ok (.iaload, 1) := by decide +kernel
theorem dL_law_1786 : decode cL_law 1786 = .ok (.aload_n 0, 1) := by decide +kernel
theorem dL_law_1787 : decode cL_law 1787 = .ok (.iload_n 3, 1) := by decide +kernel
theorem dL_law_1788 : decode cL_law 1788 = .ok (.iconst 2, 1) := by decide +kernel
theorem dL_law_1789 : decode cL_law 1789 = .ok (.iadd, 1) := by decide +kernel
theorem dL_law_1790 : decode cL_law 1790 = .ok (.iaload, 1) := by decide +kernel
theorem dL_law_1791 : decode cL_law 1791 = .ok (.invokevirtual 255, 3) := by decide +kernel
theorem dL_law_1794 : decode cL_law 1794 = .ok (.if_icmp .eq 477, 3) := by decide +kernel
theorem dL_law_1799 : decode cL_law 1799 = .ok (.aload_n 1, 1) := by decide +kernel
theorem dL_law_1800 : decode cL_law 1800 = .ok (.aload_n 0, 1) := by decide +kernel
theorem dL_law_1801 : decode cL_law 1801 = .ok (.iload_n 3, 1) := by decide +kernel
theorem dL_law_1802 : decode cL_law 1802 = .ok (.iconst 1, 1) := by decide +kernel
theorem dL_law_1803 : decode cL_law 1803 = .ok (.iadd, 1) := by decide +kernel
theorem dL_law_1804 : decode cL_law 1804 = .ok (.iaload, 1) := by decide +kernel
theorem dL_law_1805 : decode cL_law 1805 = .ok (.invokevirtual 256, 3) := by decide +kernel
theorem dL_law_1808 : decode cL_law 1808 = .ok (.aload_n 2, 1) := by decide +kernel
theorem dL_law_1809 : decode cL_law 1809 = .ok (.aload_n 0, 1) := by decide +kernel
theorem dL_law_1810 : decode cL_law 1810 = .ok (.iload_n 3, 1) := by decide +kernel
theorem dL_law_1811 : decode cL_law 1811 = .ok (.iconst 1, 1) := by decide +kernel
theorem dL_law_1812 : decode cL_law 1812 = .ok (.iadd, 1) := by decide +kernel
theorem dL_law_1813 : decode cL_law 1813 = .ok (.iaload, 1) := by decide +kernel
theorem dL_law_1814 : decode cL_law 1814 = .ok (.invokevirtual 259, 3) := by decide +kernel
theorem dL_law_1817 : decode cL_law 1817 = .ok (.if_icmp .eq 454, 3) := by decide +kernel
theorem dL_law_1822 : decode cL_law 1822 = .ok (.aload_n 1, 1) := by decide +kernel
theorem dL_law_1823 : decode cL_law 1823 = .ok (.invokevirtual 260, 3) := by decide +kernel
theorem dL_law_1826 : decode cL_law 1826 = .ok (.aload_n 2, 1) := by decide +kernel
theorem dL_law_1827 : decode cL_law 1827 = .ok (.invokevirtual 263, 3) := by decide +kernel
theorem dL_law_1830 : decode cL_law 1830 = .ok (.if_icmp .eq 441, 3) := by decide +kernel
theorem dL_law_1835 : decode cL_law 1835 = .ok (.aload_n 1, 1) := by decide +kernel
theorem dL_law_1836 : decode cL_law 1836 = .ok (.aload_n 0, 1) := by decide +kernel
theorem dL_law_1837 : decode cL_law 1837 = .ok (.iload_n 3, 1) := by decide +kernel
theorem dL_law_1838 : decode cL_law 1838 = .ok (.iconst 1, 1) := by decide +kernel
theorem dL_law_1839 : decode cL_law 1839 = .ok (.iadd, 1) := by decide +kernel
theorem dL_law_1840 : decode cL_law 1840 = .ok (.iaload, 1) := by decide +kernel
theorem dL_law_1841 : decode cL_law 1841 = .ok (.invokevirtual 264, 3) := by decide +kernel
theorem dL_law_1844 : decode cL_law 1844 = .ok (.aload_n 2, 1) := by decide +kernel
theorem dL_law_1845 : decode cL_law 1845 = .ok (.aload_n 0, 1) := by decide +kernel
theorem dL_law_1846 : decode cL_law 1846 = .ok (.iload_n 3, 1) := by decide +kernel
theorem dL_law_1847 : decode cL_law 1847 = .ok (.iconst 1, 1) := by decide +kernel
theorem dL_law_1848 : decode cL_law 1848 = .ok (.iadd, 1) := by decide +kernel
theorem dL_law_1849 : decode cL_law 1849 = .ok (.iaload, 1) := by decide +kernel
theorem dL_law_1850 : decode cL_law 1850 = .ok (.invokevirtual 267, 3) := by decide +kernel
theorem dL_law_1853 : decode cL_law 1853 = .ok (.if_icmp .eq 418, 3) := by decide +kernel
theorem dL_law_1858 : decode cL_law 1858 = .ok (.aload_n 1, 1) := by decide +kernel
theorem dL_law_1859 : decode cL_law 1859 = .ok (.invokevirtual 268, 3) := by decide +kernel
theorem dL_law_1862 : decode cL_law 1862 = .ok (.aload_n 2, 1) := by decide +kernel
theorem dL_law_1863 : decode cL_law 1863 = .ok (.invokevirtual 271, 3) := by decide +kernel
theorem dL_law_1866 : decode cL_law 1866 = .ok (.if_icmp .eq 405, 3) := by decide +kernel
theorem dL_law_1871 : decode cL_law 1871 = .ok (.aload_n 1, 1) := by decide +kernel
