theorem dL_law_1704 : decode cL_law 1704 = .ok (.invokevirtual 243, 3) := by decide +kernel
theorem dL_law_1707 : decode cL_law 1707 = .ok (.pop2, 1) := by decide +kernel
theorem dL_law_1708 : decode cL_law 1708 = .ok (.aload_n 2, 1) := by decide +kernel
theorem dL_law_1709 : decode cL_law 1709 = .ok (.aload_n 0, 1) := by decide +kernel
theorem dL_law_1710 : decode cL_law 1710 = .ok (.iload_n 3, 1) := by decide +kernel
theorem dL_law_1711 : decode cL_law 1711 = .ok (.iconst 1, 1) := by decide +kernel
theorem dL_law_1712 : decode cL_law 1712 = .ok (.iadd, 1) := by decide +kernel
theorem dL_law_1713 : decode cL_law 1713 = .ok (.iaload, 1) := by decide +kernel
theorem dL_law_1714 : decode cL_law 1714 = .ok (.aload_n 0, 1) := by decide +kernel
theorem dL_law_1715 : decode cL_law 1715 = .ok (.iload_n 3, 1) := by decide +kernel
theorem dL_law_1716 : decode cL_law 1716 = .ok (.iconst 2, 1) := by decide +kernel
theorem dL_law_1717 : decode cL_law 1717 = .ok (.iadd, 1) := by decide +kernel
theorem dL_law_1718 : decode cL_law 1718 = .ok (.iaload, 1) := by decide +kernel
theorem dL_law_1719 : decode cL_law 1719 = .ok (.aload_n 0, 1) := by decide +kernel
theorem dL_law_1720 : decode cL_law 1720 = .ok (.iload_n 3, 1) := by decide +kernel
theorem dL_law_1721 : decode cL_law 1721 = .ok (.iconst 3, 1) := by decide +kernel
theorem dL_law_1722 : decode cL_law 1722 = .ok (.iadd, 1) := by decide +kernel
theorem dL_law_1723 : decode cL_law 1723 = .ok (.iaload, 1) := by decide +kernel
theorem dL_law_1724 : decode cL_law 1724 = .ok (.invokevirtual 247, 3) := by decide +kernel
theorem dL_law_1727 : decode cL_law 1727 = .ok (.pop2, 1) := by decide +kernel
theorem dL_law_1728 : decode cL_law 1728 = .ok (.goto 541, 3) := by decide +kernel
theorem dL_law_1731 : decode cL_law 1731 = .ok (.aload_n 1, 1) := by decide +kernel
theorem dL_law_1732 : decode cL_law 1732 = .ok (.aload_n 0, 1) := by decide +kernel
theorem dL_law_1733 : decode cL_law 1733 = .ok (.iload_n 3, 1) := by decide +kernel
theorem dL_law_1734 : decode cL_law 1734 = .ok (.iconst 1, 1) := by decide +kernel
theorem dL_law_1735 : decode cL_law 1735 = .ok (.iadd, 1) := by decide +kernel
theorem dL_law_1736 : decode cL_law 1736 = .ok (.iaload, 1) := by decide +kernel
theorem dL_law_1737 : decode cL_law 1737 = .ok (.aload_n 0, 1) := by decide +kernel
theorem dL_law_1738 : decode cL_law 1738 = .ok (.iload_n 3, 1) := by decide +kernel
theorem dL_law_1739 : decode cL_law 1739 = .ok (.iconst 2, 1) := by decide +kernel
theorem dL_law_1740 : decode cL_law 1740 = .ok (.iadd, 1) := by decide +kernel
theorem dL_law_1741 : decode cL_law 1741 = .ok (.iaload, 1) := by decide +kernel
theorem dL_law_1742 : decode cL_law 1742 = .ok (.invokevirtual 248, 3) := by decide +kernel
theorem dL_law_1745 : decode cL_law 1745 = .ok (.pop, 1) := by decide +kernel
theorem dL_law_1746 : decode cL_law 1746 = .ok (.aload_n 2, 1) := by decide +kernel
theorem dL_law_1747 : decode cL_law 1747 = .ok (.aload_n 0, 1) := by decide +kernel
theorem dL_law_1748 : decode cL_law 1748 = .ok (.iload_n 3, 1) := by decide +kernel
theorem dL_law_1749 : decode cL_law 1749 = .ok (.iconst 1, 1) := by decide +kernel
theorem dL_law_1750 : decode cL_law 1750 = .ok (.iadd, 1) := by decide +kernel
theorem dL_law_1751 : decode cL_law 1751 = .ok (.iaload, 1) := by decide +kernel
theorem dL_law_1752 : decode cL_law 1752 = .ok (.aload_n 0, 1) := by decide +kernel
theorem dL_law_1753 : decode cL_law 1753 = .ok (.iload_n 3, 1) := by decide +kernel
theorem dL_law_1754 : decode cL_law 1754 = .ok (.iconst 2, 1) := by decide +kernel
theorem dL_law_1755 : decode cL_law 1755 = .ok (.iadd, 1) := by decide +kernel
theorem dL_law_1756 : decode cL_law 1756 = .ok (.iaload, 1) := by decide +kernel
theorem dL_law_1757 : decode cL_law 1757 = .ok (.invokevirtual 251, 3) := by decide +kernel
theorem dL_law_1760 : decode cL_law 1760 = .ok (.pop, 1) := by decide +kernel
theorem dL_law_1761 : decode cL_law 1761 = .ok (.goto 508, 3) := by decide +kernel
theorem dL_law_1764 : decode cL_law 1764 = .ok (.aload_n 1, 1) := by decide +kernel
theorem dL_law_1765 : decode cL_law 1765 = .ok (.aload_n 0, 1) := by decide +kernel
theorem dL_law_1766 : decode cL_law 1766 = .ok (.iload_n 3, 1) := by decide +kernel
theorem dL_law_1767 : decode cL_law 1767 = .ok (.iconst 1, 1) := by decide +kernel
theorem dL_law_1768 : decode cL_law 1768 = .ok (.iadd, 1) := by decide +kernel
theorem dL_law_1769 : decode cL_law 1769 = .ok (.iaload, 1) := by decide +kernel
theorem dL_law_1770 : decode cL_law 1770 = .ok (.aload_n 0, 1) := by decide +kernel
theorem dL_law_1771 : decode cL_law 1771 = .ok (.iload_n 3, 1) := by decide +kernel
theorem dL_law_1772 : decode cL_law 1772 = .ok (.iconst 2, 1) := by decide +kernel
theorem dL_law_1773 : decode cL_law 1773 = .ok (.iadd, 1) := by decide +kernel
theorem dL_law_1774 : decode cL_law 1774 = .ok (.iaload, 1) := by decide +kernel
theorem dL_law_1775 : decode cL_law 1775 = .ok (.invokevirtual 252, 3) := by decide +kernel
theorem dL_law_1778 : decode cL_law 1778 = .ok (.pop, 1) := by decide +kernel
theorem dL_law_1779 : decode cL_law 1779 = .ok (.aload_n 2, 1) := by decide +kernel
theorem dL_law_1780 : decode cL_law 1780 = .ok (.aload_n 0, 1) := by decide +kernel
theorem dL_law_1781 : decode cL_law 1781 = .ok (.iload_n 3, 1) := by decide +kernel
theorem dL_law_1782 : decode cL_law 1782 = .ok (.iconst 1, 1) := by decide +kernel
theorem dL_law_1783 : decode cL_law 1783 = .ok (.iadd, 1) := by decide +kernel
theorem dL_law_1784 : decode cL_law 1784 = .ok (.iaload, 1) := by decide +kernel
theorem dL_law_1785 : decode cL_law 1785 = .ok (.aload_n 0, 1) := by decide +kernel
theorem dL_law_1786 : decode cL_law 1786 = .ok (.iload_n 3, 1) := by decide +kernel
theorem dL_law_1787 : decode cL_law 1787 = .ok (.iconst 2, 1) := by decide +kernel
theorem dL_law_1788 : decode cL_law 1788 = .ok (.iadd, 1) := by decide +kernel
theorem dL_law_1789 : decode cL_law 1789 = .ok (.iaload, 1) := by decide +kernel
theorem dL_law_1790 : decode cL_law 1790 = .ok (.invokevirtual 255, 3) := by decide +kernel
theorem dL_law_1793 : decode cL_law 1793 = .ok (.pop, 1) := by decide +kernel
theorem dL_law_1794 : decode cL_law 1794 = .ok (.goto 475, 3) := by decide +kernel
theorem dL_law_1797 : decode cL_law 1797 = .ok (.aload_n 1, 1) := by decide +kernel
theorem dL_law_1798 : decode cL_law 1798 = .ok (.aload_n 0, 1) := by decide +kernel
theorem dL_law_1799 : decode cL_law 1799 = .ok (.iload_n 3, 1) := by decide +kernel
theorem dL_law_1800 : decode cL_law 1800 = .ok (.iconst 1, 1) := by decide +kernel
theorem dL_law_1801 : decode cL_law 1801 = .ok (.iadd, 1) := by decide +kernel
theorem dL_law_1802 : decode cL_law 1802 = .ok (.iaload, 1) := by decide +kernel
theorem dL_law_1803 : decode cL_law 1803 = .ok (.invokevirtual 256, 3) := by decide +kernel
theorem dL_law_1806 : decode cL_law 1806 = .ok (.pop, 1) := by decide +kernel
theorem dL_law_1807 : decode cL_law 1807 = .ok (.aload_n 2, 1) := by decide +kernel
theorem dL_law_1808 : decode cL_law 1808 = .ok (.aload_n 0, 1) := by decide +kernel
theorem dL_law_1809 : decode cL_law 1809 = .ok (.iload_n 3, 1) := by decide +kernel
theorem dL_law_1810 : decode cL_law 1810 = .ok (.iconst 1, 1) := by decide +kernel
theorem dL_law_1811 : decode cL_law 1811 = .ok (.iadd, 1) := by decide +kernel
theorem dL_law_1812 : decode cL_law 1812 = .ok (.iaload, 1) := by decide +kernel
theorem dL_law_1813 : decode cL_law 1813 = .ok (.invokevirtual 259, 3) := by decide +kernel
theorem dL_law_1816 : decode cL_law 1816 = .ok (.pop, 1) := by decide +kernel
theorem dL_law_1817 : decode cL_law 1817 = .ok (.goto 452, 3) := by decide +kernel
theorem dL_law_1820 : decode cL_law 1820 = .ok (.aload_n 1, 1) := by decide +kernel
theorem dL_law_1821 : decode cL_law 1821 = .ok (.invokevirtual 260, 3) := by decide +kernel
theorem dL_law_1824 : decode cL_law 1824 = .ok (.pop, 1) := by decide +kernel
theorem dL_law_1825 : decode cL_law 1825 = .ok (.aload_n 2, 1) := by decide +kernel
theorem dL_law_1826 : decode cL_law 1826 = .ok (.invokevirtual 263, 3) := by decide +kernel
theorem dL_law_1829 : decode cL_law 1829 = .ok (.pop, 1) := by decide +kernel
theorem dL_law_1830 : decode cL_law 1830 = .ok (.goto 439, 3) := by decide +kernel
theorem dL_law_1833 : decode cL_law 1833 = .ok (.aload_n 1, 1) := by decide +kernel
theorem dL_law_1834 : decode cL_law 1834 = .ok (.aload_n 0, 1) := by decide +kernel
theorem dL_law_1835 : decode cL_law 1835 = .ok (.iload_n 3, 1) := by decide +kernel
theorem dL_law_1836 : decode cL_law 1836 = .ok (.iconst 1, 1) := by decide +kernel
theorem dL_law_1837 : decode cL_law 1837 = .ok (.iadd, 1) := by decide +kernel
theorem dL_law_1838 : decode cL_law 1838 = .ok (.iaload, 1) := by decide +kernel
theorem dL_law_1839 : decode cL_law 1839 = .ok (.invokevirtual 264, 3) := by decide +kernel
theorem dL_law_1842 : decode cL_law 1842 = .ok (.pop, 1) := by decide +kernel
theorem dL_law_1843 : decode cL_law 1843 = .ok (.aload_n 2, 1) := by decide +kernel
theorem dL_law_1844 : decode cL_law 1844 = .ok (.aload_n 0, 1) := by decide +kernel
theorem dL_law_1845 : decode cL_law 1845 = .ok (.iload_n 3, 1) := by decide +kernel
theorem dL_law_1846 : decode cL_law 1846 = .ok (.iconst 1, 1) := by decide +kernel
theorem dL_law_1847 : decode cL_law 1847 = .ok (.iadd, 1) := by decide +kernel
theorem dL_law_1848 : decode cL_law 1848 = .ok (.iaload, 1) := by decide +kernel
theorem dL_law_1849 : decode cL_law 1849 = .ok (.invokevirtual 267, 3) := by decide +kernel
theorem dL_law_1852 : decode cL_law 1852 = .ok (.pop, 1) := by decide +kernel
theorem dL_law_1853 : decode cL_law 1853 = .ok (.goto 416, 3) := by decide +kernel
theorem dL_law_1856 : decode cL_law 1856 = .ok (.aload_n 1, 1) := by decide +kernel
theorem dL_law_1857 : decode cL_law 1857 = .ok (.invokevirtual 268, 3) := by decide +kernel
theorem dL_law_1860 : decode cL_law 1860 = .ok (.pop, 1) := by decide +kernel
theorem dL_law_1861 : decode cL_law 1861 = .ok (.aload_n 2, 1) := by decide +kernel
theorem dL_law_1862 : decode cL_law 1862 = .ok (.invokevirtual 271, 3) := by decide +kernel
theorem dL_law_1865 : decode cL_law 1865 = .ok (.pop, 1) := by decide +kernel
theorem dL_law_1866 : decode cL_law 1866 = .ok (.goto 403, 3) := by decide +kernel
theorem dL_law_1869 : decode cL_law 1869 = .ok (.aload_n 1, 1) := by decide +kernel
theorem dL_law_1870 : decode cL_law 1870 = .ok (.invokevirtual 272, 3) := by decide +kernel
theorem dL_law_1873 : decode cL_law 1873 = .ok (.pop, 1) := by decide +kernel
theorem dL_law_1874 : decode cL_law 1874 = .ok (.aload_n 2, 1) := by decide +kernel
theorem dL_law_1875 : decode cL_law 1875 = .ok (.invokevirtual 275, 3) := by decide +kernel
theorem dL_law_1878 : decode cL_law 1878 = .ok (.pop, 1) := by decide +kernel
theorem dL_law_1879 : decode cL_law 1879 = .ok (.goto 390, 3) := by decide +kernel
theorem dL_law_1882 : decode cL_law 1882 = .ok (.aload_n 1, 1) := by decide +kernel
theorem dL_law_1883 : decode cL_law 1883 = .ok (.aload_n 0, 1) := by decide +kernel
theorem dL_law_1884 : decode cL_law 1884 = .ok (.iload_n 3, 1) := by decide +kernel
theorem dL_law_1885 : decode cL_law 1885 = .ok (.iconst 1, 1) := by decide +kernel
theorem dL_law_1886 : decode cL_law 1886 = .ok (.iadd, 1) := by decide +kernel
theorem dL_law_1887 : decode cL_law 1887 = .ok (.iaload, 1) := by decide +kernel
theorem dL_law_1888 : decode cL_law 1888 = .ok (.aload_n 0, 1) := by decide +kernel
theorem dL_law_1889 : decode cL_law 1889 = .ok (.iload_n 3, 1) := by decide +kernel
theorem dL_law_1890 : decode cL_law 1890 = .ok (.iconst 2, 1) := by decide +kernel
theorem dL_law_1891 : decode cL_law 1891 = .ok (.iadd, 1) := by decide +kernel
theorem dL_law_1892 : decode cL_law 1892 = .ok (.iaload, 1) := by decide +kernel
theorem dL_law_1893 : decode cL_law 1893 = .ok (.aload_n 0, 1) := by decide +kernel
theorem dL_law_1894 : decode cL_law 1894 = .ok (.iload_n 3, 1) := by decide +kernel
theorem dL_law_1895 : decode cL_law 1895 = .ok (.iconst 3, 1) := by decide +kernel
theorem dL_law_1896 : decode cL_law 1896 = .ok (.iadd, 1) := by decide +kernel
theorem dL_law_1897 : decode cL_law 1897 = .ok (.iaload, 1) := by decide +kernel
theorem dL_law_1898 : decode cL_law 1898 = .ok (.invokevirtual 276, 3) := by decide +kernel
theorem dL_law_1901 : decode cL_law 1901 = .ok (.pop, 1) := by decide +kernel
theorem dL_law_1902 : decode cL_law 1902 = .ok (.aload_n 2, 1) := by decide +kernel
theorem dL_law_1903 : decode cL_law 1903 = .ok (.aload_n 0, 1) := by decide +kernel
