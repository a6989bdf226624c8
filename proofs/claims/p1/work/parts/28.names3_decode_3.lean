theorem dL_law_1672 : decode cL_law 1672 = .ok (.aload_n 0, 1) := by decide +kernel
theorem dL_law_1673 : decode cL_law 1673 = .ok (.iload 4, 2) := by decide +kernel
theorem dL_law_1675 : decode cL_law 1675 = .ok (.iconst 2, 1) := by decide +kernel
theorem dL_law_1676 : decode cL_law 1676 = .ok (.iadd, 1) := by decide +kernel
theorem dL_law_1677 : decode cL_law 1677 = .ok (.iaload, 1) := by decide +kernel
theorem dL_law_1678 : decode cL_law 1678 = .ok (.aload_n 0, 1) := by decide +kernel
theorem dL_law_1679 : decode cL_law 1679 = .ok (.iload 4, 2) := by decide +kernel
theorem dL_law_1681 : decode cL_law 1681 = .ok (.iconst 3, 1) := by decide +kernel
theorem dL_law_1682 : decode cL_law 1682 = .ok (.iadd, 1) := by decide +kernel
theorem dL_law_1683 : decode cL_law 1683 = .ok (.iaload, 1) := by decide +kernel
theorem dL_law_1684 : decode cL_law 1684 = .ok (.invokevirtual 213, 3) := by decide +kernel
theorem dL_law_1687 : decode cL_law 1687 = .ok (.aload_n 2, 1) := by decide +kernel
theorem dL_law_1688 : decode cL_law 1688 = .ok (.aload_n 0, 1) := by decide +kernel
theorem dL_law_1689 : decode cL_law 1689 = .ok (.iload 4, 2) := by decide +kernel
theorem dL_law_1691 : decode cL_law 1691 = .ok (.iconst 1, 1) := by decide +kernel
theorem dL_law_1692 : decode cL_law 1692 = .ok (.iadd, 1) := by decide +kernel
theorem dL_law_1693 : decode cL_law 1693 = .ok (.iaload, 1) := by decide +kernel
theorem dL_law_1694 : decode cL_law 1694 = .ok (.aload_n 0, 1) := by decide +kernel
theorem dL_law_1695 : decode cL_law 1695 = .ok (.iload 4, 2) := by decide +kernel
theorem dL_law_1697 : decode cL_law 1697 = .ok (.iconst 2, 1) := by decide +kernel
theorem dL_law_1698 : decode cL_law 1698 = .ok (.iadd, 1) := by decide +kernel
theorem dL_law_1699 : decode cL_law 1699 = .ok (.iaload, 1) := by decide +kernel
theorem dL_law_1700 : decode cL_law 1700 = .ok (.aload_n 0, 1) := by decide +kernel
theorem dL_law_1701 : decode cL_law 1701 = .ok (.iload 4, 2) := by decide +kernel
theorem dL_law_1703 : decode cL_law 1703 = .ok (.iconst 3, 1) := by decide +kernel
theorem dL_law_1704 : decode cL_law 1704 = .ok (.iadd, 1) := by decide +kernel
theorem dL_law_1705 : decode cL_law 1705 = .ok (.iaload, 1) := by decide +kernel
theorem dL_law_1706 : decode cL_law 1706 = .ok (.invokevirtual 216, 3) := by decide +kernel
theorem dL_law_1709 : decode cL_law 1709 = .ok (.if_icmp .eq 262, 3) := by decide +kernel
theorem dL_law_1714 : decode cL_law 1714 = .ok (.aload_n 1, 1) := by decide +kernel
theorem dL_law_1715 : decode cL_law 1715 = .ok (.aload_n 0, 1) := by decide +kernel
theorem dL_law_1716 : decode cL_law 1716 = .ok (.iload 4, 2) := by decide +kernel
theorem dL_law_1718 : decode cL_law 1718 = .ok (.iconst 1, 1) := by decide +kernel
theorem dL_law_1719 : decode cL_law 1719 = .ok (.iadd, 1) := by decide +kernel
theorem dL_law_1720 : decode cL_law 1720 = .ok (.iaload, 1) := by decide +kernel
theorem dL_law_1721 : decode cL_law 1721 = .ok (.aload_n 0, 1) := by decide +kernel
theorem dL_law_1722 : decode cL_law 1722 = .ok (.iload 4, 2) := by decide +kernel
theorem dL_law_1724 : decode cL_law 1724 = .ok (.iconst 2, 1) := by decide +kernel
theorem dL_law_1725 : decode cL_law 1725 = .ok (.iadd, 1) := by decide +kernel
theorem dL_law_1726 : decode cL_law 1726 = .ok (.iaload, 1) := by decide +kernel
theorem dL_law_1727 : decode cL_law 1727 = .ok (.invokevirtual 217, 3) := by decide +kernel
theorem dL_law_1730 : decode cL_law 1730 = .ok (.aload_n 2, 1) := by decide +kernel
theorem dL_law_1731 : decode cL_law 1731 = .ok (.aload_n 0, 1) := by decide +kernel
theorem dL_law_1732 : decode cL_law 1732 = .ok (.iload 4, 2) := by decide +kernel
theorem dL_law_1734 : decode cL_law 1734 = .ok (.iconst 1, 1) := by decide +kernel
theorem dL_law_1735 : decode cL_law 1735 = .ok (.iadd, 1) := by decide +kernel
theorem dL_law_1736 : decode cL_law 1736 = .ok (.iaload, 1) := by decide +kernel
theorem dL_law_1737 : decode cL_law 1737 = .ok (.aload_n 0, 1) := by decide +kernel
theorem dL_law_1738 : decode cL_law 1738 = .ok (.iload 4, 2) := by decide +kernel
theorem dL_law_1740 : decode cL_law 1740 = .ok (.iconst 2, 1) := by decide +kernel
theorem dL_law_1741 : decode cL_law 1741 = .ok (.iadd, 1) := by decide +kernel
theorem dL_law_1742 : decode cL_law 1742 = .ok (.iaload, 1) := by decide +kernel
theorem dL_law_1743 : decode cL_law 1743 = .ok (.invokevirtual 220, 3) := by decide +kernel
theorem dL_law_1746 : decode cL_law 1746 = .ok (.if_icmp .eq 225, 3) := by decide +kernel
theorem dL_law_1751 : decode cL_law 1751 = .ok (.aload_n 1, 1) := by decide +kernel
theorem dL_law_1752 : decode cL_law 1752 = .ok (.aload_n 0, 1) := by decide +kernel
theorem dL_law_1753 : decode cL_law 1753 = .ok (.iload 4, 2) := by decide +kernel
theorem dL_law_1755 : decode cL_law 1755 = .ok (.iconst 1, 1) := by decide +kernel
theorem dL_law_1756 : decode cL_law 1756 = .ok (.iadd, 1) := by decide +kernel
theorem dL_law_1757 : decode cL_law 1757 = .ok (.iaload, 1) := by decide +kernel
theorem dL_law_1758 : decode cL_law 1758 = .ok (.invokevirtual 221, 3) := by decide +kernel
theorem dL_law_1761 : decode cL_law 1761 = .ok (.aload_n 2, 1) := by decide +kernel
theorem dL_law_1762 : decode cL_law 1762 = .ok (.aload_n 0, 1) := by decide +kernel
theorem dL_law_1763 : decode cL_law 1763 = .ok (.iload 4, 2) := by decide +kernel
theorem dL_law_1765 : decode cL_law 1765 = .ok (.iconst 1, 1) := by decide +kernel
theorem dL_law_1766 : decode cL_law 1766 = .ok (.iadd, 1) := by decide +kernel
theorem dL_law_1767 : decode cL_law 1767 = .ok (.iaload, 1) := by decide +kernel
theorem dL_law_1768 : decode cL_law 1768 = .ok (.invokevirtual 224, 3) := by decide +kernel
theorem dL_law_1771 : decode cL_law 1771 = .ok (.if_icmp .eq 200, 3) := by decide +kernel
theorem dL_law_1776 : decode cL_law 1776 = .ok (.aload_n 1, 1) := by decide +kernel
theorem dL_law_1777 : decode cL_law 1777 = .ok (.aload_n 0, 1) := by decide +kernel
theorem dL_law_1778 : decode cL_law 1778 = .ok (.iload 4, 2) := by decide +kernel
theorem dL_law_1780 : decode cL_law 1780 = .ok (.iconst 1, 1) := by decide +kernel
theorem dL_law_1781 : decode cL_law 1781 = .ok (.iadd, 1) := by decide +kernel
theorem dL_law_1782 : decode cL_law 1782 = .ok (.iaload, 1) := by decide +kernel
theorem dL_law_1783 : decode cL_law 1783 = .ok (.invokevirtual 225, 3) := by decide +kernel
theorem dL_law_1786 : decode cL_law 1786 = .ok (.aload_n 2, 1) := by decide +kernel
theorem dL_law_1787 : decode cL_law 1787 = .ok (.aload_n 0, 1) := by decide +kernel
theorem dL_law_1788 : decode cL_law 1788 = .ok (.iload 4, 2) := by decide +kernel
theorem dL_law_1790 : decode cL_law 1790 = .ok (.iconst 1, 1) := by decide +kernel
theorem dL_law_1791 : decode cL_law 1791 = .ok (.iadd, 1) := by decide +kernel
theorem dL_law_1792 : decode cL_law 1792 = .ok (.iaload, 1) := by decide +kernel
theorem dL_law_1793 : decode cL_law 1793 = .ok (.invokevirtual 228, 3) := by decide +kernel
theorem dL_law_1796 : decode cL_law 1796 = .ok (.if_icmp .eq 175, 3) := by decide +kernel
theorem dL_law_1801 : decode cL_law 1801 = .ok (.aload_n 1, 1) := by decide +kernel
theorem dL_law_1802 : decode cL_law 1802 = .ok (.aload_n 0, 1) := by decide +kernel
theorem dL_law_1803 : decode cL_law 1803 = .ok (.iload 4, 2) := by decide +kernel
theorem dL_law_1805 : decode cL_law 1805 = .ok (.iconst 1, 1) := by decide +kernel
theorem dL_law_1806 : decode cL_law 1806 = .ok (.iadd, 1) := by decide +kernel
theorem dL_law_1807 : decode cL_law 1807 = .ok (.iaload, 1) := by decide +kernel
theorem dL_law_1808 : decode cL_law 1808 = .ok (.invokevirtual 229, 3) := by decide +kernel
theorem dL_law_1811 : decode cL_law 1811 = .ok (.aload_n 2, 1) := by decide +kernel
theorem dL_law_1812 : decode cL_law 1812 = .ok (.aload_n 0, 1) := by decide +kernel
theorem dL_law_1813 : decode cL_law 1813 = .ok (.iload 4, 2) := by decide +kernel
theorem dL_law_1815 : decode cL_law 1815 = .ok (.iconst 1, 1) := by decide +kernel
theorem dL_law_1816 : decode cL_law 1816 = .ok (.iadd, 1) := by decide +kernel
theorem dL_law_1817 : decode cL_law 1817 = .ok (.iaload, 1) := by decide +kernel
theorem dL_law_1818 : decode cL_law 1818 = .ok (.invokevirtual 232, 3) := by decide +kernel
theorem dL_law_1821 : decode cL_law 1821 = .ok (.if_icmp .eq 150, 3) := by decide +kernel
theorem dL_law_1826 : decode cL_law 1826 = .ok (.aload_n 1, 1) := by decide +kernel
theorem dL_law_1827 : decode cL_law 1827 = .ok (.invokevirtual 233, 3) := by decide +kernel
theorem dL_law_1830 : decode cL_law 1830 = .ok (.aload_n 2, 1) := by decide +kernel
theorem dL_law_1831 : decode cL_law 1831 = .ok (.invokevirtual 237, 3) := by decide +kernel
theorem dL_law_1834 : decode cL_law 1834 = .ok (.if_icmp .eq 137, 3) := by decide +kernel
theorem dL_law_1839 : decode cL_law 1839 = .ok (.aload_n 1, 1) := by decide +kernel
theorem dL_law_1840 : decode cL_law 1840 = .ok (.invokevirtual 238, 3) := by decide +kernel
theorem dL_law_1843 : decode cL_law 1843 = .ok (.aload_n 2, 1) := by decide +kernel
theorem dL_law_1844 : decode cL_law 1844 = .ok (.invokevirtual 241, 3) := by decide +kernel
theorem dL_law_1847 : decode cL_law 1847 = .ok (.if_icmp .eq 124, 3) := by decide +kernel
theorem dL_law_1852 : decode cL_law 1852 = .ok (.aload_n 1, 1) := by decide +kernel
theorem dL_law_1853 : decode cL_law 1853 = .ok (.aload_n 0, 1) := by decide +kernel
theorem dL_law_1854 : decode cL_law 1854 = .ok (.iload 4, 2) := by decide +kernel
theorem dL_law_1856 : decode cL_law 1856 = .ok (.iconst 1, 1) := by decide +kernel
theorem dL_law_1857 : decode cL_law 1857 = .ok (.iadd, 1) := by decide +kernel
theorem dL_law_1858 : decode cL_law 1858 = .ok (.iaload, 1) := by decide +kernel
theorem dL_law_1859 : decode cL_law 1859 = .ok (.invokevirtual 242, 3) := by decide +kernel
theorem dL_law_1862 : decode cL_law 1862 = .ok (.aload_n 2, 1) := by decide +kernel
theorem dL_law_1863 : decode cL_law 1863 = .ok (.aload_n 0, 1) := by decide +kernel
theorem dL_law_1864 : decode cL_law 1864 = .ok (.iload 4, 2) := by decide +kernel
theorem dL_law_1866 : decode cL_law 1866 = .ok (.iconst 1, 1) := by decide +kernel
theorem dL_law_1867 : decode cL_law 1867 = .ok (.iadd, 1) := by decide +kernel
theorem dL_law_1868 : decode cL_law 1868 = .ok (.iaload, 1) := by decide +kernel
theorem dL_law_1869 : decode cL_law 1869 = .ok (.invokevirtual 246, 3) := by decide +kernel
theorem dL_law_1872 : decode cL_law 1872 = .ok (.if_icmp .eq 99, 3) := by decide +kernel
theorem dL_law_1877 : decode cL_law 1877 = .ok (.aload_n 1, 1) := by decide +kernel
theorem dL_law_1878 : decode cL_law 1878 = .ok (.aload_n 0, 1) := by decide +kernel
theorem dL_law_1879 : decode cL_law 1879 = .ok (.iload 4, 2) := by decide +kernel
theorem dL_law_1881 : decode cL_law 1881 = .ok (.iconst 1, 1) := by decide +kernel
theorem dL_law_1882 : decode cL_law 1882 = .ok (.iadd, 1) := by decide +kernel
theorem dL_law_1883 : decode cL_law 1883 = .ok (.iaload, 1) := by decide +kernel
theorem dL_law_1884 : decode cL_law 1884 = .ok (.aload_n 3, 1) := by decide +kernel
theorem dL_law_1885 : decode cL_law 1885 = .ok (.invokestatic 247, 3) := by decide +kernel
theorem dL_law_1888 : decode cL_law 1888 = .ok (.istore 5, 2) := by decide +kernel
theorem dL_law_1890 : decode cL_law 1890 = .ok (.aload_n 2, 1) := by decide +kernel
theorem dL_law_1891 : decode cL_law 1891 = .ok (.aload_n 0, 1) := by decide +kernel
theorem dL_law_1892 : decode cL_law 1892 = .ok (.iload 4, 2) := by decide +kernel
theorem dL_law_1894 : decode cL_law 1894 = .ok (.iconst 1, 1) := by decide +kernel
theorem dL_law_1895 : decode cL_law 1895 = .ok (.iadd, 1) := by decide +kernel
theorem dL_law_1896 : decode cL_law 1896 = .ok (.iaload, 1) := by decide +kernel
theorem dL_law_1897 : decode cL_law 1897 = .ok (.invokevirtual 252, 3) := by decide +kernel
theorem dL_law_1900 : decode cL_law 1900 = .ok (.istore 6, 2) := by decide +kernel
theorem dL_law_1902 : decode cL_law 1902 = .ok (.aload_n 2, 1) := by decide +kernel
theorem dL_law_1903 : decode cL_law 1903 = .ok (.invokevirtual 253, 3) := by decide +kernel
theorem dL_law_1906 : decode cL_law 1906 = .ok (.iload 5, 2) := by decide +kernel
theorem dL_law_1908 : decode cL_law 1908 = .ok (.if_icmp .eq 5, 3) := by decide +kernel
theorem dL_law_1913 : decode cL_law 1913 = .ok (.iload 5, 2) := by decide +kernel
theorem dL_law_1915 : decode cL_law 1915 = .ok (.ifCond .ne 15, 3) := by decide +kernel
theorem dL_law_1930 : decode cL_law 1930 = .ok (.goto 41, 3) := by decide +kernel
theorem dL_law_1933 : decode cL_law 1933 = .ok (.aload_n 1, 1) := by decide +kernel
theorem dL_law_1934 : decode cL_law 1934 = .ok (.aload_n 0, 1) := by decide +kernel
theorem dL_law_1935 : decode cL_law 1935 = .ok (.iload 4, 2) := by decide +kernel
theorem dL_law_1937 : decode cL_law 1937 = .ok (.iconst 1, 1) := by decide +kernel
theorem dL_law_1938 : decode cL_law 1938 = .ok (.iadd, 1) := by decide +kernel
theorem dL_law_1939 : decode cL_law 1939 = .ok (.iaload, 1) := by decide +kernel
theorem dL_law_1940 : decode cL_law 1940 = .ok (.invokevirtual 256, 3) := by decide +kernel
theorem dL_law_1943 : decode cL_law 1943 = .ok (.aload_n 2, 1) := by decide +kernel
theorem dL_law_1944 : decode cL_law 1944 = .ok (.aload_n 0, 1) := by decide +kernel
theorem dL_law_1945 : decode cL_law 1945 = .ok (.iload 4, 2) := by decide +kernel
theorem dL_law_1947 : decode cL_law 1947 = .ok (.iconst 1, 1) := by decide +kernel
theorem dL_law_1948 : decode cL_law 1948 = .ok (.iadd, 1) := by decide +kernel
theorem dL_law_1949 : decode cL_law 1949 = .ok (.iaload, 1) := by decide +kernel
theorem dL_law_1950 : decode cL_law 1950 = .ok (.invokevirtual 259, 3) := by decide +kernel
theorem dL_law_1953 : decode cL_law 1953 = .ok (.if_icmp .eq 18, 3) := by decide +kernel
theorem dL_law_1958 : decode cL_law 1958 = .ok (.aload_n 1, 1) := by decide +kernel
theorem dL_law_1959 : decode cL_law 1959 = .ok (.invokevirtual 260, 3) := by decide +kernel
theorem dL_law_1962 : decode cL_law 1962 = .ok (.aload_n 2, 1) := by decide +kernel
theorem dL_law_1963 : decode cL_law 1963 = .ok (.invokevirtual 263, 3) := by decide +kernel
theorem dL_law_1966 : decode cL_law 1966 = .ok (.if_icmp .eq 5, 3) := by decide +kernel
theorem dL_law_1971 : decode cL_law 1971 = .ok (.iinc 4 6, 3) := by decide +kernel
theorem dL_law_1974 : decode cL_law 1974 = .ok (.goto (-1951), 3) := by decide +kernel
theorem dL_law_1977 : decode cL_law 1977 = .ok (.iconst 1, 1) := by decide +kernel
theorem dL_law_1978 : decode cL_law 1978 = .ok (.ireturn, 1) := by decide +kernel
