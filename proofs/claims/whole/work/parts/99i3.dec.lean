/-! decode rows of the law, the 3. quarter -/
theorem dL_law_1634 : decode cL_law 1634 = .ok (.invokevirtual 179, 3) := by decide +kernel
theorem dL_law_1637 : decode cL_law 1637 = .ok (.iload 6, 2) := by decide +kernel
theorem dL_law_1639 : decode cL_law 1639 = .ok (.if_icmp .eq 5, 3) := by decide +kernel
theorem dL_law_1644 : decode cL_law 1644 = .ok (.iload 6, 2) := by decide +kernel
theorem dL_law_1646 : decode cL_law 1646 = .ok (.ifCond .ne 15, 3) := by decide +kernel
theorem dL_law_1649 : decode cL_law 1649 = .ok (.aload_n 3, 1) := by decide +kernel
theorem dL_law_1650 : decode cL_law 1650 = .ok (.iconst 0, 1) := by decide +kernel
theorem dL_law_1651 : decode cL_law 1651 = .ok (.laload, 1) := by decide +kernel
theorem dL_law_1652 : decode cL_law 1652 = .ok (.iload 7, 2) := by decide +kernel
theorem dL_law_1654 : decode cL_law 1654 = .ok (.i2l, 1) := by decide +kernel
theorem dL_law_1655 : decode cL_law 1655 = .ok (.lcmp, 1) := by decide +kernel
theorem dL_law_1656 : decode cL_law 1656 = .ok (.ifCond .eq 5, 3) := by decide +kernel
theorem dL_law_1661 : decode cL_law 1661 = .ok (.goto 1521, 3) := by decide +kernel
theorem dL_law_1664 : decode cL_law 1664 = .ok (.aload_n 1, 1) := by decide +kernel
theorem dL_law_1665 : decode cL_law 1665 = .ok (.aload_n 0, 1) := by decide +kernel
theorem dL_law_1666 : decode cL_law 1666 = .ok (.iload 5, 2) := by decide +kernel
theorem dL_law_1668 : decode cL_law 1668 = .ok (.iconst 1, 1) := by decide +kernel
theorem dL_law_1669 : decode cL_law 1669 = .ok (.iadd, 1) := by decide +kernel
theorem dL_law_1670 : decode cL_law 1670 = .ok (.iaload, 1) := by decide +kernel
theorem dL_law_1671 : decode cL_law 1671 = .ok (.aload_n 3, 1) := by decide +kernel
theorem dL_law_1672 : decode cL_law 1672 = .ok (.invokestatic 252, 3) := by decide +kernel
theorem dL_law_1675 : decode cL_law 1675 = .ok (.istore 6, 2) := by decide +kernel
theorem dL_law_1677 : decode cL_law 1677 = .ok (.aload_n 2, 1) := by decide +kernel
theorem dL_law_1678 : decode cL_law 1678 = .ok (.aload_n 0, 1) := by decide +kernel
theorem dL_law_1679 : decode cL_law 1679 = .ok (.iload 5, 2) := by decide +kernel
theorem dL_law_1681 : decode cL_law 1681 = .ok (.iconst 1, 1) := by decide +kernel
theorem dL_law_1682 : decode cL_law 1682 = .ok (.iadd, 1) := by decide +kernel
theorem dL_law_1683 : decode cL_law 1683 = .ok (.iaload, 1) := by decide +kernel
theorem dL_law_1684 : decode cL_law 1684 = .ok (.invokevirtual 254, 3) := by decide +kernel
theorem dL_law_1687 : decode cL_law 1687 = .ok (.istore 7, 2) := by decide +kernel
theorem dL_law_1689 : decode cL_law 1689 = .ok (.aload_n 2, 1) := by decide +kernel
theorem dL_law_1690 : decode cL_law 1690 = .ok (.invokevirtual 179, 3) := by decide +kernel
theorem dL_law_1693 : decode cL_law 1693 = .ok (.iload 6, 2) := by decide +kernel
theorem dL_law_1695 : decode cL_law 1695 = .ok (.if_icmp .eq 5, 3) := by decide +kernel
theorem dL_law_1700 : decode cL_law 1700 = .ok (.iload 6, 2) := by decide +kernel
theorem dL_law_1702 : decode cL_law 1702 = .ok (.ifCond .ne 15, 3) := by decide +kernel
theorem dL_law_1705 : decode cL_law 1705 = .ok (.aload_n 3, 1) := by decide +kernel
theorem dL_law_1706 : decode cL_law 1706 = .ok (.iconst 0, 1) := by decide +kernel
theorem dL_law_1707 : decode cL_law 1707 = .ok (.laload, 1) := by decide +kernel
theorem dL_law_1708 : decode cL_law 1708 = .ok (.iload 7, 2) := by decide +kernel
theorem dL_law_1710 : decode cL_law 1710 = .ok (.i2l, 1) := by decide +kernel
theorem dL_law_1711 : decode cL_law 1711 = .ok (.lcmp, 1) := by decide +kernel
theorem dL_law_1712 : decode cL_law 1712 = .ok (.ifCond .eq 5, 3) := by decide +kernel
theorem dL_law_1717 : decode cL_law 1717 = .ok (.goto 1465, 3) := by decide +kernel
theorem dL_law_1720 : decode cL_law 1720 = .ok (.aload_n 1, 1) := by decide +kernel
theorem dL_law_1721 : decode cL_law 1721 = .ok (.aload_n 0, 1) := by decide +kernel
theorem dL_law_1722 : decode cL_law 1722 = .ok (.iload 5, 2) := by decide +kernel
theorem dL_law_1724 : decode cL_law 1724 = .ok (.iconst 1, 1) := by decide +kernel
theorem dL_law_1725 : decode cL_law 1725 = .ok (.iadd, 1) := by decide +kernel
theorem dL_law_1726 : decode cL_law 1726 = .ok (.iaload, 1) := by decide +kernel
theorem dL_law_1727 : decode cL_law 1727 = .ok (.aload_n 3, 1) := by decide +kernel
theorem dL_law_1728 : decode cL_law 1728 = .ok (.invokestatic 255, 3) := by decide +kernel
theorem dL_law_1731 : decode cL_law 1731 = .ok (.istore 6, 2) := by decide +kernel
theorem dL_law_1733 : decode cL_law 1733 = .ok (.aload_n 2, 1) := by decide +kernel
theorem dL_law_1734 : decode cL_law 1734 = .ok (.aload_n 0, 1) := by decide +kernel
theorem dL_law_1735 : decode cL_law 1735 = .ok (.iload 5, 2) := by decide +kernel
theorem dL_law_1737 : decode cL_law 1737 = .ok (.iconst 1, 1) := by decide +kernel
theorem dL_law_1738 : decode cL_law 1738 = .ok (.iadd, 1) := by decide +kernel
theorem dL_law_1739 : decode cL_law 1739 = .ok (.iaload, 1) := by decide +kernel
theorem dL_law_1740 : decode cL_law 1740 = .ok (.invokevirtual 257, 3) := by decide +kernel
theorem dL_law_1743 : decode cL_law 1743 = .ok (.istore 7, 2) := by decide +kernel
theorem dL_law_1745 : decode cL_law 1745 = .ok (.aload_n 2, 1) := by decide +kernel
theorem dL_law_1746 : decode cL_law 1746 = .ok (.invokevirtual 179, 3) := by decide +kernel
theorem dL_law_1749 : decode cL_law 1749 = .ok (.iload 6, 2) := by decide +kernel
theorem dL_law_1751 : decode cL_law 1751 = .ok (.if_icmp .eq 5, 3) := by decide +kernel
theorem dL_law_1756 : decode cL_law 1756 = .ok (.iload 6, 2) := by decide +kernel
theorem dL_law_1758 : decode cL_law 1758 = .ok (.ifCond .ne 15, 3) := by decide +kernel
theorem dL_law_1761 : decode cL_law 1761 = .ok (.aload_n 3, 1) := by decide +kernel
theorem dL_law_1762 : decode cL_law 1762 = .ok (.iconst 0, 1) := by decide +kernel
theorem dL_law_1763 : decode cL_law 1763 = .ok (.laload, 1) := by decide +kernel
theorem dL_law_1764 : decode cL_law 1764 = .ok (.iload 7, 2) := by decide +kernel
theorem dL_law_1766 : decode cL_law 1766 = .ok (.i2l, 1) := by decide +kernel
theorem dL_law_1767 : decode cL_law 1767 = .ok (.lcmp, 1) := by decide +kernel
theorem dL_law_1768 : decode cL_law 1768 = .ok (.ifCond .eq 5, 3) := by decide +kernel
theorem dL_law_1773 : decode cL_law 1773 = .ok (.goto 1409, 3) := by decide +kernel
theorem dL_law_1776 : decode cL_law 1776 = .ok (.aload_n 1, 1) := by decide +kernel
theorem dL_law_1777 : decode cL_law 1777 = .ok (.aload_n 0, 1) := by decide +kernel
theorem dL_law_1778 : decode cL_law 1778 = .ok (.iload 5, 2) := by decide +kernel
theorem dL_law_1780 : decode cL_law 1780 = .ok (.iconst 1, 1) := by decide +kernel
theorem dL_law_1781 : decode cL_law 1781 = .ok (.iadd, 1) := by decide +kernel
theorem dL_law_1782 : decode cL_law 1782 = .ok (.iaload, 1) := by decide +kernel
theorem dL_law_1783 : decode cL_law 1783 = .ok (.aload_n 3, 1) := by decide +kernel
theorem dL_law_1784 : decode cL_law 1784 = .ok (.invokestatic 258, 3) := by decide +kernel
theorem dL_law_1787 : decode cL_law 1787 = .ok (.istore 6, 2) := by decide +kernel
theorem dL_law_1789 : decode cL_law 1789 = .ok (.aload_n 2, 1) := by decide +kernel
theorem dL_law_1790 : decode cL_law 1790 = .ok (.aload_n 0, 1) := by decide +kernel
theorem dL_law_1791 : decode cL_law 1791 = .ok (.iload 5, 2) := by decide +kernel
theorem dL_law_1793 : decode cL_law 1793 = .ok (.iconst 1, 1) := by decide +kernel
theorem dL_law_1794 : decode cL_law 1794 = .ok (.iadd, 1) := by decide +kernel
theorem dL_law_1795 : decode cL_law 1795 = .ok (.iaload, 1) := by decide +kernel
theorem dL_law_1796 : decode cL_law 1796 = .ok (.invokevirtual 260, 3) := by decide +kernel
theorem dL_law_1799 : decode cL_law 1799 = .ok (.istore 7, 2) := by decide +kernel
theorem dL_law_1801 : decode cL_law 1801 = .ok (.aload_n 2, 1) := by decide +kernel
theorem dL_law_1802 : decode cL_law 1802 = .ok (.invokevirtual 179, 3) := by decide +kernel
theorem dL_law_1805 : decode cL_law 1805 = .ok (.iload 6, 2) := by decide +kernel
theorem dL_law_1807 : decode cL_law 1807 = .ok (.if_icmp .eq 5, 3) := by decide +kernel
theorem dL_law_1812 : decode cL_law 1812 = .ok (.iload 6, 2) := by decide +kernel
theorem dL_law_1814 : decode cL_law 1814 = .ok (.ifCond .ne 15, 3) := by decide +kernel
theorem dL_law_1817 : decode cL_law 1817 = .ok (.aload_n 3, 1) := by decide +kernel
theorem dL_law_1818 : decode cL_law 1818 = .ok (.iconst 0, 1) := by decide +kernel
theorem dL_law_1819 : decode cL_law 1819 = .ok (.laload, 1) := by decide +kernel
theorem dL_law_1820 : decode cL_law 1820 = .ok (.iload 7, 2) := by decide +kernel
theorem dL_law_1822 : decode cL_law 1822 = .ok (.i2l, 1) := by decide +kernel
theorem dL_law_1823 : decode cL_law 1823 = .ok (.lcmp, 1) := by decide +kernel
theorem dL_law_1824 : decode cL_law 1824 = .ok (.ifCond .eq 5, 3) := by decide +kernel
theorem dL_law_1829 : decode cL_law 1829 = .ok (.goto 1353, 3) := by decide +kernel
theorem dL_law_1832 : decode cL_law 1832 = .ok (.aload_n 1, 1) := by decide +kernel
theorem dL_law_1833 : decode cL_law 1833 = .ok (.aload_n 0, 1) := by decide +kernel
theorem dL_law_1834 : decode cL_law 1834 = .ok (.iload 5, 2) := by decide +kernel
theorem dL_law_1836 : decode cL_law 1836 = .ok (.iconst 1, 1) := by decide +kernel
theorem dL_law_1837 : decode cL_law 1837 = .ok (.iadd, 1) := by decide +kernel
theorem dL_law_1838 : decode cL_law 1838 = .ok (.iaload, 1) := by decide +kernel
theorem dL_law_1839 : decode cL_law 1839 = .ok (.aload_n 0, 1) := by decide +kernel
theorem dL_law_1840 : decode cL_law 1840 = .ok (.iload 5, 2) := by decide +kernel
theorem dL_law_1842 : decode cL_law 1842 = .ok (.iconst 2, 1) := by decide +kernel
theorem dL_law_1843 : decode cL_law 1843 = .ok (.iadd, 1) := by decide +kernel
theorem dL_law_1844 : decode cL_law 1844 = .ok (.iaload, 1) := by decide +kernel
theorem dL_law_1845 : decode cL_law 1845 = .ok (.aload_n 3, 1) := by decide +kernel
theorem dL_law_1846 : decode cL_law 1846 = .ok (.invokestatic 261, 3) := by decide +kernel
theorem dL_law_1849 : decode cL_law 1849 = .ok (.istore 6, 2) := by decide +kernel
theorem dL_law_1851 : decode cL_law 1851 = .ok (.aload_n 2, 1) := by decide +kernel
theorem dL_law_1852 : decode cL_law 1852 = .ok (.aload_n 0, 1) := by decide +kernel
theorem dL_law_1853 : decode cL_law 1853 = .ok (.iload 5, 2) := by decide +kernel
theorem dL_law_1855 : decode cL_law 1855 = .ok (.iconst 1, 1) := by decide +kernel
theorem dL_law_1856 : decode cL_law 1856 = .ok (.iadd, 1) := by decide +kernel
theorem dL_law_1857 : decode cL_law 1857 = .ok (.iaload, 1) := by decide +kernel
theorem dL_law_1858 : decode cL_law 1858 = .ok (.aload_n 0, 1) := by decide +kernel
theorem dL_law_1859 : decode cL_law 1859 = .ok (.iload 5, 2) := by decide +kernel
theorem dL_law_1861 : decode cL_law 1861 = .ok (.iconst 2, 1) := by decide +kernel
theorem dL_law_1862 : decode cL_law 1862 = .ok (.iadd, 1) := by decide +kernel
theorem dL_law_1863 : decode cL_law 1863 = .ok (.iaload, 1) := by decide +kernel
theorem dL_law_1864 : decode cL_law 1864 = .ok (.invokevirtual 263, 3) := by decide +kernel
theorem dL_law_1867 : decode cL_law 1867 = .ok (.istore 7, 2) := by decide +kernel
theorem dL_law_1869 : decode cL_law 1869 = .ok (.aload_n 2, 1) := by decide +kernel
theorem dL_law_1870 : decode cL_law 1870 = .ok (.invokevirtual 179, 3) := by decide +kernel
theorem dL_law_1873 : decode cL_law 1873 = .ok (.iload 6, 2) := by decide +kernel
theorem dL_law_1875 : decode cL_law 1875 = .ok (.if_icmp .eq 5, 3) := by decide +kernel
theorem dL_law_1880 : decode cL_law 1880 = .ok (.iload 6, 2) := by decide +kernel
theorem dL_law_1882 : decode cL_law 1882 = .ok (.ifCond .ne 15, 3) := by decide +kernel
theorem dL_law_1885 : decode cL_law 1885 = .ok (.aload_n 3, 1) := by decide +kernel
theorem dL_law_1886 : decode cL_law 1886 = .ok (.iconst 0, 1) := by decide +kernel
theorem dL_law_1887 : decode cL_law 1887 = .ok (.laload, 1) := by decide +kernel
theorem dL_law_1888 : decode cL_law 1888 = .ok (.iload 7, 2) := by decide +kernel
theorem dL_law_1890 : decode cL_law 1890 = .ok (.i2l, 1) := by decide +kernel
theorem dL_law_1891 : decode cL_law 1891 = .ok (.lcmp, 1) := by decide +kernel
theorem dL_law_1892 : decode cL_law 1892 = .ok (.ifCond .eq 5, 3) := by decide +kernel
theorem dL_law_1897 : decode cL_law 1897 = .ok (.goto 1285, 3) := by decide +kernel
theorem dL_law_1900 : decode cL_law 1900 = .ok (.aload_n 1, 1) := by decide +kernel
theorem dL_law_1901 : decode cL_law 1901 = .ok (.aload_n 0, 1) := by decide +kernel
theorem dL_law_1902 : decode cL_law 1902 = .ok (.iload 5, 2) := by decide +kernel
theorem dL_law_1904 : decode cL_law 1904 = .ok (.iconst 1, 1) := by decide +kernel
theorem dL_law_1905 : decode cL_law 1905 = .ok (.iadd, 1) := by decide +kernel
theorem dL_law_1906 : decode cL_law 1906 = .ok (.iaload, 1) := by decide +kernel
theorem dL_law_1907 : decode cL_law 1907 = .ok (.aload_n 3, 1) := by decide +kernel
theorem dL_law_1908 : decode cL_law 1908 = .ok (.invokestatic 264, 3) := by decide +kernel
theorem dL_law_1911 : decode cL_law 1911 = .ok (.istore 6, 2) := by decide +kernel
theorem dL_law_1913 : decode cL_law 1913 = .ok (.aload_n 2, 1) := by decide +kernel
theorem dL_law_1914 : decode cL_law 1914 = .ok (.aload_n 0, 1) := by decide +kernel
theorem dL_law_1915 : decode cL_law 1915 = .ok (.iload 5, 2) := by decide +kernel
theorem dL_law_1917 : decode cL_law 1917 = .ok (.iconst 1, 1) := by decide +kernel
theorem dL_law_1918 : decode cL_law 1918 = .ok (.iadd, 1) := by decide +kernel
theorem dL_law_1919 : decode cL_law 1919 = .ok (.iaload, 1) := by decide +kernel
theorem dL_law_1920 : decode cL_law 1920 = .ok (.invokevirtual 266, 3) := by decide +kernel
theorem dL_law_1923 : decode cL_law 1923 = .ok (.istore 7, 2) := by decide +kernel
theorem dL_law_1925 : decode cL_law 1925 = .ok (.aload_n 2, 1) := by decide +kernel
theorem dL_law_1926 : decode cL_law 1926 = .ok (.invokevirtual 179, 3) := by decide +kernel
theorem dL_law_1929 : decode cL_law 1929 = .ok (.iload 6, 2) := by decide +kernel
theorem dL_law_1931 : decode cL_law 1931 = .ok (.if_icmp .eq 5, 3) := by decide +kernel
theorem dL_law_1936 : decode cL_law 1936 = .ok (.iload 6, 2) := by decide +kernel
theorem dL_law_1938 : decode cL_law 1938 = .ok (.ifCond .ne 15, 3) := by decide +kernel
theorem dL_law_1941 : decode cL_law 1941 = .ok (.aload_n 3, 1) := by decide +kernel
theorem dL_law_1942 : decode cL_law 1942 = .ok (.iconst 0, 1) := by decide +kernel
theorem dL_law_1943 : decode cL_law 1943 = .ok (.laload, 1) := by decide +kernel
theorem dL_law_1944 : decode cL_law 1944 = .ok (.iload 7, 2) := by decide +kernel
theorem dL_law_1946 : decode cL_law 1946 = .ok (.i2l, 1) := by decide +kernel
theorem dL_law_1947 : decode cL_law 1947 = .ok (.lcmp, 1) := by decide +kernel
theorem dL_law_1948 : decode cL_law 1948 = .ok (.ifCond .eq 5, 3) := by decide +kernel
theorem dL_law_1953 : decode cL_law 1953 = .ok (.goto 1229, 3) := by decide +kernel
theorem dL_law_1956 : decode cL_law 1956 = .ok (.aload_n 1, 1) := by decide +kernel
theorem dL_law_1957 : decode cL_law 1957 = .ok (.aload_n 0, 1) := by decide +kernel
theorem dL_law_1958 : decode cL_law 1958 = .ok (.iload 5, 2) := by decide +kernel
theorem dL_law_1960 : decode cL_law 1960 = .ok (.iconst 1, 1) := by decide +kernel
theorem dL_law_1961 : decode cL_law 1961 = .ok (.iadd, 1) := by decide +kernel
theorem dL_law_1962 : decode cL_law 1962 = .ok (.iaload, 1) := by decide +kernel
theorem dL_law_1963 : decode cL_law 1963 = .ok (.aload_n 3, 1) := by decide +kernel
theorem dL_law_1964 : decode cL_law 1964 = .ok (.invokestatic 267, 3) := by decide +kernel
theorem dL_law_1967 : decode cL_law 1967 = .ok (.istore 6, 2) := by decide +kernel
theorem dL_law_1969 : decode cL_law 1969 = .ok (.aload_n 2, 1) := by decide +kernel
theorem dL_law_1970 : decode cL_law 1970 = .ok (.aload_n 0, 1) := by decide +kernel
theorem dL_law_1971 : decode cL_law 1971 = .ok (.iload 5, 2) := by decide +kernel
theorem dL_law_1973 : decode cL_law 1973 = .ok (.iconst 1, 1) := by decide +kernel
theorem dL_law_1974 : decode cL_law 1974 = .ok (.iadd, 1) := by decide +kernel
theorem dL_law_1975 : decode cL_law 1975 = .ok (.iaload, 1) := by decide +kernel
theorem dL_law_1976 : decode cL_law 1976 = .ok (.invokevirtual 269, 3) := by decide +kernel
theorem dL_law_1979 : decode cL_law 1979 = .ok (.istore 7, 2) := by decide +kernel
theorem dL_law_1981 : decode cL_law 1981 = .ok (.aload_n 2, 1) := by decide +kernel
theorem dL_law_1982 : decode cL_law 1982 = .ok (.invokevirtual 179, 3) := by decide +kernel
theorem dL_law_1985 : decode cL_law 1985 = .ok (.iload 6, 2) := by decide +kernel
theorem dL_law_1987 : decode cL_law 1987 = .ok (.if_icmp .eq 5, 3) := by decide +kernel
theorem dL_law_1992 : decode cL_law 1992 = .ok (.iload 6, 2) := by decide +kernel
theorem dL_law_1994 : decode cL_law 1994 = .ok (.ifCond .ne 15, 3) := by decide +kernel
theorem dL_law_1997 : decode cL_law 1997 = .ok (.aload_n 3, 1) := by decide +kernel
theorem dL_law_1998 : decode cL_law 1998 = .ok (.iconst 0, 1) := by decide +kernel
theorem dL_law_1999 : decode cL_law 1999 = .ok (.laload, 1) := by decide +kernel
theorem dL_law_2000 : decode cL_law 2000 = .ok (.iload 7, 2) := by decide +kernel
theorem dL_law_2002 : decode cL_law 2002 = .ok (.i2l, 1) := by decide +kernel
theorem dL_law_2003 : decode cL_law 2003 = .ok (.lcmp, 1) := by decide +kernel
theorem dL_law_2004 : decode cL_law 2004 = .ok (.ifCond .eq 5, 3) := by decide +kernel
theorem dL_law_2009 : decode cL_law 2009 = .ok (.goto 1173, 3) := by decide +kernel
theorem dL_law_2012 : decode cL_law 2012 = .ok (.aload_n 1, 1) := by decide +kernel
theorem dL_law_2013 : decode cL_law 2013 = .ok (.aload_n 0, 1) := by decide +kernel
theorem dL_law_2014 : decode cL_law 2014 = .ok (.iload 5, 2) := by decide +kernel
theorem dL_law_2016 : decode cL_law 2016 = .ok (.iconst 1, 1) := by decide +kernel
theorem dL_law_2017 : decode cL_law 2017 = .ok (.iadd, 1) := by decide +kernel
theorem dL_law_2018 : decode cL_law 2018 = .ok (.iaload, 1) := by decide +kernel
theorem dL_law_2019 : decode cL_law 2019 = .ok (.aload_n 3, 1) := by decide +kernel
theorem dL_law_2020 : decode cL_law 2020 = .ok (.invokestatic 270, 3) := by decide +kernel
theorem dL_law_2023 : decode cL_law 2023 = .ok (.istore 6, 2) := by decide +kernel
theorem dL_law_2025 : decode cL_law 2025 = .ok (.aload_n 2, 1) := by decide +kernel
theorem dL_law_2026 : decode cL_law 2026 = .ok (.aload_n 0, 1) := by decide +kernel
theorem dL_law_2027 : decode cL_law 2027 = .ok (.iload 5, 2) := by decide +kernel
theorem dL_law_2029 : decode cL_law 2029 = .ok (.iconst 1, 1) := by decide +kernel
theorem dL_law_2030 : decode cL_law 2030 = .ok (.iadd, 1) := by decide +kernel
theorem dL_law_2031 : decode cL_law 2031 = .ok (.iaload, 1) := by decide +kernel
theorem dL_law_2032 : decode cL_law 2032 = .ok (.invokevirtual 272, 3) := by decide +kernel
theorem dL_law_2035 : decode cL_law 2035 = .ok (.istore 7, 2) := by decide +kernel
theorem dL_law_2037 : decode cL_law 2037 = .ok (.aload_n 2, 1) := by decide +kernel
theorem dL_law_2038 : decode cL_law 2038 = .ok (.invokevirtual 179, 3) := by decide +kernel
theorem dL_law_2041 : decode cL_law 2041 = .ok (.iload 6, 2) := by decide +kernel
theorem dL_law_2043 : decode cL_law 2043 = .ok (.if_icmp .eq 5, 3) := by decide +kernel
theorem dL_law_2048 : decode cL_law 2048 = .ok (.iload 6, 2) := by decide +kernel
theorem dL_law_2050 : decode cL_law 2050 = .ok (.ifCond .ne 15, 3) := by decide +kernel
theorem dL_law_2053 : decode cL_law 2053 = .ok (.aload_n 3, 1) := by decide +kernel
theorem dL_law_2054 : decode cL_law 2054 = .ok (.iconst 0, 1) := by decide +kernel
theorem dL_law_2055 : decode cL_law 2055 = .ok (.laload, 1) := by decide +kernel
theorem dL_law_2056 : decode cL_law 2056 = .ok (.iload 7, 2) := by decide +kernel
theorem dL_law_2058 : decode cL_law 2058 = .ok (.i2l, 1) := by decide +kernel
theorem dL_law_2059 : decode cL_law 2059 = .ok (.lcmp, 1) := by decide +kernel
theorem dL_law_2060 : decode cL_law 2060 = .ok (.ifCond .eq 5, 3) := by decide +kernel
theorem dL_law_2065 : decode cL_law 2065 = .ok (.goto 1117, 3) := by decide +kernel
theorem dL_law_2068 : decode cL_law 2068 = .ok (.aload_n 1, 1) := by decide +kernel
theorem dL_law_2069 : decode cL_law 2069 = .ok (.aload_n 0, 1) := by decide +kernel
theorem dL_law_2070 : decode cL_law 2070 = .ok (.iload 5, 2) := by decide +kernel
theorem dL_law_2072 : decode cL_law 2072 = .ok (.iconst 1, 1) := by decide +kernel
theorem dL_law_2073 : decode cL_law 2073 = .ok (.iadd, 1) := by decide +kernel
theorem dL_law_2074 : decode cL_law 2074 = .ok (.iaload, 1) := by decide +kernel
theorem dL_law_2075 : decode cL_law 2075 = .ok (.aload_n 3, 1) := by decide +kernel
theorem dL_law_2076 : decode cL_law 2076 = .ok (.invokestatic 273, 3) := by decide +kernel
theorem dL_law_2079 : decode cL_law 2079 = .ok (.istore 6, 2) := by decide +kernel
theorem dL_law_2081 : decode cL_law 2081 = .ok (.aload_n 2, 1) := by decide +kernel
theorem dL_law_2082 : decode cL_law 2082 = .ok (.aload_n 0, 1) := by decide +kernel
theorem dL_law_2083 : decode cL_law 2083 = .ok (.iload 5, 2) := by decide +kernel
theorem dL_law_2085 : decode cL_law 2085 = .ok (.iconst 1, 1) := by decide +kernel
theorem dL_law_2086 : decode cL_law 2086 = .ok (.iadd, 1) := by decide +kernel
theorem dL_law_2087 : decode cL_law 2087 = .ok (.iaload, 1) := by decide +kernel
theorem dL_law_2088 : decode cL_law 2088 = .ok (.invokevirtual 275, 3) := by decide +kernel
theorem dL_law_2091 : decode cL_law 2091 = .ok (.istore 7, 2) := by decide +kernel
theorem dL_law_2093 : decode cL_law 2093 = .ok (.aload_n 2, 1) := by decide +kernel
theorem dL_law_2094 : decode cL_law 2094 = .ok (.invokevirtual 179, 3) := by decide +kernel
theorem dL_law_2097 : decode cL_law 2097 = .ok (.iload 6, 2) := by decide +kernel
theorem dL_law_2099 : decode cL_law 2099 = .ok (.if_icmp .eq 5, 3) := by decide +kernel
theorem dL_law_2104 : decode cL_law 2104 = .ok (.iload 6, 2) := by decide +kernel
theorem dL_law_2106 : decode cL_law 2106 = .ok (.ifCond .ne 15, 3) := by decide +kernel
theorem dL_law_2109 : decode cL_law 2109 = .ok (.aload_n 3, 1) := by decide +kernel
theorem dL_law_2110 : decode cL_law 2110 = .ok (.iconst 0, 1) := by decide +kernel
theorem dL_law_2111 : decode cL_law 2111 = .ok (.laload, 1) := by decide +kernel
theorem dL_law_2112 : decode cL_law 2112 = .ok (.iload 7, 2) := by decide +kernel
theorem dL_law_2114 : decode cL_law 2114 = .ok (.i2l, 1) := by decide +kernel
theorem dL_law_2115 : decode cL_law 2115 = .ok (.lcmp, 1) := by decide +kernel
theorem dL_law_2116 : decode cL_law 2116 = .ok (.ifCond .eq 5, 3) := by decide +kernel
theorem dL_law_2121 : decode cL_law 2121 = .ok (.goto 1061, 3) := by decide +kernel
theorem dL_law_2124 : decode cL_law 2124 = .ok (.aload_n 1, 1) := by decide +kernel
theorem dL_law_2125 : decode cL_law 2125 = .ok (.invokevirtual 276, 3) := by decide +kernel
theorem dL_law_2128 : decode cL_law 2128 = .ok (.aload_n 2, 1) := by decide +kernel
theorem dL_law_2129 : decode cL_law 2129 = .ok (.invokevirtual 279, 3) := by decide +kernel
theorem dL_law_2132 : decode cL_law 2132 = .ok (.if_icmp .eq 1050, 3) := by decide +kernel
theorem dL_law_2137 : decode cL_law 2137 = .ok (.aload_n 1, 1) := by decide +kernel
theorem dL_law_2138 : decode cL_law 2138 = .ok (.invokevirtual 280, 3) := by decide +kernel
theorem dL_law_2141 : decode cL_law 2141 = .ok (.aload_n 2, 1) := by decide +kernel
theorem dL_law_2142 : decode cL_law 2142 = .ok (.invokevirtual 283, 3) := by decide +kernel
theorem dL_law_2145 : decode cL_law 2145 = .ok (.if_icmp .eq 1037, 3) := by decide +kernel
theorem dL_law_2150 : decode cL_law 2150 = .ok (.aload_n 1, 1) := by decide +kernel
theorem dL_law_2151 : decode cL_law 2151 = .ok (.aload_n 0, 1) := by decide +kernel
theorem dL_law_2152 : decode cL_law 2152 = .ok (.iload 5, 2) := by decide +kernel
theorem dL_law_2154 : decode cL_law 2154 = .ok (.iconst 1, 1) := by decide +kernel
theorem dL_law_2155 : decode cL_law 2155 = .ok (.iadd, 1) := by decide +kernel
theorem dL_law_2156 : decode cL_law 2156 = .ok (.iaload, 1) := by decide +kernel
theorem dL_law_2157 : decode cL_law 2157 = .ok (.aload_n 3, 1) := by decide +kernel
theorem dL_law_2158 : decode cL_law 2158 = .ok (.invokestatic 284, 3) := by decide +kernel
theorem dL_law_2161 : decode cL_law 2161 = .ok (.istore 6, 2) := by decide +kernel
theorem dL_law_2163 : decode cL_law 2163 = .ok (.aload_n 2, 1) := by decide +kernel
theorem dL_law_2164 : decode cL_law 2164 = .ok (.aload_n 0, 1) := by decide +kernel
theorem dL_law_2165 : decode cL_law 2165 = .ok (.iload 5, 2) := by decide +kernel
theorem dL_law_2167 : decode cL_law 2167 = .ok (.iconst 1, 1) := by decide +kernel
theorem dL_law_2168 : decode cL_law 2168 = .ok (.iadd, 1) := by decide +kernel
theorem dL_law_2169 : decode cL_law 2169 = .ok (.iaload, 1) := by decide +kernel
theorem dL_law_2170 : decode cL_law 2170 = .ok (.invokevirtual 286, 3) := by decide +kernel
theorem dL_law_2173 : decode cL_law 2173 = .ok (.istore 7, 2) := by decide +kernel
theorem dL_law_2175 : decode cL_law 2175 = .ok (.aload_n 2, 1) := by decide +kernel
theorem dL_law_2176 : decode cL_law 2176 = .ok (.invokevirtual 179, 3) := by decide +kernel
theorem dL_law_2179 : decode cL_law 2179 = .ok (.iload 6, 2) := by decide +kernel
theorem dL_law_2181 : decode cL_law 2181 = .ok (.if_icmp .eq 5, 3) := by decide +kernel
theorem dL_law_2186 : decode cL_law 2186 = .ok (.iload 6, 2) := by decide +kernel
theorem dL_law_2188 : decode cL_law 2188 = .ok (.ifCond .ne 15, 3) := by decide +kernel
theorem dL_law_2191 : decode cL_law 2191 = .ok (.aload_n 3, 1) := by decide +kernel
theorem dL_law_2192 : decode cL_law 2192 = .ok (.iconst 0, 1) := by decide +kernel
theorem dL_law_2193 : decode cL_law 2193 = .ok (.laload, 1) := by decide +kernel
theorem dL_law_2194 : decode cL_law 2194 = .ok (.iload 7, 2) := by decide +kernel
theorem dL_law_2196 : decode cL_law 2196 = .ok (.i2l, 1) := by decide +kernel
theorem dL_law_2197 : decode cL_law 2197 = .ok (.lcmp, 1) := by decide +kernel
theorem dL_law_2198 : decode cL_law 2198 = .ok (.ifCond .eq 5, 3) := by decide +kernel
theorem dL_law_2203 : decode cL_law 2203 = .ok (.goto 979, 3) := by decide +kernel
theorem dL_law_2206 : decode cL_law 2206 = .ok (.aload_n 1, 1) := by decide +kernel
theorem dL_law_2207 : decode cL_law 2207 = .ok (.aload_n 0, 1) := by decide +kernel
theorem dL_law_2208 : decode cL_law 2208 = .ok (.iload 5, 2) := by decide +kernel
theorem dL_law_2210 : decode cL_law 2210 = .ok (.iconst 1, 1) := by decide +kernel
theorem dL_law_2211 : decode cL_law 2211 = .ok (.iadd, 1) := by decide +kernel
theorem dL_law_2212 : decode cL_law 2212 = .ok (.iaload, 1) := by decide +kernel
theorem dL_law_2213 : decode cL_law 2213 = .ok (.aload_n 3, 1) := by decide +kernel
theorem dL_law_2214 : decode cL_law 2214 = .ok (.invokestatic 287, 3) := by decide +kernel
theorem dL_law_2217 : decode cL_law 2217 = .ok (.istore 6, 2) := by decide +kernel
theorem dL_law_2219 : decode cL_law 2219 = .ok (.aload_n 2, 1) := by decide +kernel
theorem dL_law_2220 : decode cL_law 2220 = .ok (.aload_n 0, 1) := by decide +kernel
theorem dL_law_2221 : decode cL_law 2221 = .ok (.iload 5, 2) := by decide +kernel
theorem dL_law_2223 : decode cL_law 2223 = .ok (.iconst 1, 1) := by decide +kernel
theorem dL_law_2224 : decode cL_law 2224 = .ok (.iadd, 1) := by decide +kernel
theorem dL_law_2225 : decode cL_law 2225 = .ok (.iaload, 1) := by decide +kernel
theorem dL_law_2226 : decode cL_law 2226 = .ok (.invokevirtual 289, 3) := by decide +kernel
theorem dL_law_2229 : decode cL_law 2229 = .ok (.istore 7, 2) := by decide +kernel
theorem dL_law_2231 : decode cL_law 2231 = .ok (.aload_n 2, 1) := by decide +kernel
theorem dL_law_2232 : decode cL_law 2232 = .ok (.invokevirtual 179, 3) := by decide +kernel
theorem dL_law_2235 : decode cL_law 2235 = .ok (.iload 6, 2) := by decide +kernel
theorem dL_law_2237 : decode cL_law 2237 = .ok (.if_icmp .eq 5, 3) := by decide +kernel
theorem dL_law_2242 : decode cL_law 2242 = .ok (.iload 6, 2) := by decide +kernel
theorem dL_law_2244 : decode cL_law 2244 = .ok (.ifCond .ne 15, 3) := by decide +kernel
theorem dL_law_2247 : decode cL_law 2247 = .ok (.aload_n 3, 1) := by decide +kernel
theorem dL_law_2248 : decode cL_law 2248 = .ok (.iconst 0, 1) := by decide +kernel
theorem dL_law_2249 : decode cL_law 2249 = .ok (.laload, 1) := by decide +kernel
theorem dL_law_2250 : decode cL_law 2250 = .ok (.iload 7, 2) := by decide +kernel
theorem dL_law_2252 : decode cL_law 2252 = .ok (.i2l, 1) := by decide +kernel
theorem dL_law_2253 : decode cL_law 2253 = .ok (.lcmp, 1) := by decide +kernel
theorem dL_law_2254 : decode cL_law 2254 = .ok (.ifCond .eq 5, 3) := by decide +kernel
theorem dL_law_2259 : decode cL_law 2259 = .ok (.goto 923, 3) := by decide +kernel
theorem dL_law_2262 : decode cL_law 2262 = .ok (.aload_n 1, 1) := by decide +kernel
theorem dL_law_2263 : decode cL_law 2263 = .ok (.aload_n 0, 1) := by decide +kernel
theorem dL_law_2264 : decode cL_law 2264 = .ok (.iload 5, 2) := by decide +kernel
theorem dL_law_2266 : decode cL_law 2266 = .ok (.iconst 1, 1) := by decide +kernel
theorem dL_law_2267 : decode cL_law 2267 = .ok (.iadd, 1) := by decide +kernel
theorem dL_law_2268 : decode cL_law 2268 = .ok (.iaload, 1) := by decide +kernel
theorem dL_law_2269 : decode cL_law 2269 = .ok (.aload_n 3, 1) := by decide +kernel
theorem dL_law_2270 : decode cL_law 2270 = .ok (.invokestatic 290, 3) := by decide +kernel
theorem dL_law_2273 : decode cL_law 2273 = .ok (.istore 6, 2) := by decide +kernel
theorem dL_law_2275 : decode cL_law 2275 = .ok (.aload_n 2, 1) := by decide +kernel
theorem dL_law_2276 : decode cL_law 2276 = .ok (.aload_n 0, 1) := by decide +kernel
theorem dL_law_2277 : decode cL_law 2277 = .ok (.iload 5, 2) := by decide +kernel
theorem dL_law_2279 : decode cL_law 2279 = .ok (.iconst 1, 1) := by decide +kernel
theorem dL_law_2280 : decode cL_law 2280 = .ok (.iadd, 1) := by decide +kernel
theorem dL_law_2281 : decode cL_law 2281 = .ok (.iaload, 1) := by decide +kernel
theorem dL_law_2282 : decode cL_law 2282 = .ok (.invokevirtual 292, 3) := by decide +kernel
theorem dL_law_2285 : decode cL_law 2285 = .ok (.istore 7, 2) := by decide +kernel
theorem dL_law_2287 : decode cL_law 2287 = .ok (.aload_n 2, 1) := by decide +kernel
theorem dL_law_2288 : decode cL_law 2288 = .ok (.invokevirtual 179, 3) := by decide +kernel
theorem dL_law_2291 : decode cL_law 2291 = .ok (.iload 6, 2) := by decide +kernel
theorem dL_law_2293 : decode cL_law 2293 = .ok (.if_icmp .eq 5, 3) := by decide +kernel
theorem dL_law_2298 : decode cL_law 2298 = .ok (.iload 6, 2) := by decide +kernel
theorem dL_law_2300 : decode cL_law 2300 = .ok (.ifCond .ne 15, 3) := by decide +kernel
theorem dL_law_2303 : decode cL_law 2303 = .ok (.aload_n 3, 1) := by decide +kernel
theorem dL_law_2304 : decode cL_law 2304 = .ok (.iconst 0, 1) := by decide +kernel
theorem dL_law_2305 : decode cL_law 2305 = .ok (.laload, 1) := by decide +kernel
theorem dL_law_2306 : decode cL_law 2306 = .ok (.iload 7, 2) := by decide +kernel
theorem dL_law_2308 : decode cL_law 2308 = .ok (.i2l, 1) := by decide +kernel
theorem dL_law_2309 : decode cL_law 2309 = .ok (.lcmp, 1) := by decide +kernel
theorem dL_law_2310 : decode cL_law 2310 = .ok (.ifCond .eq 5, 3) := by decide +kernel
theorem dL_law_2315 : decode cL_law 2315 = .ok (.goto 867, 3) := by decide +kernel
theorem dL_law_2318 : decode cL_law 2318 = .ok (.aload_n 1, 1) := by decide +kernel
theorem dL_law_2319 : decode cL_law 2319 = .ok (.invokevirtual 293, 3) := by decide +kernel
theorem dL_law_2322 : decode cL_law 2322 = .ok (.aload_n 2, 1) := by decide +kernel
theorem dL_law_2323 : decode cL_law 2323 = .ok (.invokevirtual 296, 3) := by decide +kernel
theorem dL_law_2326 : decode cL_law 2326 = .ok (.if_icmp .eq 856, 3) := by decide +kernel
theorem dL_law_2331 : decode cL_law 2331 = .ok (.aload_n 1, 1) := by decide +kernel
theorem dL_law_2332 : decode cL_law 2332 = .ok (.invokevirtual 297, 3) := by decide +kernel
theorem dL_law_2335 : decode cL_law 2335 = .ok (.aload_n 2, 1) := by decide +kernel
theorem dL_law_2336 : decode cL_law 2336 = .ok (.invokevirtual 300, 3) := by decide +kernel
theorem dL_law_2339 : decode cL_law 2339 = .ok (.if_icmp .eq 843, 3) := by decide +kernel
theorem dL_law_2344 : decode cL_law 2344 = .ok (.aload_n 1, 1) := by decide +kernel
theorem dL_law_2345 : decode cL_law 2345 = .ok (.invokevirtual 301, 3) := by decide +kernel
theorem dL_law_2348 : decode cL_law 2348 = .ok (.aload_n 2, 1) := by decide +kernel
theorem dL_law_2349 : decode cL_law 2349 = .ok (.invokevirtual 304, 3) := by decide +kernel
theorem dL_law_2352 : decode cL_law 2352 = .ok (.if_icmp .eq 830, 3) := by decide +kernel
theorem dL_law_2357 : decode cL_law 2357 = .ok (.aload_n 1, 1) := by decide +kernel
theorem dL_law_2358 : decode cL_law 2358 = .ok (.invokevirtual 305, 3) := by decide +kernel
theorem dL_law_2361 : decode cL_law 2361 = .ok (.aload_n 2, 1) := by decide +kernel
theorem dL_law_2362 : decode cL_law 2362 = .ok (.invokevirtual 308, 3) := by decide +kernel
theorem dL_law_2365 : decode cL_law 2365 = .ok (.if_icmp .eq 817, 3) := by decide +kernel
theorem dL_law_2370 : decode cL_law 2370 = .ok (.aload_n 1, 1) := by decide +kernel
theorem dL_law_2371 : decode cL_law 2371 = .ok (.invokevirtual 309, 3) := by decide +kernel
theorem dL_law_2374 : decode cL_law 2374 = .ok (.aload_n 2, 1) := by decide +kernel
theorem dL_law_2375 : decode cL_law 2375 = .ok (.invokevirtual 312, 3) := by decide +kernel
theorem dL_law_2378 : decode cL_law 2378 = .ok (.if_icmp .eq 804, 3) := by decide +kernel
theorem dL_law_2383 : decode cL_law 2383 = .ok (.aload_n 1, 1) := by decide +kernel
theorem dL_law_2384 : decode cL_law 2384 = .ok (.invokevirtual 313, 3) := by decide +kernel
