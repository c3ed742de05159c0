theorem dL_law_1727 : decode cL_law 1727 = .ok (.ifCond .ne 13, 3) := by decide +kernel
theorem dL_law_1730 : decode cL_law 1730 = .ok (.aload_n 3, 1) := by decide +kernel
theorem dL_law_1731 : decode cL_law 1731 = .ok (.iload 18, 2) := by decide +kernel
theorem dL_law_1733 : decode cL_law 1733 = .ok (.lload 23, 2) := by decide +kernel
theorem dL_law_1735 : decode cL_law 1735 = .ok (.l2i, 1) := by decide +kernel
theorem dL_law_1736 : decode cL_law 1736 = .ok (.iastore, 1) := by decide +kernel
theorem dL_law_1737 : decode cL_law 1737 = .ok (.goto 20, 3) := by decide +kernel
theorem dL_law_1740 : decode cL_law 1740 = .ok (.aload 4, 2) := by decide +kernel
theorem dL_law_1742 : decode cL_law 1742 = .ok (.iload 18, 2) := by decide +kernel
theorem dL_law_1744 : decode cL_law 1744 = .ok (.aload_n 3, 1) := by decide +kernel
theorem dL_law_1745 : decode cL_law 1745 = .ok (.iload 18, 2) := by decide +kernel
theorem dL_law_1747 : decode cL_law 1747 = .ok (.iaload, 1) := by decide +kernel
theorem dL_law_1748 : decode cL_law 1748 = .ok (.iconst 1, 1) := by decide +kernel
theorem dL_law_1749 : decode cL_law 1749 = .ok (.iadd, 1) := by decide +kernel
theorem dL_law_1750 : decode cL_law 1750 = .ok (.lload 23, 2) := by decide +kernel
theorem dL_law_1752 : decode cL_law 1752 = .ok (.l2i, 1) := by decide +kernel
theorem dL_law_1753 : decode cL_law 1753 = .ok (.invokestatic 181, 3) := by decide +kernel
theorem dL_law_1756 : decode cL_law 1756 = .ok (.iastore, 1) := by decide +kernel
theorem dL_law_1757 : decode cL_law 1757 = .ok (.iinc 19 1, 3) := by decide +kernel
theorem dL_law_1760 : decode cL_law 1760 = .ok (.goto (-151), 3) := by decide +kernel
theorem dL_law_1763 : decode cL_law 1763 = .ok (.iinc 18 1, 3) := by decide +kernel
theorem dL_law_1766 : decode cL_law 1766 = .ok (.goto (-166), 3) := by decide +kernel
theorem dL_law_1769 : decode cL_law 1769 = .ok (.iconst 0, 1) := by decide +kernel
theorem dL_law_1770 : decode cL_law 1770 = .ok (.istore 14, 2) := by decide +kernel
theorem dL_law_1772 : decode cL_law 1772 = .ok (.iload 14, 2) := by decide +kernel
theorem dL_law_1774 : decode cL_law 1774 = .ok (.iload_n 2, 1) := by decide +kernel
theorem dL_law_1775 : decode cL_law 1775 = .ok (.if_icmp .ge 104, 3) := by decide +kernel
theorem dL_law_1778 : decode cL_law 1778 = .ok (.iload 10, 2) := by decide +kernel
theorem dL_law_1780 : decode cL_law 1780 = .ok (.iload 10, 2) := by decide +kernel
theorem dL_law_1782 : decode cL_law 1782 = .ok (.ifCond .ge 7, 3) := by decide +kernel
theorem dL_law_1785 : decode cL_law 1785 = .ok (.iconst 0, 1) := by decide +kernel
theorem dL_law_1786 : decode cL_law 1786 = .ok (.goto 39, 3) := by decide +kernel
theorem dL_law_1789 : decode cL_law 1789 = .ok (.aload_n 3, 1) := by decide +kernel
theorem dL_law_1790 : decode cL_law 1790 = .ok (.iload 14, 2) := by decide +kernel
theorem dL_law_1792 : decode cL_law 1792 = .ok (.iaload, 1) := by decide +kernel
theorem dL_law_1793 : decode cL_law 1793 = .ok (.aload 12, 2) := by decide +kernel
theorem dL_law_1795 : decode cL_law 1795 = .ok (.iload 14, 2) := by decide +kernel
theorem dL_law_1797 : decode cL_law 1797 = .ok (.iaload, 1) := by decide +kernel
theorem dL_law_1798 : decode cL_law 1798 = .ok (.if_icmp .eq 7, 3) := by decide +kernel
theorem dL_law_1801 : decode cL_law 1801 = .ok (.iconst 1, 1) := by decide +kernel
theorem dL_law_1802 : decode cL_law 1802 = .ok (.goto 4, 3) := by decide +kernel
theorem dL_law_1805 : decode cL_law 1805 = .ok (.iconst 0, 1) := by decide +kernel
theorem dL_law_1806 : decode cL_law 1806 = .ok (.aload 4, 2) := by decide +kernel
theorem dL_law_1808 : decode cL_law 1808 = .ok (.iload 14, 2) := by decide +kernel
theorem dL_law_1810 : decode cL_law 1810 = .ok (.iaload, 1) := by decide +kernel
theorem dL_law_1811 : decode cL_law 1811 = .ok (.aload 13, 2) := by decide +kernel
theorem dL_law_1813 : decode cL_law 1813 = .ok (.iload 14, 2) := by decide +kernel
theorem dL_law_1815 : decode cL_law 1815 = .ok (.iaload, 1) := by decide +kernel
theorem dL_law_1816 : decode cL_law 1816 = .ok (.if_icmp .eq 7, 3) := by decide +kernel
theorem dL_law_1819 : decode cL_law 1819 = .ok (.iconst 1, 1) := by decide +kernel
theorem dL_law_1820 : decode cL_law 1820 = .ok (.goto 4, 3) := by decide +kernel
theorem dL_law_1823 : decode cL_law 1823 = .ok (.iconst 0, 1) := by decide +kernel
theorem dL_law_1824 : decode cL_law 1824 = .ok (.iadd, 1) := by decide +kernel
theorem dL_law_1825 : decode cL_law 1825 = .ok (.iadd, 1) := by decide +kernel
theorem dL_law_1826 : decode cL_law 1826 = .ok (.istore 10, 2) := by decide +kernel
theorem dL_law_1828 : decode cL_law 1828 = .ok (.aload_n 1, 1) := by decide +kernel
theorem dL_law_1829 : decode cL_law 1829 = .ok (.bipush 115, 2) := by decide +kernel
theorem dL_law_1831 : decode cL_law 1831 = .ok (.iconst 1, 1) := by decide +kernel
theorem dL_law_1832 : decode cL_law 1832 = .ok (.newarray .int, 2) := by decide +kernel
theorem dL_law_1834 : decode cL_law 1834 = .ok (.dup, 1) := by decide +kernel
theorem dL_law_1835 : decode cL_law 1835 = .ok (.iconst 0, 1) := by decide +kernel
theorem dL_law_1836 : decode cL_law 1836 = .ok (.iload 14, 2) := by decide +kernel
theorem dL_law_1838 : decode cL_law 1838 = .ok (.iastore, 1) := by decide +kernel
theorem dL_law_1839 : decode cL_law 1839 = .ok (.invokestatic 158, 3) := by decide +kernel
theorem dL_law_1842 : decode cL_law 1842 = .ok (.aload_n 3, 1) := by decide +kernel
theorem dL_law_1843 : decode cL_law 1843 = .ok (.iload 14, 2) := by decide +kernel
theorem dL_law_1845 : decode cL_law 1845 = .ok (.iaload, 1) := by decide +kernel
theorem dL_law_1846 : decode cL_law 1846 = .ok (.if_icmp .ne 25, 3) := by decide +kernel
theorem dL_law_1849 : decode cL_law 1849 = .ok (.aload_n 1, 1) := by decide +kernel
theorem dL_law_1850 : decode cL_law 1850 = .ok (.bipush 101, 2) := by decide +kernel
theorem dL_law_1852 : decode cL_law 1852 = .ok (.iconst 1, 1) := by decide +kernel
theorem dL_law_1853 : decode cL_law 1853 = .ok (.newarray .int, 2) := by decide +kernel
theorem dL_law_1855 : decode cL_law 1855 = .ok (.dup, 1) := by decide +kernel
theorem dL_law_1856 : decode cL_law 1856 = .ok (.iconst 0, 1) := by decide +kernel
theorem dL_law_1857 : decode cL_law 1857 = .ok (.iload 14, 2) := by decide +kernel
theorem dL_law_1859 : decode cL_law 1859 = .ok (.iastore, 1) := by decide +kernel
theorem dL_law_1860 : decode cL_law 1860 = .ok (.invokestatic 158, 3) := by decide +kernel
theorem dL_law_1863 : decode cL_law 1863 = .ok (.aload 4, 2) := by decide +kernel
theorem dL_law_1865 : decode cL_law 1865 = .ok (.iload 14, 2) := by decide +kernel
theorem dL_law_1867 : decode cL_law 1867 = .ok (.iaload, 1) := by decide +kernel
theorem dL_law_1868 : decode cL_law 1868 = .ok (.if_icmp .eq 5, 3) := by decide +kernel
theorem dL_law_1871 : decode cL_law 1871 = .ok (.iconst 0, 1) := by decide +kernel
theorem dL_law_1872 : decode cL_law 1872 = .ok (.ireturn, 1) := by decide +kernel
theorem dL_law_1873 : decode cL_law 1873 = .ok (.iinc 14 1, 3) := by decide +kernel
theorem dL_law_1876 : decode cL_law 1876 = .ok (.goto (-104), 3) := by decide +kernel
theorem dL_law_1879 : decode cL_law 1879 = .ok (.iload 10, 2) := by decide +kernel
theorem dL_law_1881 : decode cL_law 1881 = .ok (.ifCond .lt 10, 3) := by decide +kernel
theorem dL_law_1884 : decode cL_law 1884 = .ok (.iload 11, 2) := by decide +kernel
theorem dL_law_1886 : decode cL_law 1886 = .ok (.iload 10, 2) := by decide +kernel
theorem dL_law_1888 : decode cL_law 1888 = .ok (.if_icmp .ne 18, 3) := by decide +kernel
theorem dL_law_1891 : decode cL_law 1891 = .ok (.aload_n 1, 1) := by decide +kernel
theorem dL_law_1892 : decode cL_law 1892 = .ok (.invokevirtual 193, 3) := by decide +kernel
theorem dL_law_1895 : decode cL_law 1895 = .ok (.iload_n 2, 1) := by decide +kernel
theorem dL_law_1896 : decode cL_law 1896 = .ok (.if_icmp .ne 10, 3) := by decide +kernel
theorem dL_law_1899 : decode cL_law 1899 = .ok (.aload_n 1, 1) := by decide +kernel
theorem dL_law_1900 : decode cL_law 1900 = .ok (.invokevirtual 196, 3) := by decide +kernel
theorem dL_law_1903 : decode cL_law 1903 = .ok (.ifCond .ne 5, 3) := by decide +kernel
theorem dL_law_1906 : decode cL_law 1906 = .ok (.iconst 0, 1) := by decide +kernel
theorem dL_law_1907 : decode cL_law 1907 = .ok (.ireturn, 1) := by decide +kernel
theorem dL_law_1908 : decode cL_law 1908 = .ok (.iinc 8 1, 3) := by decide +kernel
theorem dL_law_1911 : decode cL_law 1911 = .ok (.goto (-1199), 3) := by decide +kernel
theorem dL_law_1914 : decode cL_law 1914 = .ok (.iconst 2, 1) := by decide +kernel
theorem dL_law_1915 : decode cL_law 1915 = .ok (.aload_n 0, 1) := by decide +kernel
theorem dL_law_1916 : decode cL_law 1916 = .ok (.bipush 40, 2) := by decide +kernel
theorem dL_law_1918 : decode cL_law 1918 = .ok (.invokestatic 144, 3) := by decide +kernel
theorem dL_law_1921 : decode cL_law 1921 = .ok (.bipush 10, 2) := by decide +kernel
theorem dL_law_1923 : decode cL_law 1923 = .ok (.invokestatic 149, 3) := by decide +kernel
theorem dL_law_1926 : decode cL_law 1926 = .ok (.iadd, 1) := by decide +kernel
theorem dL_law_1927 : decode cL_law 1927 = .ok (.istore 8, 2) := by decide +kernel
theorem dL_law_1929 : decode cL_law 1929 = .ok (.iconst 0, 1) := by decide +kernel
theorem dL_law_1930 : decode cL_law 1930 = .ok (.istore 9, 2) := by decide +kernel
theorem dL_law_1932 : decode cL_law 1932 = .ok (.iconst 0, 1) := by decide +kernel
theorem dL_law_1933 : decode cL_law 1933 = .ok (.istore 10, 2) := by decide +kernel
theorem dL_law_1935 : decode cL_law 1935 = .ok (.iconst 1, 1) := by decide +kernel
theorem dL_law_1936 : decode cL_law 1936 = .ok (.aload_n 0, 1) := by decide +kernel
theorem dL_law_1937 : decode cL_law 1937 = .ok (.bipush 41, 2) := by decide +kernel
theorem dL_law_1939 : decode cL_law 1939 = .ok (.invokestatic 144, 3) := by decide +kernel
theorem dL_law_1942 : decode cL_law 1942 = .ok (.iload 8, 2) := by decide +kernel
theorem dL_law_1944 : decode cL_law 1944 = .ok (.iconst 1, 1) := by decide +kernel
theorem dL_law_1945 : decode cL_law 1945 = .ok (.isub, 1) := by decide +kernel
theorem dL_law_1946 : decode cL_law 1946 = .ok (.invokestatic 149, 3) := by decide +kernel
theorem dL_law_1949 : decode cL_law 1949 = .ok (.iadd, 1) := by decide +kernel
theorem dL_law_1950 : decode cL_law 1950 = .ok (.istore 11, 2) := by decide +kernel
theorem dL_law_1952 : decode cL_law 1952 = .ok (.iconst 0, 1) := by decide +kernel
theorem dL_law_1953 : decode cL_law 1953 = .ok (.istore 12, 2) := by decide +kernel
theorem dL_law_1955 : decode cL_law 1955 = .ok (.iload 12, 2) := by decide +kernel
theorem dL_law_1957 : decode cL_law 1957 = .ok (.iload 8, 2) := by decide +kernel
theorem dL_law_1959 : decode cL_law 1959 = .ok (.if_icmp .ge 92, 3) := by decide +kernel
theorem dL_law_1962 : decode cL_law 1962 = .ok (.iconst 1, 1) := by decide +kernel
theorem dL_law_1963 : decode cL_law 1963 = .ok (.aload_n 0, 1) := by decide +kernel
theorem dL_law_1964 : decode cL_law 1964 = .ok (.bipush 42, 2) := by decide +kernel
theorem dL_law_1966 : decode cL_law 1966 = .ok (.iload 12, 2) := by decide +kernel
theorem dL_law_1968 : decode cL_law 1968 = .ok (.iadd, 1) := by decide +kernel
theorem dL_law_1969 : decode cL_law 1969 = .ok (.invokestatic 144, 3) := by decide +kernel
theorem dL_law_1972 : decode cL_law 1972 = .ok (.bipush 99, 2) := by decide +kernel
theorem dL_law_1974 : decode cL_law 1974 = .ok (.invokestatic 149, 3) := by decide +kernel
theorem dL_law_1977 : decode cL_law 1977 = .ok (.bipush 99, 2) := by decide +kernel
theorem dL_law_1979 : decode cL_law 1979 = .ok (.irem, 1) := by decide +kernel
theorem dL_law_1980 : decode cL_law 1980 = .ok (.iadd, 1) := by decide +kernel
theorem dL_law_1981 : decode cL_law 1981 = .ok (.istore 13, 2) := by decide +kernel
theorem dL_law_1983 : decode cL_law 1983 = .ok (.iload 9, 2) := by decide +kernel
theorem dL_law_1985 : decode cL_law 1985 = .ok (.iload 13, 2) := by decide +kernel
theorem dL_law_1987 : decode cL_law 1987 = .ok (.bipush 9, 2) := by decide +kernel
theorem dL_law_1989 : decode cL_law 1989 = .ok (.irem, 1) := by decide +kernel
theorem dL_law_1990 : decode cL_law 1990 = .ok (.iconst 1, 1) := by decide +kernel
theorem dL_law_1991 : decode cL_law 1991 = .ok (.iadd, 1) := by decide +kernel
theorem dL_law_1992 : decode cL_law 1992 = .ok (.iadd, 1) := by decide +kernel
theorem dL_law_1993 : decode cL_law 1993 = .ok (.istore 9, 2) := by decide +kernel
theorem dL_law_1995 : decode cL_law 1995 = .ok (.iload 10, 2) := by decide +kernel
theorem dL_law_1997 : decode cL_law 1997 = .ok (.iload 12, 2) := by decide +kernel
theorem dL_law_1999 : decode cL_law 1999 = .ok (.iload 11, 2) := by decide +kernel
theorem dL_law_2001 : decode cL_law 2001 = .ok (.if_icmp .ge 13, 3) := by decide +kernel
theorem dL_law_2004 : decode cL_law 2004 = .ok (.iload 13, 2) := by decide +kernel
theorem dL_law_2006 : decode cL_law 2006 = .ok (.bipush 9, 2) := by decide +kernel
theorem dL_law_2008 : decode cL_law 2008 = .ok (.irem, 1) := by decide +kernel
theorem dL_law_2009 : decode cL_law 2009 = .ok (.iconst 1, 1) := by decide +kernel
theorem dL_law_2010 : decode cL_law 2010 = .ok (.iadd, 1) := by decide +kernel
theorem dL_law_2011 : decode cL_law 2011 = .ok (.goto 4, 3) := by decide +kernel
theorem dL_law_2014 : decode cL_law 2014 = .ok (.iconst 0, 1) := by decide +kernel
theorem dL_law_2015 : decode cL_law 2015 = .ok (.iadd, 1) := by decide +kernel
theorem dL_law_2016 : decode cL_law 2016 = .ok (.istore 10, 2) := by decide +kernel
theorem dL_law_2018 : decode cL_law 2018 = .ok (.aload_n 1, 1) := by decide +kernel
theorem dL_law_2019 : decode cL_law 2019 = .ok (.bipush 119, 2) := by decide +kernel
theorem dL_law_2021 : decode cL_law 2021 = .ok (.iconst 2, 1) := by decide +kernel
theorem dL_law_2022 : decode cL_law 2022 = .ok (.newarray .int, 2) := by decide +kernel
theorem dL_law_2024 : decode cL_law 2024 = .ok (.dup, 1) := by decide +kernel
theorem dL_law_2025 : decode cL_law 2025 = .ok (.iconst 0, 1) := by decide +kernel
theorem dL_law_2026 : decode cL_law 2026 = .ok (.iconst 0, 1) := by decide +kernel
theorem dL_law_2027 : decode cL_law 2027 = .ok (.iastore, 1) := by decide +kernel
theorem dL_law_2028 : decode cL_law 2028 = .ok (.dup, 1) := by decide +kernel
theorem dL_law_2029 : decode cL_law 2029 = .ok (.iconst 1, 1) := by decide +kernel
theorem dL_law_2030 : decode cL_law 2030 = .ok (.iload 13, 2) := by decide +kernel
theorem dL_law_2032 : decode cL_law 2032 = .ok (.iastore, 1) := by decide +kernel
theorem dL_law_2033 : decode cL_law 2033 = .ok (.invokestatic 158, 3) := by decide +kernel
theorem dL_law_2036 : decode cL_law 2036 = .ok (.iload 12, 2) := by decide +kernel
theorem dL_law_2038 : decode cL_law 2038 = .ok (.iconst 1, 1) := by decide +kernel
theorem dL_law_2039 : decode cL_law 2039 = .ok (.iadd, 1) := by decide +kernel
theorem dL_law_2040 : decode cL_law 2040 = .ok (.if_icmp .eq 5, 3) := by decide +kernel
theorem dL_law_2043 : decode cL_law 2043 = .ok (.iconst 0, 1) := by decide +kernel
theorem dL_law_2044 : decode cL_law 2044 = .ok (.ireturn, 1) := by decide +kernel
theorem dL_law_2045 : decode cL_law 2045 = .ok (.iinc 12 1, 3) := by decide +kernel
theorem dL_law_2048 : decode cL_law 2048 = .ok (.goto (-93), 3) := by decide +kernel
theorem dL_law_2051 : decode cL_law 2051 = .ok (.aload 4, 2) := by decide +kernel
theorem dL_law_2053 : decode cL_law 2053 = .ok (.iconst 0, 1) := by decide +kernel
theorem dL_law_2054 : decode cL_law 2054 = .ok (.iaload, 1) := by decide +kernel
theorem dL_law_2055 : decode cL_law 2055 = .ok (.aload_n 3, 1) := by decide +kernel
theorem dL_law_2056 : decode cL_law 2056 = .ok (.iconst 0, 1) := by decide +kernel
theorem dL_law_2057 : decode cL_law 2057 = .ok (.iaload, 1) := by decide +kernel
theorem dL_law_2058 : decode cL_law 2058 = .ok (.isub, 1) := by decide +kernel
theorem dL_law_2059 : decode cL_law 2059 = .ok (.istore 12, 2) := by decide +kernel
theorem dL_law_2061 : decode cL_law 2061 = .ok (.aload_n 1, 1) := by decide +kernel
theorem dL_law_2062 : decode cL_law 2062 = .ok (.iconst 0, 1) := by decide +kernel
theorem dL_law_2063 : decode cL_law 2063 = .ok (.invokevirtual 200, 3) := by decide +kernel
theorem dL_law_2066 : decode cL_law 2066 = .ok (.ldc2_w 204, 3) := by decide +kernel
theorem dL_law_2069 : decode cL_law 2069 = .ok (.iload 9, 2) := by decide +kernel
theorem dL_law_2071 : decode cL_law 2071 = .ok (.iload 8, 2) := by decide +kernel
theorem dL_law_2073 : decode cL_law 2073 = .ok (.iadd, 1) := by decide +kernel
theorem dL_law_2074 : decode cL_law 2074 = .ok (.iconst 1, 1) := by decide +kernel
theorem dL_law_2075 : decode cL_law 2075 = .ok (.isub, 1) := by decide +kernel
theorem dL_law_2076 : decode cL_law 2076 = .ok (.i2l, 1) := by decide +kernel
theorem dL_law_2077 : decode cL_law 2077 = .ok (.lmul, 1) := by decide +kernel
theorem dL_law_2078 : decode cL_law 2078 = .ok (.ldc2_w 206, 3) := by decide +kernel
theorem dL_law_2081 : decode cL_law 2081 = .ok (.iload 8, 2) := by decide +kernel
theorem dL_law_2083 : decode cL_law 2083 = .ok (.i2l, 1) := by decide +kernel
theorem dL_law_2084 : decode cL_law 2084 = .ok (.lmul, 1) := by decide +kernel
theorem dL_law_2085 : decode cL_law 2085 = .ok (.ladd, 1) := by decide +kernel
theorem dL_law_2086 : decode cL_law 2086 = .ok (.lcmp, 1) := by decide +kernel
theorem dL_law_2087 : decode cL_law 2087 = .ok (.ifCond .ne 69, 3) := by decide +kernel
theorem dL_law_2090 : decode cL_law 2090 = .ok (.aload_n 1, 1) := by decide +kernel
theorem dL_law_2091 : decode cL_law 2091 = .ok (.iconst 0, 1) := by decide +kernel
theorem dL_law_2092 : decode cL_law 2092 = .ok (.invokevirtual 208, 3) := by decide +kernel
theorem dL_law_2095 : decode cL_law 2095 = .ok (.iload 9, 2) := by decide +kernel
theorem dL_law_2097 : decode cL_law 2097 = .ok (.i2f, 1) := by decide +kernel
theorem dL_law_2098 : decode cL_law 2098 = .ok (.iload 12, 2) := by decide +kernel
theorem dL_law_2100 : decode cL_law 2100 = .ok (.i2f, 1) := by decide +kernel
theorem dL_law_2101 : decode cL_law 2101 = .ok (.fdiv, 1) := by decide +kernel
theorem dL_law_2102 : decode cL_law 2102 = .ok (.ldc 212, 2) := by decide +kernel
theorem dL_law_2104 : decode cL_law 2104 = .ok (.fmul, 1) := by decide +kernel
theorem dL_law_2105 : decode cL_law 2105 = .ok (.fcmp .l, 1) := by decide +kernel
theorem dL_law_2106 : decode cL_law 2106 = .ok (.ifCond .ne 50, 3) := by decide +kernel
theorem dL_law_2109 : decode cL_law 2109 = .ok (.aload_n 1, 1) := by decide +kernel
theorem dL_law_2110 : decode cL_law 2110 = .ok (.bipush 112, 2) := by decide +kernel
theorem dL_law_2112 : decode cL_law 2112 = .ok (.iconst 2, 1) := by decide +kernel
theorem dL_law_2113 : decode cL_law 2113 = .ok (.newarray .int, 2) := by decide +kernel
theorem dL_law_2115 : decode cL_law 2115 = .ok (.dup, 1) := by decide +kernel
theorem dL_law_2116 : decode cL_law 2116 = .ok (.iconst 0, 1) := by decide +kernel
theorem dL_law_2117 : decode cL_law 2117 = .ok (.iconst 0, 1) := by decide +kernel
theorem dL_law_2118 : decode cL_law 2118 = .ok (.iastore, 1) := by decide +kernel
theorem dL_law_2119 : decode cL_law 2119 = .ok (.dup, 1) := by decide +kernel
theorem dL_law_2120 : decode cL_law 2120 = .ok (.iconst 1, 1) := by decide +kernel
theorem dL_law_2121 : decode cL_law 2121 = .ok (.iconst 0, 1) := by decide +kernel
theorem dL_law_2122 : decode cL_law 2122 = .ok (.iastore, 1) := by decide +kernel
theorem dL_law_2123 : decode cL_law 2123 = .ok (.invokestatic 158, 3) := by decide +kernel
theorem dL_law_2126 : decode cL_law 2126 = .ok (.sipush (-1002), 3) := by decide +kernel
theorem dL_law_2129 : decode cL_law 2129 = .ok (.if_icmp .ne 27, 3) := by decide +kernel
theorem dL_law_2132 : decode cL_law 2132 = .ok (.aload_n 1, 1) := by decide +kernel
theorem dL_law_2133 : decode cL_law 2133 = .ok (.bipush 112, 2) := by decide +kernel
theorem dL_law_2135 : decode cL_law 2135 = .ok (.iconst 2, 1) := by decide +kernel
theorem dL_law_2136 : decode cL_law 2136 = .ok (.newarray .int, 2) := by decide +kernel
theorem dL_law_2138 : decode cL_law 2138 = .ok (.dup, 1) := by decide +kernel
theorem dL_law_2139 : decode cL_law 2139 = .ok (.iconst 0, 1) := by decide +kernel
theorem dL_law_2140 : decode cL_law 2140 = .ok (.iconst 0, 1) := by decide +kernel
theorem dL_law_2141 : decode cL_law 2141 = .ok (.iastore, 1) := by decide +kernel
theorem dL_law_2142 : decode cL_law 2142 = .ok (.dup, 1) := by decide +kernel
theorem dL_law_2143 : decode cL_law 2143 = .ok (.iconst 1, 1) := by decide +kernel
theorem dL_law_2144 : decode cL_law 2144 = .ok (.iload 8, 2) := by decide +kernel
theorem dL_law_2146 : decode cL_law 2146 = .ok (.iastore, 1) := by decide +kernel
theorem dL_law_2147 : decode cL_law 2147 = .ok (.invokestatic 158, 3) := by decide +kernel
theorem dL_law_2150 : decode cL_law 2150 = .ok (.sipush (-1002), 3) := by decide +kernel
theorem dL_law_2153 : decode cL_law 2153 = .ok (.if_icmp .eq 5, 3) := by decide +kernel
theorem dL_law_2156 : decode cL_law 2156 = .ok (.iconst 0, 1) := by decide +kernel
theorem dL_law_2157 : decode cL_law 2157 = .ok (.ireturn, 1) := by decide +kernel
theorem dL_law_2158 : decode cL_law 2158 = .ok (.aload_n 3, 1) := by decide +kernel
theorem dL_law_2159 : decode cL_law 2159 = .ok (.iconst 0, 1) := by decide +kernel
theorem dL_law_2160 : decode cL_law 2160 = .ok (.iaload, 1) := by decide +kernel
theorem dL_law_2161 : decode cL_law 2161 = .ok (.iconst 1, 1) := by decide +kernel
theorem dL_law_2162 : decode cL_law 2162 = .ok (.iadd, 1) := by decide +kernel
theorem dL_law_2163 : decode cL_law 2163 = .ok (.aload 4, 2) := by decide +kernel
theorem dL_law_2165 : decode cL_law 2165 = .ok (.iconst 0, 1) := by decide +kernel
theorem dL_law_2166 : decode cL_law 2166 = .ok (.iaload, 1) := by decide +kernel
theorem dL_law_2167 : decode cL_law 2167 = .ok (.iconst 1, 1) := by decide +kernel
theorem dL_law_2168 : decode cL_law 2168 = .ok (.isub, 1) := by decide +kernel
theorem dL_law_2169 : decode cL_law 2169 = .ok (.aload_n 3, 1) := by decide +kernel
theorem dL_law_2170 : decode cL_law 2170 = .ok (.iconst 0, 1) := by decide +kernel
theorem dL_law_2171 : decode cL_law 2171 = .ok (.iaload, 1) := by decide +kernel
theorem dL_law_2172 : decode cL_law 2172 = .ok (.iload 12, 2) := by decide +kernel
theorem dL_law_2174 : decode cL_law 2174 = .ok (.iload 10, 2) := by decide +kernel
theorem dL_law_2176 : decode cL_law 2176 = .ok (.imul, 1) := by decide +kernel
theorem dL_law_2177 : decode cL_law 2177 = .ok (.iload 9, 2) := by decide +kernel
theorem dL_law_2179 : decode cL_law 2179 = .ok (.idiv, 1) := by decide +kernel
theorem dL_law_2180 : decode cL_law 2180 = .ok (.iadd, 1) := by decide +kernel
theorem dL_law_2181 : decode cL_law 2181 = .ok (.invokestatic 176, 3) := by decide +kernel
theorem dL_law_2184 : decode cL_law 2184 = .ok (.invokestatic 181, 3) := by decide +kernel
theorem dL_law_2187 : decode cL_law 2187 = .ok (.istore 13, 2) := by decide +kernel
theorem dL_law_2189 : decode cL_law 2189 = .ok (.aload_n 1, 1) := by decide +kernel
theorem dL_law_2190 : decode cL_law 2190 = .ok (.bipush 112, 2) := by decide +kernel
theorem dL_law_2192 : decode cL_law 2192 = .ok (.iconst 2, 1) := by decide +kernel
theorem dL_law_2193 : decode cL_law 2193 = .ok (.newarray .int, 2) := by decide +kernel
theorem dL_law_2195 : decode cL_law 2195 = .ok (.dup, 1) := by decide +kernel
theorem dL_law_2196 : decode cL_law 2196 = .ok (.iconst 0, 1) := by decide +kernel
theorem dL_law_2197 : decode cL_law 2197 = .ok (.iconst 0, 1) := by decide +kernel
theorem dL_law_2198 : decode cL_law 2198 = .ok (.iastore, 1) := by decide +kernel
theorem dL_law_2199 : decode cL_law 2199 = .ok (.dup, 1) := by decide +kernel
theorem dL_law_2200 : decode cL_law 2200 = .ok (.iconst 1, 1) := by decide +kernel
theorem dL_law_2201 : decode cL_law 2201 = .ok (.iload 11, 2) := by decide +kernel
theorem dL_law_2203 : decode cL_law 2203 = .ok (.iastore, 1) := by decide +kernel
theorem dL_law_2204 : decode cL_law 2204 = .ok (.invokestatic 158, 3) := by decide +kernel
theorem dL_law_2207 : decode cL_law 2207 = .ok (.istore 14, 2) := by decide +kernel
theorem dL_law_2209 : decode cL_law 2209 = .ok (.iload 14, 2) := by decide +kernel
theorem dL_law_2211 : decode cL_law 2211 = .ok (.iload 12, 2) := by decide +kernel
theorem dL_law_2213 : decode cL_law 2213 = .ok (.iconst 2, 1) := by decide +kernel
theorem dL_law_2214 : decode cL_law 2214 = .ok (.if_icmp .ge 9, 3) := by decide +kernel
theorem dL_law_2217 : decode cL_law 2217 = .ok (.sipush (-1004), 3) := by decide +kernel
theorem dL_law_2220 : decode cL_law 2220 = .ok (.goto 4, 3) := by decide +kernel
theorem dL_law_2223 : decode cL_law 2223 = .ok (.iload_n 2, 1) := by decide +kernel
theorem dL_law_2224 : decode cL_law 2224 = .ok (.if_icmp .eq 5, 3) := by decide +kernel
theorem dL_law_2227 : decode cL_law 2227 = .ok (.iconst 0, 1) := by decide +kernel
theorem dL_law_2228 : decode cL_law 2228 = .ok (.ireturn, 1) := by decide +kernel
theorem dL_law_2229 : decode cL_law 2229 = .ok (.iload 14, 2) := by decide +kernel
theorem dL_law_2231 : decode cL_law 2231 = .ok (.ifCond .lt 219, 3) := by decide +kernel
theorem dL_law_2234 : decode cL_law 2234 = .ok (.aload_n 1, 1) := by decide +kernel
theorem dL_law_2235 : decode cL_law 2235 = .ok (.bipush 101, 2) := by decide +kernel
theorem dL_law_2237 : decode cL_law 2237 = .ok (.iconst 1, 1) := by decide +kernel
theorem dL_law_2238 : decode cL_law 2238 = .ok (.newarray .int, 2) := by decide +kernel
theorem dL_law_2240 : decode cL_law 2240 = .ok (.dup, 1) := by decide +kernel
theorem dL_law_2241 : decode cL_law 2241 = .ok (.iconst 0, 1) := by decide +kernel
theorem dL_law_2242 : decode cL_law 2242 = .ok (.iconst 0, 1) := by decide +kernel
theorem dL_law_2243 : decode cL_law 2243 = .ok (.iastore, 1) := by decide +kernel
theorem dL_law_2244 : decode cL_law 2244 = .ok (.invokestatic 158, 3) := by decide +kernel
theorem dL_law_2247 : decode cL_law 2247 = .ok (.iload 13, 2) := by decide +kernel
theorem dL_law_2249 : decode cL_law 2249 = .ok (.if_icmp .ne 199, 3) := by decide +kernel
theorem dL_law_2252 : decode cL_law 2252 = .ok (.aload_n 1, 1) := by decide +kernel
theorem dL_law_2253 : decode cL_law 2253 = .ok (.bipush 115, 2) := by decide +kernel
theorem dL_law_2255 : decode cL_law 2255 = .ok (.iconst 1, 1) := by decide +kernel
theorem dL_law_2256 : decode cL_law 2256 = .ok (.newarray .int, 2) := by decide +kernel
theorem dL_law_2258 : decode cL_law 2258 = .ok (.dup, 1) := by decide +kernel
theorem dL_law_2259 : decode cL_law 2259 = .ok (.iconst 0, 1) := by decide +kernel
theorem dL_law_2260 : decode cL_law 2260 = .ok (.iload_n 2, 1) := by decide +kernel
theorem dL_law_2261 : decode cL_law 2261 = .ok (.iastore, 1) := by decide +kernel
theorem dL_law_2262 : decode cL_law 2262 = .ok (.invokestatic 158, 3) := by decide +kernel
theorem dL_law_2265 : decode cL_law 2265 = .ok (.iload 13, 2) := by decide +kernel
theorem dL_law_2267 : decode cL_law 2267 = .ok (.if_icmp .ne 181, 3) := by decide +kernel
theorem dL_law_2270 : decode cL_law 2270 = .ok (.aload_n 1, 1) := by decide +kernel
theorem dL_law_2271 : decode cL_law 2271 = .ok (.bipush 101, 2) := by decide +kernel
theorem dL_law_2273 : decode cL_law 2273 = .ok (.iconst 1, 1) := by decide +kernel
theorem dL_law_2274 : decode cL_law 2274 = .ok (.newarray .int, 2) := by decide +kernel
theorem dL_law_2276 : decode cL_law 2276 = .ok (.dup, 1) := by decide +kernel
theorem dL_law_2277 : decode cL_law 2277 = .ok (.iconst 0, 1) := by decide +kernel
theorem dL_law_2278 : decode cL_law 2278 = .ok (.iload_n 2, 1) := by decide +kernel
theorem dL_law_2279 : decode cL_law 2279 = .ok (.iastore, 1) := by decide +kernel
theorem dL_law_2280 : decode cL_law 2280 = .ok (.invokestatic 158, 3) := by decide +kernel
theorem dL_law_2283 : decode cL_law 2283 = .ok (.aload 4, 2) := by decide +kernel
theorem dL_law_2285 : decode cL_law 2285 = .ok (.iconst 0, 1) := by decide +kernel
theorem dL_law_2286 : decode cL_law 2286 = .ok (.iaload, 1) := by decide +kernel
theorem dL_law_2287 : decode cL_law 2287 = .ok (.if_icmp .ne 161, 3) := by decide +kernel
theorem dL_law_2290 : decode cL_law 2290 = .ok (.aload_n 1, 1) := by decide +kernel
theorem dL_law_2291 : decode cL_law 2291 = .ok (.bipush 116, 2) := by decide +kernel
theorem dL_law_2293 : decode cL_law 2293 = .ok (.iconst 2, 1) := by decide +kernel
theorem dL_law_2294 : decode cL_law 2294 = .ok (.newarray .int, 2) := by decide +kernel
theorem dL_law_2296 : decode cL_law 2296 = .ok (.dup, 1) := by decide +kernel
theorem dL_law_2297 : decode cL_law 2297 = .ok (.iconst 0, 1) := by decide +kernel
theorem dL_law_2298 : decode cL_law 2298 = .ok (.iconst 0, 1) := by decide +kernel
theorem dL_law_2299 : decode cL_law 2299 = .ok (.iastore, 1) := by decide +kernel
theorem dL_law_2300 : decode cL_law 2300 = .ok (.dup, 1) := by decide +kernel
theorem dL_law_2301 : decode cL_law 2301 = .ok (.iconst 1, 1) := by decide +kernel
theorem dL_law_2302 : decode cL_law 2302 = .ok (.iload 11, 2) := by decide +kernel
theorem dL_law_2304 : decode cL_law 2304 = .ok (.iastore, 1) := by decide +kernel
theorem dL_law_2305 : decode cL_law 2305 = .ok (.invokestatic 158, 3) := by decide +kernel
theorem dL_law_2308 : decode cL_law 2308 = .ok (.sipush (-1001), 3) := by decide +kernel
theorem dL_law_2311 : decode cL_law 2311 = .ok (.if_icmp .ne 137, 3) := by decide +kernel
theorem dL_law_2314 : decode cL_law 2314 = .ok (.aload_n 1, 1) := by decide +kernel
theorem dL_law_2315 : decode cL_law 2315 = .ok (.bipush 116, 2) := by decide +kernel
theorem dL_law_2317 : decode cL_law 2317 = .ok (.iconst 2, 1) := by decide +kernel
theorem dL_law_2318 : decode cL_law 2318 = .ok (.newarray .int, 2) := by decide +kernel
theorem dL_law_2320 : decode cL_law 2320 = .ok (.dup, 1) := by decide +kernel
theorem dL_law_2321 : decode cL_law 2321 = .ok (.iconst 0, 1) := by decide +kernel
theorem dL_law_2322 : decode cL_law 2322 = .ok (.iload_n 2, 1) := by decide +kernel
theorem dL_law_2323 : decode cL_law 2323 = .ok (.iastore, 1) := by decide +kernel
theorem dL_law_2324 : decode cL_law 2324 = .ok (.dup, 1) := by decide +kernel
theorem dL_law_2325 : decode cL_law 2325 = .ok (.iconst 1, 1) := by decide +kernel
theorem dL_law_2326 : decode cL_law 2326 = .ok (.iload 8, 2) := by decide +kernel
theorem dL_law_2328 : decode cL_law 2328 = .ok (.iload 11, 2) := by decide +kernel
theorem dL_law_2330 : decode cL_law 2330 = .ok (.isub, 1) := by decide +kernel
theorem dL_law_2331 : decode cL_law 2331 = .ok (.iastore, 1) := by decide +kernel
theorem dL_law_2332 : decode cL_law 2332 = .ok (.invokestatic 158, 3) := by decide +kernel
theorem dL_law_2335 : decode cL_law 2335 = .ok (.sipush (-1001), 3) := by decide +kernel
theorem dL_law_2338 : decode cL_law 2338 = .ok (.if_icmp .ne 110, 3) := by decide +kernel
theorem dL_law_2341 : decode cL_law 2341 = .ok (.aload_n 1, 1) := by decide +kernel
theorem dL_law_2342 : decode cL_law 2342 = .ok (.bipush 109, 2) := by decide +kernel
theorem dL_law_2344 : decode cL_law 2344 = .ok (.iconst 2, 1) := by decide +kernel
theorem dL_law_2345 : decode cL_law 2345 = .ok (.newarray .int, 2) := by decide +kernel
theorem dL_law_2347 : decode cL_law 2347 = .ok (.dup, 1) := by decide +kernel
theorem dL_law_2348 : decode cL_law 2348 = .ok (.iconst 0, 1) := by decide +kernel
theorem dL_law_2349 : decode cL_law 2349 = .ok (.iconst 0, 1) := by decide +kernel
theorem dL_law_2350 : decode cL_law 2350 = .ok (.iastore, 1) := by decide +kernel
theorem dL_law_2351 : decode cL_law 2351 = .ok (.dup, 1) := by decide +kernel
theorem dL_law_2352 : decode cL_law 2352 = .ok (.iconst 1, 1) := by decide +kernel
theorem dL_law_2353 : decode cL_law 2353 = .ok (.iconst 0, 1) := by decide +kernel
theorem dL_law_2354 : decode cL_law 2354 = .ok (.iastore, 1) := by decide +kernel
theorem dL_law_2355 : decode cL_law 2355 = .ok (.invokestatic 158, 3) := by decide +kernel
theorem dL_law_2358 : decode cL_law 2358 = .ok (.sipush (-1002), 3) := by decide +kernel
theorem dL_law_2361 : decode cL_law 2361 = .ok (.if_icmp .ne 87, 3) := by decide +kernel
theorem dL_law_2364 : decode cL_law 2364 = .ok (.aload_n 1, 1) := by decide +kernel
theorem dL_law_2365 : decode cL_law 2365 = .ok (.bipush 109, 2) := by decide +kernel
theorem dL_law_2367 : decode cL_law 2367 = .ok (.iconst 2, 1) := by decide +kernel
theorem dL_law_2368 : decode cL_law 2368 = .ok (.newarray .int, 2) := by decide +kernel
theorem dL_law_2370 : decode cL_law 2370 = .ok (.dup, 1) := by decide +kernel
theorem dL_law_2371 : decode cL_law 2371 = .ok (.iconst 0, 1) := by decide +kernel
theorem dL_law_2372 : decode cL_law 2372 = .ok (.iconst 0, 1) := by decide +kernel
theorem dL_law_2373 : decode cL_law 2373 = .ok (.iastore, 1) := by decide +kernel
theorem dL_law_2374 : decode cL_law 2374 = .ok (.dup, 1) := by decide +kernel
theorem dL_law_2375 : decode cL_law 2375 = .ok (.iconst 1, 1) := by decide +kernel
theorem dL_law_2376 : decode cL_law 2376 = .ok (.iload_n 2, 1) := by decide +kernel
theorem dL_law_2377 : decode cL_law 2377 = .ok (.iastore, 1) := by decide +kernel
theorem dL_law_2378 : decode cL_law 2378 = .ok (.invokestatic 158, 3) := by decide +kernel
theorem dL_law_2381 : decode cL_law 2381 = .ok (.iload 8, 2) := by decide +kernel
theorem dL_law_2383 : decode cL_law 2383 = .ok (.if_icmp .ne 65, 3) := by decide +kernel
theorem dL_law_2386 : decode cL_law 2386 = .ok (.aload_n 1, 1) := by decide +kernel
theorem dL_law_2387 : decode cL_law 2387 = .ok (.bipush 101, 2) := by decide +kernel
theorem dL_law_2389 : decode cL_law 2389 = .ok (.iconst 1, 1) := by decide +kernel
theorem dL_law_2390 : decode cL_law 2390 = .ok (.newarray .int, 2) := by decide +kernel
theorem dL_law_2392 : decode cL_law 2392 = .ok (.dup, 1) := by decide +kernel
theorem dL_law_2393 : decode cL_law 2393 = .ok (.iconst 0, 1) := by decide +kernel
theorem dL_law_2394 : decode cL_law 2394 = .ok (.iconst 0, 1) := by decide +kernel
theorem dL_law_2395 : decode cL_law 2395 = .ok (.iastore, 1) := by decide +kernel
theorem dL_law_2396 : decode cL_law 2396 = .ok (.invokestatic 158, 3) := by decide +kernel
theorem dL_law_2399 : decode cL_law 2399 = .ok (.aload 4, 2) := by decide +kernel
theorem dL_law_2401 : decode cL_law 2401 = .ok (.iconst 0, 1) := by decide +kernel
theorem dL_law_2402 : decode cL_law 2402 = .ok (.iaload, 1) := by decide +kernel
theorem dL_law_2403 : decode cL_law 2403 = .ok (.if_icmp .ne 45, 3) := by decide +kernel
theorem dL_law_2406 : decode cL_law 2406 = .ok (.aload_n 1, 1) := by decide +kernel
theorem dL_law_2407 : decode cL_law 2407 = .ok (.bipush 115, 2) := by decide +kernel
theorem dL_law_2409 : decode cL_law 2409 = .ok (.iconst 1, 1) := by decide +kernel
theorem dL_law_2410 : decode cL_law 2410 = .ok (.newarray .int, 2) := by decide +kernel
theorem dL_law_2412 : decode cL_law 2412 = .ok (.dup, 1) := by decide +kernel
theorem dL_law_2413 : decode cL_law 2413 = .ok (.iconst 0, 1) := by decide +kernel
theorem dL_law_2414 : decode cL_law 2414 = .ok (.iload_n 2, 1) := by decide +kernel
theorem dL_law_2415 : decode cL_law 2415 = .ok (.iastore, 1) := by decide +kernel
theorem dL_law_2416 : decode cL_law 2416 = .ok (.invokestatic 158, 3) := by decide +kernel
theorem dL_law_2419 : decode cL_law 2419 = .ok (.sipush (-1005), 3) := by decide +kernel
theorem dL_law_2422 : decode cL_law 2422 = .ok (.if_icmp .ne 26, 3) := by decide +kernel
theorem dL_law_2425 : decode cL_law 2425 = .ok (.aload_n 1, 1) := by decide +kernel
theorem dL_law_2426 : decode cL_law 2426 = .ok (.bipush 109, 2) := by decide +kernel
theorem dL_law_2428 : decode cL_law 2428 = .ok (.iconst 2, 1) := by decide +kernel
theorem dL_law_2429 : decode cL_law 2429 = .ok (.newarray .int, 2) := by decide +kernel
theorem dL_law_2431 : decode cL_law 2431 = .ok (.dup, 1) := by decide +kernel
theorem dL_law_2432 : decode cL_law 2432 = .ok (.iconst 0, 1) := by decide +kernel
theorem dL_law_2433 : decode cL_law 2433 = .ok (.iconst 0, 1) := by decide +kernel
theorem dL_law_2434 : decode cL_law 2434 = .ok (.iastore, 1) := by decide +kernel
theorem dL_law_2435 : decode cL_law 2435 = .ok (.dup, 1) := by decide +kernel
theorem dL_law_2436 : decode cL_law 2436 = .ok (.iconst 1, 1) := by decide +kernel
theorem dL_law_2437 : decode cL_law 2437 = .ok (.iload_n 2, 1) := by decide +kernel
theorem dL_law_2438 : decode cL_law 2438 = .ok (.iastore, 1) := by decide +kernel
theorem dL_law_2439 : decode cL_law 2439 = .ok (.invokestatic 158, 3) := by decide +kernel
theorem dL_law_2442 : decode cL_law 2442 = .ok (.sipush (-1005), 3) := by decide +kernel
theorem dL_law_2445 : decode cL_law 2445 = .ok (.if_icmp .eq 5, 3) := by decide +kernel
theorem dL_law_2448 : decode cL_law 2448 = .ok (.iconst 0, 1) := by decide +kernel
theorem dL_law_2449 : decode cL_law 2449 = .ok (.ireturn, 1) := by decide +kernel
theorem dL_law_2450 : decode cL_law 2450 = .ok (.iload_n 2, 1) := by decide +kernel
theorem dL_law_2451 : decode cL_law 2451 = .ok (.iconst 1, 1) := by decide +kernel
theorem dL_law_2452 : decode cL_law 2452 = .ok (.iadd, 1) := by decide +kernel
theorem dL_law_2453 : decode cL_law 2453 = .ok (.istore 15, 2) := by decide +kernel
theorem dL_law_2455 : decode cL_law 2455 = .ok (.aload_n 1, 1) := by decide +kernel
theorem dL_law_2456 : decode cL_law 2456 = .ok (.bipush 97, 2) := by decide +kernel
theorem dL_law_2458 : decode cL_law 2458 = .ok (.iconst 3, 1) := by decide +kernel
theorem dL_law_2459 : decode cL_law 2459 = .ok (.newarray .int, 2) := by decide +kernel
theorem dL_law_2461 : decode cL_law 2461 = .ok (.dup, 1) := by decide +kernel
theorem dL_law_2462 : decode cL_law 2462 = .ok (.iconst 0, 1) := by decide +kernel
theorem dL_law_2463 : decode cL_law 2463 = .ok (.iconst 5, 1) := by decide +kernel
theorem dL_law_2464 : decode cL_law 2464 = .ok (.iastore, 1) := by decide +kernel
theorem dL_law_2465 : decode cL_law 2465 = .ok (.dup, 1) := by decide +kernel
theorem dL_law_2466 : decode cL_law 2466 = .ok (.iconst 1, 1) := by decide +kernel
theorem dL_law_2467 : decode cL_law 2467 = .ok (.iconst 5, 1) := by decide +kernel
theorem dL_law_2468 : decode cL_law 2468 = .ok (.iastore, 1) := by decide +kernel
theorem dL_law_2469 : decode cL_law 2469 = .ok (.dup, 1) := by decide +kernel
theorem dL_law_2470 : decode cL_law 2470 = .ok (.iconst 2, 1) := by decide +kernel
theorem dL_law_2471 : decode cL_law 2471 = .ok (.iconst 0, 1) := by decide +kernel
theorem dL_law_2472 : decode cL_law 2472 = .ok (.iastore, 1) := by decide +kernel
theorem dL_law_2473 : decode cL_law 2473 = .ok (.invokestatic 158, 3) := by decide +kernel
theorem dL_law_2476 : decode cL_law 2476 = .ok (.sipush (-1002), 3) := by decide +kernel
theorem dL_law_2479 : decode cL_law 2479 = .ok (.if_icmp .ne 434, 3) := by decide +kernel
theorem dL_law_2482 : decode cL_law 2482 = .ok (.aload_n 1, 1) := by decide +kernel
theorem dL_law_2483 : decode cL_law 2483 = .ok (.bipush 97, 2) := by decide +kernel
theorem dL_law_2485 : decode cL_law 2485 = .ok (.iconst 3, 1) := by decide +kernel
theorem dL_law_2486 : decode cL_law 2486 = .ok (.newarray .int, 2) := by decide +kernel
theorem dL_law_2488 : decode cL_law 2488 = .ok (.dup, 1) := by decide +kernel
theorem dL_law_2489 : decode cL_law 2489 = .ok (.iconst 0, 1) := by decide +kernel
theorem dL_law_2490 : decode cL_law 2490 = .ok (.iconst (-1), 1) := by decide +kernel
theorem dL_law_2491 : decode cL_law 2491 = .ok (.iastore, 1) := by decide +kernel
theorem dL_law_2492 : decode cL_law 2492 = .ok (.dup, 1) := by decide +kernel
theorem dL_law_2493 : decode cL_law 2493 = .ok (.iconst 1, 1) := by decide +kernel
theorem dL_law_2494 : decode cL_law 2494 = .ok (.iconst 5, 1) := by decide +kernel
theorem dL_law_2495 : decode cL_law 2495 = .ok (.iastore, 1) := by decide +kernel
theorem dL_law_2496 : decode cL_law 2496 = .ok (.dup, 1) := by decide +kernel
theorem dL_law_2497 : decode cL_law 2497 = .ok (.iconst 2, 1) := by decide +kernel
theorem dL_law_2498 : decode cL_law 2498 = .ok (.iconst 0, 1) := by decide +kernel
theorem dL_law_2499 : decode cL_law 2499 = .ok (.iastore, 1) := by decide +kernel
theorem dL_law_2500 : decode cL_law 2500 = .ok (.invokestatic 158, 3) := by decide +kernel
theorem dL_law_2503 : decode cL_law 2503 = .ok (.sipush (-1002), 3) := by decide +kernel
theorem dL_law_2506 : decode cL_law 2506 = .ok (.if_icmp .ne 407, 3) := by decide +kernel
theorem dL_law_2509 : decode cL_law 2509 = .ok (.aload_n 1, 1) := by decide +kernel
theorem dL_law_2510 : decode cL_law 2510 = .ok (.bipush 97, 2) := by decide +kernel
theorem dL_law_2512 : decode cL_law 2512 = .ok (.iconst 3, 1) := by decide +kernel
theorem dL_law_2513 : decode cL_law 2513 = .ok (.newarray .int, 2) := by decide +kernel
theorem dL_law_2515 : decode cL_law 2515 = .ok (.dup, 1) := by decide +kernel
theorem dL_law_2516 : decode cL_law 2516 = .ok (.iconst 0, 1) := by decide +kernel
theorem dL_law_2517 : decode cL_law 2517 = .ok (.iconst 5, 1) := by decide +kernel
theorem dL_law_2518 : decode cL_law 2518 = .ok (.iastore, 1) := by decide +kernel
theorem dL_law_2519 : decode cL_law 2519 = .ok (.dup, 1) := by decide +kernel
theorem dL_law_2520 : decode cL_law 2520 = .ok (.iconst 1, 1) := by decide +kernel
theorem dL_law_2521 : decode cL_law 2521 = .ok (.ldc 148, 2) := by decide +kernel
theorem dL_law_2523 : decode cL_law 2523 = .ok (.iastore, 1) := by decide +kernel
theorem dL_law_2524 : decode cL_law 2524 = .ok (.dup, 1) := by decide +kernel
theorem dL_law_2525 : decode cL_law 2525 = .ok (.iconst 2, 1) := by decide +kernel
theorem dL_law_2526 : decode cL_law 2526 = .ok (.iconst 0, 1) := by decide +kernel
theorem dL_law_2527 : decode cL_law 2527 = .ok (.iastore, 1) := by decide +kernel
theorem dL_law_2528 : decode cL_law 2528 = .ok (.invokestatic 158, 3) := by decide +kernel
theorem dL_law_2531 : decode cL_law 2531 = .ok (.sipush (-1002), 3) := by decide +kernel
theorem dL_law_2534 : decode cL_law 2534 = .ok (.if_icmp .ne 379, 3) := by decide +kernel
theorem dL_law_2537 : decode cL_law 2537 = .ok (.aload_n 1, 1) := by decide +kernel
theorem dL_law_2538 : decode cL_law 2538 = .ok (.bipush 97, 2) := by decide +kernel
theorem dL_law_2540 : decode cL_law 2540 = .ok (.iconst 3, 1) := by decide +kernel
theorem dL_law_2541 : decode cL_law 2541 = .ok (.newarray .int, 2) := by decide +kernel
theorem dL_law_2543 : decode cL_law 2543 = .ok (.dup, 1) := by decide +kernel
theorem dL_law_2544 : decode cL_law 2544 = .ok (.iconst 0, 1) := by decide +kernel
theorem dL_law_2545 : decode cL_law 2545 = .ok (.iconst 5, 1) := by decide +kernel
theorem dL_law_2546 : decode cL_law 2546 = .ok (.iastore, 1) := by decide +kernel
theorem dL_law_2547 : decode cL_law 2547 = .ok (.dup, 1) := by decide +kernel
theorem dL_law_2548 : decode cL_law 2548 = .ok (.iconst 1, 1) := by decide +kernel
theorem dL_law_2549 : decode cL_law 2549 = .ok (.bipush 6, 2) := by decide +kernel
theorem dL_law_2551 : decode cL_law 2551 = .ok (.iastore, 1) := by decide +kernel
theorem dL_law_2552 : decode cL_law 2552 = .ok (.dup, 1) := by decide +kernel
theorem dL_law_2553 : decode cL_law 2553 = .ok (.iconst 2, 1) := by decide +kernel
theorem dL_law_2554 : decode cL_law 2554 = .ok (.iconst 3, 1) := by decide +kernel
theorem dL_law_2555 : decode cL_law 2555 = .ok (.iastore, 1) := by decide +kernel
theorem dL_law_2556 : decode cL_law 2556 = .ok (.invokestatic 158, 3) := by decide +kernel
theorem dL_law_2559 : decode cL_law 2559 = .ok (.sipush (-1002), 3) := by decide +kernel
theorem dL_law_2562 : decode cL_law 2562 = .ok (.if_icmp .ne 351, 3) := by decide +kernel
theorem dL_law_2565 : decode cL_law 2565 = .ok (.aload_n 1, 1) := by decide +kernel
theorem dL_law_2566 : decode cL_law 2566 = .ok (.bipush 119, 2) := by decide +kernel
theorem dL_law_2568 : decode cL_law 2568 = .ok (.iconst 2, 1) := by decide +kernel
theorem dL_law_2569 : decode cL_law 2569 = .ok (.newarray .int, 2) := by decide +kernel
theorem dL_law_2571 : decode cL_law 2571 = .ok (.dup, 1) := by decide +kernel
theorem dL_law_2572 : decode cL_law 2572 = .ok (.iconst 0, 1) := by decide +kernel
theorem dL_law_2573 : decode cL_law 2573 = .ok (.iload 15, 2) := by decide +kernel
theorem dL_law_2575 : decode cL_law 2575 = .ok (.iastore, 1) := by decide +kernel
theorem dL_law_2576 : decode cL_law 2576 = .ok (.dup, 1) := by decide +kernel
theorem dL_law_2577 : decode cL_law 2577 = .ok (.iconst 1, 1) := by decide +kernel
theorem dL_law_2578 : decode cL_law 2578 = .ok (.iconst 1, 1) := by decide +kernel
theorem dL_law_2579 : decode cL_law 2579 = .ok (.iastore, 1) := by decide +kernel
theorem dL_law_2580 : decode cL_law 2580 = .ok (.invokestatic 158, 3) := by decide +kernel
theorem dL_law_2583 : decode cL_law 2583 = .ok (.sipush (-1005), 3) := by decide +kernel
theorem dL_law_2586 : decode cL_law 2586 = .ok (.if_icmp .ne 327, 3) := by decide +kernel
theorem dL_law_2589 : decode cL_law 2589 = .ok (.aload_n 1, 1) := by decide +kernel
theorem dL_law_2590 : decode cL_law 2590 = .ok (.bipush 119, 2) := by decide +kernel
theorem dL_law_2592 : decode cL_law 2592 = .ok (.iconst 2, 1) := by decide +kernel
theorem dL_law_2593 : decode cL_law 2593 = .ok (.newarray .int, 2) := by decide +kernel
theorem dL_law_2595 : decode cL_law 2595 = .ok (.dup, 1) := by decide +kernel
theorem dL_law_2596 : decode cL_law 2596 = .ok (.iconst 0, 1) := by decide +kernel
theorem dL_law_2597 : decode cL_law 2597 = .ok (.iconst 0, 1) := by decide +kernel
theorem dL_law_2598 : decode cL_law 2598 = .ok (.iastore, 1) := by decide +kernel
theorem dL_law_2599 : decode cL_law 2599 = .ok (.dup, 1) := by decide +kernel
theorem dL_law_2600 : decode cL_law 2600 = .ok (.iconst 1, 1) := by decide +kernel
theorem dL_law_2601 : decode cL_law 2601 = .ok (.iconst 0, 1) := by decide +kernel
theorem dL_law_2602 : decode cL_law 2602 = .ok (.iastore, 1) := by decide +kernel
theorem dL_law_2603 : decode cL_law 2603 = .ok (.invokestatic 158, 3) := by decide +kernel
theorem dL_law_2606 : decode cL_law 2606 = .ok (.sipush (-1002), 3) := by decide +kernel
theorem dL_law_2609 : decode cL_law 2609 = .ok (.if_icmp .ne 304, 3) := by decide +kernel
theorem dL_law_2612 : decode cL_law 2612 = .ok (.aload_n 1, 1) := by decide +kernel
theorem dL_law_2613 : decode cL_law 2613 = .ok (.bipush 119, 2) := by decide +kernel
theorem dL_law_2615 : decode cL_law 2615 = .ok (.iconst 2, 1) := by decide +kernel
theorem dL_law_2616 : decode cL_law 2616 = .ok (.newarray .int, 2) := by decide +kernel
theorem dL_law_2618 : decode cL_law 2618 = .ok (.dup, 1) := by decide +kernel
theorem dL_law_2619 : decode cL_law 2619 = .ok (.iconst 0, 1) := by decide +kernel
theorem dL_law_2620 : decode cL_law 2620 = .ok (.iconst 0, 1) := by decide +kernel
theorem dL_law_2621 : decode cL_law 2621 = .ok (.iastore, 1) := by decide +kernel
theorem dL_law_2622 : decode cL_law 2622 = .ok (.dup, 1) := by decide +kernel
theorem dL_law_2623 : decode cL_law 2623 = .ok (.iconst 1, 1) := by decide +kernel
theorem dL_law_2624 : decode cL_law 2624 = .ok (.bipush 100, 2) := by decide +kernel
theorem dL_law_2626 : decode cL_law 2626 = .ok (.iastore, 1) := by decide +kernel
theorem dL_law_2627 : decode cL_law 2627 = .ok (.invokestatic 158, 3) := by decide +kernel
theorem dL_law_2630 : decode cL_law 2630 = .ok (.sipush (-1002), 3) := by decide +kernel
theorem dL_law_2633 : decode cL_law 2633 = .ok (.if_icmp .ne 280, 3) := by decide +kernel
theorem dL_law_2636 : decode cL_law 2636 = .ok (.aload_n 1, 1) := by decide +kernel
theorem dL_law_2637 : decode cL_law 2637 = .ok (.bipush 100, 2) := by decide +kernel
theorem dL_law_2639 : decode cL_law 2639 = .ok (.iconst 1, 1) := by decide +kernel
theorem dL_law_2640 : decode cL_law 2640 = .ok (.newarray .int, 2) := by decide +kernel
theorem dL_law_2642 : decode cL_law 2642 = .ok (.dup, 1) := by decide +kernel
theorem dL_law_2643 : decode cL_law 2643 = .ok (.iconst 0, 1) := by decide +kernel
theorem dL_law_2644 : decode cL_law 2644 = .ok (.iload 15, 2) := by decide +kernel
theorem dL_law_2646 : decode cL_law 2646 = .ok (.iastore, 1) := by decide +kernel
theorem dL_law_2647 : decode cL_law 2647 = .ok (.invokestatic 158, 3) := by decide +kernel
theorem dL_law_2650 : decode cL_law 2650 = .ok (.sipush (-1005), 3) := by decide +kernel
theorem dL_law_2653 : decode cL_law 2653 = .ok (.if_icmp .ne 260, 3) := by decide +kernel
theorem dL_law_2656 : decode cL_law 2656 = .ok (.aload_n 1, 1) := by decide +kernel
theorem dL_law_2657 : decode cL_law 2657 = .ok (.bipush 115, 2) := by decide +kernel
theorem dL_law_2659 : decode cL_law 2659 = .ok (.iconst 1, 1) := by decide +kernel
theorem dL_law_2660 : decode cL_law 2660 = .ok (.newarray .int, 2) := by decide +kernel
theorem dL_law_2662 : decode cL_law 2662 = .ok (.dup, 1) := by decide +kernel
theorem dL_law_2663 : decode cL_law 2663 = .ok (.iconst 0, 1) := by decide +kernel
theorem dL_law_2664 : decode cL_law 2664 = .ok (.iconst (-1), 1) := by decide +kernel
theorem dL_law_2665 : decode cL_law 2665 = .ok (.iastore, 1) := by decide +kernel
theorem dL_law_2666 : decode cL_law 2666 = .ok (.invokestatic 158, 3) := by decide +kernel
theorem dL_law_2669 : decode cL_law 2669 = .ok (.sipush (-1005), 3) := by decide +kernel
theorem dL_law_2672 : decode cL_law 2672 = .ok (.if_icmp .ne 241, 3) := by decide +kernel
theorem dL_law_2675 : decode cL_law 2675 = .ok (.aload_n 1, 1) := by decide +kernel
theorem dL_law_2676 : decode cL_law 2676 = .ok (.bipush 101, 2) := by decide +kernel
theorem dL_law_2678 : decode cL_law 2678 = .ok (.iconst 1, 1) := by decide +kernel
theorem dL_law_2679 : decode cL_law 2679 = .ok (.newarray .int, 2) := by decide +kernel
theorem dL_law_2681 : decode cL_law 2681 = .ok (.dup, 1) := by decide +kernel
theorem dL_law_2682 : decode cL_law 2682 = .ok (.iconst 0, 1) := by decide +kernel
theorem dL_law_2683 : decode cL_law 2683 = .ok (.iload 15, 2) := by decide +kernel
theorem dL_law_2685 : decode cL_law 2685 = .ok (.iastore, 1) := by decide +kernel
theorem dL_law_2686 : decode cL_law 2686 = .ok (.invokestatic 158, 3) := by decide +kernel
theorem dL_law_2689 : decode cL_law 2689 = .ok (.sipush (-1005), 3) := by decide +kernel
theorem dL_law_2692 : decode cL_law 2692 = .ok (.if_icmp .ne 221, 3) := by decide +kernel
theorem dL_law_2695 : decode cL_law 2695 = .ok (.aload_n 1, 1) := by decide +kernel
theorem dL_law_2696 : decode cL_law 2696 = .ok (.bipush 108, 2) := by decide +kernel
theorem dL_law_2698 : decode cL_law 2698 = .ok (.iconst 1, 1) := by decide +kernel
theorem dL_law_2699 : decode cL_law 2699 = .ok (.newarray .int, 2) := by decide +kernel
theorem dL_law_2701 : decode cL_law 2701 = .ok (.dup, 1) := by decide +kernel
theorem dL_law_2702 : decode cL_law 2702 = .ok (.iconst 0, 1) := by decide +kernel
theorem dL_law_2703 : decode cL_law 2703 = .ok (.iload 15, 2) := by decide +kernel
theorem dL_law_2705 : decode cL_law 2705 = .ok (.iastore, 1) := by decide +kernel
theorem dL_law_2706 : decode cL_law 2706 = .ok (.invokestatic 158, 3) := by decide +kernel
theorem dL_law_2709 : decode cL_law 2709 = .ok (.sipush (-1005), 3) := by decide +kernel
theorem dL_law_2712 : decode cL_law 2712 = .ok (.if_icmp .ne 201, 3) := by decide +kernel
theorem dL_law_2715 : decode cL_law 2715 = .ok (.aload_n 1, 1) := by decide +kernel
theorem dL_law_2716 : decode cL_law 2716 = .ok (.bipush 105, 2) := by decide +kernel
theorem dL_law_2718 : decode cL_law 2718 = .ok (.iconst 2, 1) := by decide +kernel
theorem dL_law_2719 : decode cL_law 2719 = .ok (.newarray .int, 2) := by decide +kernel
theorem dL_law_2721 : decode cL_law 2721 = .ok (.dup, 1) := by decide +kernel
theorem dL_law_2722 : decode cL_law 2722 = .ok (.iconst 0, 1) := by decide +kernel
theorem dL_law_2723 : decode cL_law 2723 = .ok (.iload 15, 2) := by decide +kernel
theorem dL_law_2725 : decode cL_law 2725 = .ok (.iastore, 1) := by decide +kernel
theorem dL_law_2726 : decode cL_law 2726 = .ok (.dup, 1) := by decide +kernel
theorem dL_law_2727 : decode cL_law 2727 = .ok (.iconst 1, 1) := by decide +kernel
theorem dL_law_2728 : decode cL_law 2728 = .ok (.iconst 0, 1) := by decide +kernel
theorem dL_law_2729 : decode cL_law 2729 = .ok (.iastore, 1) := by decide +kernel
theorem dL_law_2730 : decode cL_law 2730 = .ok (.invokestatic 158, 3) := by decide +kernel
theorem dL_law_2733 : decode cL_law 2733 = .ok (.sipush (-1005), 3) := by decide +kernel
theorem dL_law_2736 : decode cL_law 2736 = .ok (.if_icmp .ne 177, 3) := by decide +kernel
theorem dL_law_2739 : decode cL_law 2739 = .ok (.aload_n 1, 1) := by decide +kernel
theorem dL_law_2740 : decode cL_law 2740 = .ok (.bipush 114, 2) := by decide +kernel
theorem dL_law_2742 : decode cL_law 2742 = .ok (.iconst 1, 1) := by decide +kernel
theorem dL_law_2743 : decode cL_law 2743 = .ok (.newarray .int, 2) := by decide +kernel
theorem dL_law_2745 : decode cL_law 2745 = .ok (.dup, 1) := by decide +kernel
theorem dL_law_2746 : decode cL_law 2746 = .ok (.iconst 0, 1) := by decide +kernel
theorem dL_law_2747 : decode cL_law 2747 = .ok (.iload 15, 2) := by decide +kernel
theorem dL_law_2749 : decode cL_law 2749 = .ok (.iastore, 1) := by decide +kernel
theorem dL_law_2750 : decode cL_law 2750 = .ok (.invokestatic 158, 3) := by decide +kernel
theorem dL_law_2753 : decode cL_law 2753 = .ok (.sipush (-1005), 3) := by decide +kernel
theorem dL_law_2756 : decode cL_law 2756 = .ok (.if_icmp .ne 157, 3) := by decide +kernel
theorem dL_law_2759 : decode cL_law 2759 = .ok (.aload_n 1, 1) := by decide +kernel
theorem dL_law_2760 : decode cL_law 2760 = .ok (.bipush 112, 2) := by decide +kernel
theorem dL_law_2762 : decode cL_law 2762 = .ok (.iconst 2, 1) := by decide +kernel
theorem dL_law_2763 : decode cL_law 2763 = .ok (.newarray .int, 2) := by decide +kernel
theorem dL_law_2765 : decode cL_law 2765 = .ok (.dup, 1) := by decide +kernel
theorem dL_law_2766 : decode cL_law 2766 = .ok (.iconst 0, 1) := by decide +kernel
theorem dL_law_2767 : decode cL_law 2767 = .ok (.iload 15, 2) := by decide +kernel
theorem dL_law_2769 : decode cL_law 2769 = .ok (.iastore, 1) := by decide +kernel
theorem dL_law_2770 : decode cL_law 2770 = .ok (.dup, 1) := by decide +kernel
theorem dL_law_2771 : decode cL_law 2771 = .ok (.iconst 1, 1) := by decide +kernel
theorem dL_law_2772 : decode cL_law 2772 = .ok (.iconst 1, 1) := by decide +kernel
theorem dL_law_2773 : decode cL_law 2773 = .ok (.iastore, 1) := by decide +kernel
theorem dL_law_2774 : decode cL_law 2774 = .ok (.invokestatic 158, 3) := by decide +kernel
theorem dL_law_2777 : decode cL_law 2777 = .ok (.sipush (-1005), 3) := by decide +kernel
theorem dL_law_2780 : decode cL_law 2780 = .ok (.if_icmp .ne 133, 3) := by decide +kernel
theorem dL_law_2783 : decode cL_law 2783 = .ok (.aload_n 1, 1) := by decide +kernel
theorem dL_law_2784 : decode cL_law 2784 = .ok (.bipush 104, 2) := by decide +kernel
theorem dL_law_2786 : decode cL_law 2786 = .ok (.iconst 1, 1) := by decide +kernel
theorem dL_law_2787 : decode cL_law 2787 = .ok (.newarray .int, 2) := by decide +kernel
theorem dL_law_2789 : decode cL_law 2789 = .ok (.dup, 1) := by decide +kernel
theorem dL_law_2790 : decode cL_law 2790 = .ok (.iconst 0, 1) := by decide +kernel
theorem dL_law_2791 : decode cL_law 2791 = .ok (.iload 15, 2) := by decide +kernel
theorem dL_law_2793 : decode cL_law 2793 = .ok (.iastore, 1) := by decide +kernel
theorem dL_law_2794 : decode cL_law 2794 = .ok (.invokestatic 158, 3) := by decide +kernel
theorem dL_law_2797 : decode cL_law 2797 = .ok (.sipush (-1005), 3) := by decide +kernel
theorem dL_law_2800 : decode cL_law 2800 = .ok (.if_icmp .ne 113, 3) := by decide +kernel
theorem dL_law_2803 : decode cL_law 2803 = .ok (.aload_n 1, 1) := by decide +kernel
theorem dL_law_2804 : decode cL_law 2804 = .ok (.bipush 116, 2) := by decide +kernel
theorem dL_law_2806 : decode cL_law 2806 = .ok (.iconst 2, 1) := by decide +kernel
theorem dL_law_2807 : decode cL_law 2807 = .ok (.newarray .int, 2) := by decide +kernel
theorem dL_law_2809 : decode cL_law 2809 = .ok (.dup, 1) := by decide +kernel
theorem dL_law_2810 : decode cL_law 2810 = .ok (.iconst 0, 1) := by decide +kernel
theorem dL_law_2811 : decode cL_law 2811 = .ok (.iload 15, 2) := by decide +kernel
theorem dL_law_2813 : decode cL_law 2813 = .ok (.iastore, 1) := by decide +kernel
theorem dL_law_2814 : decode cL_law 2814 = .ok (.dup, 1) := by decide +kernel
theorem dL_law_2815 : decode cL_law 2815 = .ok (.iconst 1, 1) := by decide +kernel
theorem dL_law_2816 : decode cL_law 2816 = .ok (.iconst 0, 1) := by decide +kernel
theorem dL_law_2817 : decode cL_law 2817 = .ok (.iastore, 1) := by decide +kernel
theorem dL_law_2818 : decode cL_law 2818 = .ok (.invokestatic 158, 3) := by decide +kernel
theorem dL_law_2821 : decode cL_law 2821 = .ok (.sipush (-1005), 3) := by decide +kernel
theorem dL_law_2824 : decode cL_law 2824 = .ok (.if_icmp .ne 89, 3) := by decide +kernel
theorem dL_law_2827 : decode cL_law 2827 = .ok (.aload_n 1, 1) := by decide +kernel
theorem dL_law_2828 : decode cL_law 2828 = .ok (.bipush 103, 2) := by decide +kernel
theorem dL_law_2830 : decode cL_law 2830 = .ok (.iconst 2, 1) := by decide +kernel
theorem dL_law_2831 : decode cL_law 2831 = .ok (.newarray .int, 2) := by decide +kernel
theorem dL_law_2833 : decode cL_law 2833 = .ok (.dup, 1) := by decide +kernel
theorem dL_law_2834 : decode cL_law 2834 = .ok (.iconst 0, 1) := by decide +kernel
theorem dL_law_2835 : decode cL_law 2835 = .ok (.iconst 0, 1) := by decide +kernel
theorem dL_law_2836 : decode cL_law 2836 = .ok (.iastore, 1) := by decide +kernel
theorem dL_law_2837 : decode cL_law 2837 = .ok (.dup, 1) := by decide +kernel
theorem dL_law_2838 : decode cL_law 2838 = .ok (.iconst 1, 1) := by decide +kernel
theorem dL_law_2839 : decode cL_law 2839 = .ok (.ldc 148, 2) := by decide +kernel
theorem dL_law_2841 : decode cL_law 2841 = .ok (.iastore, 1) := by decide +kernel
theorem dL_law_2842 : decode cL_law 2842 = .ok (.invokestatic 158, 3) := by decide +kernel
theorem dL_law_2845 : decode cL_law 2845 = .ok (.sipush (-1002), 3) := by decide +kernel
theorem dL_law_2848 : decode cL_law 2848 = .ok (.if_icmp .ne 65, 3) := by decide +kernel
theorem dL_law_2851 : decode cL_law 2851 = .ok (.aload_n 1, 1) := by decide +kernel
theorem dL_law_2852 : decode cL_law 2852 = .ok (.bipush 99, 2) := by decide +kernel
theorem dL_law_2854 : decode cL_law 2854 = .ok (.iconst 1, 1) := by decide +kernel
theorem dL_law_2855 : decode cL_law 2855 = .ok (.newarray .int, 2) := by decide +kernel
theorem dL_law_2857 : decode cL_law 2857 = .ok (.dup, 1) := by decide +kernel
theorem dL_law_2858 : decode cL_law 2858 = .ok (.iconst 0, 1) := by decide +kernel
theorem dL_law_2859 : decode cL_law 2859 = .ok (.iload 15, 2) := by decide +kernel
theorem dL_law_2861 : decode cL_law 2861 = .ok (.iastore, 1) := by decide +kernel
theorem dL_law_2862 : decode cL_law 2862 = .ok (.invokestatic 158, 3) := by decide +kernel
theorem dL_law_2865 : decode cL_law 2865 = .ok (.sipush (-1005), 3) := by decide +kernel
theorem dL_law_2868 : decode cL_law 2868 = .ok (.if_icmp .ne 45, 3) := by decide +kernel
theorem dL_law_2871 : decode cL_law 2871 = .ok (.aload_n 1, 1) := by decide +kernel
theorem dL_law_2872 : decode cL_law 2872 = .ok (.bipush 99, 2) := by decide +kernel
theorem dL_law_2874 : decode cL_law 2874 = .ok (.iconst 1, 1) := by decide +kernel
theorem dL_law_2875 : decode cL_law 2875 = .ok (.newarray .int, 2) := by decide +kernel
theorem dL_law_2877 : decode cL_law 2877 = .ok (.dup, 1) := by decide +kernel
theorem dL_law_2878 : decode cL_law 2878 = .ok (.iconst 0, 1) := by decide +kernel
theorem dL_law_2879 : decode cL_law 2879 = .ok (.iconst 0, 1) := by decide +kernel
theorem dL_law_2880 : decode cL_law 2880 = .ok (.iastore, 1) := by decide +kernel
theorem dL_law_2881 : decode cL_law 2881 = .ok (.invokestatic 158, 3) := by decide +kernel
theorem dL_law_2884 : decode cL_law 2884 = .ok (.aload 5, 2) := by decide +kernel
theorem dL_law_2886 : decode cL_law 2886 = .ok (.iconst 0, 1) := by decide +kernel
theorem dL_law_2887 : decode cL_law 2887 = .ok (.iaload, 1) := by decide +kernel
theorem dL_law_2888 : decode cL_law 2888 = .ok (.ifCond .ne 9, 3) := by decide +kernel
theorem dL_law_2891 : decode cL_law 2891 = .ok (.sipush (-1004), 3) := by decide +kernel
theorem dL_law_2894 : decode cL_law 2894 = .ok (.goto 16, 3) := by decide +kernel
theorem dL_law_2897 : decode cL_law 2897 = .ok (.aload_n 1, 1) := by decide +kernel
theorem dL_law_2898 : decode cL_law 2898 = .ok (.bipush 99, 2) := by decide +kernel
theorem dL_law_2900 : decode cL_law 2900 = .ok (.iconst 1, 1) := by decide +kernel
theorem dL_law_2901 : decode cL_law 2901 = .ok (.newarray .int, 2) := by decide +kernel
theorem dL_law_2903 : decode cL_law 2903 = .ok (.dup, 1) := by decide +kernel
theorem dL_law_2904 : decode cL_law 2904 = .ok (.iconst 0, 1) := by decide +kernel
theorem dL_law_2905 : decode cL_law 2905 = .ok (.iconst 0, 1) := by decide +kernel
theorem dL_law_2906 : decode cL_law 2906 = .ok (.iastore, 1) := by decide +kernel
theorem dL_law_2907 : decode cL_law 2907 = .ok (.invokestatic 158, 3) := by decide +kernel
theorem dL_law_2910 : decode cL_law 2910 = .ok (.if_icmp .eq 5, 3) := by decide +kernel
theorem dL_law_2913 : decode cL_law 2913 = .ok (.iconst 0, 1) := by decide +kernel
theorem dL_law_2914 : decode cL_law 2914 = .ok (.ireturn, 1) := by decide +kernel
theorem dL_law_2915 : decode cL_law 2915 = .ok (.aload_n 1, 1) := by decide +kernel
theorem dL_law_2916 : decode cL_law 2916 = .ok (.bipush 114, 2) := by decide +kernel
theorem dL_law_2918 : decode cL_law 2918 = .ok (.iconst 4, 1) := by decide +kernel
theorem dL_law_2919 : decode cL_law 2919 = .ok (.newarray .int, 2) := by decide +kernel
theorem dL_law_2921 : decode cL_law 2921 = .ok (.dup, 1) := by decide +kernel
theorem dL_law_2922 : decode cL_law 2922 = .ok (.iconst 0, 1) := by decide +kernel
theorem dL_law_2923 : decode cL_law 2923 = .ok (.iconst 3, 1) := by decide +kernel
theorem dL_law_2924 : decode cL_law 2924 = .ok (.iastore, 1) := by decide +kernel
theorem dL_law_2925 : decode cL_law 2925 = .ok (.dup, 1) := by decide +kernel
theorem dL_law_2926 : decode cL_law 2926 = .ok (.iconst 1, 1) := by decide +kernel
theorem dL_law_2927 : decode cL_law 2927 = .ok (.iconst 0, 1) := by decide +kernel
theorem dL_law_2928 : decode cL_law 2928 = .ok (.iastore, 1) := by decide +kernel
theorem dL_law_2929 : decode cL_law 2929 = .ok (.dup, 1) := by decide +kernel
theorem dL_law_2930 : decode cL_law 2930 = .ok (.iconst 2, 1) := by decide +kernel
theorem dL_law_2931 : decode cL_law 2931 = .ok (.iconst 1, 1) := by decide +kernel
theorem dL_law_2932 : decode cL_law 2932 = .ok (.iastore, 1) := by decide +kernel
theorem dL_law_2933 : decode cL_law 2933 = .ok (.dup, 1) := by decide +kernel
theorem dL_law_2934 : decode cL_law 2934 = .ok (.iconst 3, 1) := by decide +kernel
theorem dL_law_2935 : decode cL_law 2935 = .ok (.bipush 20, 2) := by decide +kernel
theorem dL_law_2937 : decode cL_law 2937 = .ok (.iastore, 1) := by decide +kernel
theorem dL_law_2938 : decode cL_law 2938 = .ok (.invokestatic 162, 3) := by decide +kernel
theorem dL_law_2941 : decode cL_law 2941 = .ok (.sipush (-1002), 3) := by decide +kernel
theorem dL_law_2944 : decode cL_law 2944 = .ok (.if_icmp .ne 386, 3) := by decide +kernel
theorem dL_law_2947 : decode cL_law 2947 = .ok (.aload_n 1, 1) := by decide +kernel
theorem dL_law_2948 : decode cL_law 2948 = .ok (.bipush 114, 2) := by decide +kernel
theorem dL_law_2950 : decode cL_law 2950 = .ok (.iconst 4, 1) := by decide +kernel
theorem dL_law_2951 : decode cL_law 2951 = .ok (.newarray .int, 2) := by decide +kernel
theorem dL_law_2953 : decode cL_law 2953 = .ok (.dup, 1) := by decide +kernel
theorem dL_law_2954 : decode cL_law 2954 = .ok (.iconst 0, 1) := by decide +kernel
theorem dL_law_2955 : decode cL_law 2955 = .ok (.iconst 0, 1) := by decide +kernel
theorem dL_law_2956 : decode cL_law 2956 = .ok (.iastore, 1) := by decide +kernel
theorem dL_law_2957 : decode cL_law 2957 = .ok (.dup, 1) := by decide +kernel
theorem dL_law_2958 : decode cL_law 2958 = .ok (.iconst 1, 1) := by decide +kernel
theorem dL_law_2959 : decode cL_law 2959 = .ok (.bipush 7, 2) := by decide +kernel
theorem dL_law_2961 : decode cL_law 2961 = .ok (.iastore, 1) := by decide +kernel
theorem dL_law_2962 : decode cL_law 2962 = .ok (.dup, 1) := by decide +kernel
theorem dL_law_2963 : decode cL_law 2963 = .ok (.iconst 2, 1) := by decide +kernel
theorem dL_law_2964 : decode cL_law 2964 = .ok (.iconst 2, 1) := by decide +kernel
theorem dL_law_2965 : decode cL_law 2965 = .ok (.iastore, 1) := by decide +kernel
theorem dL_law_2966 : decode cL_law 2966 = .ok (.dup, 1) := by decide +kernel
theorem dL_law_2967 : decode cL_law 2967 = .ok (.iconst 3, 1) := by decide +kernel
theorem dL_law_2968 : decode cL_law 2968 = .ok (.bipush 20, 2) := by decide +kernel
theorem dL_law_2970 : decode cL_law 2970 = .ok (.iastore, 1) := by decide +kernel
theorem dL_law_2971 : decode cL_law 2971 = .ok (.invokestatic 162, 3) := by decide +kernel
theorem dL_law_2974 : decode cL_law 2974 = .ok (.sipush (-1002), 3) := by decide +kernel
theorem dL_law_2977 : decode cL_law 2977 = .ok (.if_icmp .ne 353, 3) := by decide +kernel
theorem dL_law_2980 : decode cL_law 2980 = .ok (.aload_n 1, 1) := by decide +kernel
theorem dL_law_2981 : decode cL_law 2981 = .ok (.bipush 114, 2) := by decide +kernel
theorem dL_law_2983 : decode cL_law 2983 = .ok (.iconst 4, 1) := by decide +kernel
theorem dL_law_2984 : decode cL_law 2984 = .ok (.newarray .int, 2) := by decide +kernel
theorem dL_law_2986 : decode cL_law 2986 = .ok (.dup, 1) := by decide +kernel
theorem dL_law_2987 : decode cL_law 2987 = .ok (.iconst 0, 1) := by decide +kernel
theorem dL_law_2988 : decode cL_law 2988 = .ok (.iconst 0, 1) := by decide +kernel
theorem dL_law_2989 : decode cL_law 2989 = .ok (.iastore, 1) := by decide +kernel
theorem dL_law_2990 : decode cL_law 2990 = .ok (.dup, 1) := by decide +kernel
theorem dL_law_2991 : decode cL_law 2991 = .ok (.iconst 1, 1) := by decide +kernel
theorem dL_law_2992 : decode cL_law 2992 = .ok (.iconst 0, 1) := by decide +kernel
theorem dL_law_2993 : decode cL_law 2993 = .ok (.iastore, 1) := by decide +kernel
theorem dL_law_2994 : decode cL_law 2994 = .ok (.dup, 1) := by decide +kernel
theorem dL_law_2995 : decode cL_law 2995 = .ok (.iconst 2, 1) := by decide +kernel
theorem dL_law_2996 : decode cL_law 2996 = .ok (.iconst 0, 1) := by decide +kernel
theorem dL_law_2997 : decode cL_law 2997 = .ok (.iastore, 1) := by decide +kernel
theorem dL_law_2998 : decode cL_law 2998 = .ok (.dup, 1) := by decide +kernel
theorem dL_law_2999 : decode cL_law 2999 = .ok (.iconst 3, 1) := by decide +kernel
theorem dL_law_3000 : decode cL_law 3000 = .ok (.bipush 20, 2) := by decide +kernel
theorem dL_law_3002 : decode cL_law 3002 = .ok (.iastore, 1) := by decide +kernel
theorem dL_law_3003 : decode cL_law 3003 = .ok (.invokestatic 162, 3) := by decide +kernel
theorem dL_law_3006 : decode cL_law 3006 = .ok (.sipush (-1002), 3) := by decide +kernel
theorem dL_law_3009 : decode cL_law 3009 = .ok (.if_icmp .ne 321, 3) := by decide +kernel
theorem dL_law_3012 : decode cL_law 3012 = .ok (.aload_n 1, 1) := by decide +kernel
theorem dL_law_3013 : decode cL_law 3013 = .ok (.bipush 114, 2) := by decide +kernel
theorem dL_law_3015 : decode cL_law 3015 = .ok (.iconst 4, 1) := by decide +kernel
theorem dL_law_3016 : decode cL_law 3016 = .ok (.newarray .int, 2) := by decide +kernel
theorem dL_law_3018 : decode cL_law 3018 = .ok (.dup, 1) := by decide +kernel
theorem dL_law_3019 : decode cL_law 3019 = .ok (.iconst 0, 1) := by decide +kernel
theorem dL_law_3020 : decode cL_law 3020 = .ok (.iconst 0, 1) := by decide +kernel
theorem dL_law_3021 : decode cL_law 3021 = .ok (.iastore, 1) := by decide +kernel
theorem dL_law_3022 : decode cL_law 3022 = .ok (.dup, 1) := by decide +kernel
theorem dL_law_3023 : decode cL_law 3023 = .ok (.iconst 1, 1) := by decide +kernel
theorem dL_law_3024 : decode cL_law 3024 = .ok (.iconst 0, 1) := by decide +kernel
theorem dL_law_3025 : decode cL_law 3025 = .ok (.iastore, 1) := by decide +kernel
theorem dL_law_3026 : decode cL_law 3026 = .ok (.dup, 1) := by decide +kernel
theorem dL_law_3027 : decode cL_law 3027 = .ok (.iconst 2, 1) := by decide +kernel
theorem dL_law_3028 : decode cL_law 3028 = .ok (.bipush 8, 2) := by decide +kernel
theorem dL_law_3030 : decode cL_law 3030 = .ok (.iastore, 1) := by decide +kernel
theorem dL_law_3031 : decode cL_law 3031 = .ok (.dup, 1) := by decide +kernel
theorem dL_law_3032 : decode cL_law 3032 = .ok (.iconst 3, 1) := by decide +kernel
theorem dL_law_3033 : decode cL_law 3033 = .ok (.iconst 4, 1) := by decide +kernel
theorem dL_law_3034 : decode cL_law 3034 = .ok (.iastore, 1) := by decide +kernel
theorem dL_law_3035 : decode cL_law 3035 = .ok (.invokestatic 162, 3) := by decide +kernel
theorem dL_law_3038 : decode cL_law 3038 = .ok (.sipush (-1002), 3) := by decide +kernel
theorem dL_law_3041 : decode cL_law 3041 = .ok (.if_icmp .ne 289, 3) := by decide +kernel
theorem dL_law_3044 : decode cL_law 3044 = .ok (.aload_n 1, 1) := by decide +kernel
theorem dL_law_3045 : decode cL_law 3045 = .ok (.bipush 114, 2) := by decide +kernel
theorem dL_law_3047 : decode cL_law 3047 = .ok (.iconst 4, 1) := by decide +kernel
theorem dL_law_3048 : decode cL_law 3048 = .ok (.newarray .int, 2) := by decide +kernel
theorem dL_law_3050 : decode cL_law 3050 = .ok (.dup, 1) := by decide +kernel
theorem dL_law_3051 : decode cL_law 3051 = .ok (.iconst 0, 1) := by decide +kernel
theorem dL_law_3052 : decode cL_law 3052 = .ok (.iconst 0, 1) := by decide +kernel
theorem dL_law_3053 : decode cL_law 3053 = .ok (.iastore, 1) := by decide +kernel
theorem dL_law_3054 : decode cL_law 3054 = .ok (.dup, 1) := by decide +kernel
theorem dL_law_3055 : decode cL_law 3055 = .ok (.iconst 1, 1) := by decide +kernel
theorem dL_law_3056 : decode cL_law 3056 = .ok (.iconst 0, 1) := by decide +kernel
theorem dL_law_3057 : decode cL_law 3057 = .ok (.iastore, 1) := by decide +kernel
theorem dL_law_3058 : decode cL_law 3058 = .ok (.dup, 1) := by decide +kernel
theorem dL_law_3059 : decode cL_law 3059 = .ok (.iconst 2, 1) := by decide +kernel
theorem dL_law_3060 : decode cL_law 3060 = .ok (.bipush 8, 2) := by decide +kernel
theorem dL_law_3062 : decode cL_law 3062 = .ok (.iastore, 1) := by decide +kernel
theorem dL_law_3063 : decode cL_law 3063 = .ok (.dup, 1) := by decide +kernel
theorem dL_law_3064 : decode cL_law 3064 = .ok (.iconst 3, 1) := by decide +kernel
theorem dL_law_3065 : decode cL_law 3065 = .ok (.bipush 41, 2) := by decide +kernel
theorem dL_law_3067 : decode cL_law 3067 = .ok (.iastore, 1) := by decide +kernel
theorem dL_law_3068 : decode cL_law 3068 = .ok (.invokestatic 162, 3) := by decide +kernel
theorem dL_law_3071 : decode cL_law 3071 = .ok (.sipush (-1002), 3) := by decide +kernel
theorem dL_law_3074 : decode cL_law 3074 = .ok (.if_icmp .ne 256, 3) := by decide +kernel
theorem dL_law_3077 : decode cL_law 3077 = .ok (.aload_n 1, 1) := by decide +kernel
theorem dL_law_3078 : decode cL_law 3078 = .ok (.bipush 81, 2) := by decide +kernel
theorem dL_law_3080 : decode cL_law 3080 = .ok (.iconst 2, 1) := by decide +kernel
theorem dL_law_3081 : decode cL_law 3081 = .ok (.newarray .int, 2) := by decide +kernel
theorem dL_law_3083 : decode cL_law 3083 = .ok (.dup, 1) := by decide +kernel
theorem dL_law_3084 : decode cL_law 3084 = .ok (.iconst 0, 1) := by decide +kernel
theorem dL_law_3085 : decode cL_law 3085 = .ok (.ldc 148, 2) := by decide +kernel
theorem dL_law_3087 : decode cL_law 3087 = .ok (.iastore, 1) := by decide +kernel
theorem dL_law_3088 : decode cL_law 3088 = .ok (.dup, 1) := by decide +kernel
theorem dL_law_3089 : decode cL_law 3089 = .ok (.iconst 1, 1) := by decide +kernel
theorem dL_law_3090 : decode cL_law 3090 = .ok (.iconst 0, 1) := by decide +kernel
theorem dL_law_3091 : decode cL_law 3091 = .ok (.iastore, 1) := by decide +kernel
theorem dL_law_3092 : decode cL_law 3092 = .ok (.invokestatic 162, 3) := by decide +kernel
theorem dL_law_3095 : decode cL_law 3095 = .ok (.sipush (-1002), 3) := by decide +kernel
theorem dL_law_3098 : decode cL_law 3098 = .ok (.if_icmp .ne 232, 3) := by decide +kernel
theorem dL_law_3101 : decode cL_law 3101 = .ok (.aload_n 1, 1) := by decide +kernel
theorem dL_law_3102 : decode cL_law 3102 = .ok (.bipush 113, 2) := by decide +kernel
theorem dL_law_3104 : decode cL_law 3104 = .ok (.iconst 2, 1) := by decide +kernel
theorem dL_law_3105 : decode cL_law 3105 = .ok (.newarray .int, 2) := by decide +kernel
theorem dL_law_3107 : decode cL_law 3107 = .ok (.dup, 1) := by decide +kernel
theorem dL_law_3108 : decode cL_law 3108 = .ok (.iconst 0, 1) := by decide +kernel
theorem dL_law_3109 : decode cL_law 3109 = .ok (.iconst 0, 1) := by decide +kernel
theorem dL_law_3110 : decode cL_law 3110 = .ok (.iastore, 1) := by decide +kernel
theorem dL_law_3111 : decode cL_law 3111 = .ok (.dup, 1) := by decide +kernel
theorem dL_law_3112 : decode cL_law 3112 = .ok (.iconst 1, 1) := by decide +kernel
theorem dL_law_3113 : decode cL_law 3113 = .ok (.bipush 8, 2) := by decide +kernel
theorem dL_law_3115 : decode cL_law 3115 = .ok (.iastore, 1) := by decide +kernel
theorem dL_law_3116 : decode cL_law 3116 = .ok (.invokestatic 162, 3) := by decide +kernel
theorem dL_law_3119 : decode cL_law 3119 = .ok (.sipush (-1002), 3) := by decide +kernel
theorem dL_law_3122 : decode cL_law 3122 = .ok (.if_icmp .ne 208, 3) := by decide +kernel
theorem dL_law_3125 : decode cL_law 3125 = .ok (.aload_n 1, 1) := by decide +kernel
theorem dL_law_3126 : decode cL_law 3126 = .ok (.bipush 67, 2) := by decide +kernel
theorem dL_law_3128 : decode cL_law 3128 = .ok (.iconst 1, 1) := by decide +kernel
theorem dL_law_3129 : decode cL_law 3129 = .ok (.newarray .int, 2) := by decide +kernel
theorem dL_law_3131 : decode cL_law 3131 = .ok (.dup, 1) := by decide +kernel
theorem dL_law_3132 : decode cL_law 3132 = .ok (.iconst 0, 1) := by decide +kernel
theorem dL_law_3133 : decode cL_law 3133 = .ok (.iconst (-1), 1) := by decide +kernel
theorem dL_law_3134 : decode cL_law 3134 = .ok (.iastore, 1) := by decide +kernel
theorem dL_law_3135 : decode cL_law 3135 = .ok (.invokestatic 162, 3) := by decide +kernel
theorem dL_law_3138 : decode cL_law 3138 = .ok (.sipush (-1002), 3) := by decide +kernel
theorem dL_law_3141 : decode cL_law 3141 = .ok (.if_icmp .ne 189, 3) := by decide +kernel
theorem dL_law_3144 : decode cL_law 3144 = .ok (.aload_n 1, 1) := by decide +kernel
theorem dL_law_3145 : decode cL_law 3145 = .ok (.bipush 83, 2) := by decide +kernel
theorem dL_law_3147 : decode cL_law 3147 = .ok (.iconst 1, 1) := by decide +kernel
theorem dL_law_3148 : decode cL_law 3148 = .ok (.newarray .int, 2) := by decide +kernel
theorem dL_law_3150 : decode cL_law 3150 = .ok (.dup, 1) := by decide +kernel
theorem dL_law_3151 : decode cL_law 3151 = .ok (.iconst 0, 1) := by decide +kernel
theorem dL_law_3152 : decode cL_law 3152 = .ok (.bipush 100, 2) := by decide +kernel
theorem dL_law_3154 : decode cL_law 3154 = .ok (.iastore, 1) := by decide +kernel
theorem dL_law_3155 : decode cL_law 3155 = .ok (.invokestatic 162, 3) := by decide +kernel
theorem dL_law_3158 : decode cL_law 3158 = .ok (.sipush (-1002), 3) := by decide +kernel
theorem dL_law_3161 : decode cL_law 3161 = .ok (.if_icmp .ne 169, 3) := by decide +kernel
theorem dL_law_3164 : decode cL_law 3164 = .ok (.aload_n 1, 1) := by decide +kernel
theorem dL_law_3165 : decode cL_law 3165 = .ok (.bipush 84, 2) := by decide +kernel
theorem dL_law_3167 : decode cL_law 3167 = .ok (.iconst 2, 1) := by decide +kernel
theorem dL_law_3168 : decode cL_law 3168 = .ok (.newarray .int, 2) := by decide +kernel
theorem dL_law_3170 : decode cL_law 3170 = .ok (.dup, 1) := by decide +kernel
theorem dL_law_3171 : decode cL_law 3171 = .ok (.iconst 0, 1) := by decide +kernel
theorem dL_law_3172 : decode cL_law 3172 = .ok (.iconst 0, 1) := by decide +kernel
theorem dL_law_3173 : decode cL_law 3173 = .ok (.iastore, 1) := by decide +kernel
theorem dL_law_3174 : decode cL_law 3174 = .ok (.dup, 1) := by decide +kernel
theorem dL_law_3175 : decode cL_law 3175 = .ok (.iconst 1, 1) := by decide +kernel
theorem dL_law_3176 : decode cL_law 3176 = .ok (.iconst 0, 1) := by decide +kernel
theorem dL_law_3177 : decode cL_law 3177 = .ok (.iastore, 1) := by decide +kernel
theorem dL_law_3178 : decode cL_law 3178 = .ok (.invokestatic 162, 3) := by decide +kernel
theorem dL_law_3181 : decode cL_law 3181 = .ok (.sipush (-1002), 3) := by decide +kernel
theorem dL_law_3184 : decode cL_law 3184 = .ok (.if_icmp .ne 146, 3) := by decide +kernel
theorem dL_law_3187 : decode cL_law 3187 = .ok (.aload_n 1, 1) := by decide +kernel
theorem dL_law_3188 : decode cL_law 3188 = .ok (.bipush 84, 2) := by decide +kernel
theorem dL_law_3190 : decode cL_law 3190 = .ok (.iconst 2, 1) := by decide +kernel
theorem dL_law_3191 : decode cL_law 3191 = .ok (.newarray .int, 2) := by decide +kernel
theorem dL_law_3193 : decode cL_law 3193 = .ok (.dup, 1) := by decide +kernel
theorem dL_law_3194 : decode cL_law 3194 = .ok (.iconst 0, 1) := by decide +kernel
theorem dL_law_3195 : decode cL_law 3195 = .ok (.iconst 1, 1) := by decide +kernel
theorem dL_law_3196 : decode cL_law 3196 = .ok (.iastore, 1) := by decide +kernel
theorem dL_law_3197 : decode cL_law 3197 = .ok (.dup, 1) := by decide +kernel
theorem dL_law_3198 : decode cL_law 3198 = .ok (.iconst 1, 1) := by decide +kernel
theorem dL_law_3199 : decode cL_law 3199 = .ok (.bipush 100, 2) := by decide +kernel
theorem dL_law_3201 : decode cL_law 3201 = .ok (.iastore, 1) := by decide +kernel
theorem dL_law_3202 : decode cL_law 3202 = .ok (.invokestatic 162, 3) := by decide +kernel
theorem dL_law_3205 : decode cL_law 3205 = .ok (.sipush (-1002), 3) := by decide +kernel
theorem dL_law_3208 : decode cL_law 3208 = .ok (.if_icmp .ne 122, 3) := by decide +kernel
theorem dL_law_3211 : decode cL_law 3211 = .ok (.aload_n 1, 1) := by decide +kernel
theorem dL_law_3212 : decode cL_law 3212 = .ok (.bipush 86, 2) := by decide +kernel
theorem dL_law_3214 : decode cL_law 3214 = .ok (.iconst 2, 1) := by decide +kernel
theorem dL_law_3215 : decode cL_law 3215 = .ok (.newarray .int, 2) := by decide +kernel
theorem dL_law_3217 : decode cL_law 3217 = .ok (.dup, 1) := by decide +kernel
theorem dL_law_3218 : decode cL_law 3218 = .ok (.iconst 0, 1) := by decide +kernel
theorem dL_law_3219 : decode cL_law 3219 = .ok (.iconst 0, 1) := by decide +kernel
theorem dL_law_3220 : decode cL_law 3220 = .ok (.iastore, 1) := by decide +kernel
theorem dL_law_3221 : decode cL_law 3221 = .ok (.dup, 1) := by decide +kernel
theorem dL_law_3222 : decode cL_law 3222 = .ok (.iconst 1, 1) := by decide +kernel
theorem dL_law_3223 : decode cL_law 3223 = .ok (.iconst 1, 1) := by decide +kernel
theorem dL_law_3224 : decode cL_law 3224 = .ok (.iastore, 1) := by decide +kernel
theorem dL_law_3225 : decode cL_law 3225 = .ok (.invokestatic 162, 3) := by decide +kernel
theorem dL_law_3228 : decode cL_law 3228 = .ok (.sipush (-1002), 3) := by decide +kernel
theorem dL_law_3231 : decode cL_law 3231 = .ok (.if_icmp .ne 99, 3) := by decide +kernel
theorem dL_law_3234 : decode cL_law 3234 = .ok (.aload_n 1, 1) := by decide +kernel
theorem dL_law_3235 : decode cL_law 3235 = .ok (.bipush 86, 2) := by decide +kernel
theorem dL_law_3237 : decode cL_law 3237 = .ok (.iconst 2, 1) := by decide +kernel
theorem dL_law_3238 : decode cL_law 3238 = .ok (.newarray .int, 2) := by decide +kernel
theorem dL_law_3240 : decode cL_law 3240 = .ok (.dup, 1) := by decide +kernel
theorem dL_law_3241 : decode cL_law 3241 = .ok (.iconst 0, 1) := by decide +kernel
theorem dL_law_3242 : decode cL_law 3242 = .ok (.iconst 1, 1) := by decide +kernel
theorem dL_law_3243 : decode cL_law 3243 = .ok (.iastore, 1) := by decide +kernel
theorem dL_law_3244 : decode cL_law 3244 = .ok (.dup, 1) := by decide +kernel
theorem dL_law_3245 : decode cL_law 3245 = .ok (.iconst 1, 1) := by decide +kernel
theorem dL_law_3246 : decode cL_law 3246 = .ok (.sipush 1002, 3) := by decide +kernel
theorem dL_law_3249 : decode cL_law 3249 = .ok (.iastore, 1) := by decide +kernel
theorem dL_law_3250 : decode cL_law 3250 = .ok (.invokestatic 162, 3) := by decide +kernel
theorem dL_law_3253 : decode cL_law 3253 = .ok (.sipush (-1002), 3) := by decide +kernel
theorem dL_law_3256 : decode cL_law 3256 = .ok (.if_icmp .ne 74, 3) := by decide +kernel
theorem dL_law_3259 : decode cL_law 3259 = .ok (.aload_n 1, 1) := by decide +kernel
theorem dL_law_3260 : decode cL_law 3260 = .ok (.bipush 65, 2) := by decide +kernel
theorem dL_law_3262 : decode cL_law 3262 = .ok (.iconst 2, 1) := by decide +kernel
theorem dL_law_3263 : decode cL_law 3263 = .ok (.newarray .int, 2) := by decide +kernel
theorem dL_law_3265 : decode cL_law 3265 = .ok (.dup, 1) := by decide +kernel
theorem dL_law_3266 : decode cL_law 3266 = .ok (.iconst 0, 1) := by decide +kernel
theorem dL_law_3267 : decode cL_law 3267 = .ok (.ldc 148, 2) := by decide +kernel
theorem dL_law_3269 : decode cL_law 3269 = .ok (.iastore, 1) := by decide +kernel
theorem dL_law_3270 : decode cL_law 3270 = .ok (.dup, 1) := by decide +kernel
theorem dL_law_3271 : decode cL_law 3271 = .ok (.iconst 1, 1) := by decide +kernel
theorem dL_law_3272 : decode cL_law 3272 = .ok (.iconst 0, 1) := by decide +kernel
theorem dL_law_3273 : decode cL_law 3273 = .ok (.iastore, 1) := by decide +kernel
theorem dL_law_3274 : decode cL_law 3274 = .ok (.invokestatic 162, 3) := by decide +kernel
theorem dL_law_3277 : decode cL_law 3277 = .ok (.sipush (-1002), 3) := by decide +kernel
theorem dL_law_3280 : decode cL_law 3280 = .ok (.if_icmp .ne 50, 3) := by decide +kernel
theorem dL_law_3283 : decode cL_law 3283 = .ok (.aload_n 1, 1) := by decide +kernel
theorem dL_law_3284 : decode cL_law 3284 = .ok (.bipush 72, 2) := by decide +kernel
theorem dL_law_3286 : decode cL_law 3286 = .ok (.iconst 2, 1) := by decide +kernel
theorem dL_law_3287 : decode cL_law 3287 = .ok (.newarray .int, 2) := by decide +kernel
theorem dL_law_3289 : decode cL_law 3289 = .ok (.dup, 1) := by decide +kernel
theorem dL_law_3290 : decode cL_law 3290 = .ok (.iconst 0, 1) := by decide +kernel
theorem dL_law_3291 : decode cL_law 3291 = .ok (.iconst 0, 1) := by decide +kernel
theorem dL_law_3292 : decode cL_law 3292 = .ok (.iastore, 1) := by decide +kernel
theorem dL_law_3293 : decode cL_law 3293 = .ok (.dup, 1) := by decide +kernel
theorem dL_law_3294 : decode cL_law 3294 = .ok (.iconst 1, 1) := by decide +kernel
theorem dL_law_3295 : decode cL_law 3295 = .ok (.iconst 0, 1) := by decide +kernel
theorem dL_law_3296 : decode cL_law 3296 = .ok (.iastore, 1) := by decide +kernel
theorem dL_law_3297 : decode cL_law 3297 = .ok (.invokestatic 162, 3) := by decide +kernel
theorem dL_law_3300 : decode cL_law 3300 = .ok (.sipush (-1002), 3) := by decide +kernel
theorem dL_law_3303 : decode cL_law 3303 = .ok (.if_icmp .ne 27, 3) := by decide +kernel
theorem dL_law_3306 : decode cL_law 3306 = .ok (.aload_n 1, 1) := by decide +kernel
theorem dL_law_3307 : decode cL_law 3307 = .ok (.bipush 72, 2) := by decide +kernel
theorem dL_law_3309 : decode cL_law 3309 = .ok (.iconst 2, 1) := by decide +kernel
theorem dL_law_3310 : decode cL_law 3310 = .ok (.newarray .int, 2) := by decide +kernel
theorem dL_law_3312 : decode cL_law 3312 = .ok (.dup, 1) := by decide +kernel
theorem dL_law_3313 : decode cL_law 3313 = .ok (.iconst 0, 1) := by decide +kernel
theorem dL_law_3314 : decode cL_law 3314 = .ok (.ldc 148, 2) := by decide +kernel
theorem dL_law_3316 : decode cL_law 3316 = .ok (.iastore, 1) := by decide +kernel
theorem dL_law_3317 : decode cL_law 3317 = .ok (.dup, 1) := by decide +kernel
theorem dL_law_3318 : decode cL_law 3318 = .ok (.iconst 1, 1) := by decide +kernel
theorem dL_law_3319 : decode cL_law 3319 = .ok (.iconst 1, 1) := by decide +kernel
theorem dL_law_3320 : decode cL_law 3320 = .ok (.iastore, 1) := by decide +kernel
theorem dL_law_3321 : decode cL_law 3321 = .ok (.invokestatic 162, 3) := by decide +kernel
theorem dL_law_3324 : decode cL_law 3324 = .ok (.sipush (-1002), 3) := by decide +kernel
theorem dL_law_3327 : decode cL_law 3327 = .ok (.if_icmp .eq 5, 3) := by decide +kernel
theorem dL_law_3330 : decode cL_law 3330 = .ok (.iconst 0, 1) := by decide +kernel
theorem dL_law_3331 : decode cL_law 3331 = .ok (.ireturn, 1) := by decide +kernel
theorem dL_law_3332 : decode cL_law 3332 = .ok (.iconst 0, 1) := by decide +kernel
theorem dL_law_3333 : decode cL_law 3333 = .ok (.istore 16, 2) := by decide +kernel
theorem dL_law_3335 : decode cL_law 3335 = .ok (.iload 16, 2) := by decide +kernel
theorem dL_law_3337 : decode cL_law 3337 = .ok (.iload_n 2, 1) := by decide +kernel
theorem dL_law_3338 : decode cL_law 3338 = .ok (.if_icmp .ge 48, 3) := by decide +kernel
theorem dL_law_3341 : decode cL_law 3341 = .ok (.aload_n 1, 1) := by decide +kernel
theorem dL_law_3342 : decode cL_law 3342 = .ok (.bipush 100, 2) := by decide +kernel
theorem dL_law_3344 : decode cL_law 3344 = .ok (.iconst 1, 1) := by decide +kernel
theorem dL_law_3345 : decode cL_law 3345 = .ok (.newarray .int, 2) := by decide +kernel
theorem dL_law_3347 : decode cL_law 3347 = .ok (.dup, 1) := by decide +kernel
theorem dL_law_3348 : decode cL_law 3348 = .ok (.iconst 0, 1) := by decide +kernel
theorem dL_law_3349 : decode cL_law 3349 = .ok (.iload 16, 2) := by decide +kernel
theorem dL_law_3351 : decode cL_law 3351 = .ok (.iastore, 1) := by decide +kernel
theorem dL_law_3352 : decode cL_law 3352 = .ok (.invokestatic 158, 3) := by decide +kernel
theorem dL_law_3355 : decode cL_law 3355 = .ok (.ifCond .lt 23, 3) := by decide +kernel
theorem dL_law_3358 : decode cL_law 3358 = .ok (.aload_n 1, 1) := by decide +kernel
theorem dL_law_3359 : decode cL_law 3359 = .ok (.bipush 100, 2) := by decide +kernel
theorem dL_law_3361 : decode cL_law 3361 = .ok (.iconst 1, 1) := by decide +kernel
theorem dL_law_3362 : decode cL_law 3362 = .ok (.newarray .int, 2) := by decide +kernel
theorem dL_law_3364 : decode cL_law 3364 = .ok (.dup, 1) := by decide +kernel
theorem dL_law_3365 : decode cL_law 3365 = .ok (.iconst 0, 1) := by decide +kernel
theorem dL_law_3366 : decode cL_law 3366 = .ok (.iload 16, 2) := by decide +kernel
theorem dL_law_3368 : decode cL_law 3368 = .ok (.iastore, 1) := by decide +kernel
theorem dL_law_3369 : decode cL_law 3369 = .ok (.invokestatic 158, 3) := by decide +kernel
theorem dL_law_3372 : decode cL_law 3372 = .ok (.sipush (-1005), 3) := by decide +kernel
theorem dL_law_3375 : decode cL_law 3375 = .ok (.if_icmp .eq 5, 3) := by decide +kernel
theorem dL_law_3378 : decode cL_law 3378 = .ok (.iconst 0, 1) := by decide +kernel
theorem dL_law_3379 : decode cL_law 3379 = .ok (.ireturn, 1) := by decide +kernel
theorem dL_law_3380 : decode cL_law 3380 = .ok (.iinc 16 1, 3) := by decide +kernel
theorem dL_law_3383 : decode cL_law 3383 = .ok (.goto (-48), 3) := by decide +kernel
theorem dL_law_3386 : decode cL_law 3386 = .ok (.aload_n 1, 1) := by decide +kernel
theorem dL_law_3387 : decode cL_law 3387 = .ok (.invokevirtual 193, 3) := by decide +kernel
theorem dL_law_3390 : decode cL_law 3390 = .ok (.ifCond .ne 14, 3) := by decide +kernel
theorem dL_law_3393 : decode cL_law 3393 = .ok (.aload_n 1, 1) := by decide +kernel
theorem dL_law_3394 : decode cL_law 3394 = .ok (.invokevirtual 213, 3) := by decide +kernel
theorem dL_law_3397 : decode cL_law 3397 = .ok (.ifCond .ne 7, 3) := by decide +kernel
theorem dL_law_3400 : decode cL_law 3400 = .ok (.iconst 1, 1) := by decide +kernel
theorem dL_law_3401 : decode cL_law 3401 = .ok (.goto 4, 3) := by decide +kernel
theorem dL_law_3404 : decode cL_law 3404 = .ok (.iconst 0, 1) := by decide +kernel
theorem dL_law_3405 : decode cL_law 3405 = .ok (.ireturn, 1) := by decide +kernel
