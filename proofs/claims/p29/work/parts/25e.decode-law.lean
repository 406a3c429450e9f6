theorem dL_law_1807 : decode cL_law 1807 = .ok (.iconst 0, 1) := by decide +kernel
theorem dL_law_1808 : decode cL_law 1808 = .ok (.istore 18, 2) := by decide +kernel
theorem dL_law_1810 : decode cL_law 1810 = .ok (.aload 5, 2) := by decide +kernel
theorem dL_law_1812 : decode cL_law 1812 = .ok (.aload 11, 2) := by decide +kernel
theorem dL_law_1814 : decode cL_law 1814 = .ok (.iconst 1, 1) := by decide +kernel
theorem dL_law_1815 : decode cL_law 1815 = .ok (.iaload, 1) := by decide +kernel
theorem dL_law_1816 : decode cL_law 1816 = .ok (.iload 33, 2) := by decide +kernel
theorem dL_law_1818 : decode cL_law 1818 = .ok (.ifCond .ne 7, 3) := by decide +kernel
theorem dL_law_1821 : decode cL_law 1821 = .ok (.iconst 1, 1) := by decide +kernel
theorem dL_law_1822 : decode cL_law 1822 = .ok (.goto 4, 3) := by decide +kernel
theorem dL_law_1825 : decode cL_law 1825 = .ok (.iconst 0, 1) := by decide +kernel
theorem dL_law_1826 : decode cL_law 1826 = .ok (.iload 33, 2) := by decide +kernel
theorem dL_law_1828 : decode cL_law 1828 = .ok (.iconst 3, 1) := by decide +kernel
theorem dL_law_1829 : decode cL_law 1829 = .ok (.ishl, 1) := by decide +kernel
theorem dL_law_1830 : decode cL_law 1830 = .ok (.ior, 1) := by decide +kernel
theorem dL_law_1831 : decode cL_law 1831 = .ok (.iload 15, 2) := by decide +kernel
theorem dL_law_1833 : decode cL_law 1833 = .ok (.bipush 6, 2) := by decide +kernel
theorem dL_law_1835 : decode cL_law 1835 = .ok (.ishl, 1) := by decide +kernel
theorem dL_law_1836 : decode cL_law 1836 = .ok (.ior, 1) := by decide +kernel
theorem dL_law_1837 : decode cL_law 1837 = .ok (.iload 17, 2) := by decide +kernel
theorem dL_law_1839 : decode cL_law 1839 = .ok (.bipush 10, 2) := by decide +kernel
theorem dL_law_1841 : decode cL_law 1841 = .ok (.ishl, 1) := by decide +kernel
theorem dL_law_1842 : decode cL_law 1842 = .ok (.ior, 1) := by decide +kernel
theorem dL_law_1843 : decode cL_law 1843 = .ok (.aload_n 3, 1) := by decide +kernel
theorem dL_law_1844 : decode cL_law 1844 = .ok (.iload 15, 2) := by decide +kernel
theorem dL_law_1846 : decode cL_law 1846 = .ok (.iaload, 1) := by decide +kernel
theorem dL_law_1847 : decode cL_law 1847 = .ok (.iconst 1, 1) := by decide +kernel
theorem dL_law_1848 : decode cL_law 1848 = .ok (.iadd, 1) := by decide +kernel
theorem dL_law_1849 : decode cL_law 1849 = .ok (.bipush 13, 2) := by decide +kernel
theorem dL_law_1851 : decode cL_law 1851 = .ok (.ishl, 1) := by decide +kernel
theorem dL_law_1852 : decode cL_law 1852 = .ok (.ior, 1) := by decide +kernel
theorem dL_law_1853 : decode cL_law 1853 = .ok (.iload 32, 2) := by decide +kernel
theorem dL_law_1855 : decode cL_law 1855 = .ok (.bipush 16, 2) := by decide +kernel
theorem dL_law_1857 : decode cL_law 1857 = .ok (.ishl, 1) := by decide +kernel
theorem dL_law_1858 : decode cL_law 1858 = .ok (.ior, 1) := by decide +kernel
theorem dL_law_1859 : decode cL_law 1859 = .ok (.iastore, 1) := by decide +kernel
theorem dL_law_1860 : decode cL_law 1860 = .ok (.aload 6, 2) := by decide +kernel
theorem dL_law_1862 : decode cL_law 1862 = .ok (.aload 11, 2) := by decide +kernel
theorem dL_law_1864 : decode cL_law 1864 = .ok (.iconst 1, 1) := by decide +kernel
theorem dL_law_1865 : decode cL_law 1865 = .ok (.dup2, 1) := by decide +kernel
theorem dL_law_1866 : decode cL_law 1866 = .ok (.iaload, 1) := by decide +kernel
theorem dL_law_1867 : decode cL_law 1867 = .ok (.dup_x2, 1) := by decide +kernel
theorem dL_law_1868 : decode cL_law 1868 = .ok (.iconst 1, 1) := by decide +kernel
theorem dL_law_1869 : decode cL_law 1869 = .ok (.iadd, 1) := by decide +kernel
theorem dL_law_1870 : decode cL_law 1870 = .ok (.iastore, 1) := by decide +kernel
theorem dL_law_1871 : decode cL_law 1871 = .ok (.iconst (-1), 1) := by decide +kernel
theorem dL_law_1872 : decode cL_law 1872 = .ok (.iastore, 1) := by decide +kernel
theorem dL_law_1873 : decode cL_law 1873 = .ok (.goto 1129, 3) := by decide +kernel
theorem dL_law_1876 : decode cL_law 1876 = .ok (.aload 11, 2) := by decide +kernel
theorem dL_law_1878 : decode cL_law 1878 = .ok (.iconst 1, 1) := by decide +kernel
theorem dL_law_1879 : decode cL_law 1879 = .ok (.iaload, 1) := by decide +kernel
theorem dL_law_1880 : decode cL_law 1880 = .ok (.ifCond .ne 6, 3) := by decide +kernel
theorem dL_law_1883 : decode cL_law 1883 = .ok (.goto 1119, 3) := by decide +kernel
theorem dL_law_1886 : decode cL_law 1886 = .ok (.iload 14, 2) := by decide +kernel
theorem dL_law_1888 : decode cL_law 1888 = .ok (.aload 11, 2) := by decide +kernel
theorem dL_law_1890 : decode cL_law 1890 = .ok (.iconst 1, 1) := by decide +kernel
theorem dL_law_1891 : decode cL_law 1891 = .ok (.iaload, 1) := by decide +kernel
theorem dL_law_1892 : decode cL_law 1892 = .ok (.invokestatic 125, 3) := by decide +kernel
theorem dL_law_1895 : decode cL_law 1895 = .ok (.istore 34, 2) := by decide +kernel
theorem dL_law_1897 : decode cL_law 1897 = .ok (.aload 5, 2) := by decide +kernel
theorem dL_law_1899 : decode cL_law 1899 = .ok (.iload 34, 2) := by decide +kernel
theorem dL_law_1901 : decode cL_law 1901 = .ok (.iaload, 1) := by decide +kernel
theorem dL_law_1902 : decode cL_law 1902 = .ok (.invokestatic 96, 3) := by decide +kernel
theorem dL_law_1905 : decode cL_law 1905 = .ok (.iconst 1, 1) := by decide +kernel
theorem dL_law_1906 : decode cL_law 1906 = .ok (.if_icmp .ne 25, 3) := by decide +kernel
theorem dL_law_1909 : decode cL_law 1909 = .ok (.aload 5, 2) := by decide +kernel
theorem dL_law_1911 : decode cL_law 1911 = .ok (.iload 34, 2) := by decide +kernel
theorem dL_law_1913 : decode cL_law 1913 = .ok (.iaload, 1) := by decide +kernel
theorem dL_law_1914 : decode cL_law 1914 = .ok (.invokestatic 101, 3) := by decide +kernel
theorem dL_law_1917 : decode cL_law 1917 = .ok (.aload 11, 2) := by decide +kernel
theorem dL_law_1919 : decode cL_law 1919 = .ok (.iconst 0, 1) := by decide +kernel
theorem dL_law_1920 : decode cL_law 1920 = .ok (.iaload, 1) := by decide +kernel
theorem dL_law_1921 : decode cL_law 1921 = .ok (.bipush 10, 2) := by decide +kernel
theorem dL_law_1923 : decode cL_law 1923 = .ok (.iadd, 1) := by decide +kernel
theorem dL_law_1924 : decode cL_law 1924 = .ok (.if_icmp .lt 7, 3) := by decide +kernel
theorem dL_law_1927 : decode cL_law 1927 = .ok (.iconst 1, 1) := by decide +kernel
theorem dL_law_1928 : decode cL_law 1928 = .ok (.goto 4, 3) := by decide +kernel
theorem dL_law_1931 : decode cL_law 1931 = .ok (.iconst 0, 1) := by decide +kernel
theorem dL_law_1932 : decode cL_law 1932 = .ok (.istore 35, 2) := by decide +kernel
theorem dL_law_1934 : decode cL_law 1934 = .ok (.iload 35, 2) := by decide +kernel
theorem dL_law_1936 : decode cL_law 1936 = .ok (.ifCond .eq 12, 3) := by decide +kernel
theorem dL_law_1939 : decode cL_law 1939 = .ok (.aload 5, 2) := by decide +kernel
theorem dL_law_1941 : decode cL_law 1941 = .ok (.iload 34, 2) := by decide +kernel
theorem dL_law_1943 : decode cL_law 1943 = .ok (.dup2, 1) := by decide +kernel
theorem dL_law_1944 : decode cL_law 1944 = .ok (.iaload, 1) := by decide +kernel
theorem dL_law_1945 : decode cL_law 1945 = .ok (.iconst 2, 1) := by decide +kernel
theorem dL_law_1946 : decode cL_law 1946 = .ok (.iadd, 1) := by decide +kernel
theorem dL_law_1947 : decode cL_law 1947 = .ok (.iastore, 1) := by decide +kernel
theorem dL_law_1948 : decode cL_law 1948 = .ok (.iconst 0, 1) := by decide +kernel
theorem dL_law_1949 : decode cL_law 1949 = .ok (.istore 36, 2) := by decide +kernel
theorem dL_law_1951 : decode cL_law 1951 = .ok (.iconst 0, 1) := by decide +kernel
theorem dL_law_1952 : decode cL_law 1952 = .ok (.istore 37, 2) := by decide +kernel
theorem dL_law_1954 : decode cL_law 1954 = .ok (.iload 37, 2) := by decide +kernel
theorem dL_law_1956 : decode cL_law 1956 = .ok (.aload 11, 2) := by decide +kernel
theorem dL_law_1958 : decode cL_law 1958 = .ok (.iconst 1, 1) := by decide +kernel
theorem dL_law_1959 : decode cL_law 1959 = .ok (.iaload, 1) := by decide +kernel
theorem dL_law_1960 : decode cL_law 1960 = .ok (.if_icmp .ge 31, 3) := by decide +kernel
theorem dL_law_1963 : decode cL_law 1963 = .ok (.iload 36, 2) := by decide +kernel
theorem dL_law_1965 : decode cL_law 1965 = .ok (.aload 5, 2) := by decide +kernel
theorem dL_law_1967 : decode cL_law 1967 = .ok (.iload 37, 2) := by decide +kernel
theorem dL_law_1969 : decode cL_law 1969 = .ok (.iaload, 1) := by decide +kernel
theorem dL_law_1970 : decode cL_law 1970 = .ok (.invokestatic 96, 3) := by decide +kernel
theorem dL_law_1973 : decode cL_law 1973 = .ok (.iconst 1, 1) := by decide +kernel
theorem dL_law_1974 : decode cL_law 1974 = .ok (.if_icmp .ne 7, 3) := by decide +kernel
theorem dL_law_1977 : decode cL_law 1977 = .ok (.iconst 1, 1) := by decide +kernel
theorem dL_law_1978 : decode cL_law 1978 = .ok (.goto 4, 3) := by decide +kernel
theorem dL_law_1981 : decode cL_law 1981 = .ok (.iconst 0, 1) := by decide +kernel
theorem dL_law_1982 : decode cL_law 1982 = .ok (.iadd, 1) := by decide +kernel
theorem dL_law_1983 : decode cL_law 1983 = .ok (.istore 36, 2) := by decide +kernel
theorem dL_law_1985 : decode cL_law 1985 = .ok (.iinc 37 1, 3) := by decide +kernel
theorem dL_law_1988 : decode cL_law 1988 = .ok (.goto (-34), 3) := by decide +kernel
theorem dL_law_1991 : decode cL_law 1991 = .ok (.aload_n 1, 1) := by decide +kernel
theorem dL_law_1992 : decode cL_law 1992 = .ok (.iload 34, 2) := by decide +kernel
theorem dL_law_1994 : decode cL_law 1994 = .ok (.invokestatic 215, 3) := by decide +kernel
theorem dL_law_1997 : decode cL_law 1997 = .ok (.iload 35, 2) := by decide +kernel
theorem dL_law_1999 : decode cL_law 1999 = .ok (.ifCond .eq 8, 3) := by decide +kernel
theorem dL_law_2002 : decode cL_law 2002 = .ok (.iload 36, 2) := by decide +kernel
theorem dL_law_2004 : decode cL_law 2004 = .ok (.goto 6, 3) := by decide +kernel
theorem dL_law_2007 : decode cL_law 2007 = .ok (.sipush (-7300), 3) := by decide +kernel
theorem dL_law_2010 : decode cL_law 2010 = .ok (.if_icmp .ne 7, 3) := by decide +kernel
theorem dL_law_2013 : decode cL_law 2013 = .ok (.iconst 1, 1) := by decide +kernel
theorem dL_law_2014 : decode cL_law 2014 = .ok (.goto 4, 3) := by decide +kernel
theorem dL_law_2017 : decode cL_law 2017 = .ok (.iconst 0, 1) := by decide +kernel
theorem dL_law_2018 : decode cL_law 2018 = .ok (.istore 18, 2) := by decide +kernel
theorem dL_law_2020 : decode cL_law 2020 = .ok (.goto 982, 3) := by decide +kernel
theorem dL_law_2023 : decode cL_law 2023 = .ok (.aload 11, 2) := by decide +kernel
theorem dL_law_2025 : decode cL_law 2025 = .ok (.iconst 1, 1) := by decide +kernel
theorem dL_law_2026 : decode cL_law 2026 = .ok (.iaload, 1) := by decide +kernel
theorem dL_law_2027 : decode cL_law 2027 = .ok (.ifCond .ne 6, 3) := by decide +kernel
theorem dL_law_2030 : decode cL_law 2030 = .ok (.goto 972, 3) := by decide +kernel
theorem dL_law_2033 : decode cL_law 2033 = .ok (.aload 11, 2) := by decide +kernel
theorem dL_law_2035 : decode cL_law 2035 = .ok (.iconst 1, 1) := by decide +kernel
theorem dL_law_2036 : decode cL_law 2036 = .ok (.iaload, 1) := by decide +kernel
theorem dL_law_2037 : decode cL_law 2037 = .ok (.iconst 1, 1) := by decide +kernel
theorem dL_law_2038 : decode cL_law 2038 = .ok (.isub, 1) := by decide +kernel
theorem dL_law_2039 : decode cL_law 2039 = .ok (.istore 37, 2) := by decide +kernel
theorem dL_law_2041 : decode cL_law 2041 = .ok (.iload 37, 2) := by decide +kernel
theorem dL_law_2043 : decode cL_law 2043 = .ok (.ifCond .lt 220, 3) := by decide +kernel
theorem dL_law_2046 : decode cL_law 2046 = .ok (.iload 37, 2) := by decide +kernel
theorem dL_law_2048 : decode cL_law 2048 = .ok (.aload 11, 2) := by decide +kernel
theorem dL_law_2050 : decode cL_law 2050 = .ok (.iconst 1, 1) := by decide +kernel
theorem dL_law_2051 : decode cL_law 2051 = .ok (.iaload, 1) := by decide +kernel
theorem dL_law_2052 : decode cL_law 2052 = .ok (.bipush 6, 2) := by decide +kernel
theorem dL_law_2054 : decode cL_law 2054 = .ok (.isub, 1) := by decide +kernel
theorem dL_law_2055 : decode cL_law 2055 = .ok (.if_icmp .le 208, 3) := by decide +kernel
theorem dL_law_2058 : decode cL_law 2058 = .ok (.iload 14, 2) := by decide +kernel
theorem dL_law_2060 : decode cL_law 2060 = .ok (.iload 37, 2) := by decide +kernel
theorem dL_law_2062 : decode cL_law 2062 = .ok (.bipush 7, 2) := by decide +kernel
theorem dL_law_2064 : decode cL_law 2064 = .ok (.iand, 1) := by decide +kernel
theorem dL_law_2065 : decode cL_law 2065 = .ok (.ishr, 1) := by decide +kernel
theorem dL_law_2066 : decode cL_law 2066 = .ok (.iconst 3, 1) := by decide +kernel
theorem dL_law_2067 : decode cL_law 2067 = .ok (.invokestatic 125, 3) := by decide +kernel
theorem dL_law_2070 : decode cL_law 2070 = .ok (.ifCond .ne 6, 3) := by decide +kernel
theorem dL_law_2073 : decode cL_law 2073 = .ok (.goto 184, 3) := by decide +kernel
theorem dL_law_2076 : decode cL_law 2076 = .ok (.aload 5, 2) := by decide +kernel
theorem dL_law_2078 : decode cL_law 2078 = .ok (.iload 37, 2) := by decide +kernel
theorem dL_law_2080 : decode cL_law 2080 = .ok (.iaload, 1) := by decide +kernel
theorem dL_law_2081 : decode cL_law 2081 = .ok (.bipush 6, 2) := by decide +kernel
theorem dL_law_2083 : decode cL_law 2083 = .ok (.ishr, 1) := by decide +kernel
theorem dL_law_2084 : decode cL_law 2084 = .ok (.bipush 15, 2) := by decide +kernel
theorem dL_law_2086 : decode cL_law 2086 = .ok (.iand, 1) := by decide +kernel
theorem dL_law_2087 : decode cL_law 2087 = .ok (.istore 38, 2) := by decide +kernel
theorem dL_law_2089 : decode cL_law 2089 = .ok (.aload 5, 2) := by decide +kernel
theorem dL_law_2091 : decode cL_law 2091 = .ok (.iload 37, 2) := by decide +kernel
theorem dL_law_2093 : decode cL_law 2093 = .ok (.iaload, 1) := by decide +kernel
theorem dL_law_2094 : decode cL_law 2094 = .ok (.bipush 13, 2) := by decide +kernel
theorem dL_law_2096 : decode cL_law 2096 = .ok (.ishr, 1) := by decide +kernel
theorem dL_law_2097 : decode cL_law 2097 = .ok (.bipush 7, 2) := by decide +kernel
theorem dL_law_2099 : decode cL_law 2099 = .ok (.iand, 1) := by decide +kernel
theorem dL_law_2100 : decode cL_law 2100 = .ok (.iconst 1, 1) := by decide +kernel
theorem dL_law_2101 : decode cL_law 2101 = .ok (.isub, 1) := by decide +kernel
theorem dL_law_2102 : decode cL_law 2102 = .ok (.istore 39, 2) := by decide +kernel
theorem dL_law_2104 : decode cL_law 2104 = .ok (.aload 5, 2) := by decide +kernel
theorem dL_law_2106 : decode cL_law 2106 = .ok (.iload 37, 2) := by decide +kernel
theorem dL_law_2108 : decode cL_law 2108 = .ok (.iaload, 1) := by decide +kernel
theorem dL_law_2109 : decode cL_law 2109 = .ok (.invokestatic 96, 3) := by decide +kernel
theorem dL_law_2112 : decode cL_law 2112 = .ok (.iconst 2, 1) := by decide +kernel
theorem dL_law_2113 : decode cL_law 2113 = .ok (.if_icmp .ne 51, 3) := by decide +kernel
theorem dL_law_2116 : decode cL_law 2116 = .ok (.aload 11, 2) := by decide +kernel
theorem dL_law_2118 : decode cL_law 2118 = .ok (.iconst 0, 1) := by decide +kernel
theorem dL_law_2119 : decode cL_law 2119 = .ok (.iaload, 1) := by decide +kernel
theorem dL_law_2120 : decode cL_law 2120 = .ok (.aload 6, 2) := by decide +kernel
theorem dL_law_2122 : decode cL_law 2122 = .ok (.iload 37, 2) := by decide +kernel
theorem dL_law_2124 : decode cL_law 2124 = .ok (.iaload, 1) := by decide +kernel
theorem dL_law_2125 : decode cL_law 2125 = .ok (.bipush 60, 2) := by decide +kernel
theorem dL_law_2127 : decode cL_law 2127 = .ok (.iadd, 1) := by decide +kernel
theorem dL_law_2128 : decode cL_law 2128 = .ok (.if_icmp .gt 36, 3) := by decide +kernel
theorem dL_law_2131 : decode cL_law 2131 = .ok (.aload_n 3, 1) := by decide +kernel
theorem dL_law_2132 : decode cL_law 2132 = .ok (.iload 38, 2) := by decide +kernel
theorem dL_law_2134 : decode cL_law 2134 = .ok (.iaload, 1) := by decide +kernel
theorem dL_law_2135 : decode cL_law 2135 = .ok (.iconst (-1), 1) := by decide +kernel
theorem dL_law_2136 : decode cL_law 2136 = .ok (.if_icmp .eq 28, 3) := by decide +kernel
theorem dL_law_2139 : decode cL_law 2139 = .ok (.aload 4, 2) := by decide +kernel
theorem dL_law_2141 : decode cL_law 2141 = .ok (.iload 38, 2) := by decide +kernel
theorem dL_law_2143 : decode cL_law 2143 = .ok (.iaload, 1) := by decide +kernel
theorem dL_law_2144 : decode cL_law 2144 = .ok (.iload 37, 2) := by decide +kernel
theorem dL_law_2146 : decode cL_law 2146 = .ok (.if_icmp .ne 18, 3) := by decide +kernel
theorem dL_law_2149 : decode cL_law 2149 = .ok (.aload 10, 2) := by decide +kernel
theorem dL_law_2151 : decode cL_law 2151 = .ok (.iload 39, 2) := by decide +kernel
theorem dL_law_2153 : decode cL_law 2153 = .ok (.iaload, 1) := by decide +kernel
theorem dL_law_2154 : decode cL_law 2154 = .ok (.invokestatic 114, 3) := by decide +kernel
theorem dL_law_2157 : decode cL_law 2157 = .ok (.ifCond .ne 7, 3) := by decide +kernel
theorem dL_law_2160 : decode cL_law 2160 = .ok (.iconst 1, 1) := by decide +kernel
theorem dL_law_2161 : decode cL_law 2161 = .ok (.goto 4, 3) := by decide +kernel
theorem dL_law_2164 : decode cL_law 2164 = .ok (.iconst 0, 1) := by decide +kernel
theorem dL_law_2165 : decode cL_law 2165 = .ok (.istore 40, 2) := by decide +kernel
theorem dL_law_2167 : decode cL_law 2167 = .ok (.iload 18, 2) := by decide +kernel
theorem dL_law_2169 : decode cL_law 2169 = .ok (.aload_n 1, 1) := by decide +kernel
theorem dL_law_2170 : decode cL_law 2170 = .ok (.iload 37, 2) := by decide +kernel
theorem dL_law_2172 : decode cL_law 2172 = .ok (.invokestatic 217, 3) := by decide +kernel
theorem dL_law_2175 : decode cL_law 2175 = .ok (.iload 40, 2) := by decide +kernel
theorem dL_law_2177 : decode cL_law 2177 = .ok (.ifCond .eq 8, 3) := by decide +kernel
theorem dL_law_2180 : decode cL_law 2180 = .ok (.iload 39, 2) := by decide +kernel
theorem dL_law_2182 : decode cL_law 2182 = .ok (.goto 6, 3) := by decide +kernel
theorem dL_law_2185 : decode cL_law 2185 = .ok (.sipush (-7300), 3) := by decide +kernel
theorem dL_law_2188 : decode cL_law 2188 = .ok (.if_icmp .ne 7, 3) := by decide +kernel
theorem dL_law_2191 : decode cL_law 2191 = .ok (.iconst 1, 1) := by decide +kernel
theorem dL_law_2192 : decode cL_law 2192 = .ok (.goto 4, 3) := by decide +kernel
theorem dL_law_2195 : decode cL_law 2195 = .ok (.iconst 0, 1) := by decide +kernel
theorem dL_law_2196 : decode cL_law 2196 = .ok (.iand, 1) := by decide +kernel
theorem dL_law_2197 : decode cL_law 2197 = .ok (.istore 18, 2) := by decide +kernel
theorem dL_law_2199 : decode cL_law 2199 = .ok (.iload 40, 2) := by decide +kernel
theorem dL_law_2201 : decode cL_law 2201 = .ok (.ifCond .ne 6, 3) := by decide +kernel
theorem dL_law_2204 : decode cL_law 2204 = .ok (.goto 53, 3) := by decide +kernel
theorem dL_law_2207 : decode cL_law 2207 = .ok (.aload 5, 2) := by decide +kernel
theorem dL_law_2209 : decode cL_law 2209 = .ok (.iload 37, 2) := by decide +kernel
theorem dL_law_2211 : decode cL_law 2211 = .ok (.dup2, 1) := by decide +kernel
theorem dL_law_2212 : decode cL_law 2212 = .ok (.iaload, 1) := by decide +kernel
theorem dL_law_2213 : decode cL_law 2213 = .ok (.iconst 2, 1) := by decide +kernel
theorem dL_law_2214 : decode cL_law 2214 = .ok (.iadd, 1) := by decide +kernel
theorem dL_law_2215 : decode cL_law 2215 = .ok (.iastore, 1) := by decide +kernel
theorem dL_law_2216 : decode cL_law 2216 = .ok (.aload 10, 2) := by decide +kernel
theorem dL_law_2218 : decode cL_law 2218 = .ok (.iload 39, 2) := by decide +kernel
theorem dL_law_2220 : decode cL_law 2220 = .ok (.dup2, 1) := by decide +kernel
theorem dL_law_2221 : decode cL_law 2221 = .ok (.iaload, 1) := by decide +kernel
theorem dL_law_2222 : decode cL_law 2222 = .ok (.sipush 5120, 3) := by decide +kernel
theorem dL_law_2225 : decode cL_law 2225 = .ok (.isub, 1) := by decide +kernel
