theorem dL_law_1845 : decode cL_law 1845 = .ok (.aload_n 3, 1) := by decide +kernel
theorem dL_law_1846 : decode cL_law 1846 = .ok (.iconst 0, 1) := by decide +kernel
theorem dL_law_1847 : decode cL_law 1847 = .ok (.laload, 1) := by decide +kernel
theorem dL_law_1848 : decode cL_law 1848 = .ok (.lload 6, 2) := by decide +kernel
theorem dL_law_1850 : decode cL_law 1850 = .ok (.lcmp, 1) := by decide +kernel
theorem dL_law_1851 : decode cL_law 1851 = .ok (.ifCond .eq 5, 3) := by decide +kernel
theorem dL_law_1854 : decode cL_law 1854 = .ok (.iconst 0, 1) := by decide +kernel
theorem dL_law_1855 : decode cL_law 1855 = .ok (.ireturn, 1) := by decide +kernel
theorem dL_law_1856 : decode cL_law 1856 = .ok (.goto 2377, 3) := by decide +kernel
theorem dL_law_1859 : decode cL_law 1859 = .ok (.aload_n 1, 1) := by decide +kernel
theorem dL_law_1860 : decode cL_law 1860 = .ok (.aload_n 0, 1) := by decide +kernel
theorem dL_law_1861 : decode cL_law 1861 = .ok (.iload 4, 2) := by decide +kernel
theorem dL_law_1863 : decode cL_law 1863 = .ok (.iconst 1, 1) := by decide +kernel
theorem dL_law_1864 : decode cL_law 1864 = .ok (.iadd, 1) := by decide +kernel
theorem dL_law_1865 : decode cL_law 1865 = .ok (.iaload, 1) := by decide +kernel
theorem dL_law_1866 : decode cL_law 1866 = .ok (.aload_n 0, 1) := by decide +kernel
theorem dL_law_1867 : decode cL_law 1867 = .ok (.iload 4, 2) := by decide +kernel
theorem dL_law_1869 : decode cL_law 1869 = .ok (.iconst 2, 1) := by decide +kernel
theorem dL_law_1870 : decode cL_law 1870 = .ok (.iadd, 1) := by decide +kernel
theorem dL_law_1871 : decode cL_law 1871 = .ok (.iaload, 1) := by decide +kernel
theorem dL_law_1872 : decode cL_law 1872 = .ok (.aload_n 0, 1) := by decide +kernel
theorem dL_law_1873 : decode cL_law 1873 = .ok (.iload 4, 2) := by decide +kernel
theorem dL_law_1875 : decode cL_law 1875 = .ok (.iconst 3, 1) := by decide +kernel
theorem dL_law_1876 : decode cL_law 1876 = .ok (.iadd, 1) := by decide +kernel
theorem dL_law_1877 : decode cL_law 1877 = .ok (.iaload, 1) := by decide +kernel
theorem dL_law_1878 : decode cL_law 1878 = .ok (.aload_n 3, 1) := by decide +kernel
theorem dL_law_1879 : decode cL_law 1879 = .ok (.invokestatic 246, 3) := by decide +kernel
theorem dL_law_1882 : decode cL_law 1882 = .ok (.istore 5, 2) := by decide +kernel
theorem dL_law_1884 : decode cL_law 1884 = .ok (.aload_n 2, 1) := by decide +kernel
theorem dL_law_1885 : decode cL_law 1885 = .ok (.aload_n 0, 1) := by decide +kernel
theorem dL_law_1886 : decode cL_law 1886 = .ok (.iload 4, 2) := by decide +kernel
theorem dL_law_1888 : decode cL_law 1888 = .ok (.iconst 1, 1) := by decide +kernel
theorem dL_law_1889 : decode cL_law 1889 = .ok (.iadd, 1) := by decide +kernel
theorem dL_law_1890 : decode cL_law 1890 = .ok (.iaload, 1) := by decide +kernel
theorem dL_law_1891 : decode cL_law 1891 = .ok (.aload_n 0, 1) := by decide +kernel
theorem dL_law_1892 : decode cL_law 1892 = .ok (.iload 4, 2) := by decide +kernel
theorem dL_law_1894 : decode cL_law 1894 = .ok (.iconst 2, 1) := by decide +kernel
theorem dL_law_1895 : decode cL_law 1895 = .ok (.iadd, 1) := by decide +kernel
theorem dL_law_1896 : decode cL_law 1896 = .ok (.iaload, 1) := by decide +kernel
theorem dL_law_1897 : decode cL_law 1897 = .ok (.aload_n 0, 1) := by decide +kernel
theorem dL_law_1898 : decode cL_law 1898 = .ok (.iload 4, 2) := by decide +kernel
theorem dL_law_1900 : decode cL_law 1900 = .ok (.iconst 3, 1) := by decide +kernel
theorem dL_law_1901 : decode cL_law 1901 = .ok (.iadd, 1) := by decide +kernel
theorem dL_law_1902 : decode cL_law 1902 = .ok (.iaload, 1) := by decide +kernel
theorem dL_law_1903 : decode cL_law 1903 = .ok (.invokevirtual 248, 3) := by decide +kernel
theorem dL_law_1906 : decode cL_law 1906 = .ok (.istore 6, 2) := by decide +kernel
theorem dL_law_1908 : decode cL_law 1908 = .ok (.aload_n 2, 1) := by decide +kernel
theorem dL_law_1909 : decode cL_law 1909 = .ok (.invokevirtual 177, 3) := by decide +kernel
theorem dL_law_1912 : decode cL_law 1912 = .ok (.iload 5, 2) := by decide +kernel
theorem dL_law_1914 : decode cL_law 1914 = .ok (.if_icmp .eq 5, 3) := by decide +kernel
theorem dL_law_1917 : decode cL_law 1917 = .ok (.iconst 0, 1) := by decide +kernel
theorem dL_law_1918 : decode cL_law 1918 = .ok (.ireturn, 1) := by decide +kernel
theorem dL_law_1919 : decode cL_law 1919 = .ok (.iload 5, 2) := by decide +kernel
theorem dL_law_1921 : decode cL_law 1921 = .ok (.ifCond .ne 15, 3) := by decide +kernel
theorem dL_law_1924 : decode cL_law 1924 = .ok (.aload_n 3, 1) := by decide +kernel
theorem dL_law_1925 : decode cL_law 1925 = .ok (.iconst 0, 1) := by decide +kernel
theorem dL_law_1926 : decode cL_law 1926 = .ok (.laload, 1) := by decide +kernel
theorem dL_law_1927 : decode cL_law 1927 = .ok (.iload 6, 2) := by decide +kernel
theorem dL_law_1929 : decode cL_law 1929 = .ok (.i2l, 1) := by decide +kernel
theorem dL_law_1930 : decode cL_law 1930 = .ok (.lcmp, 1) := by decide +kernel
theorem dL_law_1931 : decode cL_law 1931 = .ok (.ifCond .eq 5, 3) := by decide +kernel
theorem dL_law_1934 : decode cL_law 1934 = .ok (.iconst 0, 1) := by decide +kernel
theorem dL_law_1935 : decode cL_law 1935 = .ok (.ireturn, 1) := by decide +kernel
theorem dL_law_1936 : decode cL_law 1936 = .ok (.goto 2297, 3) := by decide +kernel
theorem dL_law_1939 : decode cL_law 1939 = .ok (.aload_n 1, 1) := by decide +kernel
theorem dL_law_1940 : decode cL_law 1940 = .ok (.aload_n 0, 1) := by decide +kernel
theorem dL_law_1941 : decode cL_law 1941 = .ok (.iload 4, 2) := by decide +kernel
theorem dL_law_1943 : decode cL_law 1943 = .ok (.iconst 1, 1) := by decide +kernel
theorem dL_law_1944 : decode cL_law 1944 = .ok (.iadd, 1) := by decide +kernel
theorem dL_law_1945 : decode cL_law 1945 = .ok (.iaload, 1) := by decide +kernel
theorem dL_law_1946 : decode cL_law 1946 = .ok (.aload_n 0, 1) := by decide +kernel
theorem dL_law_1947 : decode cL_law 1947 = .ok (.iload 4, 2) := by decide +kernel
theorem dL_law_1949 : decode cL_law 1949 = .ok (.iconst 2, 1) := by decide +kernel
theorem dL_law_1950 : decode cL_law 1950 = .ok (.iadd, 1) := by decide +kernel
theorem dL_law_1951 : decode cL_law 1951 = .ok (.iaload, 1) := by decide +kernel
theorem dL_law_1952 : decode cL_law 1952 = .ok (.i2c, 1) := by decide +kernel
theorem dL_law_1953 : decode cL_law 1953 = .ok (.aload_n 0, 1) := by decide +kernel
theorem dL_law_1954 : decode cL_law 1954 = .ok (.iload 4, 2) := by decide +kernel
theorem dL_law_1956 : decode cL_law 1956 = .ok (.iconst 3, 1) := by decide +kernel
theorem dL_law_1957 : decode cL_law 1957 = .ok (.iadd, 1) := by decide +kernel
theorem dL_law_1958 : decode cL_law 1958 = .ok (.iaload, 1) := by decide +kernel
theorem dL_law_1959 : decode cL_law 1959 = .ok (.aload_n 0, 1) := by decide +kernel
theorem dL_law_1960 : decode cL_law 1960 = .ok (.iload 4, 2) := by decide +kernel
theorem dL_law_1962 : decode cL_law 1962 = .ok (.iconst 4, 1) := by decide +kernel
theorem dL_law_1963 : decode cL_law 1963 = .ok (.iadd, 1) := by decide +kernel
theorem dL_law_1964 : decode cL_law 1964 = .ok (.iaload, 1) := by decide +kernel
theorem dL_law_1965 : decode cL_law 1965 = .ok (.aload_n 3, 1) := by decide +kernel
theorem dL_law_1966 : decode cL_law 1966 = .ok (.invokestatic 249, 3) := by decide +kernel
theorem dL_law_1969 : decode cL_law 1969 = .ok (.istore 5, 2) := by decide +kernel
theorem dL_law_1971 : decode cL_law 1971 = .ok (.aload_n 2, 1) := by decide +kernel
theorem dL_law_1972 : decode cL_law 1972 = .ok (.aload_n 0, 1) := by decide +kernel
theorem dL_law_1973 : decode cL_law 1973 = .ok (.iload 4, 2) := by decide +kernel
theorem dL_law_1975 : decode cL_law 1975 = .ok (.iconst 1, 1) := by decide +kernel
theorem dL_law_1976 : decode cL_law 1976 = .ok (.iadd, 1) := by decide +kernel
theorem dL_law_1977 : decode cL_law 1977 = .ok (.iaload, 1) := by decide +kernel
theorem dL_law_1978 : decode cL_law 1978 = .ok (.aload_n 0, 1) := by decide +kernel
theorem dL_law_1979 : decode cL_law 1979 = .ok (.iload 4, 2) := by decide +kernel
theorem dL_law_1981 : decode cL_law 1981 = .ok (.iconst 2, 1) := by decide +kernel
theorem dL_law_1982 : decode cL_law 1982 = .ok (.iadd, 1) := by decide +kernel
theorem dL_law_1983 : decode cL_law 1983 = .ok (.iaload, 1) := by decide +kernel
theorem dL_law_1984 : decode cL_law 1984 = .ok (.i2c, 1) := by decide +kernel
theorem dL_law_1985 : decode cL_law 1985 = .ok (.aload_n 0, 1) := by decide +kernel
theorem dL_law_1986 : decode cL_law 1986 = .ok (.iload 4, 2) := by decide +kernel
theorem dL_law_1988 : decode cL_law 1988 = .ok (.iconst 3, 1) := by decide +kernel
theorem dL_law_1989 : decode cL_law 1989 = .ok (.iadd, 1) := by decide +kernel
theorem dL_law_1990 : decode cL_law 1990 = .ok (.iaload, 1) := by decide +kernel
theorem dL_law_1991 : decode cL_law 1991 = .ok (.aload_n 0, 1) := by decide +kernel
theorem dL_law_1992 : decode cL_law 1992 = .ok (.iload 4, 2) := by decide +kernel
theorem dL_law_1994 : decode cL_law 1994 = .ok (.iconst 4, 1) := by decide +kernel
theorem dL_law_1995 : decode cL_law 1995 = .ok (.iadd, 1) := by decide +kernel
theorem dL_law_1996 : decode cL_law 1996 = .ok (.iaload, 1) := by decide +kernel
theorem dL_law_1997 : decode cL_law 1997 = .ok (.invokevirtual 251, 3) := by decide +kernel
theorem dL_law_2000 : decode cL_law 2000 = .ok (.istore 6, 2) := by decide +kernel
theorem dL_law_2002 : decode cL_law 2002 = .ok (.aload_n 2, 1) := by decide +kernel
theorem dL_law_2003 : decode cL_law 2003 = .ok (.invokevirtual 177, 3) := by decide +kernel
theorem dL_law_2006 : decode cL_law 2006 = .ok (.iload 5, 2) := by decide +kernel
theorem dL_law_2008 : decode cL_law 2008 = .ok (.if_icmp .eq 5, 3) := by decide +kernel
theorem dL_law_2011 : decode cL_law 2011 = .ok (.iconst 0, 1) := by decide +kernel
theorem dL_law_2012 : decode cL_law 2012 = .ok (.ireturn, 1) := by decide +kernel
theorem dL_law_2013 : decode cL_law 2013 = .ok (.iload 5, 2) := by decide +kernel
theorem dL_law_2015 : decode cL_law 2015 = .ok (.ifCond .ne 15, 3) := by decide +kernel
theorem dL_law_2018 : decode cL_law 2018 = .ok (.aload_n 3, 1) := by decide +kernel
theorem dL_law_2019 : decode cL_law 2019 = .ok (.iconst 0, 1) := by decide +kernel
theorem dL_law_2020 : decode cL_law 2020 = .ok (.laload, 1) := by decide +kernel
theorem dL_law_2021 : decode cL_law 2021 = .ok (.iload 6, 2) := by decide +kernel
theorem dL_law_2023 : decode cL_law 2023 = .ok (.i2l, 1) := by decide +kernel
theorem dL_law_2024 : decode cL_law 2024 = .ok (.lcmp, 1) := by decide +kernel
theorem dL_law_2025 : decode cL_law 2025 = .ok (.ifCond .eq 5, 3) := by decide +kernel
theorem dL_law_2028 : decode cL_law 2028 = .ok (.iconst 0, 1) := by decide +kernel
theorem dL_law_2029 : decode cL_law 2029 = .ok (.ireturn, 1) := by decide +kernel
theorem dL_law_2030 : decode cL_law 2030 = .ok (.goto 2203, 3) := by decide +kernel
theorem dL_law_2033 : decode cL_law 2033 = .ok (.aload_n 1, 1) := by decide +kernel
theorem dL_law_2034 : decode cL_law 2034 = .ok (.aload_n 0, 1) := by decide +kernel
theorem dL_law_2035 : decode cL_law 2035 = .ok (.iload 4, 2) := by decide +kernel
theorem dL_law_2037 : decode cL_law 2037 = .ok (.iconst 1, 1) := by decide +kernel
theorem dL_law_2038 : decode cL_law 2038 = .ok (.iadd, 1) := by decide +kernel
theorem dL_law_2039 : decode cL_law 2039 = .ok (.iaload, 1) := by decide +kernel
theorem dL_law_2040 : decode cL_law 2040 = .ok (.aload_n 0, 1) := by decide +kernel
theorem dL_law_2041 : decode cL_law 2041 = .ok (.iload 4, 2) := by decide +kernel
theorem dL_law_2043 : decode cL_law 2043 = .ok (.iconst 2, 1) := by decide +kernel
theorem dL_law_2044 : decode cL_law 2044 = .ok (.iadd, 1) := by decide +kernel
theorem dL_law_2045 : decode cL_law 2045 = .ok (.iaload, 1) := by decide +kernel
theorem dL_law_2046 : decode cL_law 2046 = .ok (.i2c, 1) := by decide +kernel
theorem dL_law_2047 : decode cL_law 2047 = .ok (.aload_n 3, 1) := by decide +kernel
theorem dL_law_2048 : decode cL_law 2048 = .ok (.invokestatic 252, 3) := by decide +kernel
theorem dL_law_2051 : decode cL_law 2051 = .ok (.istore 5, 2) := by decide +kernel
theorem dL_law_2053 : decode cL_law 2053 = .ok (.aload_n 2, 1) := by decide +kernel
theorem dL_law_2054 : decode cL_law 2054 = .ok (.aload_n 0, 1) := by decide +kernel
theorem dL_law_2055 : decode cL_law 2055 = .ok (.iload 4, 2) := by decide +kernel
theorem dL_law_2057 : decode cL_law 2057 = .ok (.iconst 1, 1) := by decide +kernel
theorem dL_law_2058 : decode cL_law 2058 = .ok (.iadd, 1) := by decide +kernel
theorem dL_law_2059 : decode cL_law 2059 = .ok (.iaload, 1) := by decide +kernel
theorem dL_law_2060 : decode cL_law 2060 = .ok (.aload_n 0, 1) := by decide +kernel
theorem dL_law_2061 : decode cL_law 2061 = .ok (.iload 4, 2) := by decide +kernel
theorem dL_law_2063 : decode cL_law 2063 = .ok (.iconst 2, 1) := by decide +kernel
theorem dL_law_2064 : decode cL_law 2064 = .ok (.iadd, 1) := by decide +kernel
theorem dL_law_2065 : decode cL_law 2065 = .ok (.iaload, 1) := by decide +kernel
theorem dL_law_2066 : decode cL_law 2066 = .ok (.i2c, 1) := by decide +kernel
theorem dL_law_2067 : decode cL_law 2067 = .ok (.invokevirtual 254, 3) := by decide +kernel
theorem dL_law_2070 : decode cL_law 2070 = .ok (.istore 6, 2) := by decide +kernel
theorem dL_law_2072 : decode cL_law 2072 = .ok (.aload_n 2, 1) := by decide +kernel
theorem dL_law_2073 : decode cL_law 2073 = .ok (.invokevirtual 177, 3) := by decide +kernel
theorem dL_law_2076 : decode cL_law 2076 = .ok (.iload 5, 2) := by decide +kernel
theorem dL_law_2078 : decode cL_law 2078 = .ok (.if_icmp .eq 5, 3) := by decide +kernel
theorem dL_law_2081 : decode cL_law 2081 = .ok (.iconst 0, 1) := by decide +kernel
theorem dL_law_2082 : decode cL_law 2082 = .ok (.ireturn, 1) := by decide +kernel
theorem dL_law_2083 : decode cL_law 2083 = .ok (.iload 5, 2) := by decide +kernel
theorem dL_law_2085 : decode cL_law 2085 = .ok (.ifCond .ne 15, 3) := by decide +kernel
theorem dL_law_2088 : decode cL_law 2088 = .ok (.aload_n 3, 1) := by decide +kernel
theorem dL_law_2089 : decode cL_law 2089 = .ok (.iconst 0, 1) := by decide +kernel
theorem dL_law_2090 : decode cL_law 2090 = .ok (.laload, 1) := by decide +kernel
theorem dL_law_2091 : decode cL_law 2091 = .ok (.iload 6, 2) := by decide +kernel
theorem dL_law_2093 : decode cL_law 2093 = .ok (.i2l, 1) := by decide +kernel
theorem dL_law_2094 : decode cL_law 2094 = .ok (.lcmp, 1) := by decide +kernel
theorem dL_law_2095 : decode cL_law 2095 = .ok (.ifCond .eq 5, 3) := by decide +kernel
theorem dL_law_2098 : decode cL_law 2098 = .ok (.iconst 0, 1) := by decide +kernel
theorem dL_law_2099 : decode cL_law 2099 = .ok (.ireturn, 1) := by decide +kernel
theorem dL_law_2100 : decode cL_law 2100 = .ok (.goto 2133, 3) := by decide +kernel
theorem dL_law_2103 : decode cL_law 2103 = .ok (.aload_n 1, 1) := by decide +kernel
theorem dL_law_2104 : decode cL_law 2104 = .ok (.aload_n 0, 1) := by decide +kernel
theorem dL_law_2105 : decode cL_law 2105 = .ok (.iload 4, 2) := by decide +kernel
theorem dL_law_2107 : decode cL_law 2107 = .ok (.iconst 1, 1) := by decide +kernel
theorem dL_law_2108 : decode cL_law 2108 = .ok (.iadd, 1) := by decide +kernel
theorem dL_law_2109 : decode cL_law 2109 = .ok (.iaload, 1) := by decide +kernel
theorem dL_law_2110 : decode cL_law 2110 = .ok (.aload_n 0, 1) := by decide +kernel
theorem dL_law_2111 : decode cL_law 2111 = .ok (.iload 4, 2) := by decide +kernel
theorem dL_law_2113 : decode cL_law 2113 = .ok (.iconst 2, 1) := by decide +kernel
theorem dL_law_2114 : decode cL_law 2114 = .ok (.iadd, 1) := by decide +kernel
theorem dL_law_2115 : decode cL_law 2115 = .ok (.iaload, 1) := by decide +kernel
theorem dL_law_2116 : decode cL_law 2116 = .ok (.aload_n 0, 1) := by decide +kernel
theorem dL_law_2117 : decode cL_law 2117 = .ok (.iload 4, 2) := by decide +kernel
theorem dL_law_2119 : decode cL_law 2119 = .ok (.iconst 3, 1) := by decide +kernel
theorem dL_law_2120 : decode cL_law 2120 = .ok (.iadd, 1) := by decide +kernel
theorem dL_law_2121 : decode cL_law 2121 = .ok (.iaload, 1) := by decide +kernel
theorem dL_law_2122 : decode cL_law 2122 = .ok (.aload_n 3, 1) := by decide +kernel
theorem dL_law_2123 : decode cL_law 2123 = .ok (.invokestatic 255, 3) := by decide +kernel
theorem dL_law_2126 : decode cL_law 2126 = .ok (.istore 5, 2) := by decide +kernel
theorem dL_law_2128 : decode cL_law 2128 = .ok (.aload_n 2, 1) := by decide +kernel
theorem dL_law_2129 : decode cL_law 2129 = .ok (.aload_n 0, 1) := by decide +kernel
theorem dL_law_2130 : decode cL_law 2130 = .ok (.iload 4, 2) := by decide +kernel
theorem dL_law_2132 : decode cL_law 2132 = .ok (.iconst 1, 1) := by decide +kernel
theorem dL_law_2133 : decode cL_law 2133 = .ok (.iadd, 1) := by decide +kernel
theorem dL_law_2134 : decode cL_law 2134 = .ok (.iaload, 1) := by decide +kernel
theorem dL_law_2135 : decode cL_law 2135 = .ok (.aload_n 0, 1) := by decide +kernel
theorem dL_law_2136 : decode cL_law 2136 = .ok (.iload 4, 2) := by decide +kernel
theorem dL_law_2138 : decode cL_law 2138 = .ok (.iconst 2, 1) := by decide +kernel
theorem dL_law_2139 : decode cL_law 2139 = .ok (.iadd, 1) := by decide +kernel
theorem dL_law_2140 : decode cL_law 2140 = .ok (.iaload, 1) := by decide +kernel
theorem dL_law_2141 : decode cL_law 2141 = .ok (.aload_n 0, 1) := by decide +kernel
theorem dL_law_2142 : decode cL_law 2142 = .ok (.iload 4, 2) := by decide +kernel
theorem dL_law_2144 : decode cL_law 2144 = .ok (.iconst 3, 1) := by decide +kernel
theorem dL_law_2145 : decode cL_law 2145 = .ok (.iadd, 1) := by decide +kernel
theorem dL_law_2146 : decode cL_law 2146 = .ok (.iaload, 1) := by decide +kernel
theorem dL_law_2147 : decode cL_law 2147 = .ok (.invokevirtual 257, 3) := by decide +kernel
theorem dL_law_2150 : decode cL_law 2150 = .ok (.lstore 6, 2) := by decide +kernel
theorem dL_law_2152 : decode cL_law 2152 = .ok (.aload_n 2, 1) := by decide +kernel
theorem dL_law_2153 : decode cL_law 2153 = .ok (.invokevirtual 177, 3) := by decide +kernel
theorem dL_law_2156 : decode cL_law 2156 = .ok (.iload 5, 2) := by decide +kernel
theorem dL_law_2158 : decode cL_law 2158 = .ok (.if_icmp .eq 5, 3) := by decide +kernel
theorem dL_law_2161 : decode cL_law 2161 = .ok (.iconst 0, 1) := by decide +kernel
theorem dL_law_2162 : decode cL_law 2162 = .ok (.ireturn, 1) := by decide +kernel
theorem dL_law_2163 : decode cL_law 2163 = .ok (.iload 5, 2) := by decide +kernel
theorem dL_law_2165 : decode cL_law 2165 = .ok (.ifCond .ne 14, 3) := by decide +kernel
theorem dL_law_2168 : decode cL_law 2168 = .ok (.aload_n 3, 1) := by decide +kernel
theorem dL_law_2169 : decode cL_law 2169 = .ok (.iconst 0, 1) := by decide +kernel
theorem dL_law_2170 : decode cL_law 2170 = .ok (.laload, 1) := by decide +kernel
theorem dL_law_2171 : decode cL_law 2171 = .ok (.lload 6, 2) := by decide +kernel
theorem dL_law_2173 : decode cL_law 2173 = .ok (.lcmp, 1) := by decide +kernel
theorem dL_law_2174 : decode cL_law 2174 = .ok (.ifCond .eq 5, 3) := by decide +kernel
theorem dL_law_2177 : decode cL_law 2177 = .ok (.iconst 0, 1) := by decide +kernel
theorem dL_law_2178 : decode cL_law 2178 = .ok (.ireturn, 1) := by decide +kernel
theorem dL_law_2179 : decode cL_law 2179 = .ok (.goto 2054, 3) := by decide +kernel
theorem dL_law_2182 : decode cL_law 2182 = .ok (.aload_n 1, 1) := by decide +kernel
theorem dL_law_2183 : decode cL_law 2183 = .ok (.aload_n 0, 1) := by decide +kernel
theorem dL_law_2184 : decode cL_law 2184 = .ok (.iload 4, 2) := by decide +kernel
theorem dL_law_2186 : decode cL_law 2186 = .ok (.iconst 1, 1) := by decide +kernel
theorem dL_law_2187 : decode cL_law 2187 = .ok (.iadd, 1) := by decide +kernel
theorem dL_law_2188 : decode cL_law 2188 = .ok (.iaload, 1) := by decide +kernel
theorem dL_law_2189 : decode cL_law 2189 = .ok (.aload_n 0, 1) := by decide +kernel
theorem dL_law_2190 : decode cL_law 2190 = .ok (.iload 4, 2) := by decide +kernel
theorem dL_law_2192 : decode cL_law 2192 = .ok (.iconst 2, 1) := by decide +kernel
theorem dL_law_2193 : decode cL_law 2193 = .ok (.iadd, 1) := by decide +kernel
theorem dL_law_2194 : decode cL_law 2194 = .ok (.iaload, 1) := by decide +kernel
theorem dL_law_2195 : decode cL_law 2195 = .ok (.aload_n 3, 1) := by decide +kernel
theorem dL_law_2196 : decode cL_law 2196 = .ok (.invokestatic 258, 3) := by decide +kernel
theorem dL_law_2199 : decode cL_law 2199 = .ok (.istore 5, 2) := by decide +kernel
theorem dL_law_2201 : decode cL_law 2201 = .ok (.aload_n 2, 1) := by decide +kernel
theorem dL_law_2202 : decode cL_law 2202 = .ok (.aload_n 0, 1) := by decide +kernel
theorem dL_law_2203 : decode cL_law 2203 = .ok (.iload 4, 2) := by decide +kernel
theorem dL_law_2205 : decode cL_law 2205 = .ok (.iconst 1, 1) := by decide +kernel
theorem dL_law_2206 : decode cL_law 2206 = .ok (.iadd, 1) := by decide +kernel
theorem dL_law_2207 : decode cL_law 2207 = .ok (.iaload, 1) := by decide +kernel
theorem dL_law_2208 : decode cL_law 2208 = .ok (.aload_n 0, 1) := by decide +kernel
theorem dL_law_2209 : decode cL_law 2209 = .ok (.iload 4, 2) := by decide +kernel
theorem dL_law_2211 : decode cL_law 2211 = .ok (.iconst 2, 1) := by decide +kernel
theorem dL_law_2212 : decode cL_law 2212 = .ok (.iadd, 1) := by decide +kernel
theorem dL_law_2213 : decode cL_law 2213 = .ok (.iaload, 1) := by decide +kernel
theorem dL_law_2214 : decode cL_law 2214 = .ok (.invokevirtual 260, 3) := by decide +kernel
theorem dL_law_2217 : decode cL_law 2217 = .ok (.istore 6, 2) := by decide +kernel
theorem dL_law_2219 : decode cL_law 2219 = .ok (.aload_n 2, 1) := by decide +kernel
theorem dL_law_2220 : decode cL_law 2220 = .ok (.invokevirtual 177, 3) := by decide +kernel
theorem dL_law_2223 : decode cL_law 2223 = .ok (.iload 5, 2) := by decide +kernel
theorem dL_law_2225 : decode cL_law 2225 = .ok (.if_icmp .eq 5, 3) := by decide +kernel
theorem dL_law_2228 : decode cL_law 2228 = .ok (.iconst 0, 1) := by decide +kernel
theorem dL_law_2229 : decode cL_law 2229 = .ok (.ireturn, 1) := by decide +kernel
theorem dL_law_2230 : decode cL_law 2230 = .ok (.iload 5, 2) := by decide +kernel
theorem dL_law_2232 : decode cL_law 2232 = .ok (.ifCond .ne 15, 3) := by decide +kernel
theorem dL_law_2235 : decode cL_law 2235 = .ok (.aload_n 3, 1) := by decide +kernel
theorem dL_law_2236 : decode cL_law 2236 = .ok (.iconst 0, 1) := by decide +kernel
theorem dL_law_2237 : decode cL_law 2237 = .ok (.laload, 1) := by decide +kernel
theorem dL_law_2238 : decode cL_law 2238 = .ok (.iload 6, 2) := by decide +kernel
theorem dL_law_2240 : decode cL_law 2240 = .ok (.i2l, 1) := by decide +kernel
theorem dL_law_2241 : decode cL_law 2241 = .ok (.lcmp, 1) := by decide +kernel
theorem dL_law_2242 : decode cL_law 2242 = .ok (.ifCond .eq 5, 3) := by decide +kernel
theorem dL_law_2245 : decode cL_law 2245 = .ok (.iconst 0, 1) := by decide +kernel
theorem dL_law_2246 : decode cL_law 2246 = .ok (.ireturn, 1) := by decide +kernel
theorem dL_law_2247 : decode cL_law 2247 = .ok (.goto 1986, 3) := by decide +kernel
theorem dL_law_2250 : decode cL_law 2250 = .ok (.aload_n 1, 1) := by decide +kernel
theorem dL_law_2251 : decode cL_law 2251 = .ok (.aload_n 0, 1) := by decide +kernel
theorem dL_law_2252 : decode cL_law 2252 = .ok (.iload 4, 2) := by decide +kernel
theorem dL_law_2254 : decode cL_law 2254 = .ok (.iconst 1, 1) := by decide +kernel
theorem dL_law_2255 : decode cL_law 2255 = .ok (.iadd, 1) := by decide +kernel
theorem dL_law_2256 : decode cL_law 2256 = .ok (.iaload, 1) := by decide +kernel
theorem dL_law_2257 : decode cL_law 2257 = .ok (.aload_n 0, 1) := by decide +kernel
theorem dL_law_2258 : decode cL_law 2258 = .ok (.iload 4, 2) := by decide +kernel
theorem dL_law_2260 : decode cL_law 2260 = .ok (.iconst 2, 1) := by decide +kernel
theorem dL_law_2261 : decode cL_law 2261 = .ok (.iadd, 1) := by decide +kernel
theorem dL_law_2262 : decode cL_law 2262 = .ok (.iaload, 1) := by decide +kernel
theorem dL_law_2263 : decode cL_law 2263 = .ok (.aload_n 0, 1) := by decide +kernel
theorem dL_law_2264 : decode cL_law 2264 = .ok (.iload 4, 2) := by decide +kernel
theorem dL_law_2266 : decode cL_law 2266 = .ok (.iconst 3, 1) := by decide +kernel
theorem dL_law_2267 : decode cL_law 2267 = .ok (.iadd, 1) := by decide +kernel
theorem dL_law_2268 : decode cL_law 2268 = .ok (.iaload, 1) := by decide +kernel
theorem dL_law_2269 : decode cL_law 2269 = .ok (.aload_n 0, 1) := by decide +kernel
theorem dL_law_2270 : decode cL_law 2270 = .ok (.iload 4, 2) := by decide +kernel
theorem dL_law_2272 : decode cL_law 2272 = .ok (.iconst 4, 1) := by decide +kernel
theorem dL_law_2273 : decode cL_law 2273 = .ok (.iadd, 1) := by decide +kernel
theorem dL_law_2274 : decode cL_law 2274 = .ok (.iaload, 1) := by decide +kernel
theorem dL_law_2275 : decode cL_law 2275 = .ok (.aload_n 0, 1) := by decide +kernel
theorem dL_law_2276 : decode cL_law 2276 = .ok (.iload 4, 2) := by decide +kernel
theorem dL_law_2278 : decode cL_law 2278 = .ok (.iconst 5, 1) := by decide +kernel
theorem dL_law_2279 : decode cL_law 2279 = .ok (.iadd, 1) := by decide +kernel
theorem dL_law_2280 : decode cL_law 2280 = .ok (.iaload, 1) := by decide +kernel
theorem dL_law_2281 : decode cL_law 2281 = .ok (.aload_n 3, 1) := by decide +kernel
theorem dL_law_2282 : decode cL_law 2282 = .ok (.invokestatic 261, 3) := by decide +kernel
theorem dL_law_2285 : decode cL_law 2285 = .ok (.istore 5, 2) := by decide +kernel
theorem dL_law_2287 : decode cL_law 2287 = .ok (.aload_n 2, 1) := by decide +kernel
theorem dL_law_2288 : decode cL_law 2288 = .ok (.aload_n 0, 1) := by decide +kernel
theorem dL_law_2289 : decode cL_law 2289 = .ok (.iload 4, 2) := by decide +kernel
theorem dL_law_2291 : decode cL_law 2291 = .ok (.iconst 1, 1) := by decide +kernel
theorem dL_law_2292 : decode cL_law 2292 = .ok (.iadd, 1) := by decide +kernel
theorem dL_law_2293 : decode cL_law 2293 = .ok (.iaload, 1) := by decide +kernel
theorem dL_law_2294 : decode cL_law 2294 = .ok (.aload_n 0, 1) := by decide +kernel
theorem dL_law_2295 : decode cL_law 2295 = .ok (.iload 4, 2) := by decide +kernel
theorem dL_law_2297 : decode cL_law 2297 = .ok (.iconst 2, 1) := by decide +kernel
theorem dL_law_2298 : decode cL_law 2298 = .ok (.iadd, 1) := by decide +kernel
theorem dL_law_2299 : decode cL_law 2299 = .ok (.iaload, 1) := by decide +kernel
theorem dL_law_2300 : decode cL_law 2300 = .ok (.aload_n 0, 1) := by decide +kernel
theorem dL_law_2301 : decode cL_law 2301 = .ok (.iload 4, 2) := by decide +kernel
theorem dL_law_2303 : decode cL_law 2303 = .ok (.iconst 3, 1) := by decide +kernel
theorem dL_law_2304 : decode cL_law 2304 = .ok (.iadd, 1) := by decide +kernel
theorem dL_law_2305 : decode cL_law 2305 = .ok (.iaload, 1) := by decide +kernel
theorem dL_law_2306 : decode cL_law 2306 = .ok (.aload_n 0, 1) := by decide +kernel
theorem dL_law_2307 : decode cL_law 2307 = .ok (.iload 4, 2) := by decide +kernel
theorem dL_law_2309 : decode cL_law 2309 = .ok (.iconst 4, 1) := by decide +kernel
theorem dL_law_2310 : decode cL_law 2310 = .ok (.iadd, 1) := by decide +kernel
theorem dL_law_2311 : decode cL_law 2311 = .ok (.iaload, 1) := by decide +kernel
theorem dL_law_2312 : decode cL_law 2312 = .ok (.aload_n 0, 1) := by decide +kernel
theorem dL_law_2313 : decode cL_law 2313 = .ok (.iload 4, 2) := by decide +kernel
theorem dL_law_2315 : decode cL_law 2315 = .ok (.iconst 5, 1) := by decide +kernel
theorem dL_law_2316 : decode cL_law 2316 = .ok (.iadd, 1) := by decide +kernel
theorem dL_law_2317 : decode cL_law 2317 = .ok (.iaload, 1) := by decide +kernel
theorem dL_law_2318 : decode cL_law 2318 = .ok (.invokevirtual 264, 3) := by decide +kernel
theorem dL_law_2321 : decode cL_law 2321 = .ok (.lstore 6, 2) := by decide +kernel
theorem dL_law_2323 : decode cL_law 2323 = .ok (.aload_n 2, 1) := by decide +kernel
theorem dL_law_2324 : decode cL_law 2324 = .ok (.invokevirtual 177, 3) := by decide +kernel
theorem dL_law_2327 : decode cL_law 2327 = .ok (.iload 5, 2) := by decide +kernel
theorem dL_law_2329 : decode cL_law 2329 = .ok (.if_icmp .eq 5, 3) := by decide +kernel
theorem dL_law_2332 : decode cL_law 2332 = .ok (.iconst 0, 1) := by decide +kernel
theorem dL_law_2333 : decode cL_law 2333 = .ok (.ireturn, 1) := by decide +kernel
theorem dL_law_2334 : decode cL_law 2334 = .ok (.iload 5, 2) := by decide +kernel
theorem dL_law_2336 : decode cL_law 2336 = .ok (.ifCond .ne 14, 3) := by decide +kernel
theorem dL_law_2339 : decode cL_law 2339 = .ok (.aload_n 3, 1) := by decide +kernel
theorem dL_law_2340 : decode cL_law 2340 = .ok (.iconst 0, 1) := by decide +kernel
theorem dL_law_2341 : decode cL_law 2341 = .ok (.laload, 1) := by decide +kernel
theorem dL_law_2342 : decode cL_law 2342 = .ok (.lload 6, 2) := by decide +kernel
theorem dL_law_2344 : decode cL_law 2344 = .ok (.lcmp, 1) := by decide +kernel
theorem dL_law_2345 : decode cL_law 2345 = .ok (.ifCond .eq 5, 3) := by decide +kernel
theorem dL_law_2348 : decode cL_law 2348 = .ok (.iconst 0, 1) := by decide +kernel
theorem dL_law_2349 : decode cL_law 2349 = .ok (.ireturn, 1) := by decide +kernel
theorem dL_law_2350 : decode cL_law 2350 = .ok (.goto 1883, 3) := by decide +kernel
theorem dL_law_2353 : decode cL_law 2353 = .ok (.aload_n 1, 1) := by decide +kernel
theorem dL_law_2354 : decode cL_law 2354 = .ok (.aload_n 0, 1) := by decide +kernel
theorem dL_law_2355 : decode cL_law 2355 = .ok (.iload 4, 2) := by decide +kernel
theorem dL_law_2357 : decode cL_law 2357 = .ok (.iconst 1, 1) := by decide +kernel
theorem dL_law_2358 : decode cL_law 2358 = .ok (.iadd, 1) := by decide +kernel
theorem dL_law_2359 : decode cL_law 2359 = .ok (.iaload, 1) := by decide +kernel
theorem dL_law_2360 : decode cL_law 2360 = .ok (.aload_n 0, 1) := by decide +kernel
theorem dL_law_2361 : decode cL_law 2361 = .ok (.iload 4, 2) := by decide +kernel
theorem dL_law_2363 : decode cL_law 2363 = .ok (.iconst 2, 1) := by decide +kernel
theorem dL_law_2364 : decode cL_law 2364 = .ok (.iadd, 1) := by decide +kernel
theorem dL_law_2365 : decode cL_law 2365 = .ok (.iaload, 1) := by decide +kernel
theorem dL_law_2366 : decode cL_law 2366 = .ok (.i2l, 1) := by decide +kernel
theorem dL_law_2367 : decode cL_law 2367 = .ok (.bipush 32, 2) := by decide +kernel
theorem dL_law_2369 : decode cL_law 2369 = .ok (.lshl, 1) := by decide +kernel
theorem dL_law_2370 : decode cL_law 2370 = .ok (.aload_n 0, 1) := by decide +kernel
theorem dL_law_2371 : decode cL_law 2371 = .ok (.iload 4, 2) := by decide +kernel
theorem dL_law_2373 : decode cL_law 2373 = .ok (.iconst 3, 1) := by decide +kernel
theorem dL_law_2374 : decode cL_law 2374 = .ok (.iadd, 1) := by decide +kernel
theorem dL_law_2375 : decode cL_law 2375 = .ok (.iaload, 1) := by decide +kernel
theorem dL_law_2376 : decode cL_law 2376 = .ok (.i2l, 1) := by decide +kernel
theorem dL_law_2377 : decode cL_law 2377 = .ok (.ldc2_w 181, 3) := by decide +kernel
theorem dL_law_2380 : decode cL_law 2380 = .ok (.land, 1) := by decide +kernel
theorem dL_law_2381 : decode cL_law 2381 = .ok (.lor, 1) := by decide +kernel
theorem dL_law_2382 : decode cL_law 2382 = .ok (.aload_n 3, 1) := by decide +kernel
theorem dL_law_2383 : decode cL_law 2383 = .ok (.invokestatic 265, 3) := by decide +kernel
theorem dL_law_2386 : decode cL_law 2386 = .ok (.istore 5, 2) := by decide +kernel
theorem dL_law_2388 : decode cL_law 2388 = .ok (.aload_n 2, 1) := by decide +kernel
theorem dL_law_2389 : decode cL_law 2389 = .ok (.aload_n 0, 1) := by decide +kernel
theorem dL_law_2390 : decode cL_law 2390 = .ok (.iload 4, 2) := by decide +kernel
theorem dL_law_2392 : decode cL_law 2392 = .ok (.iconst 1, 1) := by decide +kernel
theorem dL_law_2393 : decode cL_law 2393 = .ok (.iadd, 1) := by decide +kernel
theorem dL_law_2394 : decode cL_law 2394 = .ok (.iaload, 1) := by decide +kernel
theorem dL_law_2395 : decode cL_law 2395 = .ok (.aload_n 0, 1) := by decide +kernel
theorem dL_law_2396 : decode cL_law 2396 = .ok (.iload 4, 2) := by decide +kernel
theorem dL_law_2398 : decode cL_law 2398 = .ok (.iconst 2, 1) := by decide +kernel
theorem dL_law_2399 : decode cL_law 2399 = .ok (.iadd, 1) := by decide +kernel
theorem dL_law_2400 : decode cL_law 2400 = .ok (.iaload, 1) := by decide +kernel
theorem dL_law_2401 : decode cL_law 2401 = .ok (.i2l, 1) := by decide +kernel
theorem dL_law_2402 : decode cL_law 2402 = .ok (.bipush 32, 2) := by decide +kernel
theorem dL_law_2404 : decode cL_law 2404 = .ok (.lshl, 1) := by decide +kernel
theorem dL_law_2405 : decode cL_law 2405 = .ok (.aload_n 0, 1) := by decide +kernel
theorem dL_law_2406 : decode cL_law 2406 = .ok (.iload 4, 2) := by decide +kernel
theorem dL_law_2408 : decode cL_law 2408 = .ok (.iconst 3, 1) := by decide +kernel
theorem dL_law_2409 : decode cL_law 2409 = .ok (.iadd, 1) := by decide +kernel
theorem dL_law_2410 : decode cL_law 2410 = .ok (.iaload, 1) := by decide +kernel
theorem dL_law_2411 : decode cL_law 2411 = .ok (.i2l, 1) := by decide +kernel
theorem dL_law_2412 : decode cL_law 2412 = .ok (.ldc2_w 181, 3) := by decide +kernel
theorem dL_law_2415 : decode cL_law 2415 = .ok (.land, 1) := by decide +kernel
theorem dL_law_2416 : decode cL_law 2416 = .ok (.lor, 1) := by decide +kernel
theorem dL_law_2417 : decode cL_law 2417 = .ok (.invokevirtual 267, 3) := by decide +kernel
theorem dL_law_2420 : decode cL_law 2420 = .ok (.istore 6, 2) := by decide +kernel
theorem dL_law_2422 : decode cL_law 2422 = .ok (.aload_n 2, 1) := by decide +kernel
theorem dL_law_2423 : decode cL_law 2423 = .ok (.invokevirtual 177, 3) := by decide +kernel
theorem dL_law_2426 : decode cL_law 2426 = .ok (.iload 5, 2) := by decide +kernel
theorem dL_law_2428 : decode cL_law 2428 = .ok (.if_icmp .eq 5, 3) := by decide +kernel
theorem dL_law_2431 : decode cL_law 2431 = .ok (.iconst 0, 1) := by decide +kernel
theorem dL_law_2432 : decode cL_law 2432 = .ok (.ireturn, 1) := by decide +kernel
theorem dL_law_2433 : decode cL_law 2433 = .ok (.iload 5, 2) := by decide +kernel
theorem dL_law_2435 : decode cL_law 2435 = .ok (.ifCond .ne 15, 3) := by decide +kernel
theorem dL_law_2438 : decode cL_law 2438 = .ok (.aload_n 3, 1) := by decide +kernel
theorem dL_law_2439 : decode cL_law 2439 = .ok (.iconst 0, 1) := by decide +kernel
theorem dL_law_2440 : decode cL_law 2440 = .ok (.laload, 1) := by decide +kernel
theorem dL_law_2441 : decode cL_law 2441 = .ok (.iload 6, 2) := by decide +kernel
theorem dL_law_2443 : decode cL_law 2443 = .ok (.i2l, 1) := by decide +kernel
theorem dL_law_2444 : decode cL_law 2444 = .ok (.lcmp, 1) := by decide +kernel
theorem dL_law_2445 : decode cL_law 2445 = .ok (.ifCond .eq 5, 3) := by decide +kernel
theorem dL_law_2448 : decode cL_law 2448 = .ok (.iconst 0, 1) := by decide +kernel
theorem dL_law_2449 : decode cL_law 2449 = .ok (.ireturn, 1) := by decide +kernel
theorem dL_law_2450 : decode cL_law 2450 = .ok (.goto 1783, 3) := by decide +kernel
theorem dL_law_2453 : decode cL_law 2453 = .ok (.aload_n 1, 1) := by decide +kernel
theorem dL_law_2454 : decode cL_law 2454 = .ok (.aload_n 0, 1) := by decide +kernel
theorem dL_law_2455 : decode cL_law 2455 = .ok (.iload 4, 2) := by decide +kernel
theorem dL_law_2457 : decode cL_law 2457 = .ok (.iconst 1, 1) := by decide +kernel
theorem dL_law_2458 : decode cL_law 2458 = .ok (.iadd, 1) := by decide +kernel
theorem dL_law_2459 : decode cL_law 2459 = .ok (.iaload, 1) := by decide +kernel
theorem dL_law_2460 : decode cL_law 2460 = .ok (.aload_n 0, 1) := by decide +kernel
theorem dL_law_2461 : decode cL_law 2461 = .ok (.iload 4, 2) := by decide +kernel
theorem dL_law_2463 : decode cL_law 2463 = .ok (.iconst 2, 1) := by decide +kernel
theorem dL_law_2464 : decode cL_law 2464 = .ok (.iadd, 1) := by decide +kernel
theorem dL_law_2465 : decode cL_law 2465 = .ok (.iaload, 1) := by decide +kernel
theorem dL_law_2466 : decode cL_law 2466 = .ok (.i2c, 1) := by decide +kernel
theorem dL_law_2467 : decode cL_law 2467 = .ok (.aload_n 3, 1) := by decide +kernel
theorem dL_law_2468 : decode cL_law 2468 = .ok (.invokestatic 268, 3) := by decide +kernel
theorem dL_law_2471 : decode cL_law 2471 = .ok (.istore 5, 2) := by decide +kernel
theorem dL_law_2473 : decode cL_law 2473 = .ok (.aload_n 2, 1) := by decide +kernel
theorem dL_law_2474 : decode cL_law 2474 = .ok (.aload_n 0, 1) := by decide +kernel
theorem dL_law_2475 : decode cL_law 2475 = .ok (.iload 4, 2) := by decide +kernel
theorem dL_law_2477 : decode cL_law 2477 = .ok (.iconst 1, 1) := by decide +kernel
theorem dL_law_2478 : decode cL_law 2478 = .ok (.iadd, 1) := by decide +kernel
theorem dL_law_2479 : decode cL_law 2479 = .ok (.iaload, 1) := by decide +kernel
theorem dL_law_2480 : decode cL_law 2480 = .ok (.aload_n 0, 1) := by decide +kernel
theorem dL_law_2481 : decode cL_law 2481 = .ok (.iload 4, 2) := by decide +kernel
theorem dL_law_2483 : decode cL_law 2483 = .ok (.iconst 2, 1) := by decide +kernel
theorem dL_law_2484 : decode cL_law 2484 = .ok (.iadd, 1) := by decide +kernel
theorem dL_law_2485 : decode cL_law 2485 = .ok (.iaload, 1) := by decide +kernel
theorem dL_law_2486 : decode cL_law 2486 = .ok (.i2c, 1) := by decide +kernel
theorem dL_law_2487 : decode cL_law 2487 = .ok (.invokevirtual 270, 3) := by decide +kernel
theorem dL_law_2490 : decode cL_law 2490 = .ok (.istore 6, 2) := by decide +kernel
theorem dL_law_2492 : decode cL_law 2492 = .ok (.aload_n 2, 1) := by decide +kernel
theorem dL_law_2493 : decode cL_law 2493 = .ok (.invokevirtual 177, 3) := by decide +kernel
theorem dL_law_2496 : decode cL_law 2496 = .ok (.iload 5, 2) := by decide +kernel
theorem dL_law_2498 : decode cL_law 2498 = .ok (.if_icmp .eq 5, 3) := by decide +kernel
theorem dL_law_2501 : decode cL_law 2501 = .ok (.iconst 0, 1) := by decide +kernel
theorem dL_law_2502 : decode cL_law 2502 = .ok (.ireturn, 1) := by decide +kernel
theorem dL_law_2503 : decode cL_law 2503 = .ok (.iload 5, 2) := by decide +kernel
theorem dL_law_2505 : decode cL_law 2505 = .ok (.ifCond .ne 15, 3) := by decide +kernel
theorem dL_law_2508 : decode cL_law 2508 = .ok (.aload_n 3, 1) := by decide +kernel
theorem dL_law_2509 : decode cL_law 2509 = .ok (.iconst 0, 1) := by decide +kernel
theorem dL_law_2510 : decode cL_law 2510 = .ok (.laload, 1) := by decide +kernel
theorem dL_law_2511 : decode cL_law 2511 = .ok (.iload 6, 2) := by decide +kernel
theorem dL_law_2513 : decode cL_law 2513 = .ok (.i2l, 1) := by decide +kernel
theorem dL_law_2514 : decode cL_law 2514 = .ok (.lcmp, 1) := by decide +kernel
theorem dL_law_2515 : decode cL_law 2515 = .ok (.ifCond .eq 5, 3) := by decide +kernel
theorem dL_law_2518 : decode cL_law 2518 = .ok (.iconst 0, 1) := by decide +kernel
theorem dL_law_2519 : decode cL_law 2519 = .ok (.ireturn, 1) := by decide +kernel
theorem dL_law_2520 : decode cL_law 2520 = .ok (.goto 1713, 3) := by decide +kernel
theorem dL_law_2523 : decode cL_law 2523 = .ok (.aload_n 1, 1) := by decide +kernel
theorem dL_law_2524 : decode cL_law 2524 = .ok (.aload_n 0, 1) := by decide +kernel
theorem dL_law_2525 : decode cL_law 2525 = .ok (.iload 4, 2) := by decide +kernel
theorem dL_law_2527 : decode cL_law 2527 = .ok (.iconst 1, 1) := by decide +kernel
theorem dL_law_2528 : decode cL_law 2528 = .ok (.iadd, 1) := by decide +kernel
theorem dL_law_2529 : decode cL_law 2529 = .ok (.iaload, 1) := by decide +kernel
theorem dL_law_2530 : decode cL_law 2530 = .ok (.aload_n 0, 1) := by decide +kernel
theorem dL_law_2531 : decode cL_law 2531 = .ok (.iload 4, 2) := by decide +kernel
theorem dL_law_2533 : decode cL_law 2533 = .ok (.iconst 2, 1) := by decide +kernel
theorem dL_law_2534 : decode cL_law 2534 = .ok (.iadd, 1) := by decide +kernel
theorem dL_law_2535 : decode cL_law 2535 = .ok (.iaload, 1) := by decide +kernel
theorem dL_law_2536 : decode cL_law 2536 = .ok (.i2c, 1) := by decide +kernel
theorem dL_law_2537 : decode cL_law 2537 = .ok (.aload_n 0, 1) := by decide +kernel
theorem dL_law_2538 : decode cL_law 2538 = .ok (.iload 4, 2) := by decide +kernel
theorem dL_law_2540 : decode cL_law 2540 = .ok (.iconst 3, 1) := by decide +kernel
theorem dL_law_2541 : decode cL_law 2541 = .ok (.iadd, 1) := by decide +kernel
theorem dL_law_2542 : decode cL_law 2542 = .ok (.iaload, 1) := by decide +kernel
theorem dL_law_2543 : decode cL_law 2543 = .ok (.i2l, 1) := by decide +kernel
theorem dL_law_2544 : decode cL_law 2544 = .ok (.bipush 32, 2) := by decide +kernel
theorem dL_law_2546 : decode cL_law 2546 = .ok (.lshl, 1) := by decide +kernel
theorem dL_law_2547 : decode cL_law 2547 = .ok (.aload_n 0, 1) := by decide +kernel
theorem dL_law_2548 : decode cL_law 2548 = .ok (.iload 4, 2) := by decide +kernel
theorem dL_law_2550 : decode cL_law 2550 = .ok (.iconst 4, 1) := by decide +kernel
theorem dL_law_2551 : decode cL_law 2551 = .ok (.iadd, 1) := by decide +kernel
theorem dL_law_2552 : decode cL_law 2552 = .ok (.iaload, 1) := by decide +kernel
theorem dL_law_2553 : decode cL_law 2553 = .ok (.i2l, 1) := by decide +kernel
theorem dL_law_2554 : decode cL_law 2554 = .ok (.ldc2_w 181, 3) := by decide +kernel
theorem dL_law_2557 : decode cL_law 2557 = .ok (.land, 1) := by decide +kernel
theorem dL_law_2558 : decode cL_law 2558 = .ok (.lor, 1) := by decide +kernel
theorem dL_law_2559 : decode cL_law 2559 = .ok (.aload_n 0, 1) := by decide +kernel
theorem dL_law_2560 : decode cL_law 2560 = .ok (.iload 4, 2) := by decide +kernel
theorem dL_law_2562 : decode cL_law 2562 = .ok (.iconst 5, 1) := by decide +kernel
theorem dL_law_2563 : decode cL_law 2563 = .ok (.iadd, 1) := by decide +kernel
theorem dL_law_2564 : decode cL_law 2564 = .ok (.iaload, 1) := by decide +kernel
theorem dL_law_2565 : decode cL_law 2565 = .ok (.aload_n 3, 1) := by decide +kernel
theorem dL_law_2566 : decode cL_law 2566 = .ok (.invokestatic 271, 3) := by decide +kernel
theorem dL_law_2569 : decode cL_law 2569 = .ok (.istore 5, 2) := by decide +kernel
theorem dL_law_2571 : decode cL_law 2571 = .ok (.aload_n 2, 1) := by decide +kernel
theorem dL_law_2572 : decode cL_law 2572 = .ok (.aload_n 0, 1) := by decide +kernel
theorem dL_law_2573 : decode cL_law 2573 = .ok (.iload 4, 2) := by decide +kernel
theorem dL_law_2575 : decode cL_law 2575 = .ok (.iconst 1, 1) := by decide +kernel
theorem dL_law_2576 : decode cL_law 2576 = .ok (.iadd, 1) := by decide +kernel
theorem dL_law_2577 : decode cL_law 2577 = .ok (.iaload, 1) := by decide +kernel
theorem dL_law_2578 : decode cL_law 2578 = .ok (.aload_n 0, 1) := by decide +kernel
theorem dL_law_2579 : decode cL_law 2579 = .ok (.iload 4, 2) := by decide +kernel
theorem dL_law_2581 : decode cL_law 2581 = .ok (.iconst 2, 1) := by decide +kernel
theorem dL_law_2582 : decode cL_law 2582 = .ok (.iadd, 1) := by decide +kernel
theorem dL_law_2583 : decode cL_law 2583 = .ok (.iaload, 1) := by decide +kernel
theorem dL_law_2584 : decode cL_law 2584 = .ok (.i2c, 1) := by decide +kernel
theorem dL_law_2585 : decode cL_law 2585 = .ok (.aload_n 0, 1) := by decide +kernel
theorem dL_law_2586 : decode cL_law 2586 = .ok (.iload 4, 2) := by decide +kernel
theorem dL_law_2588 : decode cL_law 2588 = .ok (.iconst 3, 1) := by decide +kernel
theorem dL_law_2589 : decode cL_law 2589 = .ok (.iadd, 1) := by decide +kernel
theorem dL_law_2590 : decode cL_law 2590 = .ok (.iaload, 1) := by decide +kernel
theorem dL_law_2591 : decode cL_law 2591 = .ok (.i2l, 1) := by decide +kernel
theorem dL_law_2592 : decode cL_law 2592 = .ok (.bipush 32, 2) := by decide +kernel
theorem dL_law_2594 : decode cL_law 2594 = .ok (.lshl, 1) := by decide +kernel
theorem dL_law_2595 : decode cL_law 2595 = .ok (.aload_n 0, 1) := by decide +kernel
theorem dL_law_2596 : decode cL_law 2596 = .ok (.iload 4, 2) := by decide +kernel
theorem dL_law_2598 : decode cL_law 2598 = .ok (.iconst 4, 1) := by decide +kernel
theorem dL_law_2599 : decode cL_law 2599 = .ok (.iadd, 1) := by decide +kernel
theorem dL_law_2600 : decode cL_law 2600 = .ok (.iaload, 1) := by decide +kernel
theorem dL_law_2601 : decode cL_law 2601 = .ok (.i2l, 1) := by decide +kernel
theorem dL_law_2602 : decode cL_law 2602 = .ok (.ldc2_w 181, 3) := by decide +kernel
theorem dL_law_2605 : decode cL_law 2605 = .ok (.land, 1) := by decide +kernel
theorem dL_law_2606 : decode cL_law 2606 = .ok (.lor, 1) := by decide +kernel
theorem dL_law_2607 : decode cL_law 2607 = .ok (.aload_n 0, 1) := by decide +kernel
theorem dL_law_2608 : decode cL_law 2608 = .ok (.iload 4, 2) := by decide +kernel
theorem dL_law_2610 : decode cL_law 2610 = .ok (.iconst 5, 1) := by decide +kernel
theorem dL_law_2611 : decode cL_law 2611 = .ok (.iadd, 1) := by decide +kernel
theorem dL_law_2612 : decode cL_law 2612 = .ok (.iaload, 1) := by decide +kernel
theorem dL_law_2613 : decode cL_law 2613 = .ok (.invokevirtual 274, 3) := by decide +kernel
theorem dL_law_2616 : decode cL_law 2616 = .ok (.lstore 6, 2) := by decide +kernel
theorem dL_law_2618 : decode cL_law 2618 = .ok (.aload_n 2, 1) := by decide +kernel
theorem dL_law_2619 : decode cL_law 2619 = .ok (.invokevirtual 177, 3) := by decide +kernel
theorem dL_law_2622 : decode cL_law 2622 = .ok (.iload 5, 2) := by decide +kernel
theorem dL_law_2624 : decode cL_law 2624 = .ok (.if_icmp .eq 5, 3) := by decide +kernel
theorem dL_law_2627 : decode cL_law 2627 = .ok (.iconst 0, 1) := by decide +kernel
theorem dL_law_2628 : decode cL_law 2628 = .ok (.ireturn, 1) := by decide +kernel
theorem dL_law_2629 : decode cL_law 2629 = .ok (.iload 5, 2) := by decide +kernel
theorem dL_law_2631 : decode cL_law 2631 = .ok (.ifCond .ne 14, 3) := by decide +kernel
theorem dL_law_2634 : decode cL_law 2634 = .ok (.aload_n 3, 1) := by decide +kernel
theorem dL_law_2635 : decode cL_law 2635 = .ok (.iconst 0, 1) := by decide +kernel
theorem dL_law_2636 : decode cL_law 2636 = .ok (.laload, 1) := by decide +kernel
theorem dL_law_2637 : decode cL_law 2637 = .ok (.lload 6, 2) := by decide +kernel
theorem dL_law_2639 : decode cL_law 2639 = .ok (.lcmp, 1) := by decide +kernel
theorem dL_law_2640 : decode cL_law 2640 = .ok (.ifCond .eq 5, 3) := by decide +kernel
theorem dL_law_2643 : decode cL_law 2643 = .ok (.iconst 0, 1) := by decide +kernel
theorem dL_law_2644 : decode cL_law 2644 = .ok (.ireturn, 1) := by decide +kernel
theorem dL_law_2645 : decode cL_law 2645 = .ok (.goto 1588, 3) := by decide +kernel
theorem dL_law_2648 : decode cL_law 2648 = .ok (.aload_n 1, 1) := by decide +kernel
theorem dL_law_2649 : decode cL_law 2649 = .ok (.aload_n 0, 1) := by decide +kernel
theorem dL_law_2650 : decode cL_law 2650 = .ok (.iload 4, 2) := by decide +kernel
theorem dL_law_2652 : decode cL_law 2652 = .ok (.iconst 1, 1) := by decide +kernel
theorem dL_law_2653 : decode cL_law 2653 = .ok (.iadd, 1) := by decide +kernel
theorem dL_law_2654 : decode cL_law 2654 = .ok (.iaload, 1) := by decide +kernel
theorem dL_law_2655 : decode cL_law 2655 = .ok (.aload_n 0, 1) := by decide +kernel
theorem dL_law_2656 : decode cL_law 2656 = .ok (.iload 4, 2) := by decide +kernel
theorem dL_law_2658 : decode cL_law 2658 = .ok (.iconst 2, 1) := by decide +kernel
theorem dL_law_2659 : decode cL_law 2659 = .ok (.iadd, 1) := by decide +kernel
theorem dL_law_2660 : decode cL_law 2660 = .ok (.iaload, 1) := by decide +kernel
theorem dL_law_2661 : decode cL_law 2661 = .ok (.i2c, 1) := by decide +kernel
theorem dL_law_2662 : decode cL_law 2662 = .ok (.aload_n 0, 1) := by decide +kernel
theorem dL_law_2663 : decode cL_law 2663 = .ok (.iload 4, 2) := by decide +kernel
theorem dL_law_2665 : decode cL_law 2665 = .ok (.iconst 3, 1) := by decide +kernel
theorem dL_law_2666 : decode cL_law 2666 = .ok (.iadd, 1) := by decide +kernel
theorem dL_law_2667 : decode cL_law 2667 = .ok (.iaload, 1) := by decide +kernel
theorem dL_law_2668 : decode cL_law 2668 = .ok (.aload_n 3, 1) := by decide +kernel
theorem dL_law_2669 : decode cL_law 2669 = .ok (.invokestatic 275, 3) := by decide +kernel
theorem dL_law_2672 : decode cL_law 2672 = .ok (.istore 5, 2) := by decide +kernel
theorem dL_law_2674 : decode cL_law 2674 = .ok (.aload_n 2, 1) := by decide +kernel
theorem dL_law_2675 : decode cL_law 2675 = .ok (.aload_n 0, 1) := by decide +kernel
theorem dL_law_2676 : decode cL_law 2676 = .ok (.iload 4, 2) := by decide +kernel
theorem dL_law_2678 : decode cL_law 2678 = .ok (.iconst 1, 1) := by decide +kernel
theorem dL_law_2679 : decode cL_law 2679 = .ok (.iadd, 1) := by decide +kernel
theorem dL_law_2680 : decode cL_law 2680 = .ok (.iaload, 1) := by decide +kernel
theorem dL_law_2681 : decode cL_law 2681 = .ok (.aload_n 0, 1) := by decide +kernel
theorem dL_law_2682 : decode cL_law 2682 = .ok (.iload 4, 2) := by decide +kernel
theorem dL_law_2684 : decode cL_law 2684 = .ok (.iconst 2, 1) := by decide +kernel
theorem dL_law_2685 : decode cL_law 2685 = .ok (.iadd, 1) := by decide +kernel
theorem dL_law_2686 : decode cL_law 2686 = .ok (.iaload, 1) := by decide +kernel
theorem dL_law_2687 : decode cL_law 2687 = .ok (.i2c, 1) := by decide +kernel
theorem dL_law_2688 : decode cL_law 2688 = .ok (.aload_n 0, 1) := by decide +kernel
theorem dL_law_2689 : decode cL_law 2689 = .ok (.iload 4, 2) := by decide +kernel
theorem dL_law_2691 : decode cL_law 2691 = .ok (.iconst 3, 1) := by decide +kernel
theorem dL_law_2692 : decode cL_law 2692 = .ok (.iadd, 1) := by decide +kernel
theorem dL_law_2693 : decode cL_law 2693 = .ok (.iaload, 1) := by decide +kernel
theorem dL_law_2694 : decode cL_law 2694 = .ok (.invokevirtual 277, 3) := by decide +kernel
theorem dL_law_2697 : decode cL_law 2697 = .ok (.lstore 6, 2) := by decide +kernel
theorem dL_law_2699 : decode cL_law 2699 = .ok (.aload_n 2, 1) := by decide +kernel
theorem dL_law_2700 : decode cL_law 2700 = .ok (.invokevirtual 177, 3) := by decide +kernel
theorem dL_law_2703 : decode cL_law 2703 = .ok (.iload 5, 2) := by decide +kernel
theorem dL_law_2705 : decode cL_law 2705 = .ok (.if_icmp .eq 5, 3) := by decide +kernel
theorem dL_law_2708 : decode cL_law 2708 = .ok (.iconst 0, 1) := by decide +kernel
theorem dL_law_2709 : decode cL_law 2709 = .ok (.ireturn, 1) := by decide +kernel
theorem dL_law_2710 : decode cL_law 2710 = .ok (.iload 5, 2) := by decide +kernel
theorem dL_law_2712 : decode cL_law 2712 = .ok (.ifCond .ne 14, 3) := by decide +kernel
theorem dL_law_2715 : decode cL_law 2715 = .ok (.aload_n 3, 1) := by decide +kernel
theorem dL_law_2716 : decode cL_law 2716 = .ok (.iconst 0, 1) := by decide +kernel
theorem dL_law_2717 : decode cL_law 2717 = .ok (.laload, 1) := by decide +kernel
theorem dL_law_2718 : decode cL_law 2718 = .ok (.lload 6, 2) := by decide +kernel
theorem dL_law_2720 : decode cL_law 2720 = .ok (.lcmp, 1) := by decide +kernel
theorem dL_law_2721 : decode cL_law 2721 = .ok (.ifCond .eq 5, 3) := by decide +kernel
theorem dL_law_2724 : decode cL_law 2724 = .ok (.iconst 0, 1) := by decide +kernel
theorem dL_law_2725 : decode cL_law 2725 = .ok (.ireturn, 1) := by decide +kernel
theorem dL_law_2726 : decode cL_law 2726 = .ok (.goto 1507, 3) := by decide +kernel
theorem dL_law_2729 : decode cL_law 2729 = .ok (.aload_n 1, 1) := by decide +kernel
theorem dL_law_2730 : decode cL_law 2730 = .ok (.aload_n 0, 1) := by decide +kernel
theorem dL_law_2731 : decode cL_law 2731 = .ok (.iload 4, 2) := by decide +kernel
theorem dL_law_2733 : decode cL_law 2733 = .ok (.iconst 1, 1) := by decide +kernel
theorem dL_law_2734 : decode cL_law 2734 = .ok (.iadd, 1) := by decide +kernel
theorem dL_law_2735 : decode cL_law 2735 = .ok (.iaload, 1) := by decide +kernel
theorem dL_law_2736 : decode cL_law 2736 = .ok (.aload_n 0, 1) := by decide +kernel
theorem dL_law_2737 : decode cL_law 2737 = .ok (.iload 4, 2) := by decide +kernel
theorem dL_law_2739 : decode cL_law 2739 = .ok (.iconst 2, 1) := by decide +kernel
theorem dL_law_2740 : decode cL_law 2740 = .ok (.iadd, 1) := by decide +kernel
theorem dL_law_2741 : decode cL_law 2741 = .ok (.iaload, 1) := by decide +kernel
theorem dL_law_2742 : decode cL_law 2742 = .ok (.aload_n 0, 1) := by decide +kernel
theorem dL_law_2743 : decode cL_law 2743 = .ok (.iload 4, 2) := by decide +kernel
theorem dL_law_2745 : decode cL_law 2745 = .ok (.iconst 3, 1) := by decide +kernel
theorem dL_law_2746 : decode cL_law 2746 = .ok (.iadd, 1) := by decide +kernel
theorem dL_law_2747 : decode cL_law 2747 = .ok (.iaload, 1) := by decide +kernel
theorem dL_law_2748 : decode cL_law 2748 = .ok (.ifCond .eq 7, 3) := by decide +kernel
theorem dL_law_2751 : decode cL_law 2751 = .ok (.iconst 1, 1) := by decide +kernel
theorem dL_law_2752 : decode cL_law 2752 = .ok (.goto 4, 3) := by decide +kernel
theorem dL_law_2755 : decode cL_law 2755 = .ok (.iconst 0, 1) := by decide +kernel
theorem dL_law_2756 : decode cL_law 2756 = .ok (.aload_n 0, 1) := by decide +kernel
theorem dL_law_2757 : decode cL_law 2757 = .ok (.iload 4, 2) := by decide +kernel
theorem dL_law_2759 : decode cL_law 2759 = .ok (.iconst 4, 1) := by decide +kernel
theorem dL_law_2760 : decode cL_law 2760 = .ok (.iadd, 1) := by decide +kernel
theorem dL_law_2761 : decode cL_law 2761 = .ok (.iaload, 1) := by decide +kernel
theorem dL_law_2762 : decode cL_law 2762 = .ok (.aload_n 3, 1) := by decide +kernel
theorem dL_law_2763 : decode cL_law 2763 = .ok (.invokestatic 278, 3) := by decide +kernel
theorem dL_law_2766 : decode cL_law 2766 = .ok (.istore 5, 2) := by decide +kernel
theorem dL_law_2768 : decode cL_law 2768 = .ok (.aload_n 2, 1) := by decide +kernel
theorem dL_law_2769 : decode cL_law 2769 = .ok (.aload_n 0, 1) := by decide +kernel
theorem dL_law_2770 : decode cL_law 2770 = .ok (.iload 4, 2) := by decide +kernel
theorem dL_law_2772 : decode cL_law 2772 = .ok (.iconst 1, 1) := by decide +kernel
theorem dL_law_2773 : decode cL_law 2773 = .ok (.iadd, 1) := by decide +kernel
theorem dL_law_2774 : decode cL_law 2774 = .ok (.iaload, 1) := by decide +kernel
theorem dL_law_2775 : decode cL_law 2775 = .ok (.aload_n 0, 1) := by decide +kernel
theorem dL_law_2776 : decode cL_law 2776 = .ok (.iload 4, 2) := by decide +kernel
theorem dL_law_2778 : decode cL_law 2778 = .ok (.iconst 2, 1) := by decide +kernel
theorem dL_law_2779 : decode cL_law 2779 = .ok (.iadd, 1) := by decide +kernel
theorem dL_law_2780 : decode cL_law 2780 = .ok (.iaload, 1) := by decide +kernel
theorem dL_law_2781 : decode cL_law 2781 = .ok (.aload_n 0, 1) := by decide +kernel
theorem dL_law_2782 : decode cL_law 2782 = .ok (.iload 4, 2) := by decide +kernel
theorem dL_law_2784 : decode cL_law 2784 = .ok (.iconst 3, 1) := by decide +kernel
theorem dL_law_2785 : decode cL_law 2785 = .ok (.iadd, 1) := by decide +kernel
theorem dL_law_2786 : decode cL_law 2786 = .ok (.iaload, 1) := by decide +kernel
theorem dL_law_2787 : decode cL_law 2787 = .ok (.ifCond .eq 7, 3) := by decide +kernel
theorem dL_law_2790 : decode cL_law 2790 = .ok (.iconst 1, 1) := by decide +kernel
theorem dL_law_2791 : decode cL_law 2791 = .ok (.goto 4, 3) := by decide +kernel
theorem dL_law_2794 : decode cL_law 2794 = .ok (.iconst 0, 1) := by decide +kernel
theorem dL_law_2795 : decode cL_law 2795 = .ok (.aload_n 0, 1) := by decide +kernel
theorem dL_law_2796 : decode cL_law 2796 = .ok (.iload 4, 2) := by decide +kernel
theorem dL_law_2798 : decode cL_law 2798 = .ok (.iconst 4, 1) := by decide +kernel
theorem dL_law_2799 : decode cL_law 2799 = .ok (.iadd, 1) := by decide +kernel
theorem dL_law_2800 : decode cL_law 2800 = .ok (.iaload, 1) := by decide +kernel
theorem dL_law_2801 : decode cL_law 2801 = .ok (.invokevirtual 280, 3) := by decide +kernel
theorem dL_law_2804 : decode cL_law 2804 = .ok (.lstore 6, 2) := by decide +kernel
theorem dL_law_2806 : decode cL_law 2806 = .ok (.aload_n 2, 1) := by decide +kernel
theorem dL_law_2807 : decode cL_law 2807 = .ok (.invokevirtual 177, 3) := by decide +kernel
theorem dL_law_2810 : decode cL_law 2810 = .ok (.iload 5, 2) := by decide +kernel
theorem dL_law_2812 : decode cL_law 2812 = .ok (.if_icmp .eq 5, 3) := by decide +kernel
theorem dL_law_2815 : decode cL_law 2815 = .ok (.iconst 0, 1) := by decide +kernel
theorem dL_law_2816 : decode cL_law 2816 = .ok (.ireturn, 1) := by decide +kernel
theorem dL_law_2817 : decode cL_law 2817 = .ok (.iload 5, 2) := by decide +kernel
theorem dL_law_2819 : decode cL_law 2819 = .ok (.ifCond .ne 14, 3) := by decide +kernel
theorem dL_law_2822 : decode cL_law 2822 = .ok (.aload_n 3, 1) := by decide +kernel
theorem dL_law_2823 : decode cL_law 2823 = .ok (.iconst 0, 1) := by decide +kernel
theorem dL_law_2824 : decode cL_law 2824 = .ok (.laload, 1) := by decide +kernel
theorem dL_law_2825 : decode cL_law 2825 = .ok (.lload 6, 2) := by decide +kernel
theorem dL_law_2827 : decode cL_law 2827 = .ok (.lcmp, 1) := by decide +kernel
theorem dL_law_2828 : decode cL_law 2828 = .ok (.ifCond .eq 5, 3) := by decide +kernel
theorem dL_law_2831 : decode cL_law 2831 = .ok (.iconst 0, 1) := by decide +kernel
theorem dL_law_2832 : decode cL_law 2832 = .ok (.ireturn, 1) := by decide +kernel
theorem dL_law_2833 : decode cL_law 2833 = .ok (.goto 1400, 3) := by decide +kernel
theorem dL_law_2836 : decode cL_law 2836 = .ok (.aload_n 1, 1) := by decide +kernel
theorem dL_law_2837 : decode cL_law 2837 = .ok (.aload_n 0, 1) := by decide +kernel
theorem dL_law_2838 : decode cL_law 2838 = .ok (.iload 4, 2) := by decide +kernel
theorem dL_law_2840 : decode cL_law 2840 = .ok (.iconst 1, 1) := by decide +kernel
theorem dL_law_2841 : decode cL_law 2841 = .ok (.iadd, 1) := by decide +kernel
theorem dL_law_2842 : decode cL_law 2842 = .ok (.iaload, 1) := by decide +kernel
theorem dL_law_2843 : decode cL_law 2843 = .ok (.aload_n 0, 1) := by decide +kernel
theorem dL_law_2844 : decode cL_law 2844 = .ok (.iload 4, 2) := by decide +kernel
theorem dL_law_2846 : decode cL_law 2846 = .ok (.iconst 2, 1) := by decide +kernel
theorem dL_law_2847 : decode cL_law 2847 = .ok (.iadd, 1) := by decide +kernel
theorem dL_law_2848 : decode cL_law 2848 = .ok (.iaload, 1) := by decide +kernel
theorem dL_law_2849 : decode cL_law 2849 = .ok (.aload_n 3, 1) := by decide +kernel
theorem dL_law_2850 : decode cL_law 2850 = .ok (.invokestatic 281, 3) := by decide +kernel
theorem dL_law_2853 : decode cL_law 2853 = .ok (.istore 5, 2) := by decide +kernel
theorem dL_law_2855 : decode cL_law 2855 = .ok (.aload_n 2, 1) := by decide +kernel
theorem dL_law_2856 : decode cL_law 2856 = .ok (.aload_n 0, 1) := by decide +kernel
theorem dL_law_2857 : decode cL_law 2857 = .ok (.iload 4, 2) := by decide +kernel
theorem dL_law_2859 : decode cL_law 2859 = .ok (.iconst 1, 1) := by decide +kernel
theorem dL_law_2860 : decode cL_law 2860 = .ok (.iadd, 1) := by decide +kernel
theorem dL_law_2861 : decode cL_law 2861 = .ok (.iaload, 1) := by decide +kernel
theorem dL_law_2862 : decode cL_law 2862 = .ok (.aload_n 0, 1) := by decide +kernel
theorem dL_law_2863 : decode cL_law 2863 = .ok (.iload 4, 2) := by decide +kernel
theorem dL_law_2865 : decode cL_law 2865 = .ok (.iconst 2, 1) := by decide +kernel
theorem dL_law_2866 : decode cL_law 2866 = .ok (.iadd, 1) := by decide +kernel
theorem dL_law_2867 : decode cL_law 2867 = .ok (.iaload, 1) := by decide +kernel
theorem dL_law_2868 : decode cL_law 2868 = .ok (.invokevirtual 283, 3) := by decide +kernel
theorem dL_law_2871 : decode cL_law 2871 = .ok (.istore 6, 2) := by decide +kernel
theorem dL_law_2873 : decode cL_law 2873 = .ok (.aload_n 2, 1) := by decide +kernel
theorem dL_law_2874 : decode cL_law 2874 = .ok (.invokevirtual 177, 3) := by decide +kernel
theorem dL_law_2877 : decode cL_law 2877 = .ok (.iload 5, 2) := by decide +kernel
theorem dL_law_2879 : decode cL_law 2879 = .ok (.if_icmp .eq 5, 3) := by decide +kernel
theorem dL_law_2882 : decode cL_law 2882 = .ok (.iconst 0, 1) := by decide +kernel
theorem dL_law_2883 : decode cL_law 2883 = .ok (.ireturn, 1) := by decide +kernel
theorem dL_law_2884 : decode cL_law 2884 = .ok (.iload 5, 2) := by decide +kernel
theorem dL_law_2886 : decode cL_law 2886 = .ok (.ifCond .ne 15, 3) := by decide +kernel
theorem dL_law_2889 : decode cL_law 2889 = .ok (.aload_n 3, 1) := by decide +kernel
theorem dL_law_2890 : decode cL_law 2890 = .ok (.iconst 0, 1) := by decide +kernel
theorem dL_law_2891 : decode cL_law 2891 = .ok (.laload, 1) := by decide +kernel
theorem dL_law_2892 : decode cL_law 2892 = .ok (.iload 6, 2) := by decide +kernel
theorem dL_law_2894 : decode cL_law 2894 = .ok (.i2l, 1) := by decide +kernel
theorem dL_law_2895 : decode cL_law 2895 = .ok (.lcmp, 1) := by decide +kernel
theorem dL_law_2896 : decode cL_law 2896 = .ok (.ifCond .eq 5, 3) := by decide +kernel
theorem dL_law_2899 : decode cL_law 2899 = .ok (.iconst 0, 1) := by decide +kernel
theorem dL_law_2900 : decode cL_law 2900 = .ok (.ireturn, 1) := by decide +kernel
theorem dL_law_2901 : decode cL_law 2901 = .ok (.goto 1332, 3) := by decide +kernel
theorem dL_law_2904 : decode cL_law 2904 = .ok (.aload_n 1, 1) := by decide +kernel
theorem dL_law_2905 : decode cL_law 2905 = .ok (.aload_n 0, 1) := by decide +kernel
theorem dL_law_2906 : decode cL_law 2906 = .ok (.iload 4, 2) := by decide +kernel
theorem dL_law_2908 : decode cL_law 2908 = .ok (.iconst 1, 1) := by decide +kernel
theorem dL_law_2909 : decode cL_law 2909 = .ok (.iadd, 1) := by decide +kernel
theorem dL_law_2910 : decode cL_law 2910 = .ok (.iaload, 1) := by decide +kernel
theorem dL_law_2911 : decode cL_law 2911 = .ok (.aload_n 0, 1) := by decide +kernel
theorem dL_law_2912 : decode cL_law 2912 = .ok (.iload 4, 2) := by decide +kernel
theorem dL_law_2914 : decode cL_law 2914 = .ok (.iconst 2, 1) := by decide +kernel
theorem dL_law_2915 : decode cL_law 2915 = .ok (.iadd, 1) := by decide +kernel
theorem dL_law_2916 : decode cL_law 2916 = .ok (.iaload, 1) := by decide +kernel
theorem dL_law_2917 : decode cL_law 2917 = .ok (.i2l, 1) := by decide +kernel
theorem dL_law_2918 : decode cL_law 2918 = .ok (.bipush 32, 2) := by decide +kernel
theorem dL_law_2920 : decode cL_law 2920 = .ok (.lshl, 1) := by decide +kernel
theorem dL_law_2921 : decode cL_law 2921 = .ok (.aload_n 0, 1) := by decide +kernel
theorem dL_law_2922 : decode cL_law 2922 = .ok (.iload 4, 2) := by decide +kernel
theorem dL_law_2924 : decode cL_law 2924 = .ok (.iconst 3, 1) := by decide +kernel
theorem dL_law_2925 : decode cL_law 2925 = .ok (.iadd, 1) := by decide +kernel
theorem dL_law_2926 : decode cL_law 2926 = .ok (.iaload, 1) := by decide +kernel
theorem dL_law_2927 : decode cL_law 2927 = .ok (.i2l, 1) := by decide +kernel
theorem dL_law_2928 : decode cL_law 2928 = .ok (.ldc2_w 181, 3) := by decide +kernel
theorem dL_law_2931 : decode cL_law 2931 = .ok (.land, 1) := by decide +kernel
theorem dL_law_2932 : decode cL_law 2932 = .ok (.lor, 1) := by decide +kernel
theorem dL_law_2933 : decode cL_law 2933 = .ok (.aload_n 0, 1) := by decide +kernel
theorem dL_law_2934 : decode cL_law 2934 = .ok (.iload 4, 2) := by decide +kernel
theorem dL_law_2936 : decode cL_law 2936 = .ok (.iconst 4, 1) := by decide +kernel
theorem dL_law_2937 : decode cL_law 2937 = .ok (.iadd, 1) := by decide +kernel
theorem dL_law_2938 : decode cL_law 2938 = .ok (.iaload, 1) := by decide +kernel
theorem dL_law_2939 : decode cL_law 2939 = .ok (.i2l, 1) := by decide +kernel
theorem dL_law_2940 : decode cL_law 2940 = .ok (.bipush 32, 2) := by decide +kernel
theorem dL_law_2942 : decode cL_law 2942 = .ok (.lshl, 1) := by decide +kernel
theorem dL_law_2943 : decode cL_law 2943 = .ok (.aload_n 0, 1) := by decide +kernel
theorem dL_law_2944 : decode cL_law 2944 = .ok (.iload 4, 2) := by decide +kernel
theorem dL_law_2946 : decode cL_law 2946 = .ok (.iconst 5, 1) := by decide +kernel
theorem dL_law_2947 : decode cL_law 2947 = .ok (.iadd, 1) := by decide +kernel
theorem dL_law_2948 : decode cL_law 2948 = .ok (.iaload, 1) := by decide +kernel
theorem dL_law_2949 : decode cL_law 2949 = .ok (.i2l, 1) := by decide +kernel
theorem dL_law_2950 : decode cL_law 2950 = .ok (.ldc2_w 181, 3) := by decide +kernel
theorem dL_law_2953 : decode cL_law 2953 = .ok (.land, 1) := by decide +kernel
theorem dL_law_2954 : decode cL_law 2954 = .ok (.lor, 1) := by decide +kernel
theorem dL_law_2955 : decode cL_law 2955 = .ok (.aload_n 3, 1) := by decide +kernel
theorem dL_law_2956 : decode cL_law 2956 = .ok (.invokestatic 284, 3) := by decide +kernel
theorem dL_law_2959 : decode cL_law 2959 = .ok (.istore 5, 2) := by decide +kernel
theorem dL_law_2961 : decode cL_law 2961 = .ok (.aload_n 2, 1) := by decide +kernel
theorem dL_law_2962 : decode cL_law 2962 = .ok (.aload_n 0, 1) := by decide +kernel
theorem dL_law_2963 : decode cL_law 2963 = .ok (.iload 4, 2) := by decide +kernel
theorem dL_law_2965 : decode cL_law 2965 = .ok (.iconst 1, 1) := by decide +kernel
theorem dL_law_2966 : decode cL_law 2966 = .ok (.iadd, 1) := by decide +kernel
theorem dL_law_2967 : decode cL_law 2967 = .ok (.iaload, 1) := by decide +kernel
theorem dL_law_2968 : decode cL_law 2968 = .ok (.aload_n 0, 1) := by decide +kernel
theorem dL_law_2969 : decode cL_law 2969 = .ok (.iload 4, 2) := by decide +kernel
theorem dL_law_2971 : decode cL_law 2971 = .ok (.iconst 2, 1) := by decide +kernel
theorem dL_law_2972 : decode cL_law 2972 = .ok (.iadd, 1) := by decide +kernel
theorem dL_law_2973 : decode cL_law 2973 = .ok (.iaload, 1) := by decide +kernel
theorem dL_law_2974 : decode cL_law 2974 = .ok (.i2l, 1) := by decide +kernel
theorem dL_law_2975 : decode cL_law 2975 = .ok (.bipush 32, 2) := by decide +kernel
theorem dL_law_2977 : decode cL_law 2977 = .ok (.lshl, 1) := by decide +kernel
theorem dL_law_2978 : decode cL_law 2978 = .ok (.aload_n 0, 1) := by decide +kernel
theorem dL_law_2979 : decode cL_law 2979 = .ok (.iload 4, 2) := by decide +kernel
theorem dL_law_2981 : decode cL_law 2981 = .ok (.iconst 3, 1) := by decide +kernel
theorem dL_law_2982 : decode cL_law 2982 = .ok (.iadd, 1) := by decide +kernel
theorem dL_law_2983 : decode cL_law 2983 = .ok (.iaload, 1) := by decide +kernel
theorem dL_law_2984 : decode cL_law 2984 = .ok (.i2l, 1) := by decide +kernel
theorem dL_law_2985 : decode cL_law 2985 = .ok (.ldc2_w 181, 3) := by decide +kernel
theorem dL_law_2988 : decode cL_law 2988 = .ok (.land, 1) := by decide +kernel
theorem dL_law_2989 : decode cL_law 2989 = .ok (.lor, 1) := by decide +kernel
theorem dL_law_2990 : decode cL_law 2990 = .ok (.aload_n 0, 1) := by decide +kernel
theorem dL_law_2991 : decode cL_law 2991 = .ok (.iload 4, 2) := by decide +kernel
theorem dL_law_2993 : decode cL_law 2993 = .ok (.iconst 4, 1) := by decide +kernel
theorem dL_law_2994 : decode cL_law 2994 = .ok (.iadd, 1) := by decide +kernel
theorem dL_law_2995 : decode cL_law 2995 = .ok (.iaload, 1) := by decide +kernel
theorem dL_law_2996 : decode cL_law 2996 = .ok (.i2l, 1) := by decide +kernel
theorem dL_law_2997 : decode cL_law 2997 = .ok (.bipush 32, 2) := by decide +kernel
theorem dL_law_2999 : decode cL_law 2999 = .ok (.lshl, 1) := by decide +kernel
theorem dL_law_3000 : decode cL_law 3000 = .ok (.aload_n 0, 1) := by decide +kernel
theorem dL_law_3001 : decode cL_law 3001 = .ok (.iload 4, 2) := by decide +kernel
theorem dL_law_3003 : decode cL_law 3003 = .ok (.iconst 5, 1) := by decide +kernel
theorem dL_law_3004 : decode cL_law 3004 = .ok (.iadd, 1) := by decide +kernel
theorem dL_law_3005 : decode cL_law 3005 = .ok (.iaload, 1) := by decide +kernel
theorem dL_law_3006 : decode cL_law 3006 = .ok (.i2l, 1) := by decide +kernel
theorem dL_law_3007 : decode cL_law 3007 = .ok (.ldc2_w 181, 3) := by decide +kernel
theorem dL_law_3010 : decode cL_law 3010 = .ok (.land, 1) := by decide +kernel
theorem dL_law_3011 : decode cL_law 3011 = .ok (.lor, 1) := by decide +kernel
theorem dL_law_3012 : decode cL_law 3012 = .ok (.invokevirtual 287, 3) := by decide +kernel
theorem dL_law_3015 : decode cL_law 3015 = .ok (.lstore 6, 2) := by decide +kernel
theorem dL_law_3017 : decode cL_law 3017 = .ok (.aload_n 2, 1) := by decide +kernel
theorem dL_law_3018 : decode cL_law 3018 = .ok (.invokevirtual 177, 3) := by decide +kernel
theorem dL_law_3021 : decode cL_law 3021 = .ok (.iload 5, 2) := by decide +kernel
theorem dL_law_3023 : decode cL_law 3023 = .ok (.if_icmp .eq 5, 3) := by decide +kernel
theorem dL_law_3026 : decode cL_law 3026 = .ok (.iconst 0, 1) := by decide +kernel
theorem dL_law_3027 : decode cL_law 3027 = .ok (.ireturn, 1) := by decide +kernel
theorem dL_law_3028 : decode cL_law 3028 = .ok (.iload 5, 2) := by decide +kernel
theorem dL_law_3030 : decode cL_law 3030 = .ok (.ifCond .ne 14, 3) := by decide +kernel
theorem dL_law_3033 : decode cL_law 3033 = .ok (.aload_n 3, 1) := by decide +kernel
theorem dL_law_3034 : decode cL_law 3034 = .ok (.iconst 0, 1) := by decide +kernel
theorem dL_law_3035 : decode cL_law 3035 = .ok (.laload, 1) := by decide +kernel
theorem dL_law_3036 : decode cL_law 3036 = .ok (.lload 6, 2) := by decide +kernel
theorem dL_law_3038 : decode cL_law 3038 = .ok (.lcmp, 1) := by decide +kernel
theorem dL_law_3039 : decode cL_law 3039 = .ok (.ifCond .eq 5, 3) := by decide +kernel
theorem dL_law_3042 : decode cL_law 3042 = .ok (.iconst 0, 1) := by decide +kernel
theorem dL_law_3043 : decode cL_law 3043 = .ok (.ireturn, 1) := by decide +kernel
theorem dL_law_3044 : decode cL_law 3044 = .ok (.goto 1189, 3) := by decide +kernel
theorem dL_law_3047 : decode cL_law 3047 = .ok (.aload_n 1, 1) := by decide +kernel
theorem dL_law_3048 : decode cL_law 3048 = .ok (.aload_n 0, 1) := by decide +kernel
theorem dL_law_3049 : decode cL_law 3049 = .ok (.iload 4, 2) := by decide +kernel
theorem dL_law_3051 : decode cL_law 3051 = .ok (.iconst 1, 1) := by decide +kernel
theorem dL_law_3052 : decode cL_law 3052 = .ok (.iadd, 1) := by decide +kernel
theorem dL_law_3053 : decode cL_law 3053 = .ok (.iaload, 1) := by decide +kernel
theorem dL_law_3054 : decode cL_law 3054 = .ok (.aload_n 0, 1) := by decide +kernel
theorem dL_law_3055 : decode cL_law 3055 = .ok (.iload 4, 2) := by decide +kernel
theorem dL_law_3057 : decode cL_law 3057 = .ok (.iconst 2, 1) := by decide +kernel
theorem dL_law_3058 : decode cL_law 3058 = .ok (.iadd, 1) := by decide +kernel
theorem dL_law_3059 : decode cL_law 3059 = .ok (.iaload, 1) := by decide +kernel
theorem dL_law_3060 : decode cL_law 3060 = .ok (.i2c, 1) := by decide +kernel
theorem dL_law_3061 : decode cL_law 3061 = .ok (.aload_n 3, 1) := by decide +kernel
theorem dL_law_3062 : decode cL_law 3062 = .ok (.invokestatic 288, 3) := by decide +kernel
theorem dL_law_3065 : decode cL_law 3065 = .ok (.istore 5, 2) := by decide +kernel
theorem dL_law_3067 : decode cL_law 3067 = .ok (.aload_n 2, 1) := by decide +kernel
theorem dL_law_3068 : decode cL_law 3068 = .ok (.aload_n 0, 1) := by decide +kernel
theorem dL_law_3069 : decode cL_law 3069 = .ok (.iload 4, 2) := by decide +kernel
theorem dL_law_3071 : decode cL_law 3071 = .ok (.iconst 1, 1) := by decide +kernel
theorem dL_law_3072 : decode cL_law 3072 = .ok (.iadd, 1) := by decide +kernel
theorem dL_law_3073 : decode cL_law 3073 = .ok (.iaload, 1) := by decide +kernel
theorem dL_law_3074 : decode cL_law 3074 = .ok (.aload_n 0, 1) := by decide +kernel
theorem dL_law_3075 : decode cL_law 3075 = .ok (.iload 4, 2) := by decide +kernel
theorem dL_law_3077 : decode cL_law 3077 = .ok (.iconst 2, 1) := by decide +kernel
theorem dL_law_3078 : decode cL_law 3078 = .ok (.iadd, 1) := by decide +kernel
theorem dL_law_3079 : decode cL_law 3079 = .ok (.iaload, 1) := by decide +kernel
theorem dL_law_3080 : decode cL_law 3080 = .ok (.i2c, 1) := by decide +kernel
theorem dL_law_3081 : decode cL_law 3081 = .ok (.invokevirtual 290, 3) := by decide +kernel
theorem dL_law_3084 : decode cL_law 3084 = .ok (.lstore 6, 2) := by decide +kernel
theorem dL_law_3086 : decode cL_law 3086 = .ok (.aload_n 2, 1) := by decide +kernel
theorem dL_law_3087 : decode cL_law 3087 = .ok (.invokevirtual 177, 3) := by decide +kernel
theorem dL_law_3090 : decode cL_law 3090 = .ok (.iload 5, 2) := by decide +kernel
theorem dL_law_3092 : decode cL_law 3092 = .ok (.if_icmp .eq 5, 3) := by decide +kernel
theorem dL_law_3095 : decode cL_law 3095 = .ok (.iconst 0, 1) := by decide +kernel
theorem dL_law_3096 : decode cL_law 3096 = .ok (.ireturn, 1) := by decide +kernel
theorem dL_law_3097 : decode cL_law 3097 = .ok (.iload 5, 2) := by decide +kernel
theorem dL_law_3099 : decode cL_law 3099 = .ok (.ifCond .ne 14, 3) := by decide +kernel
theorem dL_law_3102 : decode cL_law 3102 = .ok (.aload_n 3, 1) := by decide +kernel
theorem dL_law_3103 : decode cL_law 3103 = .ok (.iconst 0, 1) := by decide +kernel
theorem dL_law_3104 : decode cL_law 3104 = .ok (.laload, 1) := by decide +kernel
theorem dL_law_3105 : decode cL_law 3105 = .ok (.lload 6, 2) := by decide +kernel
theorem dL_law_3107 : decode cL_law 3107 = .ok (.lcmp, 1) := by decide +kernel
theorem dL_law_3108 : decode cL_law 3108 = .ok (.ifCond .eq 5, 3) := by decide +kernel
theorem dL_law_3111 : decode cL_law 3111 = .ok (.iconst 0, 1) := by decide +kernel
theorem dL_law_3112 : decode cL_law 3112 = .ok (.ireturn, 1) := by decide +kernel
theorem dL_law_3113 : decode cL_law 3113 = .ok (.goto 1120, 3) := by decide +kernel
theorem dL_law_3116 : decode cL_law 3116 = .ok (.aload_n 1, 1) := by decide +kernel
theorem dL_law_3117 : decode cL_law 3117 = .ok (.aload_n 0, 1) := by decide +kernel
theorem dL_law_3118 : decode cL_law 3118 = .ok (.iload 4, 2) := by decide +kernel
theorem dL_law_3120 : decode cL_law 3120 = .ok (.iconst 1, 1) := by decide +kernel
theorem dL_law_3121 : decode cL_law 3121 = .ok (.iadd, 1) := by decide +kernel
theorem dL_law_3122 : decode cL_law 3122 = .ok (.iaload, 1) := by decide +kernel
theorem dL_law_3123 : decode cL_law 3123 = .ok (.aload_n 0, 1) := by decide +kernel
theorem dL_law_3124 : decode cL_law 3124 = .ok (.iload 4, 2) := by decide +kernel
theorem dL_law_3126 : decode cL_law 3126 = .ok (.iconst 2, 1) := by decide +kernel
theorem dL_law_3127 : decode cL_law 3127 = .ok (.iadd, 1) := by decide +kernel
theorem dL_law_3128 : decode cL_law 3128 = .ok (.iaload, 1) := by decide +kernel
theorem dL_law_3129 : decode cL_law 3129 = .ok (.aload_n 0, 1) := by decide +kernel
theorem dL_law_3130 : decode cL_law 3130 = .ok (.iload 4, 2) := by decide +kernel
theorem dL_law_3132 : decode cL_law 3132 = .ok (.iconst 3, 1) := by decide +kernel
theorem dL_law_3133 : decode cL_law 3133 = .ok (.iadd, 1) := by decide +kernel
theorem dL_law_3134 : decode cL_law 3134 = .ok (.iaload, 1) := by decide +kernel
theorem dL_law_3135 : decode cL_law 3135 = .ok (.ifCond .eq 7, 3) := by decide +kernel
theorem dL_law_3138 : decode cL_law 3138 = .ok (.iconst 1, 1) := by decide +kernel
theorem dL_law_3139 : decode cL_law 3139 = .ok (.goto 4, 3) := by decide +kernel
theorem dL_law_3142 : decode cL_law 3142 = .ok (.iconst 0, 1) := by decide +kernel
theorem dL_law_3143 : decode cL_law 3143 = .ok (.aload_n 0, 1) := by decide +kernel
theorem dL_law_3144 : decode cL_law 3144 = .ok (.iload 4, 2) := by decide +kernel
theorem dL_law_3146 : decode cL_law 3146 = .ok (.iconst 4, 1) := by decide +kernel
theorem dL_law_3147 : decode cL_law 3147 = .ok (.iadd, 1) := by decide +kernel
theorem dL_law_3148 : decode cL_law 3148 = .ok (.iaload, 1) := by decide +kernel
theorem dL_law_3149 : decode cL_law 3149 = .ok (.aload_n 3, 1) := by decide +kernel
theorem dL_law_3150 : decode cL_law 3150 = .ok (.invokestatic 291, 3) := by decide +kernel
theorem dL_law_3153 : decode cL_law 3153 = .ok (.istore 5, 2) := by decide +kernel
theorem dL_law_3155 : decode cL_law 3155 = .ok (.aload_n 2, 1) := by decide +kernel
theorem dL_law_3156 : decode cL_law 3156 = .ok (.aload_n 0, 1) := by decide +kernel
theorem dL_law_3157 : decode cL_law 3157 = .ok (.iload 4, 2) := by decide +kernel
theorem dL_law_3159 : decode cL_law 3159 = .ok (.iconst 1, 1) := by decide +kernel
theorem dL_law_3160 : decode cL_law 3160 = .ok (.iadd, 1) := by decide +kernel
theorem dL_law_3161 : decode cL_law 3161 = .ok (.iaload, 1) := by decide +kernel
theorem dL_law_3162 : decode cL_law 3162 = .ok (.aload_n 0, 1) := by decide +kernel
theorem dL_law_3163 : decode cL_law 3163 = .ok (.iload 4, 2) := by decide +kernel
theorem dL_law_3165 : decode cL_law 3165 = .ok (.iconst 2, 1) := by decide +kernel
theorem dL_law_3166 : decode cL_law 3166 = .ok (.iadd, 1) := by decide +kernel
theorem dL_law_3167 : decode cL_law 3167 = .ok (.iaload, 1) := by decide +kernel
theorem dL_law_3168 : decode cL_law 3168 = .ok (.aload_n 0, 1) := by decide +kernel
theorem dL_law_3169 : decode cL_law 3169 = .ok (.iload 4, 2) := by decide +kernel
theorem dL_law_3171 : decode cL_law 3171 = .ok (.iconst 3, 1) := by decide +kernel
theorem dL_law_3172 : decode cL_law 3172 = .ok (.iadd, 1) := by decide +kernel
theorem dL_law_3173 : decode cL_law 3173 = .ok (.iaload, 1) := by decide +kernel
theorem dL_law_3174 : decode cL_law 3174 = .ok (.ifCond .eq 7, 3) := by decide +kernel
theorem dL_law_3177 : decode cL_law 3177 = .ok (.iconst 1, 1) := by decide +kernel
theorem dL_law_3178 : decode cL_law 3178 = .ok (.goto 4, 3) := by decide +kernel
theorem dL_law_3181 : decode cL_law 3181 = .ok (.iconst 0, 1) := by decide +kernel
theorem dL_law_3182 : decode cL_law 3182 = .ok (.aload_n 0, 1) := by decide +kernel
theorem dL_law_3183 : decode cL_law 3183 = .ok (.iload 4, 2) := by decide +kernel
theorem dL_law_3185 : decode cL_law 3185 = .ok (.iconst 4, 1) := by decide +kernel
theorem dL_law_3186 : decode cL_law 3186 = .ok (.iadd, 1) := by decide +kernel
theorem dL_law_3187 : decode cL_law 3187 = .ok (.iaload, 1) := by decide +kernel
theorem dL_law_3188 : decode cL_law 3188 = .ok (.invokevirtual 293, 3) := by decide +kernel
theorem dL_law_3191 : decode cL_law 3191 = .ok (.lstore 6, 2) := by decide +kernel
theorem dL_law_3193 : decode cL_law 3193 = .ok (.aload_n 2, 1) := by decide +kernel
theorem dL_law_3194 : decode cL_law 3194 = .ok (.invokevirtual 177, 3) := by decide +kernel
theorem dL_law_3197 : decode cL_law 3197 = .ok (.iload 5, 2) := by decide +kernel
theorem dL_law_3199 : decode cL_law 3199 = .ok (.if_icmp .eq 5, 3) := by decide +kernel
theorem dL_law_3202 : decode cL_law 3202 = .ok (.iconst 0, 1) := by decide +kernel
theorem dL_law_3203 : decode cL_law 3203 = .ok (.ireturn, 1) := by decide +kernel
theorem dL_law_3204 : decode cL_law 3204 = .ok (.iload 5, 2) := by decide +kernel
theorem dL_law_3206 : decode cL_law 3206 = .ok (.ifCond .ne 14, 3) := by decide +kernel
theorem dL_law_3209 : decode cL_law 3209 = .ok (.aload_n 3, 1) := by decide +kernel
theorem dL_law_3210 : decode cL_law 3210 = .ok (.iconst 0, 1) := by decide +kernel
theorem dL_law_3211 : decode cL_law 3211 = .ok (.laload, 1) := by decide +kernel
theorem dL_law_3212 : decode cL_law 3212 = .ok (.lload 6, 2) := by decide +kernel
theorem dL_law_3214 : decode cL_law 3214 = .ok (.lcmp, 1) := by decide +kernel
theorem dL_law_3215 : decode cL_law 3215 = .ok (.ifCond .eq 5, 3) := by decide +kernel
theorem dL_law_3218 : decode cL_law 3218 = .ok (.iconst 0, 1) := by decide +kernel
theorem dL_law_3219 : decode cL_law 3219 = .ok (.ireturn, 1) := by decide +kernel
theorem dL_law_3220 : decode cL_law 3220 = .ok (.goto 1013, 3) := by decide +kernel
theorem dL_law_3223 : decode cL_law 3223 = .ok (.aload_n 1, 1) := by decide +kernel
theorem dL_law_3224 : decode cL_law 3224 = .ok (.aload_n 0, 1) := by decide +kernel
theorem dL_law_3225 : decode cL_law 3225 = .ok (.iload 4, 2) := by decide +kernel
theorem dL_law_3227 : decode cL_law 3227 = .ok (.iconst 1, 1) := by decide +kernel
theorem dL_law_3228 : decode cL_law 3228 = .ok (.iadd, 1) := by decide +kernel
theorem dL_law_3229 : decode cL_law 3229 = .ok (.iaload, 1) := by decide +kernel
theorem dL_law_3230 : decode cL_law 3230 = .ok (.aload_n 0, 1) := by decide +kernel
theorem dL_law_3231 : decode cL_law 3231 = .ok (.iload 4, 2) := by decide +kernel
theorem dL_law_3233 : decode cL_law 3233 = .ok (.iconst 2, 1) := by decide +kernel
theorem dL_law_3234 : decode cL_law 3234 = .ok (.iadd, 1) := by decide +kernel
theorem dL_law_3235 : decode cL_law 3235 = .ok (.iaload, 1) := by decide +kernel
theorem dL_law_3236 : decode cL_law 3236 = .ok (.aload_n 0, 1) := by decide +kernel
theorem dL_law_3237 : decode cL_law 3237 = .ok (.iload 4, 2) := by decide +kernel
theorem dL_law_3239 : decode cL_law 3239 = .ok (.iconst 3, 1) := by decide +kernel
theorem dL_law_3240 : decode cL_law 3240 = .ok (.iadd, 1) := by decide +kernel
theorem dL_law_3241 : decode cL_law 3241 = .ok (.iaload, 1) := by decide +kernel
theorem dL_law_3242 : decode cL_law 3242 = .ok (.aload_n 3, 1) := by decide +kernel
theorem dL_law_3243 : decode cL_law 3243 = .ok (.invokestatic 294, 3) := by decide +kernel
theorem dL_law_3246 : decode cL_law 3246 = .ok (.istore 5, 2) := by decide +kernel
theorem dL_law_3248 : decode cL_law 3248 = .ok (.aload_n 2, 1) := by decide +kernel
theorem dL_law_3249 : decode cL_law 3249 = .ok (.aload_n 0, 1) := by decide +kernel
theorem dL_law_3250 : decode cL_law 3250 = .ok (.iload 4, 2) := by decide +kernel
theorem dL_law_3252 : decode cL_law 3252 = .ok (.iconst 1, 1) := by decide +kernel
theorem dL_law_3253 : decode cL_law 3253 = .ok (.iadd, 1) := by decide +kernel
theorem dL_law_3254 : decode cL_law 3254 = .ok (.iaload, 1) := by decide +kernel
theorem dL_law_3255 : decode cL_law 3255 = .ok (.aload_n 0, 1) := by decide +kernel
theorem dL_law_3256 : decode cL_law 3256 = .ok (.iload 4, 2) := by decide +kernel
theorem dL_law_3258 : decode cL_law 3258 = .ok (.iconst 2, 1) := by decide +kernel
theorem dL_law_3259 : decode cL_law 3259 = .ok (.iadd, 1) := by decide +kernel
theorem dL_law_3260 : decode cL_law 3260 = .ok (.iaload, 1) := by decide +kernel
theorem dL_law_3261 : decode cL_law 3261 = .ok (.aload_n 0, 1) := by decide +kernel
theorem dL_law_3262 : decode cL_law 3262 = .ok (.iload 4, 2) := by decide +kernel
theorem dL_law_3264 : decode cL_law 3264 = .ok (.iconst 3, 1) := by decide +kernel
theorem dL_law_3265 : decode cL_law 3265 = .ok (.iadd, 1) := by decide +kernel
theorem dL_law_3266 : decode cL_law 3266 = .ok (.iaload, 1) := by decide +kernel
theorem dL_law_3267 : decode cL_law 3267 = .ok (.invokevirtual 296, 3) := by decide +kernel
theorem dL_law_3270 : decode cL_law 3270 = .ok (.lstore 6, 2) := by decide +kernel
theorem dL_law_3272 : decode cL_law 3272 = .ok (.aload_n 2, 1) := by decide +kernel
theorem dL_law_3273 : decode cL_law 3273 = .ok (.invokevirtual 177, 3) := by decide +kernel
theorem dL_law_3276 : decode cL_law 3276 = .ok (.iload 5, 2) := by decide +kernel
theorem dL_law_3278 : decode cL_law 3278 = .ok (.if_icmp .eq 5, 3) := by decide +kernel
theorem dL_law_3281 : decode cL_law 3281 = .ok (.iconst 0, 1) := by decide +kernel
theorem dL_law_3282 : decode cL_law 3282 = .ok (.ireturn, 1) := by decide +kernel
theorem dL_law_3283 : decode cL_law 3283 = .ok (.iload 5, 2) := by decide +kernel
theorem dL_law_3285 : decode cL_law 3285 = .ok (.ifCond .ne 14, 3) := by decide +kernel
theorem dL_law_3288 : decode cL_law 3288 = .ok (.aload_n 3, 1) := by decide +kernel
theorem dL_law_3289 : decode cL_law 3289 = .ok (.iconst 0, 1) := by decide +kernel
theorem dL_law_3290 : decode cL_law 3290 = .ok (.laload, 1) := by decide +kernel
theorem dL_law_3291 : decode cL_law 3291 = .ok (.lload 6, 2) := by decide +kernel
theorem dL_law_3293 : decode cL_law 3293 = .ok (.lcmp, 1) := by decide +kernel
theorem dL_law_3294 : decode cL_law 3294 = .ok (.ifCond .eq 5, 3) := by decide +kernel
theorem dL_law_3297 : decode cL_law 3297 = .ok (.iconst 0, 1) := by decide +kernel
theorem dL_law_3298 : decode cL_law 3298 = .ok (.ireturn, 1) := by decide +kernel
theorem dL_law_3299 : decode cL_law 3299 = .ok (.goto 934, 3) := by decide +kernel
theorem dL_law_3302 : decode cL_law 3302 = .ok (.aload_n 1, 1) := by decide +kernel
theorem dL_law_3303 : decode cL_law 3303 = .ok (.aload_n 0, 1) := by decide +kernel
theorem dL_law_3304 : decode cL_law 3304 = .ok (.iload 4, 2) := by decide +kernel
theorem dL_law_3306 : decode cL_law 3306 = .ok (.iconst 1, 1) := by decide +kernel
theorem dL_law_3307 : decode cL_law 3307 = .ok (.iadd, 1) := by decide +kernel
theorem dL_law_3308 : decode cL_law 3308 = .ok (.iaload, 1) := by decide +kernel
theorem dL_law_3309 : decode cL_law 3309 = .ok (.aload_n 0, 1) := by decide +kernel
theorem dL_law_3310 : decode cL_law 3310 = .ok (.iload 4, 2) := by decide +kernel
theorem dL_law_3312 : decode cL_law 3312 = .ok (.iconst 2, 1) := by decide +kernel
theorem dL_law_3313 : decode cL_law 3313 = .ok (.iadd, 1) := by decide +kernel
theorem dL_law_3314 : decode cL_law 3314 = .ok (.iaload, 1) := by decide +kernel
theorem dL_law_3315 : decode cL_law 3315 = .ok (.aload_n 0, 1) := by decide +kernel
theorem dL_law_3316 : decode cL_law 3316 = .ok (.iload 4, 2) := by decide +kernel
theorem dL_law_3318 : decode cL_law 3318 = .ok (.iconst 3, 1) := by decide +kernel
theorem dL_law_3319 : decode cL_law 3319 = .ok (.iadd, 1) := by decide +kernel
theorem dL_law_3320 : decode cL_law 3320 = .ok (.iaload, 1) := by decide +kernel
theorem dL_law_3321 : decode cL_law 3321 = .ok (.aload_n 3, 1) := by decide +kernel
theorem dL_law_3322 : decode cL_law 3322 = .ok (.invokestatic 297, 3) := by decide +kernel
theorem dL_law_3325 : decode cL_law 3325 = .ok (.istore 5, 2) := by decide +kernel
theorem dL_law_3327 : decode cL_law 3327 = .ok (.aload_n 2, 1) := by decide +kernel
theorem dL_law_3328 : decode cL_law 3328 = .ok (.aload_n 0, 1) := by decide +kernel
theorem dL_law_3329 : decode cL_law 3329 = .ok (.iload 4, 2) := by decide +kernel
theorem dL_law_3331 : decode cL_law 3331 = .ok (.iconst 1, 1) := by decide +kernel
theorem dL_law_3332 : decode cL_law 3332 = .ok (.iadd, 1) := by decide +kernel
theorem dL_law_3333 : decode cL_law 3333 = .ok (.iaload, 1) := by decide +kernel
theorem dL_law_3334 : decode cL_law 3334 = .ok (.aload_n 0, 1) := by decide +kernel
theorem dL_law_3335 : decode cL_law 3335 = .ok (.iload 4, 2) := by decide +kernel
theorem dL_law_3337 : decode cL_law 3337 = .ok (.iconst 2, 1) := by decide +kernel
theorem dL_law_3338 : decode cL_law 3338 = .ok (.iadd, 1) := by decide +kernel
theorem dL_law_3339 : decode cL_law 3339 = .ok (.iaload, 1) := by decide +kernel
theorem dL_law_3340 : decode cL_law 3340 = .ok (.aload_n 0, 1) := by decide +kernel
theorem dL_law_3341 : decode cL_law 3341 = .ok (.iload 4, 2) := by decide +kernel
theorem dL_law_3343 : decode cL_law 3343 = .ok (.iconst 3, 1) := by decide +kernel
theorem dL_law_3344 : decode cL_law 3344 = .ok (.iadd, 1) := by decide +kernel
theorem dL_law_3345 : decode cL_law 3345 = .ok (.iaload, 1) := by decide +kernel
theorem dL_law_3346 : decode cL_law 3346 = .ok (.invokevirtual 299, 3) := by decide +kernel
theorem dL_law_3349 : decode cL_law 3349 = .ok (.lstore 6, 2) := by decide +kernel
theorem dL_law_3351 : decode cL_law 3351 = .ok (.aload_n 2, 1) := by decide +kernel
theorem dL_law_3352 : decode cL_law 3352 = .ok (.invokevirtual 177, 3) := by decide +kernel
theorem dL_law_3355 : decode cL_law 3355 = .ok (.iload 5, 2) := by decide +kernel
theorem dL_law_3357 : decode cL_law 3357 = .ok (.if_icmp .eq 5, 3) := by decide +kernel
theorem dL_law_3360 : decode cL_law 3360 = .ok (.iconst 0, 1) := by decide +kernel
theorem dL_law_3361 : decode cL_law 3361 = .ok (.ireturn, 1) := by decide +kernel
theorem dL_law_3362 : decode cL_law 3362 = .ok (.iload 5, 2) := by decide +kernel
theorem dL_law_3364 : decode cL_law 3364 = .ok (.ifCond .ne 14, 3) := by decide +kernel
theorem dL_law_3367 : decode cL_law 3367 = .ok (.aload_n 3, 1) := by decide +kernel
theorem dL_law_3368 : decode cL_law 3368 = .ok (.iconst 0, 1) := by decide +kernel
theorem dL_law_3369 : decode cL_law 3369 = .ok (.laload, 1) := by decide +kernel
theorem dL_law_3370 : decode cL_law 3370 = .ok (.lload 6, 2) := by decide +kernel
theorem dL_law_3372 : decode cL_law 3372 = .ok (.lcmp, 1) := by decide +kernel
theorem dL_law_3373 : decode cL_law 3373 = .ok (.ifCond .eq 5, 3) := by decide +kernel
theorem dL_law_3376 : decode cL_law 3376 = .ok (.iconst 0, 1) := by decide +kernel
theorem dL_law_3377 : decode cL_law 3377 = .ok (.ireturn, 1) := by decide +kernel
theorem dL_law_3378 : decode cL_law 3378 = .ok (.goto 855, 3) := by decide +kernel
theorem dL_law_3381 : decode cL_law 3381 = .ok (.aload_n 1, 1) := by decide +kernel
theorem dL_law_3382 : decode cL_law 3382 = .ok (.aload_n 0, 1) := by decide +kernel
theorem dL_law_3383 : decode cL_law 3383 = .ok (.iload 4, 2) := by decide +kernel
theorem dL_law_3385 : decode cL_law 3385 = .ok (.iconst 1, 1) := by decide +kernel
theorem dL_law_3386 : decode cL_law 3386 = .ok (.iadd, 1) := by decide +kernel
theorem dL_law_3387 : decode cL_law 3387 = .ok (.iaload, 1) := by decide +kernel
theorem dL_law_3388 : decode cL_law 3388 = .ok (.aload_n 0, 1) := by decide +kernel
theorem dL_law_3389 : decode cL_law 3389 = .ok (.iload 4, 2) := by decide +kernel
theorem dL_law_3391 : decode cL_law 3391 = .ok (.iconst 2, 1) := by decide +kernel
theorem dL_law_3392 : decode cL_law 3392 = .ok (.iadd, 1) := by decide +kernel
theorem dL_law_3393 : decode cL_law 3393 = .ok (.iaload, 1) := by decide +kernel
theorem dL_law_3394 : decode cL_law 3394 = .ok (.aload_n 3, 1) := by decide +kernel
theorem dL_law_3395 : decode cL_law 3395 = .ok (.invokestatic 300, 3) := by decide +kernel
theorem dL_law_3398 : decode cL_law 3398 = .ok (.istore 5, 2) := by decide +kernel
theorem dL_law_3400 : decode cL_law 3400 = .ok (.aload_n 2, 1) := by decide +kernel
theorem dL_law_3401 : decode cL_law 3401 = .ok (.aload_n 0, 1) := by decide +kernel
theorem dL_law_3402 : decode cL_law 3402 = .ok (.iload 4, 2) := by decide +kernel
theorem dL_law_3404 : decode cL_law 3404 = .ok (.iconst 1, 1) := by decide +kernel
theorem dL_law_3405 : decode cL_law 3405 = .ok (.iadd, 1) := by decide +kernel
theorem dL_law_3406 : decode cL_law 3406 = .ok (.iaload, 1) := by decide +kernel
theorem dL_law_3407 : decode cL_law 3407 = .ok (.aload_n 0, 1) := by decide +kernel
theorem dL_law_3408 : decode cL_law 3408 = .ok (.iload 4, 2) := by decide +kernel
theorem dL_law_3410 : decode cL_law 3410 = .ok (.iconst 2, 1) := by decide +kernel
theorem dL_law_3411 : decode cL_law 3411 = .ok (.iadd, 1) := by decide +kernel
theorem dL_law_3412 : decode cL_law 3412 = .ok (.iaload, 1) := by decide +kernel
theorem dL_law_3413 : decode cL_law 3413 = .ok (.invokevirtual 302, 3) := by decide +kernel
theorem dL_law_3416 : decode cL_law 3416 = .ok (.istore 6, 2) := by decide +kernel
theorem dL_law_3418 : decode cL_law 3418 = .ok (.aload_n 2, 1) := by decide +kernel
theorem dL_law_3419 : decode cL_law 3419 = .ok (.invokevirtual 177, 3) := by decide +kernel
theorem dL_law_3422 : decode cL_law 3422 = .ok (.iload 5, 2) := by decide +kernel
theorem dL_law_3424 : decode cL_law 3424 = .ok (.if_icmp .eq 5, 3) := by decide +kernel
theorem dL_law_3427 : decode cL_law 3427 = .ok (.iconst 0, 1) := by decide +kernel
theorem dL_law_3428 : decode cL_law 3428 = .ok (.ireturn, 1) := by decide +kernel
theorem dL_law_3429 : decode cL_law 3429 = .ok (.iload 5, 2) := by decide +kernel
theorem dL_law_3431 : decode cL_law 3431 = .ok (.ifCond .ne 15, 3) := by decide +kernel
theorem dL_law_3434 : decode cL_law 3434 = .ok (.aload_n 3, 1) := by decide +kernel
theorem dL_law_3435 : decode cL_law 3435 = .ok (.iconst 0, 1) := by decide +kernel
theorem dL_law_3436 : decode cL_law 3436 = .ok (.laload, 1) := by decide +kernel
theorem dL_law_3437 : decode cL_law 3437 = .ok (.iload 6, 2) := by decide +kernel
theorem dL_law_3439 : decode cL_law 3439 = .ok (.i2l, 1) := by decide +kernel
theorem dL_law_3440 : decode cL_law 3440 = .ok (.lcmp, 1) := by decide +kernel
theorem dL_law_3441 : decode cL_law 3441 = .ok (.ifCond .eq 5, 3) := by decide +kernel
theorem dL_law_3444 : decode cL_law 3444 = .ok (.iconst 0, 1) := by decide +kernel
theorem dL_law_3445 : decode cL_law 3445 = .ok (.ireturn, 1) := by decide +kernel
theorem dL_law_3446 : decode cL_law 3446 = .ok (.goto 787, 3) := by decide +kernel
theorem dL_law_3449 : decode cL_law 3449 = .ok (.aload_n 1, 1) := by decide +kernel
theorem dL_law_3450 : decode cL_law 3450 = .ok (.aload_n 0, 1) := by decide +kernel
theorem dL_law_3451 : decode cL_law 3451 = .ok (.iload 4, 2) := by decide +kernel
theorem dL_law_3453 : decode cL_law 3453 = .ok (.iconst 1, 1) := by decide +kernel
theorem dL_law_3454 : decode cL_law 3454 = .ok (.iadd, 1) := by decide +kernel
theorem dL_law_3455 : decode cL_law 3455 = .ok (.iaload, 1) := by decide +kernel
theorem dL_law_3456 : decode cL_law 3456 = .ok (.aload_n 0, 1) := by decide +kernel
theorem dL_law_3457 : decode cL_law 3457 = .ok (.iload 4, 2) := by decide +kernel
theorem dL_law_3459 : decode cL_law 3459 = .ok (.iconst 2, 1) := by decide +kernel
theorem dL_law_3460 : decode cL_law 3460 = .ok (.iadd, 1) := by decide +kernel
theorem dL_law_3461 : decode cL_law 3461 = .ok (.iaload, 1) := by decide +kernel
theorem dL_law_3462 : decode cL_law 3462 = .ok (.aload_n 0, 1) := by decide +kernel
theorem dL_law_3463 : decode cL_law 3463 = .ok (.iload 4, 2) := by decide +kernel
theorem dL_law_3465 : decode cL_law 3465 = .ok (.iconst 3, 1) := by decide +kernel
theorem dL_law_3466 : decode cL_law 3466 = .ok (.iadd, 1) := by decide +kernel
theorem dL_law_3467 : decode cL_law 3467 = .ok (.iaload, 1) := by decide +kernel
theorem dL_law_3468 : decode cL_law 3468 = .ok (.aload_n 3, 1) := by decide +kernel
theorem dL_law_3469 : decode cL_law 3469 = .ok (.invokestatic 303, 3) := by decide +kernel
theorem dL_law_3472 : decode cL_law 3472 = .ok (.istore 5, 2) := by decide +kernel
theorem dL_law_3474 : decode cL_law 3474 = .ok (.aload_n 2, 1) := by decide +kernel
theorem dL_law_3475 : decode cL_law 3475 = .ok (.aload_n 0, 1) := by decide +kernel
theorem dL_law_3476 : decode cL_law 3476 = .ok (.iload 4, 2) := by decide +kernel
theorem dL_law_3478 : decode cL_law 3478 = .ok (.iconst 1, 1) := by decide +kernel
theorem dL_law_3479 : decode cL_law 3479 = .ok (.iadd, 1) := by decide +kernel
theorem dL_law_3480 : decode cL_law 3480 = .ok (.iaload, 1) := by decide +kernel
theorem dL_law_3481 : decode cL_law 3481 = .ok (.aload_n 0, 1) := by decide +kernel
theorem dL_law_3482 : decode cL_law 3482 = .ok (.iload 4, 2) := by decide +kernel
theorem dL_law_3484 : decode cL_law 3484 = .ok (.iconst 2, 1) := by decide +kernel
theorem dL_law_3485 : decode cL_law 3485 = .ok (.iadd, 1) := by decide +kernel
theorem dL_law_3486 : decode cL_law 3486 = .ok (.iaload, 1) := by decide +kernel
theorem dL_law_3487 : decode cL_law 3487 = .ok (.aload_n 0, 1) := by decide +kernel
theorem dL_law_3488 : decode cL_law 3488 = .ok (.iload 4, 2) := by decide +kernel
theorem dL_law_3490 : decode cL_law 3490 = .ok (.iconst 3, 1) := by decide +kernel
theorem dL_law_3491 : decode cL_law 3491 = .ok (.iadd, 1) := by decide +kernel
theorem dL_law_3492 : decode cL_law 3492 = .ok (.iaload, 1) := by decide +kernel
theorem dL_law_3493 : decode cL_law 3493 = .ok (.invokevirtual 305, 3) := by decide +kernel
theorem dL_law_3496 : decode cL_law 3496 = .ok (.lstore 6, 2) := by decide +kernel
theorem dL_law_3498 : decode cL_law 3498 = .ok (.aload_n 2, 1) := by decide +kernel
theorem dL_law_3499 : decode cL_law 3499 = .ok (.invokevirtual 177, 3) := by decide +kernel
theorem dL_law_3502 : decode cL_law 3502 = .ok (.iload 5, 2) := by decide +kernel
theorem dL_law_3504 : decode cL_law 3504 = .ok (.if_icmp .eq 5, 3) := by decide +kernel
theorem dL_law_3507 : decode cL_law 3507 = .ok (.iconst 0, 1) := by decide +kernel
theorem dL_law_3508 : decode cL_law 3508 = .ok (.ireturn, 1) := by decide +kernel
theorem dL_law_3509 : decode cL_law 3509 = .ok (.iload 5, 2) := by decide +kernel
theorem dL_law_3511 : decode cL_law 3511 = .ok (.ifCond .ne 14, 3) := by decide +kernel
theorem dL_law_3514 : decode cL_law 3514 = .ok (.aload_n 3, 1) := by decide +kernel
theorem dL_law_3515 : decode cL_law 3515 = .ok (.iconst 0, 1) := by decide +kernel
theorem dL_law_3516 : decode cL_law 3516 = .ok (.laload, 1) := by decide +kernel
theorem dL_law_3517 : decode cL_law 3517 = .ok (.lload 6, 2) := by decide +kernel
theorem dL_law_3519 : decode cL_law 3519 = .ok (.lcmp, 1) := by decide +kernel
theorem dL_law_3520 : decode cL_law 3520 = .ok (.ifCond .eq 5, 3) := by decide +kernel
theorem dL_law_3523 : decode cL_law 3523 = .ok (.iconst 0, 1) := by decide +kernel
theorem dL_law_3524 : decode cL_law 3524 = .ok (.ireturn, 1) := by decide +kernel
theorem dL_law_3525 : decode cL_law 3525 = .ok (.goto 708, 3) := by decide +kernel
theorem dL_law_3528 : decode cL_law 3528 = .ok (.aload_n 1, 1) := by decide +kernel
theorem dL_law_3529 : decode cL_law 3529 = .ok (.aload_n 0, 1) := by decide +kernel
theorem dL_law_3530 : decode cL_law 3530 = .ok (.iload 4, 2) := by decide +kernel
theorem dL_law_3532 : decode cL_law 3532 = .ok (.iconst 1, 1) := by decide +kernel
theorem dL_law_3533 : decode cL_law 3533 = .ok (.iadd, 1) := by decide +kernel
theorem dL_law_3534 : decode cL_law 3534 = .ok (.iaload, 1) := by decide +kernel
theorem dL_law_3535 : decode cL_law 3535 = .ok (.aload_n 0, 1) := by decide +kernel
theorem dL_law_3536 : decode cL_law 3536 = .ok (.iload 4, 2) := by decide +kernel
theorem dL_law_3538 : decode cL_law 3538 = .ok (.iconst 2, 1) := by decide +kernel
theorem dL_law_3539 : decode cL_law 3539 = .ok (.iadd, 1) := by decide +kernel
theorem dL_law_3540 : decode cL_law 3540 = .ok (.iaload, 1) := by decide +kernel
theorem dL_law_3541 : decode cL_law 3541 = .ok (.aload_n 3, 1) := by decide +kernel
theorem dL_law_3542 : decode cL_law 3542 = .ok (.invokestatic 306, 3) := by decide +kernel
theorem dL_law_3545 : decode cL_law 3545 = .ok (.istore 5, 2) := by decide +kernel
theorem dL_law_3547 : decode cL_law 3547 = .ok (.aload_n 2, 1) := by decide +kernel
theorem dL_law_3548 : decode cL_law 3548 = .ok (.aload_n 0, 1) := by decide +kernel
theorem dL_law_3549 : decode cL_law 3549 = .ok (.iload 4, 2) := by decide +kernel
theorem dL_law_3551 : decode cL_law 3551 = .ok (.iconst 1, 1) := by decide +kernel
theorem dL_law_3552 : decode cL_law 3552 = .ok (.iadd, 1) := by decide +kernel
theorem dL_law_3553 : decode cL_law 3553 = .ok (.iaload, 1) := by decide +kernel
theorem dL_law_3554 : decode cL_law 3554 = .ok (.aload_n 0, 1) := by decide +kernel
theorem dL_law_3555 : decode cL_law 3555 = .ok (.iload 4, 2) := by decide +kernel
theorem dL_law_3557 : decode cL_law 3557 = .ok (.iconst 2, 1) := by decide +kernel
theorem dL_law_3558 : decode cL_law 3558 = .ok (.iadd, 1) := by decide +kernel
theorem dL_law_3559 : decode cL_law 3559 = .ok (.iaload, 1) := by decide +kernel
theorem dL_law_3560 : decode cL_law 3560 = .ok (.invokevirtual 308, 3) := by decide +kernel
theorem dL_law_3563 : decode cL_law 3563 = .ok (.lstore 6, 2) := by decide +kernel
theorem dL_law_3565 : decode cL_law 3565 = .ok (.aload_n 2, 1) := by decide +kernel
theorem dL_law_3566 : decode cL_law 3566 = .ok (.invokevirtual 177, 3) := by decide +kernel
theorem dL_law_3569 : decode cL_law 3569 = .ok (.iload 5, 2) := by decide +kernel
theorem dL_law_3571 : decode cL_law 3571 = .ok (.if_icmp .eq 5, 3) := by decide +kernel
theorem dL_law_3574 : decode cL_law 3574 = .ok (.iconst 0, 1) := by decide +kernel
theorem dL_law_3575 : decode cL_law 3575 = .ok (.ireturn, 1) := by decide +kernel
theorem dL_law_3576 : decode cL_law 3576 = .ok (.iload 5, 2) := by decide +kernel
theorem dL_law_3578 : decode cL_law 3578 = .ok (.ifCond .ne 14, 3) := by decide +kernel
theorem dL_law_3581 : decode cL_law 3581 = .ok (.aload_n 3, 1) := by decide +kernel
theorem dL_law_3582 : decode cL_law 3582 = .ok (.iconst 0, 1) := by decide +kernel
theorem dL_law_3583 : decode cL_law 3583 = .ok (.laload, 1) := by decide +kernel
theorem dL_law_3584 : decode cL_law 3584 = .ok (.lload 6, 2) := by decide +kernel
theorem dL_law_3586 : decode cL_law 3586 = .ok (.lcmp, 1) := by decide +kernel
theorem dL_law_3587 : decode cL_law 3587 = .ok (.ifCond .eq 5, 3) := by decide +kernel
theorem dL_law_3590 : decode cL_law 3590 = .ok (.iconst 0, 1) := by decide +kernel
theorem dL_law_3591 : decode cL_law 3591 = .ok (.ireturn, 1) := by decide +kernel
theorem dL_law_3592 : decode cL_law 3592 = .ok (.goto 641, 3) := by decide +kernel
theorem dL_law_3595 : decode cL_law 3595 = .ok (.aload_n 1, 1) := by decide +kernel
theorem dL_law_3596 : decode cL_law 3596 = .ok (.aload_n 0, 1) := by decide +kernel
theorem dL_law_3597 : decode cL_law 3597 = .ok (.iload 4, 2) := by decide +kernel
theorem dL_law_3599 : decode cL_law 3599 = .ok (.iconst 1, 1) := by decide +kernel
theorem dL_law_3600 : decode cL_law 3600 = .ok (.iadd, 1) := by decide +kernel
theorem dL_law_3601 : decode cL_law 3601 = .ok (.iaload, 1) := by decide +kernel
theorem dL_law_3602 : decode cL_law 3602 = .ok (.aload_n 0, 1) := by decide +kernel
theorem dL_law_3603 : decode cL_law 3603 = .ok (.iload 4, 2) := by decide +kernel
theorem dL_law_3605 : decode cL_law 3605 = .ok (.iconst 2, 1) := by decide +kernel
theorem dL_law_3606 : decode cL_law 3606 = .ok (.iadd, 1) := by decide +kernel
theorem dL_law_3607 : decode cL_law 3607 = .ok (.iaload, 1) := by decide +kernel
theorem dL_law_3608 : decode cL_law 3608 = .ok (.aload_n 3, 1) := by decide +kernel
theorem dL_law_3609 : decode cL_law 3609 = .ok (.invokestatic 309, 3) := by decide +kernel
theorem dL_law_3612 : decode cL_law 3612 = .ok (.istore 5, 2) := by decide +kernel
theorem dL_law_3614 : decode cL_law 3614 = .ok (.aload_n 2, 1) := by decide +kernel
theorem dL_law_3615 : decode cL_law 3615 = .ok (.aload_n 0, 1) := by decide +kernel
theorem dL_law_3616 : decode cL_law 3616 = .ok (.iload 4, 2) := by decide +kernel
theorem dL_law_3618 : decode cL_law 3618 = .ok (.iconst 1, 1) := by decide +kernel
theorem dL_law_3619 : decode cL_law 3619 = .ok (.iadd, 1) := by decide +kernel
theorem dL_law_3620 : decode cL_law 3620 = .ok (.iaload, 1) := by decide +kernel
theorem dL_law_3621 : decode cL_law 3621 = .ok (.aload_n 0, 1) := by decide +kernel
theorem dL_law_3622 : decode cL_law 3622 = .ok (.iload 4, 2) := by decide +kernel
theorem dL_law_3624 : decode cL_law 3624 = .ok (.iconst 2, 1) := by decide +kernel
theorem dL_law_3625 : decode cL_law 3625 = .ok (.iadd, 1) := by decide +kernel
theorem dL_law_3626 : decode cL_law 3626 = .ok (.iaload, 1) := by decide +kernel
theorem dL_law_3627 : decode cL_law 3627 = .ok (.invokevirtual 311, 3) := by decide +kernel
theorem dL_law_3630 : decode cL_law 3630 = .ok (.lstore 6, 2) := by decide +kernel
theorem dL_law_3632 : decode cL_law 3632 = .ok (.aload_n 2, 1) := by decide +kernel
theorem dL_law_3633 : decode cL_law 3633 = .ok (.invokevirtual 177, 3) := by decide +kernel
theorem dL_law_3636 : decode cL_law 3636 = .ok (.iload 5, 2) := by decide +kernel
theorem dL_law_3638 : decode cL_law 3638 = .ok (.if_icmp .eq 5, 3) := by decide +kernel
theorem dL_law_3641 : decode cL_law 3641 = .ok (.iconst 0, 1) := by decide +kernel
theorem dL_law_3642 : decode cL_law 3642 = .ok (.ireturn, 1) := by decide +kernel
theorem dL_law_3643 : decode cL_law 3643 = .ok (.iload 5, 2) := by decide +kernel
theorem dL_law_3645 : decode cL_law 3645 = .ok (.ifCond .ne 14, 3) := by decide +kernel
theorem dL_law_3648 : decode cL_law 3648 = .ok (.aload_n 3, 1) := by decide +kernel
theorem dL_law_3649 : decode cL_law 3649 = .ok (.iconst 0, 1) := by decide +kernel
theorem dL_law_3650 : decode cL_law 3650 = .ok (.laload, 1) := by decide +kernel
theorem dL_law_3651 : decode cL_law 3651 = .ok (.lload 6, 2) := by decide +kernel
theorem dL_law_3653 : decode cL_law 3653 = .ok (.lcmp, 1) := by decide +kernel
theorem dL_law_3654 : decode cL_law 3654 = .ok (.ifCond .eq 5, 3) := by decide +kernel
theorem dL_law_3657 : decode cL_law 3657 = .ok (.iconst 0, 1) := by decide +kernel
theorem dL_law_3658 : decode cL_law 3658 = .ok (.ireturn, 1) := by decide +kernel
theorem dL_law_3659 : decode cL_law 3659 = .ok (.goto 574, 3) := by decide +kernel
theorem dL_law_3662 : decode cL_law 3662 = .ok (.aload_n 1, 1) := by decide +kernel
theorem dL_law_3663 : decode cL_law 3663 = .ok (.aload_n 0, 1) := by decide +kernel
theorem dL_law_3664 : decode cL_law 3664 = .ok (.iload 4, 2) := by decide +kernel
theorem dL_law_3666 : decode cL_law 3666 = .ok (.iconst 1, 1) := by decide +kernel
theorem dL_law_3667 : decode cL_law 3667 = .ok (.iadd, 1) := by decide +kernel
theorem dL_law_3668 : decode cL_law 3668 = .ok (.iaload, 1) := by decide +kernel
theorem dL_law_3669 : decode cL_law 3669 = .ok (.aload_n 0, 1) := by decide +kernel
theorem dL_law_3670 : decode cL_law 3670 = .ok (.iload 4, 2) := by decide +kernel
theorem dL_law_3672 : decode cL_law 3672 = .ok (.iconst 2, 1) := by decide +kernel
theorem dL_law_3673 : decode cL_law 3673 = .ok (.iadd, 1) := by decide +kernel
theorem dL_law_3674 : decode cL_law 3674 = .ok (.iaload, 1) := by decide +kernel
theorem dL_law_3675 : decode cL_law 3675 = .ok (.i2c, 1) := by decide +kernel
theorem dL_law_3676 : decode cL_law 3676 = .ok (.aload_n 0, 1) := by decide +kernel
theorem dL_law_3677 : decode cL_law 3677 = .ok (.iload 4, 2) := by decide +kernel
theorem dL_law_3679 : decode cL_law 3679 = .ok (.iconst 3, 1) := by decide +kernel
theorem dL_law_3680 : decode cL_law 3680 = .ok (.iadd, 1) := by decide +kernel
theorem dL_law_3681 : decode cL_law 3681 = .ok (.iaload, 1) := by decide +kernel
theorem dL_law_3682 : decode cL_law 3682 = .ok (.i2l, 1) := by decide +kernel
theorem dL_law_3683 : decode cL_law 3683 = .ok (.bipush 32, 2) := by decide +kernel
theorem dL_law_3685 : decode cL_law 3685 = .ok (.lshl, 1) := by decide +kernel
theorem dL_law_3686 : decode cL_law 3686 = .ok (.aload_n 0, 1) := by decide +kernel
theorem dL_law_3687 : decode cL_law 3687 = .ok (.iload 4, 2) := by decide +kernel
theorem dL_law_3689 : decode cL_law 3689 = .ok (.iconst 4, 1) := by decide +kernel
theorem dL_law_3690 : decode cL_law 3690 = .ok (.iadd, 1) := by decide +kernel
theorem dL_law_3691 : decode cL_law 3691 = .ok (.iaload, 1) := by decide +kernel
theorem dL_law_3692 : decode cL_law 3692 = .ok (.i2l, 1) := by decide +kernel
theorem dL_law_3693 : decode cL_law 3693 = .ok (.ldc2_w 181, 3) := by decide +kernel
theorem dL_law_3696 : decode cL_law 3696 = .ok (.land, 1) := by decide +kernel
theorem dL_law_3697 : decode cL_law 3697 = .ok (.lor, 1) := by decide +kernel
theorem dL_law_3698 : decode cL_law 3698 = .ok (.aload_n 0, 1) := by decide +kernel
theorem dL_law_3699 : decode cL_law 3699 = .ok (.iload 4, 2) := by decide +kernel
theorem dL_law_3701 : decode cL_law 3701 = .ok (.iconst 5, 1) := by decide +kernel
theorem dL_law_3702 : decode cL_law 3702 = .ok (.iadd, 1) := by decide +kernel
theorem dL_law_3703 : decode cL_law 3703 = .ok (.iaload, 1) := by decide +kernel
theorem dL_law_3704 : decode cL_law 3704 = .ok (.aload_n 3, 1) := by decide +kernel
theorem dL_law_3705 : decode cL_law 3705 = .ok (.invokestatic 312, 3) := by decide +kernel
theorem dL_law_3708 : decode cL_law 3708 = .ok (.istore 5, 2) := by decide +kernel
theorem dL_law_3710 : decode cL_law 3710 = .ok (.aload_n 2, 1) := by decide +kernel
theorem dL_law_3711 : decode cL_law 3711 = .ok (.aload_n 0, 1) := by decide +kernel
theorem dL_law_3712 : decode cL_law 3712 = .ok (.iload 4, 2) := by decide +kernel
theorem dL_law_3714 : decode cL_law 3714 = .ok (.iconst 1, 1) := by decide +kernel
theorem dL_law_3715 : decode cL_law 3715 = .ok (.iadd, 1) := by decide +kernel
theorem dL_law_3716 : decode cL_law 3716 = .ok (.iaload, 1) := by decide +kernel
theorem dL_law_3717 : decode cL_law 3717 = .ok (.aload_n 0, 1) := by decide +kernel
theorem dL_law_3718 : decode cL_law 3718 = .ok (.iload 4, 2) := by decide +kernel
theorem dL_law_3720 : decode cL_law 3720 = .ok (.iconst 2, 1) := by decide +kernel
theorem dL_law_3721 : decode cL_law 3721 = .ok (.iadd, 1) := by decide +kernel
theorem dL_law_3722 : decode cL_law 3722 = .ok (.iaload, 1) := by decide +kernel
theorem dL_law_3723 : decode cL_law 3723 = .ok (.i2c, 1) := by decide +kernel
theorem dL_law_3724 : decode cL_law 3724 = .ok (.aload_n 0, 1) := by decide +kernel
theorem dL_law_3725 : decode cL_law 3725 = .ok (.iload 4, 2) := by decide +kernel
theorem dL_law_3727 : decode cL_law 3727 = .ok (.iconst 3, 1) := by decide +kernel
theorem dL_law_3728 : decode cL_law 3728 = .ok (.iadd, 1) := by decide +kernel
theorem dL_law_3729 : decode cL_law 3729 = .ok (.iaload, 1) := by decide +kernel
theorem dL_law_3730 : decode cL_law 3730 = .ok (.i2l, 1) := by decide +kernel
theorem dL_law_3731 : decode cL_law 3731 = .ok (.bipush 32, 2) := by decide +kernel
theorem dL_law_3733 : decode cL_law 3733 = .ok (.lshl, 1) := by decide +kernel
theorem dL_law_3734 : decode cL_law 3734 = .ok (.aload_n 0, 1) := by decide +kernel
theorem dL_law_3735 : decode cL_law 3735 = .ok (.iload 4, 2) := by decide +kernel
theorem dL_law_3737 : decode cL_law 3737 = .ok (.iconst 4, 1) := by decide +kernel
theorem dL_law_3738 : decode cL_law 3738 = .ok (.iadd, 1) := by decide +kernel
theorem dL_law_3739 : decode cL_law 3739 = .ok (.iaload, 1) := by decide +kernel
theorem dL_law_3740 : decode cL_law 3740 = .ok (.i2l, 1) := by decide +kernel
theorem dL_law_3741 : decode cL_law 3741 = .ok (.ldc2_w 181, 3) := by decide +kernel
theorem dL_law_3744 : decode cL_law 3744 = .ok (.land, 1) := by decide +kernel
theorem dL_law_3745 : decode cL_law 3745 = .ok (.lor, 1) := by decide +kernel
theorem dL_law_3746 : decode cL_law 3746 = .ok (.aload_n 0, 1) := by decide +kernel
theorem dL_law_3747 : decode cL_law 3747 = .ok (.iload 4, 2) := by decide +kernel
theorem dL_law_3749 : decode cL_law 3749 = .ok (.iconst 5, 1) := by decide +kernel
theorem dL_law_3750 : decode cL_law 3750 = .ok (.iadd, 1) := by decide +kernel
theorem dL_law_3751 : decode cL_law 3751 = .ok (.iaload, 1) := by decide +kernel
theorem dL_law_3752 : decode cL_law 3752 = .ok (.invokevirtual 314, 3) := by decide +kernel
theorem dL_law_3755 : decode cL_law 3755 = .ok (.lstore 6, 2) := by decide +kernel
theorem dL_law_3757 : decode cL_law 3757 = .ok (.aload_n 2, 1) := by decide +kernel
theorem dL_law_3758 : decode cL_law 3758 = .ok (.invokevirtual 177, 3) := by decide +kernel
theorem dL_law_3761 : decode cL_law 3761 = .ok (.iload 5, 2) := by decide +kernel
theorem dL_law_3763 : decode cL_law 3763 = .ok (.if_icmp .eq 5, 3) := by decide +kernel
theorem dL_law_3766 : decode cL_law 3766 = .ok (.iconst 0, 1) := by decide +kernel
theorem dL_law_3767 : decode cL_law 3767 = .ok (.ireturn, 1) := by decide +kernel
theorem dL_law_3768 : decode cL_law 3768 = .ok (.iload 5, 2) := by decide +kernel
theorem dL_law_3770 : decode cL_law 3770 = .ok (.ifCond .ne 14, 3) := by decide +kernel
theorem dL_law_3773 : decode cL_law 3773 = .ok (.aload_n 3, 1) := by decide +kernel
theorem dL_law_3774 : decode cL_law 3774 = .ok (.iconst 0, 1) := by decide +kernel
theorem dL_law_3775 : decode cL_law 3775 = .ok (.laload, 1) := by decide +kernel
theorem dL_law_3776 : decode cL_law 3776 = .ok (.lload 6, 2) := by decide +kernel
