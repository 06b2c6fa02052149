theorem dL_law_1891 : decode cL_law 1891 = .ok (.iload 15, 2) := by decide +kernel
theorem dL_law_1893 : decode cL_law 1893 = .ok (.iconst 5, 1) := by decide +kernel
theorem dL_law_1894 : decode cL_law 1894 = .ok (.ishr, 1) := by decide +kernel
theorem dL_law_1895 : decode cL_law 1895 = .ok (.bipush 100, 2) := by decide +kernel
theorem dL_law_1897 : decode cL_law 1897 = .ok (.invokestatic 129, 3) := by decide +kernel
theorem dL_law_1900 : decode cL_law 1900 = .ok (.istore 44, 2) := by decide +kernel
theorem dL_law_1902 : decode cL_law 1902 = .ok (.iload 15, 2) := by decide +kernel
theorem dL_law_1904 : decode cL_law 1904 = .ok (.bipush 12, 2) := by decide +kernel
theorem dL_law_1906 : decode cL_law 1906 = .ok (.ishr, 1) := by decide +kernel
theorem dL_law_1907 : decode cL_law 1907 = .ok (.sipush 1000, 3) := by decide +kernel
theorem dL_law_1910 : decode cL_law 1910 = .ok (.invokestatic 129, 3) := by decide +kernel
theorem dL_law_1913 : decode cL_law 1913 = .ok (.sipush 1000, 3) := by decide +kernel
theorem dL_law_1916 : decode cL_law 1916 = .ok (.imul, 1) := by decide +kernel
theorem dL_law_1917 : decode cL_law 1917 = .ok (.istore 45, 2) := by decide +kernel
theorem dL_law_1919 : decode cL_law 1919 = .ok (.aload_n 1, 1) := by decide +kernel
theorem dL_law_1920 : decode cL_law 1920 = .ok (.iload 43, 2) := by decide +kernel
theorem dL_law_1922 : decode cL_law 1922 = .ok (.iload 44, 2) := by decide +kernel
theorem dL_law_1924 : decode cL_law 1924 = .ok (.iload 45, 2) := by decide +kernel
theorem dL_law_1926 : decode cL_law 1926 = .ok (.invokestatic 168, 3) := by decide +kernel
theorem dL_law_1929 : decode cL_law 1929 = .ok (.aload 6, 2) := by decide +kernel
theorem dL_law_1931 : decode cL_law 1931 = .ok (.iconst 3, 1) := by decide +kernel
theorem dL_law_1932 : decode cL_law 1932 = .ok (.iaload, 1) := by decide +kernel
theorem dL_law_1933 : decode cL_law 1933 = .ok (.iconst (-1), 1) := by decide +kernel
theorem dL_law_1934 : decode cL_law 1934 = .ok (.if_icmp .ne 7, 3) := by decide +kernel
theorem dL_law_1937 : decode cL_law 1937 = .ok (.iconst 0, 1) := by decide +kernel
theorem dL_law_1938 : decode cL_law 1938 = .ok (.goto 5, 3) := by decide +kernel
theorem dL_law_1941 : decode cL_law 1941 = .ok (.ldc 22, 2) := by decide +kernel
theorem dL_law_1943 : decode cL_law 1943 = .ok (.if_icmp .ne 7, 3) := by decide +kernel
theorem dL_law_1946 : decode cL_law 1946 = .ok (.iconst 1, 1) := by decide +kernel
theorem dL_law_1947 : decode cL_law 1947 = .ok (.goto 4, 3) := by decide +kernel
theorem dL_law_1950 : decode cL_law 1950 = .ok (.iconst 0, 1) := by decide +kernel
theorem dL_law_1951 : decode cL_law 1951 = .ok (.istore 20, 2) := by decide +kernel
theorem dL_law_1953 : decode cL_law 1953 = .ok (.aload 6, 2) := by decide +kernel
theorem dL_law_1955 : decode cL_law 1955 = .ok (.iconst 3, 1) := by decide +kernel
theorem dL_law_1956 : decode cL_law 1956 = .ok (.iaload, 1) := by decide +kernel
theorem dL_law_1957 : decode cL_law 1957 = .ok (.iconst (-1), 1) := by decide +kernel
theorem dL_law_1958 : decode cL_law 1958 = .ok (.if_icmp .eq 6, 3) := by decide +kernel
theorem dL_law_1961 : decode cL_law 1961 = .ok (.goto 794, 3) := by decide +kernel
theorem dL_law_1964 : decode cL_law 1964 = .ok (.aload 6, 2) := by decide +kernel
theorem dL_law_1966 : decode cL_law 1966 = .ok (.iconst 3, 1) := by decide +kernel
theorem dL_law_1967 : decode cL_law 1967 = .ok (.iload 43, 2) := by decide +kernel
theorem dL_law_1969 : decode cL_law 1969 = .ok (.iastore, 1) := by decide +kernel
theorem dL_law_1970 : decode cL_law 1970 = .ok (.aload 6, 2) := by decide +kernel
theorem dL_law_1972 : decode cL_law 1972 = .ok (.iconst 4, 1) := by decide +kernel
theorem dL_law_1973 : decode cL_law 1973 = .ok (.iload 44, 2) := by decide +kernel
theorem dL_law_1975 : decode cL_law 1975 = .ok (.iastore, 1) := by decide +kernel
theorem dL_law_1976 : decode cL_law 1976 = .ok (.aload 6, 2) := by decide +kernel
theorem dL_law_1978 : decode cL_law 1978 = .ok (.iconst 5, 1) := by decide +kernel
theorem dL_law_1979 : decode cL_law 1979 = .ok (.iload 45, 2) := by decide +kernel
theorem dL_law_1981 : decode cL_law 1981 = .ok (.iastore, 1) := by decide +kernel
theorem dL_law_1982 : decode cL_law 1982 = .ok (.goto 773, 3) := by decide +kernel
theorem dL_law_1985 : decode cL_law 1985 = .ok (.iload 15, 2) := by decide +kernel
theorem dL_law_1987 : decode cL_law 1987 = .ok (.iconst 1, 1) := by decide +kernel
theorem dL_law_1988 : decode cL_law 1988 = .ok (.iand, 1) := by decide +kernel
theorem dL_law_1989 : decode cL_law 1989 = .ok (.ifCond .ne 8, 3) := by decide +kernel
theorem dL_law_1992 : decode cL_law 1992 = .ok (.ldc 170, 2) := by decide +kernel
theorem dL_law_1994 : decode cL_law 1994 = .ok (.goto 12, 3) := by decide +kernel
theorem dL_law_1997 : decode cL_law 1997 = .ok (.iload 15, 2) := by decide +kernel
theorem dL_law_1999 : decode cL_law 1999 = .ok (.iconst 1, 1) := by decide +kernel
theorem dL_law_2000 : decode cL_law 2000 = .ok (.ishr, 1) := by decide +kernel
theorem dL_law_2001 : decode cL_law 2001 = .ok (.ldc 171, 2) := by decide +kernel
theorem dL_law_2003 : decode cL_law 2003 = .ok (.invokestatic 129, 3) := by decide +kernel
theorem dL_law_2006 : decode cL_law 2006 = .ok (.istore 46, 2) := by decide +kernel
theorem dL_law_2008 : decode cL_law 2008 = .ok (.iload 46, 2) := by decide +kernel
theorem dL_law_2010 : decode cL_law 2010 = .ok (.aload 9, 2) := by decide +kernel
theorem dL_law_2012 : decode cL_law 2012 = .ok (.aload 10, 2) := by decide +kernel
theorem dL_law_2014 : decode cL_law 2014 = .ok (.aload 6, 2) := by decide +kernel
theorem dL_law_2016 : decode cL_law 2016 = .ok (.invokestatic 106, 3) := by decide +kernel
theorem dL_law_2019 : decode cL_law 2019 = .ok (.aload 6, 2) := by decide +kernel
theorem dL_law_2021 : decode cL_law 2021 = .ok (.iconst 1, 1) := by decide +kernel
theorem dL_law_2022 : decode cL_law 2022 = .ok (.iaload, 1) := by decide +kernel
theorem dL_law_2023 : decode cL_law 2023 = .ok (.sipush 1000, 3) := by decide +kernel
theorem dL_law_2026 : decode cL_law 2026 = .ok (.invokestatic 94, 3) := by decide +kernel
theorem dL_law_2029 : decode cL_law 2029 = .ok (.if_icmp .lt 7, 3) := by decide +kernel
theorem dL_law_2032 : decode cL_law 2032 = .ok (.iconst 1, 1) := by decide +kernel
theorem dL_law_2033 : decode cL_law 2033 = .ok (.goto 4, 3) := by decide +kernel
theorem dL_law_2036 : decode cL_law 2036 = .ok (.iconst 0, 1) := by decide +kernel
theorem dL_law_2037 : decode cL_law 2037 = .ok (.istore 47, 2) := by decide +kernel
theorem dL_law_2039 : decode cL_law 2039 = .ok (.aload_n 1, 1) := by decide +kernel
theorem dL_law_2040 : decode cL_law 2040 = .ok (.iload 46, 2) := by decide +kernel
theorem dL_law_2042 : decode cL_law 2042 = .ok (.invokestatic 172, 3) := by decide +kernel
theorem dL_law_2045 : decode cL_law 2045 = .ok (.iload 47, 2) := by decide +kernel
theorem dL_law_2047 : decode cL_law 2047 = .ok (.ifCond .eq 11, 3) := by decide +kernel
theorem dL_law_2050 : decode cL_law 2050 = .ok (.aload 6, 2) := by decide +kernel
theorem dL_law_2052 : decode cL_law 2052 = .ok (.bipush 8, 2) := by decide +kernel
theorem dL_law_2054 : decode cL_law 2054 = .ok (.iaload, 1) := by decide +kernel
theorem dL_law_2055 : decode cL_law 2055 = .ok (.goto 5, 3) := by decide +kernel
theorem dL_law_2058 : decode cL_law 2058 = .ok (.ldc 22, 2) := by decide +kernel
theorem dL_law_2060 : decode cL_law 2060 = .ok (.if_icmp .ne 7, 3) := by decide +kernel
theorem dL_law_2063 : decode cL_law 2063 = .ok (.iconst 1, 1) := by decide +kernel
theorem dL_law_2064 : decode cL_law 2064 = .ok (.goto 4, 3) := by decide +kernel
theorem dL_law_2067 : decode cL_law 2067 = .ok (.iconst 0, 1) := by decide +kernel
theorem dL_law_2068 : decode cL_law 2068 = .ok (.istore 20, 2) := by decide +kernel
theorem dL_law_2070 : decode cL_law 2070 = .ok (.aload 6, 2) := by decide +kernel
theorem dL_law_2072 : decode cL_law 2072 = .ok (.bipush 8, 2) := by decide +kernel
theorem dL_law_2074 : decode cL_law 2074 = .ok (.iload 47, 2) := by decide +kernel
theorem dL_law_2076 : decode cL_law 2076 = .ok (.ifCond .eq 8, 3) := by decide +kernel
theorem dL_law_2079 : decode cL_law 2079 = .ok (.iload 46, 2) := by decide +kernel
theorem dL_law_2081 : decode cL_law 2081 = .ok (.goto 8, 3) := by decide +kernel
theorem dL_law_2084 : decode cL_law 2084 = .ok (.aload 6, 2) := by decide +kernel
theorem dL_law_2086 : decode cL_law 2086 = .ok (.bipush 8, 2) := by decide +kernel
theorem dL_law_2088 : decode cL_law 2088 = .ok (.iaload, 1) := by decide +kernel
theorem dL_law_2089 : decode cL_law 2089 = .ok (.iastore, 1) := by decide +kernel
theorem dL_law_2090 : decode cL_law 2090 = .ok (.goto 665, 3) := by decide +kernel
theorem dL_law_2093 : decode cL_law 2093 = .ok (.aload 6, 2) := by decide +kernel
theorem dL_law_2095 : decode cL_law 2095 = .ok (.bipush 10, 2) := by decide +kernel
theorem dL_law_2097 : decode cL_law 2097 = .ok (.iaload, 1) := by decide +kernel
theorem dL_law_2098 : decode cL_law 2098 = .ok (.bipush 30, 2) := by decide +kernel
theorem dL_law_2100 : decode cL_law 2100 = .ok (.if_icmp .ne 6, 3) := by decide +kernel
theorem dL_law_2103 : decode cL_law 2103 = .ok (.goto 652, 3) := by decide +kernel
theorem dL_law_2106 : decode cL_law 2106 = .ok (.iconst 1, 1) := by decide +kernel
theorem dL_law_2107 : decode cL_law 2107 = .ok (.iload 15, 2) := by decide +kernel
theorem dL_law_2109 : decode cL_law 2109 = .ok (.bipush 17, 2) := by decide +kernel
theorem dL_law_2111 : decode cL_law 2111 = .ok (.ishr, 1) := by decide +kernel
theorem dL_law_2112 : decode cL_law 2112 = .ok (.bipush 12, 2) := by decide +kernel
theorem dL_law_2114 : decode cL_law 2114 = .ok (.invokestatic 129, 3) := by decide +kernel
theorem dL_law_2117 : decode cL_law 2117 = .ok (.iadd, 1) := by decide +kernel
theorem dL_law_2118 : decode cL_law 2118 = .ok (.istore 48, 2) := by decide +kernel
theorem dL_law_2120 : decode cL_law 2120 = .ok (.iload 19, 2) := by decide +kernel
theorem dL_law_2122 : decode cL_law 2122 = .ok (.ifCond .eq 20, 3) := by decide +kernel
theorem dL_law_2125 : decode cL_law 2125 = .ok (.aload 4, 2) := by decide +kernel
theorem dL_law_2127 : decode cL_law 2127 = .ok (.iload 16, 2) := by decide +kernel
theorem dL_law_2129 : decode cL_law 2129 = .ok (.iaload, 1) := by decide +kernel
theorem dL_law_2130 : decode cL_law 2130 = .ok (.iload 18, 2) := by decide +kernel
theorem dL_law_2132 : decode cL_law 2132 = .ok (.aload_n 3, 1) := by decide +kernel
theorem dL_law_2133 : decode cL_law 2133 = .ok (.iload 16, 2) := by decide +kernel
theorem dL_law_2135 : decode cL_law 2135 = .ok (.iaload, 1) := by decide +kernel
theorem dL_law_2136 : decode cL_law 2136 = .ok (.invokestatic 94, 3) := by decide +kernel
theorem dL_law_2139 : decode cL_law 2139 = .ok (.goto 4, 3) := by decide +kernel
theorem dL_law_2142 : decode cL_law 2142 = .ok (.iconst 0, 1) := by decide +kernel
theorem dL_law_2143 : decode cL_law 2143 = .ok (.istore 49, 2) := by decide +kernel
theorem dL_law_2145 : decode cL_law 2145 = .ok (.iload 16, 2) := by decide +kernel
theorem dL_law_2147 : decode cL_law 2147 = .ok (.iconst 3, 1) := by decide +kernel
theorem dL_law_2148 : decode cL_law 2148 = .ok (.irem, 1) := by decide +kernel
theorem dL_law_2149 : decode cL_law 2149 = .ok (.iload 17, 2) := by decide +kernel
theorem dL_law_2151 : decode cL_law 2151 = .ok (.iconst 3, 1) := by decide +kernel
theorem dL_law_2152 : decode cL_law 2152 = .ok (.irem, 1) := by decide +kernel
theorem dL_law_2153 : decode cL_law 2153 = .ok (.if_icmp .eq 42, 3) := by decide +kernel
theorem dL_law_2156 : decode cL_law 2156 = .ok (.iload 19, 2) := by decide +kernel
theorem dL_law_2158 : decode cL_law 2158 = .ok (.ifCond .eq 37, 3) := by decide +kernel
theorem dL_law_2161 : decode cL_law 2161 = .ok (.aload 6, 2) := by decide +kernel
theorem dL_law_2163 : decode cL_law 2163 = .ok (.bipush 8, 2) := by decide +kernel
theorem dL_law_2165 : decode cL_law 2165 = .ok (.iaload, 1) := by decide +kernel
theorem dL_law_2166 : decode cL_law 2166 = .ok (.aload 9, 2) := by decide +kernel
theorem dL_law_2168 : decode cL_law 2168 = .ok (.aload 10, 2) := by decide +kernel
theorem dL_law_2170 : decode cL_law 2170 = .ok (.aload 6, 2) := by decide +kernel
theorem dL_law_2172 : decode cL_law 2172 = .ok (.invokestatic 106, 3) := by decide +kernel
theorem dL_law_2175 : decode cL_law 2175 = .ok (.iload 49, 2) := by decide +kernel
theorem dL_law_2177 : decode cL_law 2177 = .ok (.iadd, 1) := by decide +kernel
theorem dL_law_2178 : decode cL_law 2178 = .ok (.aload 6, 2) := by decide +kernel
theorem dL_law_2180 : decode cL_law 2180 = .ok (.iconst 1, 1) := by decide +kernel
theorem dL_law_2181 : decode cL_law 2181 = .ok (.iaload, 1) := by decide +kernel
theorem dL_law_2182 : decode cL_law 2182 = .ok (.sipush 1000, 3) := by decide +kernel
theorem dL_law_2185 : decode cL_law 2185 = .ok (.invokestatic 94, 3) := by decide +kernel
theorem dL_law_2188 : decode cL_law 2188 = .ok (.if_icmp .lt 7, 3) := by decide +kernel
theorem dL_law_2191 : decode cL_law 2191 = .ok (.iconst 1, 1) := by decide +kernel
theorem dL_law_2192 : decode cL_law 2192 = .ok (.goto 4, 3) := by decide +kernel
theorem dL_law_2195 : decode cL_law 2195 = .ok (.iconst 0, 1) := by decide +kernel
theorem dL_law_2196 : decode cL_law 2196 = .ok (.istore 50, 2) := by decide +kernel
theorem dL_law_2198 : decode cL_law 2198 = .ok (.aload_n 1, 1) := by decide +kernel
theorem dL_law_2199 : decode cL_law 2199 = .ok (.iload 16, 2) := by decide +kernel
theorem dL_law_2201 : decode cL_law 2201 = .ok (.iload 17, 2) := by decide +kernel
theorem dL_law_2203 : decode cL_law 2203 = .ok (.iload 18, 2) := by decide +kernel
theorem dL_law_2205 : decode cL_law 2205 = .ok (.iload 48, 2) := by decide +kernel
theorem dL_law_2207 : decode cL_law 2207 = .ok (.invokestatic 174, 3) := by decide +kernel
theorem dL_law_2210 : decode cL_law 2210 = .ok (.iload 50, 2) := by decide +kernel
theorem dL_law_2212 : decode cL_law 2212 = .ok (.ifCond .eq 11, 3) := by decide +kernel
theorem dL_law_2215 : decode cL_law 2215 = .ok (.aload 6, 2) := by decide +kernel
theorem dL_law_2217 : decode cL_law 2217 = .ok (.bipush 10, 2) := by decide +kernel
theorem dL_law_2219 : decode cL_law 2219 = .ok (.iaload, 1) := by decide +kernel
theorem dL_law_2220 : decode cL_law 2220 = .ok (.goto 5, 3) := by decide +kernel
theorem dL_law_2223 : decode cL_law 2223 = .ok (.ldc 22, 2) := by decide +kernel
theorem dL_law_2225 : decode cL_law 2225 = .ok (.if_icmp .ne 7, 3) := by decide +kernel
theorem dL_law_2228 : decode cL_law 2228 = .ok (.iconst 1, 1) := by decide +kernel
theorem dL_law_2229 : decode cL_law 2229 = .ok (.goto 4, 3) := by decide +kernel
theorem dL_law_2232 : decode cL_law 2232 = .ok (.iconst 0, 1) := by decide +kernel
theorem dL_law_2233 : decode cL_law 2233 = .ok (.istore 20, 2) := by decide +kernel
theorem dL_law_2235 : decode cL_law 2235 = .ok (.iload 50, 2) := by decide +kernel
theorem dL_law_2237 : decode cL_law 2237 = .ok (.ifCond .ne 6, 3) := by decide +kernel
theorem dL_law_2240 : decode cL_law 2240 = .ok (.goto 515, 3) := by decide +kernel
theorem dL_law_2243 : decode cL_law 2243 = .ok (.aload 9, 2) := by decide +kernel
theorem dL_law_2245 : decode cL_law 2245 = .ok (.aload 6, 2) := by decide +kernel
theorem dL_law_2247 : decode cL_law 2247 = .ok (.bipush 10, 2) := by decide +kernel
theorem dL_law_2249 : decode cL_law 2249 = .ok (.iaload, 1) := by decide +kernel
theorem dL_law_2250 : decode cL_law 2250 = .ok (.iload 17, 2) := by decide +kernel
theorem dL_law_2252 : decode cL_law 2252 = .ok (.iload 18, 2) := by decide +kernel
theorem dL_law_2254 : decode cL_law 2254 = .ok (.iconst 3, 1) := by decide +kernel
theorem dL_law_2255 : decode cL_law 2255 = .ok (.ishl, 1) := by decide +kernel
theorem dL_law_2256 : decode cL_law 2256 = .ok (.ior, 1) := by decide +kernel
theorem dL_law_2257 : decode cL_law 2257 = .ok (.aload 6, 2) := by decide +kernel
theorem dL_law_2259 : decode cL_law 2259 = .ok (.iconst 0, 1) := by decide +kernel
theorem dL_law_2260 : decode cL_law 2260 = .ok (.iaload, 1) := by decide +kernel
theorem dL_law_2261 : decode cL_law 2261 = .ok (.iload 48, 2) := by decide +kernel
theorem dL_law_2263 : decode cL_law 2263 = .ok (.iadd, 1) := by decide +kernel
theorem dL_law_2264 : decode cL_law 2264 = .ok (.bipush 20, 2) := by decide +kernel
theorem dL_law_2266 : decode cL_law 2266 = .ok (.ishl, 1) := by decide +kernel
theorem dL_law_2267 : decode cL_law 2267 = .ok (.ior, 1) := by decide +kernel
theorem dL_law_2268 : decode cL_law 2268 = .ok (.iastore, 1) := by decide +kernel
theorem dL_law_2269 : decode cL_law 2269 = .ok (.aload 10, 2) := by decide +kernel
theorem dL_law_2271 : decode cL_law 2271 = .ok (.aload 6, 2) := by decide +kernel
theorem dL_law_2273 : decode cL_law 2273 = .ok (.bipush 10, 2) := by decide +kernel
theorem dL_law_2275 : decode cL_law 2275 = .ok (.iaload, 1) := by decide +kernel
theorem dL_law_2276 : decode cL_law 2276 = .ok (.iload 16, 2) := by decide +kernel
theorem dL_law_2278 : decode cL_law 2278 = .ok (.iload 18, 2) := by decide +kernel
theorem dL_law_2280 : decode cL_law 2280 = .ok (.aload_n 3, 1) := by decide +kernel
theorem dL_law_2281 : decode cL_law 2281 = .ok (.aload 4, 2) := by decide +kernel
theorem dL_law_2283 : decode cL_law 2283 = .ok (.invokestatic 144, 3) := by decide +kernel
theorem dL_law_2286 : decode cL_law 2286 = .ok (.iastore, 1) := by decide +kernel
theorem dL_law_2287 : decode cL_law 2287 = .ok (.aload 6, 2) := by decide +kernel
theorem dL_law_2289 : decode cL_law 2289 = .ok (.bipush 10, 2) := by decide +kernel
theorem dL_law_2291 : decode cL_law 2291 = .ok (.dup2, 1) := by decide +kernel
theorem dL_law_2292 : decode cL_law 2292 = .ok (.iaload, 1) := by decide +kernel
theorem dL_law_2293 : decode cL_law 2293 = .ok (.iconst 1, 1) := by decide +kernel
theorem dL_law_2294 : decode cL_law 2294 = .ok (.iadd, 1) := by decide +kernel
theorem dL_law_2295 : decode cL_law 2295 = .ok (.iastore, 1) := by decide +kernel
theorem dL_law_2296 : decode cL_law 2296 = .ok (.goto 459, 3) := by decide +kernel
theorem dL_law_2299 : decode cL_law 2299 = .ok (.aload 6, 2) := by decide +kernel
theorem dL_law_2301 : decode cL_law 2301 = .ok (.bipush 10, 2) := by decide +kernel
theorem dL_law_2303 : decode cL_law 2303 = .ok (.iaload, 1) := by decide +kernel
theorem dL_law_2304 : decode cL_law 2304 = .ok (.ifCond .ne 6, 3) := by decide +kernel
theorem dL_law_2307 : decode cL_law 2307 = .ok (.goto 448, 3) := by decide +kernel
theorem dL_law_2310 : decode cL_law 2310 = .ok (.aload 6, 2) := by decide +kernel
theorem dL_law_2312 : decode cL_law 2312 = .ok (.bipush 10, 2) := by decide +kernel
theorem dL_law_2314 : decode cL_law 2314 = .ok (.iaload, 1) := by decide +kernel
theorem dL_law_2315 : decode cL_law 2315 = .ok (.iconst 1, 1) := by decide +kernel
theorem dL_law_2316 : decode cL_law 2316 = .ok (.isub, 1) := by decide +kernel
theorem dL_law_2317 : decode cL_law 2317 = .ok (.iload 15, 2) := by decide +kernel
theorem dL_law_2319 : decode cL_law 2319 = .ok (.aload 6, 2) := by decide +kernel
theorem dL_law_2321 : decode cL_law 2321 = .ok (.bipush 10, 2) := by decide +kernel
theorem dL_law_2323 : decode cL_law 2323 = .ok (.iaload, 1) := by decide +kernel
theorem dL_law_2324 : decode cL_law 2324 = .ok (.iconst 3, 1) := by decide +kernel
theorem dL_law_2325 : decode cL_law 2325 = .ok (.if_icmp .ge 11, 3) := by decide +kernel
theorem dL_law_2328 : decode cL_law 2328 = .ok (.aload 6, 2) := by decide +kernel
theorem dL_law_2330 : decode cL_law 2330 = .ok (.bipush 10, 2) := by decide +kernel
theorem dL_law_2332 : decode cL_law 2332 = .ok (.iaload, 1) := by decide +kernel
theorem dL_law_2333 : decode cL_law 2333 = .ok (.goto 4, 3) := by decide +kernel
theorem dL_law_2336 : decode cL_law 2336 = .ok (.iconst 3, 1) := by decide +kernel
theorem dL_law_2337 : decode cL_law 2337 = .ok (.invokestatic 129, 3) := by decide +kernel
theorem dL_law_2340 : decode cL_law 2340 = .ok (.isub, 1) := by decide +kernel
theorem dL_law_2341 : decode cL_law 2341 = .ok (.istore 51, 2) := by decide +kernel
theorem dL_law_2343 : decode cL_law 2343 = .ok (.aload 9, 2) := by decide +kernel
theorem dL_law_2345 : decode cL_law 2345 = .ok (.iload 51, 2) := by decide +kernel
theorem dL_law_2347 : decode cL_law 2347 = .ok (.iaload, 1) := by decide +kernel
theorem dL_law_2348 : decode cL_law 2348 = .ok (.iconst 3, 1) := by decide +kernel
theorem dL_law_2349 : decode cL_law 2349 = .ok (.ishr, 1) := by decide +kernel
theorem dL_law_2350 : decode cL_law 2350 = .ok (.sipush 16383, 3) := by decide +kernel
theorem dL_law_2353 : decode cL_law 2353 = .ok (.iand, 1) := by decide +kernel
theorem dL_law_2354 : decode cL_law 2354 = .ok (.istore 52, 2) := by decide +kernel
theorem dL_law_2356 : decode cL_law 2356 = .ok (.iload 14, 2) := by decide +kernel
theorem dL_law_2358 : decode cL_law 2358 = .ok (.sipush 16384, 3) := by decide +kernel
theorem dL_law_2361 : decode cL_law 2361 = .ok (.iand, 1) := by decide +kernel
theorem dL_law_2362 : decode cL_law 2362 = .ok (.ifCond .ne 23, 3) := by decide +kernel
theorem dL_law_2365 : decode cL_law 2365 = .ok (.iload 52, 2) := by decide +kernel
theorem dL_law_2367 : decode cL_law 2367 = .ok (.iload 15, 2) := by decide +kernel
theorem dL_law_2369 : decode cL_law 2369 = .ok (.iconst 3, 1) := by decide +kernel
theorem dL_law_2370 : decode cL_law 2370 = .ok (.ishr, 1) := by decide +kernel
theorem dL_law_2371 : decode cL_law 2371 = .ok (.iload 52, 2) := by decide +kernel
theorem dL_law_2373 : decode cL_law 2373 = .ok (.iconst 1, 1) := by decide +kernel
theorem dL_law_2374 : decode cL_law 2374 = .ok (.iadd, 1) := by decide +kernel
theorem dL_law_2375 : decode cL_law 2375 = .ok (.invokestatic 129, 3) := by decide +kernel
theorem dL_law_2378 : decode cL_law 2378 = .ok (.bipush 100, 2) := by decide +kernel
theorem dL_law_2380 : decode cL_law 2380 = .ok (.idiv, 1) := by decide +kernel
theorem dL_law_2381 : decode cL_law 2381 = .ok (.isub, 1) := by decide +kernel
theorem dL_law_2382 : decode cL_law 2382 = .ok (.goto 17, 3) := by decide +kernel
theorem dL_law_2385 : decode cL_law 2385 = .ok (.iload 52, 2) := by decide +kernel
theorem dL_law_2387 : decode cL_law 2387 = .ok (.iload 15, 2) := by decide +kernel
theorem dL_law_2389 : decode cL_law 2389 = .ok (.iconst 3, 1) := by decide +kernel
theorem dL_law_2390 : decode cL_law 2390 = .ok (.ishr, 1) := by decide +kernel
theorem dL_law_2391 : decode cL_law 2391 = .ok (.iload 52, 2) := by decide +kernel
theorem dL_law_2393 : decode cL_law 2393 = .ok (.iconst 1, 1) := by decide +kernel
theorem dL_law_2394 : decode cL_law 2394 = .ok (.iadd, 1) := by decide +kernel
theorem dL_law_2395 : decode cL_law 2395 = .ok (.invokestatic 129, 3) := by decide +kernel
theorem dL_law_2398 : decode cL_law 2398 = .ok (.isub, 1) := by decide +kernel
theorem dL_law_2399 : decode cL_law 2399 = .ok (.istore 53, 2) := by decide +kernel
theorem dL_law_2401 : decode cL_law 2401 = .ok (.aload 9, 2) := by decide +kernel
theorem dL_law_2403 : decode cL_law 2403 = .ok (.iload 51, 2) := by decide +kernel
theorem dL_law_2405 : decode cL_law 2405 = .ok (.iaload, 1) := by decide +kernel
theorem dL_law_2406 : decode cL_law 2406 = .ok (.bipush 7, 2) := by decide +kernel
theorem dL_law_2408 : decode cL_law 2408 = .ok (.iand, 1) := by decide +kernel
theorem dL_law_2409 : decode cL_law 2409 = .ok (.istore 54, 2) := by decide +kernel
theorem dL_law_2411 : decode cL_law 2411 = .ok (.aload 9, 2) := by decide +kernel
theorem dL_law_2413 : decode cL_law 2413 = .ok (.iload 51, 2) := by decide +kernel
theorem dL_law_2415 : decode cL_law 2415 = .ok (.iaload, 1) := by decide +kernel
theorem dL_law_2416 : decode cL_law 2416 = .ok (.bipush 17, 2) := by decide +kernel
theorem dL_law_2418 : decode cL_law 2418 = .ok (.ishr, 1) := by decide +kernel
theorem dL_law_2419 : decode cL_law 2419 = .ok (.bipush 7, 2) := by decide +kernel
theorem dL_law_2421 : decode cL_law 2421 = .ok (.iand, 1) := by decide +kernel
theorem dL_law_2422 : decode cL_law 2422 = .ok (.ifCond .ne 21, 3) := by decide +kernel
theorem dL_law_2425 : decode cL_law 2425 = .ok (.aload_n 3, 1) := by decide +kernel
theorem dL_law_2426 : decode cL_law 2426 = .ok (.iload 54, 2) := by decide +kernel
theorem dL_law_2428 : decode cL_law 2428 = .ok (.iaload, 1) := by decide +kernel
theorem dL_law_2429 : decode cL_law 2429 = .ok (.iload 53, 2) := by decide +kernel
theorem dL_law_2431 : decode cL_law 2431 = .ok (.iadd, 1) := by decide +kernel
theorem dL_law_2432 : decode cL_law 2432 = .ok (.aload_n 2, 1) := by decide +kernel
theorem dL_law_2433 : decode cL_law 2433 = .ok (.iload 54, 2) := by decide +kernel
theorem dL_law_2435 : decode cL_law 2435 = .ok (.iaload, 1) := by decide +kernel
theorem dL_law_2436 : decode cL_law 2436 = .ok (.if_icmp .gt 7, 3) := by decide +kernel
theorem dL_law_2439 : decode cL_law 2439 = .ok (.iconst 1, 1) := by decide +kernel
theorem dL_law_2440 : decode cL_law 2440 = .ok (.goto 4, 3) := by decide +kernel
theorem dL_law_2443 : decode cL_law 2443 = .ok (.iconst 0, 1) := by decide +kernel
theorem dL_law_2444 : decode cL_law 2444 = .ok (.istore 55, 2) := by decide +kernel
theorem dL_law_2446 : decode cL_law 2446 = .ok (.iload 55, 2) := by decide +kernel
theorem dL_law_2448 : decode cL_law 2448 = .ok (.ifCond .ne 26, 3) := by decide +kernel
theorem dL_law_2451 : decode cL_law 2451 = .ok (.aload_n 1, 1) := by decide +kernel
theorem dL_law_2452 : decode cL_law 2452 = .ok (.iload 51, 2) := by decide +kernel
theorem dL_law_2454 : decode cL_law 2454 = .ok (.iload 53, 2) := by decide +kernel
theorem dL_law_2456 : decode cL_law 2456 = .ok (.invokestatic 177, 3) := by decide +kernel
theorem dL_law_2459 : decode cL_law 2459 = .ok (.ldc 22, 2) := by decide +kernel
theorem dL_law_2461 : decode cL_law 2461 = .ok (.if_icmp .ne 7, 3) := by decide +kernel
theorem dL_law_2464 : decode cL_law 2464 = .ok (.iconst 1, 1) := by decide +kernel
theorem dL_law_2465 : decode cL_law 2465 = .ok (.goto 4, 3) := by decide +kernel
theorem dL_law_2468 : decode cL_law 2468 = .ok (.iconst 0, 1) := by decide +kernel
theorem dL_law_2469 : decode cL_law 2469 = .ok (.istore 20, 2) := by decide +kernel
theorem dL_law_2471 : decode cL_law 2471 = .ok (.goto 284, 3) := by decide +kernel
theorem dL_law_2474 : decode cL_law 2474 = .ok (.aload 10, 2) := by decide +kernel
theorem dL_law_2476 : decode cL_law 2476 = .ok (.iload 51, 2) := by decide +kernel
theorem dL_law_2478 : decode cL_law 2478 = .ok (.iaload, 1) := by decide +kernel
theorem dL_law_2479 : decode cL_law 2479 = .ok (.iload 53, 2) := by decide +kernel
theorem dL_law_2481 : decode cL_law 2481 = .ok (.iload 52, 2) := by decide +kernel
theorem dL_law_2483 : decode cL_law 2483 = .ok (.invokestatic 94, 3) := by decide +kernel
theorem dL_law_2486 : decode cL_law 2486 = .ok (.istore 56, 2) := by decide +kernel
theorem dL_law_2488 : decode cL_law 2488 = .ok (.aload 10, 2) := by decide +kernel
theorem dL_law_2490 : decode cL_law 2490 = .ok (.iload 51, 2) := by decide +kernel
theorem dL_law_2492 : decode cL_law 2492 = .ok (.iaload, 1) := by decide +kernel
theorem dL_law_2493 : decode cL_law 2493 = .ok (.iload 56, 2) := by decide +kernel
theorem dL_law_2495 : decode cL_law 2495 = .ok (.isub, 1) := by decide +kernel
theorem dL_law_2496 : decode cL_law 2496 = .ok (.istore 57, 2) := by decide +kernel
theorem dL_law_2498 : decode cL_law 2498 = .ok (.iload 53, 2) := by decide +kernel
theorem dL_law_2500 : decode cL_law 2500 = .ok (.ifCond .le 15, 3) := by decide +kernel
theorem dL_law_2503 : decode cL_law 2503 = .ok (.iload 54, 2) := by decide +kernel
theorem dL_law_2505 : decode cL_law 2505 = .ok (.iload 53, 2) := by decide +kernel
theorem dL_law_2507 : decode cL_law 2507 = .ok (.iload 56, 2) := by decide +kernel
theorem dL_law_2509 : decode cL_law 2509 = .ok (.aload_n 3, 1) := by decide +kernel
theorem dL_law_2510 : decode cL_law 2510 = .ok (.aload 4, 2) := by decide +kernel
theorem dL_law_2512 : decode cL_law 2512 = .ok (.invokestatic 137, 3) := by decide +kernel
theorem dL_law_2515 : decode cL_law 2515 = .ok (.aload 9, 2) := by decide +kernel
theorem dL_law_2517 : decode cL_law 2517 = .ok (.iload 51, 2) := by decide +kernel
theorem dL_law_2519 : decode cL_law 2519 = .ok (.dup2, 1) := by decide +kernel
theorem dL_law_2520 : decode cL_law 2520 = .ok (.iaload, 1) := by decide +kernel
theorem dL_law_2521 : decode cL_law 2521 = .ok (.ldc 179, 2) := by decide +kernel
theorem dL_law_2523 : decode cL_law 2523 = .ok (.ior, 1) := by decide +kernel
theorem dL_law_2524 : decode cL_law 2524 = .ok (.iastore, 1) := by decide +kernel
theorem dL_law_2525 : decode cL_law 2525 = .ok (.ldc2_w 180, 3) := by decide +kernel
theorem dL_law_2528 : decode cL_law 2528 = .ok (.iload 57, 2) := by decide +kernel
theorem dL_law_2530 : decode cL_law 2530 = .ok (.i2l, 1) := by decide +kernel
theorem dL_law_2531 : decode cL_law 2531 = .ok (.lmul, 1) := by decide +kernel
theorem dL_law_2532 : decode cL_law 2532 = .ok (.aload 10, 2) := by decide +kernel
theorem dL_law_2534 : decode cL_law 2534 = .ok (.iload 51, 2) := by decide +kernel
theorem dL_law_2536 : decode cL_law 2536 = .ok (.iaload, 1) := by decide +kernel
theorem dL_law_2537 : decode cL_law 2537 = .ok (.i2l, 1) := by decide +kernel
theorem dL_law_2538 : decode cL_law 2538 = .ok (.lcmp, 1) := by decide +kernel
theorem dL_law_2539 : decode cL_law 2539 = .ok (.ifCond .gt 7, 3) := by decide +kernel
theorem dL_law_2542 : decode cL_law 2542 = .ok (.iconst 1, 1) := by decide +kernel
theorem dL_law_2543 : decode cL_law 2543 = .ok (.goto 4, 3) := by decide +kernel
theorem dL_law_2546 : decode cL_law 2546 = .ok (.iconst 0, 1) := by decide +kernel
theorem dL_law_2547 : decode cL_law 2547 = .ok (.istore 58, 2) := by decide +kernel
theorem dL_law_2549 : decode cL_law 2549 = .ok (.iload 58, 2) := by decide +kernel
theorem dL_law_2551 : decode cL_law 2551 = .ok (.ifCond .eq 16, 3) := by decide +kernel
theorem dL_law_2554 : decode cL_law 2554 = .ok (.aload 6, 2) := by decide +kernel
theorem dL_law_2556 : decode cL_law 2556 = .ok (.bipush 12, 2) := by decide +kernel
theorem dL_law_2558 : decode cL_law 2558 = .ok (.dup2, 1) := by decide +kernel
theorem dL_law_2559 : decode cL_law 2559 = .ok (.iaload, 1) := by decide +kernel
theorem dL_law_2560 : decode cL_law 2560 = .ok (.iload 57, 2) := by decide +kernel
theorem dL_law_2562 : decode cL_law 2562 = .ok (.iadd, 1) := by decide +kernel
theorem dL_law_2563 : decode cL_law 2563 = .ok (.iastore, 1) := by decide +kernel
theorem dL_law_2564 : decode cL_law 2564 = .ok (.goto 11, 3) := by decide +kernel
theorem dL_law_2567 : decode cL_law 2567 = .ok (.iload 57, 2) := by decide +kernel
theorem dL_law_2569 : decode cL_law 2569 = .ok (.aload 6, 2) := by decide +kernel
theorem dL_law_2571 : decode cL_law 2571 = .ok (.invokestatic 98, 3) := by decide +kernel
theorem dL_law_2574 : decode cL_law 2574 = .ok (.pop, 1) := by decide +kernel
theorem dL_law_2575 : decode cL_law 2575 = .ok (.aload_n 1, 1) := by decide +kernel
theorem dL_law_2576 : decode cL_law 2576 = .ok (.iload 51, 2) := by decide +kernel
theorem dL_law_2578 : decode cL_law 2578 = .ok (.iload 53, 2) := by decide +kernel
theorem dL_law_2580 : decode cL_law 2580 = .ok (.invokestatic 177, 3) := by decide +kernel
theorem dL_law_2583 : decode cL_law 2583 = .ok (.iload 58, 2) := by decide +kernel
theorem dL_law_2585 : decode cL_law 2585 = .ok (.ifCond .eq 7, 3) := by decide +kernel
theorem dL_law_2588 : decode cL_law 2588 = .ok (.iconst 0, 1) := by decide +kernel
theorem dL_law_2589 : decode cL_law 2589 = .ok (.goto 5, 3) := by decide +kernel
theorem dL_law_2592 : decode cL_law 2592 = .ok (.iload 57, 2) := by decide +kernel
theorem dL_law_2594 : decode cL_law 2594 = .ok (.if_icmp .ne 7, 3) := by decide +kernel
theorem dL_law_2597 : decode cL_law 2597 = .ok (.iconst 1, 1) := by decide +kernel
theorem dL_law_2598 : decode cL_law 2598 = .ok (.goto 4, 3) := by decide +kernel
theorem dL_law_2601 : decode cL_law 2601 = .ok (.iconst 0, 1) := by decide +kernel
theorem dL_law_2602 : decode cL_law 2602 = .ok (.istore 20, 2) := by decide +kernel
theorem dL_law_2604 : decode cL_law 2604 = .ok (.goto 151, 3) := by decide +kernel
theorem dL_law_2607 : decode cL_law 2607 = .ok (.iload 15, 2) := by decide +kernel
theorem dL_law_2609 : decode cL_law 2609 = .ok (.iconst 3, 1) := by decide +kernel
theorem dL_law_2610 : decode cL_law 2610 = .ok (.invokestatic 129, 3) := by decide +kernel
theorem dL_law_2613 : decode cL_law 2613 = .ok (.istore 59, 2) := by decide +kernel
theorem dL_law_2615 : decode cL_law 2615 = .ok (.aload_n 1, 1) := by decide +kernel
theorem dL_law_2616 : decode cL_law 2616 = .ok (.iload 59, 2) := by decide +kernel
theorem dL_law_2618 : decode cL_law 2618 = .ok (.iload 15, 2) := by decide +kernel
theorem dL_law_2620 : decode cL_law 2620 = .ok (.iconst 3, 1) := by decide +kernel
theorem dL_law_2621 : decode cL_law 2621 = .ok (.ishr, 1) := by decide +kernel
theorem dL_law_2622 : decode cL_law 2622 = .ok (.sipush 501, 3) := by decide +kernel
theorem dL_law_2625 : decode cL_law 2625 = .ok (.invokestatic 129, 3) := by decide +kernel
theorem dL_law_2628 : decode cL_law 2628 = .ok (.invokestatic 182, 3) := by decide +kernel
theorem dL_law_2631 : decode cL_law 2631 = .ok (.aload 5, 2) := by decide +kernel
theorem dL_law_2633 : decode cL_law 2633 = .ok (.iload 59, 2) := by decide +kernel
theorem dL_law_2635 : decode cL_law 2635 = .ok (.iaload, 1) := by decide +kernel
theorem dL_law_2636 : decode cL_law 2636 = .ok (.if_icmp .ne 7, 3) := by decide +kernel
theorem dL_law_2639 : decode cL_law 2639 = .ok (.iconst 1, 1) := by decide +kernel
theorem dL_law_2640 : decode cL_law 2640 = .ok (.goto 4, 3) := by decide +kernel
theorem dL_law_2643 : decode cL_law 2643 = .ok (.iconst 0, 1) := by decide +kernel
theorem dL_law_2644 : decode cL_law 2644 = .ok (.istore 20, 2) := by decide +kernel
theorem dL_law_2646 : decode cL_law 2646 = .ok (.aload 5, 2) := by decide +kernel
theorem dL_law_2648 : decode cL_law 2648 = .ok (.iload 59, 2) := by decide +kernel
theorem dL_law_2650 : decode cL_law 2650 = .ok (.iload 15, 2) := by decide +kernel
theorem dL_law_2652 : decode cL_law 2652 = .ok (.iconst 3, 1) := by decide +kernel
theorem dL_law_2653 : decode cL_law 2653 = .ok (.ishr, 1) := by decide +kernel
theorem dL_law_2654 : decode cL_law 2654 = .ok (.sipush 501, 3) := by decide +kernel
theorem dL_law_2657 : decode cL_law 2657 = .ok (.invokestatic 129, 3) := by decide +kernel
theorem dL_law_2660 : decode cL_law 2660 = .ok (.iastore, 1) := by decide +kernel
theorem dL_law_2661 : decode cL_law 2661 = .ok (.goto 94, 3) := by decide +kernel
theorem dL_law_2664 : decode cL_law 2664 = .ok (.iconst 1, 1) := by decide +kernel
theorem dL_law_2665 : decode cL_law 2665 = .ok (.iload 15, 2) := by decide +kernel
theorem dL_law_2667 : decode cL_law 2667 = .ok (.iload 14, 2) := by decide +kernel
theorem dL_law_2669 : decode cL_law 2669 = .ok (.sipush 28672, 3) := by decide +kernel
theorem dL_law_2672 : decode cL_law 2672 = .ok (.iand, 1) := by decide +kernel
theorem dL_law_2673 : decode cL_law 2673 = .ok (.ifCond .ne 8, 3) := by decide +kernel
theorem dL_law_2676 : decode cL_law 2676 = .ok (.bipush 60, 2) := by decide +kernel
theorem dL_law_2678 : decode cL_law 2678 = .ok (.goto 5, 3) := by decide +kernel
theorem dL_law_2681 : decode cL_law 2681 = .ok (.bipush 6, 2) := by decide +kernel
theorem dL_law_2683 : decode cL_law 2683 = .ok (.invokestatic 129, 3) := by decide +kernel
theorem dL_law_2686 : decode cL_law 2686 = .ok (.iadd, 1) := by decide +kernel
theorem dL_law_2687 : decode cL_law 2687 = .ok (.istore 60, 2) := by decide +kernel
theorem dL_law_2689 : decode cL_law 2689 = .ok (.aload 6, 2) := by decide +kernel
theorem dL_law_2691 : decode cL_law 2691 = .ok (.iconst 0, 1) := by decide +kernel
theorem dL_law_2692 : decode cL_law 2692 = .ok (.iaload, 1) := by decide +kernel
theorem dL_law_2693 : decode cL_law 2693 = .ok (.iload 60, 2) := by decide +kernel
theorem dL_law_2695 : decode cL_law 2695 = .ok (.iadd, 1) := by decide +kernel
theorem dL_law_2696 : decode cL_law 2696 = .ok (.sipush 900, 3) := by decide +kernel
theorem dL_law_2699 : decode cL_law 2699 = .ok (.if_icmp .le 6, 3) := by decide +kernel
theorem dL_law_2702 : decode cL_law 2702 = .ok (.goto 53, 3) := by decide +kernel
theorem dL_law_2705 : decode cL_law 2705 = .ok (.iconst 0, 1) := by decide +kernel
theorem dL_law_2706 : decode cL_law 2706 = .ok (.istore 61, 2) := by decide +kernel
theorem dL_law_2708 : decode cL_law 2708 = .ok (.iload 61, 2) := by decide +kernel
theorem dL_law_2710 : decode cL_law 2710 = .ok (.iload 60, 2) := by decide +kernel
theorem dL_law_2712 : decode cL_law 2712 = .ok (.if_icmp .ge 23, 3) := by decide +kernel
theorem dL_law_2715 : decode cL_law 2715 = .ok (.aload_n 3, 1) := by decide +kernel
theorem dL_law_2716 : decode cL_law 2716 = .ok (.aload 4, 2) := by decide +kernel
theorem dL_law_2718 : decode cL_law 2718 = .ok (.aload 5, 2) := by decide +kernel
theorem dL_law_2720 : decode cL_law 2720 = .ok (.aload 6, 2) := by decide +kernel
theorem dL_law_2722 : decode cL_law 2722 = .ok (.aload 9, 2) := by decide +kernel
theorem dL_law_2724 : decode cL_law 2724 = .ok (.aload 10, 2) := by decide +kernel
theorem dL_law_2726 : decode cL_law 2726 = .ok (.invokestatic 184, 3) := by decide +kernel
theorem dL_law_2729 : decode cL_law 2729 = .ok (.iinc 61 1, 3) := by decide +kernel
theorem dL_law_2732 : decode cL_law 2732 = .ok (.goto (-24), 3) := by decide +kernel
theorem dL_law_2735 : decode cL_law 2735 = .ok (.aload_n 1, 1) := by decide +kernel
theorem dL_law_2736 : decode cL_law 2736 = .ok (.iload 60, 2) := by decide +kernel
theorem dL_law_2738 : decode cL_law 2738 = .ok (.invokestatic 188, 3) := by decide +kernel
theorem dL_law_2741 : decode cL_law 2741 = .ok (.aload 6, 2) := by decide +kernel
theorem dL_law_2743 : decode cL_law 2743 = .ok (.iconst 2, 1) := by decide +kernel
theorem dL_law_2744 : decode cL_law 2744 = .ok (.iaload, 1) := by decide +kernel
theorem dL_law_2745 : decode cL_law 2745 = .ok (.if_icmp .ne 7, 3) := by decide +kernel
theorem dL_law_2748 : decode cL_law 2748 = .ok (.iconst 1, 1) := by decide +kernel
theorem dL_law_2749 : decode cL_law 2749 = .ok (.goto 4, 3) := by decide +kernel
theorem dL_law_2752 : decode cL_law 2752 = .ok (.iconst 0, 1) := by decide +kernel
theorem dL_law_2753 : decode cL_law 2753 = .ok (.istore 20, 2) := by decide +kernel
theorem dL_law_2755 : decode cL_law 2755 = .ok (.iload 20, 2) := by decide +kernel
theorem dL_law_2757 : decode cL_law 2757 = .ok (.ifCond .eq 24, 3) := by decide +kernel
theorem dL_law_2760 : decode cL_law 2760 = .ok (.aload_n 1, 1) := by decide +kernel
theorem dL_law_2761 : decode cL_law 2761 = .ok (.iload 13, 2) := by decide +kernel
theorem dL_law_2763 : decode cL_law 2763 = .ok (.aload_n 2, 1) := by decide +kernel
theorem dL_law_2764 : decode cL_law 2764 = .ok (.aload_n 3, 1) := by decide +kernel
theorem dL_law_2765 : decode cL_law 2765 = .ok (.aload 4, 2) := by decide +kernel
theorem dL_law_2767 : decode cL_law 2767 = .ok (.aload 6, 2) := by decide +kernel
theorem dL_law_2769 : decode cL_law 2769 = .ok (.aload 7, 2) := by decide +kernel
theorem dL_law_2771 : decode cL_law 2771 = .ok (.aload 9, 2) := by decide +kernel
theorem dL_law_2773 : decode cL_law 2773 = .ok (.aload 10, 2) := by decide +kernel
theorem dL_law_2775 : decode cL_law 2775 = .ok (.invokestatic 190, 3) := by decide +kernel
theorem dL_law_2778 : decode cL_law 2778 = .ok (.ifCond .ne 5, 3) := by decide +kernel
theorem dL_law_2781 : decode cL_law 2781 = .ok (.iconst 0, 1) := by decide +kernel
theorem dL_law_2782 : decode cL_law 2782 = .ok (.ireturn, 1) := by decide +kernel
theorem dL_law_2783 : decode cL_law 2783 = .ok (.iinc 13 1, 3) := by decide +kernel
theorem dL_law_2786 : decode cL_law 2786 = .ok (.goto (-2656), 3) := by decide +kernel
theorem dL_law_2789 : decode cL_law 2789 = .ok (.aload_n 1, 1) := by decide +kernel
theorem dL_law_2790 : decode cL_law 2790 = .ok (.iconst 5, 1) := by decide +kernel
theorem dL_law_2791 : decode cL_law 2791 = .ok (.iconst 1, 1) := by decide +kernel
theorem dL_law_2792 : decode cL_law 2792 = .ok (.invokestatic 156, 3) := by decide +kernel
theorem dL_law_2795 : decode cL_law 2795 = .ok (.ldc 16, 2) := by decide +kernel
theorem dL_law_2797 : decode cL_law 2797 = .ok (.if_icmp .ne 21, 3) := by decide +kernel
theorem dL_law_2800 : decode cL_law 2800 = .ok (.aload_n 1, 1) := by decide +kernel
theorem dL_law_2801 : decode cL_law 2801 = .ok (.iconst 0, 1) := by decide +kernel
theorem dL_law_2802 : decode cL_law 2802 = .ok (.iconst 0, 1) := by decide +kernel
theorem dL_law_2803 : decode cL_law 2803 = .ok (.iconst 1, 1) := by decide +kernel
theorem dL_law_2804 : decode cL_law 2804 = .ok (.iconst 1, 1) := by decide +kernel
theorem dL_law_2805 : decode cL_law 2805 = .ok (.iconst 1, 1) := by decide +kernel
theorem dL_law_2806 : decode cL_law 2806 = .ok (.invokestatic 134, 3) := by decide +kernel
theorem dL_law_2809 : decode cL_law 2809 = .ok (.ldc 19, 2) := by decide +kernel
theorem dL_law_2811 : decode cL_law 2811 = .ok (.if_icmp .ne 7, 3) := by decide +kernel
theorem dL_law_2814 : decode cL_law 2814 = .ok (.iconst 1, 1) := by decide +kernel
theorem dL_law_2815 : decode cL_law 2815 = .ok (.goto 4, 3) := by decide +kernel
theorem dL_law_2818 : decode cL_law 2818 = .ok (.iconst 0, 1) := by decide +kernel
theorem dL_law_2819 : decode cL_law 2819 = .ok (.ireturn, 1) := by decide +kernel
