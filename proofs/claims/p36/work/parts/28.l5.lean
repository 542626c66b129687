theorem dL_law_1958 : decode cL_law 1958 = .ok (.ishr, 1) := by decide +kernel
theorem dL_law_1959 : decode cL_law 1959 = .ok (.ldc 122, 2) := by decide +kernel
theorem dL_law_1961 : decode cL_law 1961 = .ok (.invokestatic 68, 3) := by decide +kernel
theorem dL_law_1964 : decode cL_law 1964 = .ok (.iadd, 1) := by decide +kernel
theorem dL_law_1965 : decode cL_law 1965 = .ok (.istore 28, 2) := by decide +kernel
theorem dL_law_1967 : decode cL_law 1967 = .ok (.aload 11, 2) := by decide +kernel
theorem dL_law_1969 : decode cL_law 1969 = .ok (.iload 23, 2) := by decide +kernel
theorem dL_law_1971 : decode cL_law 1971 = .ok (.dup2, 1) := by decide +kernel
theorem dL_law_1972 : decode cL_law 1972 = .ok (.laload, 1) := by decide +kernel
theorem dL_law_1973 : decode cL_law 1973 = .ok (.iload 28, 2) := by decide +kernel
theorem dL_law_1975 : decode cL_law 1975 = .ok (.i2l, 1) := by decide +kernel
theorem dL_law_1976 : decode cL_law 1976 = .ok (.ladd, 1) := by decide +kernel
theorem dL_law_1977 : decode cL_law 1977 = .ok (.lastore, 1) := by decide +kernel
theorem dL_law_1978 : decode cL_law 1978 = .ok (.aload_n 1, 1) := by decide +kernel
theorem dL_law_1979 : decode cL_law 1979 = .ok (.iload 23, 2) := by decide +kernel
theorem dL_law_1981 : decode cL_law 1981 = .ok (.iload 28, 2) := by decide +kernel
theorem dL_law_1983 : decode cL_law 1983 = .ok (.invokevirtual 123, 3) := by decide +kernel
theorem dL_law_1986 : decode cL_law 1986 = .ok (.lload 26, 2) := by decide +kernel
theorem dL_law_1988 : decode cL_law 1988 = .ok (.iload 28, 2) := by decide +kernel
theorem dL_law_1990 : decode cL_law 1990 = .ok (.i2l, 1) := by decide +kernel
theorem dL_law_1991 : decode cL_law 1991 = .ok (.lsub, 1) := by decide +kernel
theorem dL_law_1992 : decode cL_law 1992 = .ok (.lcmp, 1) := by decide +kernel
theorem dL_law_1993 : decode cL_law 1993 = .ok (.ifCond .eq 5, 3) := by decide +kernel
theorem dL_law_1996 : decode cL_law 1996 = .ok (.iconst 0, 1) := by decide +kernel
theorem dL_law_1997 : decode cL_law 1997 = .ok (.ireturn, 1) := by decide +kernel
theorem dL_law_1998 : decode cL_law 1998 = .ok (.lload 26, 2) := by decide +kernel
theorem dL_law_2000 : decode cL_law 2000 = .ok (.iload 28, 2) := by decide +kernel
theorem dL_law_2002 : decode cL_law 2002 = .ok (.i2l, 1) := by decide +kernel
theorem dL_law_2003 : decode cL_law 2003 = .ok (.lcmp, 1) := by decide +kernel
theorem dL_law_2004 : decode cL_law 2004 = .ok (.ifCond .gt 12, 3) := by decide +kernel
theorem dL_law_2007 : decode cL_law 2007 = .ok (.aload 10, 2) := by decide +kernel
theorem dL_law_2009 : decode cL_law 2009 = .ok (.bipush 9, 2) := by decide +kernel
theorem dL_law_2011 : decode cL_law 2011 = .ok (.iload 23, 2) := by decide +kernel
theorem dL_law_2013 : decode cL_law 2013 = .ok (.iadd, 1) := by decide +kernel
theorem dL_law_2014 : decode cL_law 2014 = .ok (.iconst (-1), 1) := by decide +kernel
theorem dL_law_2015 : decode cL_law 2015 = .ok (.iastore, 1) := by decide +kernel
theorem dL_law_2016 : decode cL_law 2016 = .ok (.goto 544, 3) := by decide +kernel
theorem dL_law_2019 : decode cL_law 2019 = .ok (.iload 22, 2) := by decide +kernel
theorem dL_law_2021 : decode cL_law 2021 = .ok (.bipush 10, 2) := by decide +kernel
theorem dL_law_2023 : decode cL_law 2023 = .ok (.if_icmp .ne 495, 3) := by decide +kernel
theorem dL_law_2026 : decode cL_law 2026 = .ok (.aload 10, 2) := by decide +kernel
theorem dL_law_2028 : decode cL_law 2028 = .ok (.bipush 12, 2) := by decide +kernel
theorem dL_law_2030 : decode cL_law 2030 = .ok (.iaload, 1) := by decide +kernel
theorem dL_law_2031 : decode cL_law 2031 = .ok (.istore 26, 2) := by decide +kernel
theorem dL_law_2033 : decode cL_law 2033 = .ok (.iload 26, 2) := by decide +kernel
theorem dL_law_2035 : decode cL_law 2035 = .ok (.iconst 3, 1) := by decide +kernel
theorem dL_law_2036 : decode cL_law 2036 = .ok (.if_icmp .ge 20, 3) := by decide +kernel
theorem dL_law_2039 : decode cL_law 2039 = .ok (.iload 17, 2) := by decide +kernel
theorem dL_law_2041 : decode cL_law 2041 = .ok (.bipush 100, 2) := by decide +kernel
theorem dL_law_2043 : decode cL_law 2043 = .ok (.iload 26, 2) := by decide +kernel
theorem dL_law_2045 : decode cL_law 2045 = .ok (.imul, 1) := by decide +kernel
theorem dL_law_2046 : decode cL_law 2046 = .ok (.bipush 100, 2) := by decide +kernel
theorem dL_law_2048 : decode cL_law 2048 = .ok (.iadd, 1) := by decide +kernel
theorem dL_law_2049 : decode cL_law 2049 = .ok (.if_icmp .lt 7, 3) := by decide +kernel
theorem dL_law_2052 : decode cL_law 2052 = .ok (.iconst 1, 1) := by decide +kernel
theorem dL_law_2053 : decode cL_law 2053 = .ok (.goto 4, 3) := by decide +kernel
theorem dL_law_2056 : decode cL_law 2056 = .ok (.iconst 0, 1) := by decide +kernel
theorem dL_law_2057 : decode cL_law 2057 = .ok (.istore 27, 2) := by decide +kernel
theorem dL_law_2059 : decode cL_law 2059 = .ok (.iconst 0, 1) := by decide +kernel
theorem dL_law_2060 : decode cL_law 2060 = .ok (.istore 28, 2) := by decide +kernel
theorem dL_law_2062 : decode cL_law 2062 = .ok (.iload 28, 2) := by decide +kernel
theorem dL_law_2064 : decode cL_law 2064 = .ok (.iload 15, 2) := by decide +kernel
theorem dL_law_2066 : decode cL_law 2066 = .ok (.if_icmp .ge 45, 3) := by decide +kernel
theorem dL_law_2069 : decode cL_law 2069 = .ok (.aload 5, 2) := by decide +kernel
theorem dL_law_2071 : decode cL_law 2071 = .ok (.bipush 6, 2) := by decide +kernel
theorem dL_law_2073 : decode cL_law 2073 = .ok (.iload 28, 2) := by decide +kernel
theorem dL_law_2075 : decode cL_law 2075 = .ok (.imul, 1) := by decide +kernel
theorem dL_law_2076 : decode cL_law 2076 = .ok (.iconst 2, 1) := by decide +kernel
theorem dL_law_2077 : decode cL_law 2077 = .ok (.iadd, 1) := by decide +kernel
theorem dL_law_2078 : decode cL_law 2078 = .ok (.iaload, 1) := by decide +kernel
theorem dL_law_2079 : decode cL_law 2079 = .ok (.bipush 100, 2) := by decide +kernel
theorem dL_law_2081 : decode cL_law 2081 = .ok (.idiv, 1) := by decide +kernel
theorem dL_law_2082 : decode cL_law 2082 = .ok (.iload 26, 2) := by decide +kernel
theorem dL_law_2084 : decode cL_law 2084 = .ok (.if_icmp .ne 21, 3) := by decide +kernel
theorem dL_law_2087 : decode cL_law 2087 = .ok (.aload 5, 2) := by decide +kernel
theorem dL_law_2089 : decode cL_law 2089 = .ok (.bipush 6, 2) := by decide +kernel
theorem dL_law_2091 : decode cL_law 2091 = .ok (.iload 28, 2) := by decide +kernel
theorem dL_law_2093 : decode cL_law 2093 = .ok (.imul, 1) := by decide +kernel
theorem dL_law_2094 : decode cL_law 2094 = .ok (.iconst 5, 1) := by decide +kernel
theorem dL_law_2095 : decode cL_law 2095 = .ok (.iadd, 1) := by decide +kernel
theorem dL_law_2096 : decode cL_law 2096 = .ok (.iaload, 1) := by decide +kernel
theorem dL_law_2097 : decode cL_law 2097 = .ok (.iconst 1, 1) := by decide +kernel
theorem dL_law_2098 : decode cL_law 2098 = .ok (.iand, 1) := by decide +kernel
theorem dL_law_2099 : decode cL_law 2099 = .ok (.ifCond .ne 6, 3) := by decide +kernel
theorem dL_law_2102 : decode cL_law 2102 = .ok (.iconst 0, 1) := by decide +kernel
theorem dL_law_2103 : decode cL_law 2103 = .ok (.istore 27, 2) := by decide +kernel
theorem dL_law_2105 : decode cL_law 2105 = .ok (.iinc 28 1, 3) := by decide +kernel
theorem dL_law_2108 : decode cL_law 2108 = .ok (.goto (-46), 3) := by decide +kernel
theorem dL_law_2111 : decode cL_law 2111 = .ok (.iload 26, 2) := by decide +kernel
theorem dL_law_2113 : decode cL_law 2113 = .ok (.iconst 3, 1) := by decide +kernel
theorem dL_law_2114 : decode cL_law 2114 = .ok (.if_icmp .ge 401, 3) := by decide +kernel
theorem dL_law_2117 : decode cL_law 2117 = .ok (.aload_n 2, 1) := by decide +kernel
theorem dL_law_2118 : decode cL_law 2118 = .ok (.iload 14, 2) := by decide +kernel
theorem dL_law_2120 : decode cL_law 2120 = .ok (.aload_n 3, 1) := by decide +kernel
theorem dL_law_2121 : decode cL_law 2121 = .ok (.aload 5, 2) := by decide +kernel
theorem dL_law_2123 : decode cL_law 2123 = .ok (.iload 15, 2) := by decide +kernel
theorem dL_law_2125 : decode cL_law 2125 = .ok (.aload 6, 2) := by decide +kernel
theorem dL_law_2127 : decode cL_law 2127 = .ok (.aload 7, 2) := by decide +kernel
theorem dL_law_2129 : decode cL_law 2129 = .ok (.aload 10, 2) := by decide +kernel
theorem dL_law_2131 : decode cL_law 2131 = .ok (.iload 16, 2) := by decide +kernel
theorem dL_law_2133 : decode cL_law 2133 = .ok (.iload 26, 2) := by decide +kernel
theorem dL_law_2135 : decode cL_law 2135 = .ok (.invokestatic 126, 3) := by decide +kernel
theorem dL_law_2138 : decode cL_law 2138 = .ok (.lstore 28, 2) := by decide +kernel
theorem dL_law_2140 : decode cL_law 2140 = .ok (.aload_n 1, 1) := by decide +kernel
theorem dL_law_2141 : decode cL_law 2141 = .ok (.iload 26, 2) := by decide +kernel
theorem dL_law_2143 : decode cL_law 2143 = .ok (.invokestatic 130, 3) := by decide +kernel
theorem dL_law_2146 : decode cL_law 2146 = .ok (.iload 27, 2) := by decide +kernel
theorem dL_law_2148 : decode cL_law 2148 = .ok (.ifCond .eq 8, 3) := by decide +kernel
theorem dL_law_2151 : decode cL_law 2151 = .ok (.lload 28, 2) := by decide +kernel
theorem dL_law_2153 : decode cL_law 2153 = .ok (.goto 6, 3) := by decide +kernel
theorem dL_law_2156 : decode cL_law 2156 = .ok (.ldc2_w 38, 3) := by decide +kernel
theorem dL_law_2159 : decode cL_law 2159 = .ok (.lcmp, 1) := by decide +kernel
theorem dL_law_2160 : decode cL_law 2160 = .ok (.ifCond .eq 5, 3) := by decide +kernel
theorem dL_law_2163 : decode cL_law 2163 = .ok (.iconst 0, 1) := by decide +kernel
theorem dL_law_2164 : decode cL_law 2164 = .ok (.ireturn, 1) := by decide +kernel
theorem dL_law_2165 : decode cL_law 2165 = .ok (.iload 27, 2) := by decide +kernel
theorem dL_law_2167 : decode cL_law 2167 = .ok (.ifCond .eq 348, 3) := by decide +kernel
theorem dL_law_2170 : decode cL_law 2170 = .ok (.iconst 0, 1) := by decide +kernel
theorem dL_law_2171 : decode cL_law 2171 = .ok (.istore 30, 2) := by decide +kernel
theorem dL_law_2173 : decode cL_law 2173 = .ok (.iload 30, 2) := by decide +kernel
theorem dL_law_2175 : decode cL_law 2175 = .ok (.iload 15, 2) := by decide +kernel
theorem dL_law_2177 : decode cL_law 2177 = .ok (.if_icmp .ge 57, 3) := by decide +kernel
theorem dL_law_2180 : decode cL_law 2180 = .ok (.aload 5, 2) := by decide +kernel
theorem dL_law_2182 : decode cL_law 2182 = .ok (.bipush 6, 2) := by decide +kernel
theorem dL_law_2184 : decode cL_law 2184 = .ok (.iload 30, 2) := by decide +kernel
theorem dL_law_2186 : decode cL_law 2186 = .ok (.imul, 1) := by decide +kernel
theorem dL_law_2187 : decode cL_law 2187 = .ok (.iconst 2, 1) := by decide +kernel
theorem dL_law_2188 : decode cL_law 2188 = .ok (.iadd, 1) := by decide +kernel
theorem dL_law_2189 : decode cL_law 2189 = .ok (.iaload, 1) := by decide +kernel
theorem dL_law_2190 : decode cL_law 2190 = .ok (.bipush 100, 2) := by decide +kernel
theorem dL_law_2192 : decode cL_law 2192 = .ok (.idiv, 1) := by decide +kernel
theorem dL_law_2193 : decode cL_law 2193 = .ok (.iload 26, 2) := by decide +kernel
theorem dL_law_2195 : decode cL_law 2195 = .ok (.if_icmp .ne 33, 3) := by decide +kernel
theorem dL_law_2198 : decode cL_law 2198 = .ok (.aload_n 2, 1) := by decide +kernel
theorem dL_law_2199 : decode cL_law 2199 = .ok (.iload 14, 2) := by decide +kernel
theorem dL_law_2201 : decode cL_law 2201 = .ok (.aload_n 3, 1) := by decide +kernel
theorem dL_law_2202 : decode cL_law 2202 = .ok (.aload 5, 2) := by decide +kernel
theorem dL_law_2204 : decode cL_law 2204 = .ok (.aload 10, 2) := by decide +kernel
theorem dL_law_2206 : decode cL_law 2206 = .ok (.iload 30, 2) := by decide +kernel
theorem dL_law_2208 : decode cL_law 2208 = .ok (.invokestatic 12, 3) := by decide +kernel
theorem dL_law_2211 : decode cL_law 2211 = .ok (.ifCond .eq 17, 3) := by decide +kernel
theorem dL_law_2214 : decode cL_law 2214 = .ok (.aload 5, 2) := by decide +kernel
theorem dL_law_2216 : decode cL_law 2216 = .ok (.bipush 6, 2) := by decide +kernel
theorem dL_law_2218 : decode cL_law 2218 = .ok (.iload 30, 2) := by decide +kernel
theorem dL_law_2220 : decode cL_law 2220 = .ok (.imul, 1) := by decide +kernel
theorem dL_law_2221 : decode cL_law 2221 = .ok (.iconst 5, 1) := by decide +kernel
theorem dL_law_2222 : decode cL_law 2222 = .ok (.iadd, 1) := by decide +kernel
theorem dL_law_2223 : decode cL_law 2223 = .ok (.dup2, 1) := by decide +kernel
theorem dL_law_2224 : decode cL_law 2224 = .ok (.iaload, 1) := by decide +kernel
theorem dL_law_2225 : decode cL_law 2225 = .ok (.iconst 4, 1) := by decide +kernel
theorem dL_law_2226 : decode cL_law 2226 = .ok (.ior, 1) := by decide +kernel
theorem dL_law_2227 : decode cL_law 2227 = .ok (.iastore, 1) := by decide +kernel
theorem dL_law_2228 : decode cL_law 2228 = .ok (.iinc 30 1, 3) := by decide +kernel
theorem dL_law_2231 : decode cL_law 2231 = .ok (.goto (-58), 3) := by decide +kernel
theorem dL_law_2234 : decode cL_law 2234 = .ok (.lconst 0, 1) := by decide +kernel
theorem dL_law_2235 : decode cL_law 2235 = .ok (.lstore 30, 2) := by decide +kernel
theorem dL_law_2237 : decode cL_law 2237 = .ok (.iconst 0, 1) := by decide +kernel
theorem dL_law_2238 : decode cL_law 2238 = .ok (.istore 32, 2) := by decide +kernel
theorem dL_law_2240 : decode cL_law 2240 = .ok (.iload 32, 2) := by decide +kernel
theorem dL_law_2242 : decode cL_law 2242 = .ok (.iconst 3, 1) := by decide +kernel
theorem dL_law_2243 : decode cL_law 2243 = .ok (.if_icmp .ge 59, 3) := by decide +kernel
theorem dL_law_2246 : decode cL_law 2246 = .ok (.aload 10, 2) := by decide +kernel
theorem dL_law_2248 : decode cL_law 2248 = .ok (.iconst 3, 1) := by decide +kernel
theorem dL_law_2249 : decode cL_law 2249 = .ok (.iload 32, 2) := by decide +kernel
theorem dL_law_2251 : decode cL_law 2251 = .ok (.imul, 1) := by decide +kernel
theorem dL_law_2252 : decode cL_law 2252 = .ok (.iload 26, 2) := by decide +kernel
theorem dL_law_2254 : decode cL_law 2254 = .ok (.iadd, 1) := by decide +kernel
theorem dL_law_2255 : decode cL_law 2255 = .ok (.iaload, 1) := by decide +kernel
theorem dL_law_2256 : decode cL_law 2256 = .ok (.iconst 1, 1) := by decide +kernel
theorem dL_law_2257 : decode cL_law 2257 = .ok (.if_icmp .ne 21, 3) := by decide +kernel
theorem dL_law_2260 : decode cL_law 2260 = .ok (.lload 28, 2) := by decide +kernel
theorem dL_law_2262 : decode cL_law 2262 = .ok (.aload 9, 2) := by decide +kernel
theorem dL_law_2264 : decode cL_law 2264 = .ok (.iconst 3, 1) := by decide +kernel
theorem dL_law_2265 : decode cL_law 2265 = .ok (.iload 32, 2) := by decide +kernel
theorem dL_law_2267 : decode cL_law 2267 = .ok (.imul, 1) := by decide +kernel
theorem dL_law_2268 : decode cL_law 2268 = .ok (.iload 26, 2) := by decide +kernel
theorem dL_law_2270 : decode cL_law 2270 = .ok (.iadd, 1) := by decide +kernel
theorem dL_law_2271 : decode cL_law 2271 = .ok (.laload, 1) := by decide +kernel
theorem dL_law_2272 : decode cL_law 2272 = .ok (.lsub, 1) := by decide +kernel
theorem dL_law_2273 : decode cL_law 2273 = .ok (.lstore 28, 2) := by decide +kernel
theorem dL_law_2275 : decode cL_law 2275 = .ok (.goto 21, 3) := by decide +kernel
theorem dL_law_2278 : decode cL_law 2278 = .ok (.lload 30, 2) := by decide +kernel
theorem dL_law_2280 : decode cL_law 2280 = .ok (.aload_n 2, 1) := by decide +kernel
theorem dL_law_2281 : decode cL_law 2281 = .ok (.iload 14, 2) := by decide +kernel
theorem dL_law_2283 : decode cL_law 2283 = .ok (.aload_n 3, 1) := by decide +kernel
theorem dL_law_2284 : decode cL_law 2284 = .ok (.aload 4, 2) := by decide +kernel
theorem dL_law_2286 : decode cL_law 2286 = .ok (.iload 32, 2) := by decide +kernel
theorem dL_law_2288 : decode cL_law 2288 = .ok (.iload 26, 2) := by decide +kernel
theorem dL_law_2290 : decode cL_law 2290 = .ok (.invokestatic 24, 3) := by decide +kernel
theorem dL_law_2293 : decode cL_law 2293 = .ok (.ladd, 1) := by decide +kernel
theorem dL_law_2294 : decode cL_law 2294 = .ok (.lstore 30, 2) := by decide +kernel
theorem dL_law_2296 : decode cL_law 2296 = .ok (.iinc 32 1, 3) := by decide +kernel
theorem dL_law_2299 : decode cL_law 2299 = .ok (.goto (-59), 3) := by decide +kernel
theorem dL_law_2302 : decode cL_law 2302 = .ok (.lload 30, 2) := by decide +kernel
theorem dL_law_2304 : decode cL_law 2304 = .ok (.lconst 0, 1) := by decide +kernel
theorem dL_law_2305 : decode cL_law 2305 = .ok (.lcmp, 1) := by decide +kernel
theorem dL_law_2306 : decode cL_law 2306 = .ok (.ifCond .ne 10, 3) := by decide +kernel
theorem dL_law_2309 : decode cL_law 2309 = .ok (.lload 12, 2) := by decide +kernel
theorem dL_law_2311 : decode cL_law 2311 = .ok (.lload 28, 2) := by decide +kernel
theorem dL_law_2313 : decode cL_law 2313 = .ok (.lsub, 1) := by decide +kernel
theorem dL_law_2314 : decode cL_law 2314 = .ok (.lstore 12, 2) := by decide +kernel
theorem dL_law_2316 : decode cL_law 2316 = .ok (.lload 28, 2) := by decide +kernel
theorem dL_law_2318 : decode cL_law 2318 = .ok (.lstore 32, 2) := by decide +kernel
theorem dL_law_2320 : decode cL_law 2320 = .ok (.iconst 0, 1) := by decide +kernel
theorem dL_law_2321 : decode cL_law 2321 = .ok (.istore 34, 2) := by decide +kernel
theorem dL_law_2323 : decode cL_law 2323 = .ok (.iload 34, 2) := by decide +kernel
theorem dL_law_2325 : decode cL_law 2325 = .ok (.iconst 3, 1) := by decide +kernel
theorem dL_law_2326 : decode cL_law 2326 = .ok (.if_icmp .ge 114, 3) := by decide +kernel
theorem dL_law_2329 : decode cL_law 2329 = .ok (.lload 30, 2) := by decide +kernel
theorem dL_law_2331 : decode cL_law 2331 = .ok (.lconst 0, 1) := by decide +kernel
theorem dL_law_2332 : decode cL_law 2332 = .ok (.lcmp, 1) := by decide +kernel
theorem dL_law_2333 : decode cL_law 2333 = .ok (.ifCond .le 107, 3) := by decide +kernel
theorem dL_law_2336 : decode cL_law 2336 = .ok (.aload_n 2, 1) := by decide +kernel
theorem dL_law_2337 : decode cL_law 2337 = .ok (.iload 14, 2) := by decide +kernel
theorem dL_law_2339 : decode cL_law 2339 = .ok (.aload_n 3, 1) := by decide +kernel
theorem dL_law_2340 : decode cL_law 2340 = .ok (.aload 4, 2) := by decide +kernel
theorem dL_law_2342 : decode cL_law 2342 = .ok (.iload 34, 2) := by decide +kernel
theorem dL_law_2344 : decode cL_law 2344 = .ok (.iload 26, 2) := by decide +kernel
theorem dL_law_2346 : decode cL_law 2346 = .ok (.invokestatic 24, 3) := by decide +kernel
theorem dL_law_2349 : decode cL_law 2349 = .ok (.lstore 35, 2) := by decide +kernel
theorem dL_law_2351 : decode cL_law 2351 = .ok (.aload 10, 2) := by decide +kernel
theorem dL_law_2353 : decode cL_law 2353 = .ok (.iconst 3, 1) := by decide +kernel
theorem dL_law_2354 : decode cL_law 2354 = .ok (.iload 34, 2) := by decide +kernel
theorem dL_law_2356 : decode cL_law 2356 = .ok (.imul, 1) := by decide +kernel
theorem dL_law_2357 : decode cL_law 2357 = .ok (.iload 26, 2) := by decide +kernel
theorem dL_law_2359 : decode cL_law 2359 = .ok (.iadd, 1) := by decide +kernel
theorem dL_law_2360 : decode cL_law 2360 = .ok (.iaload, 1) := by decide +kernel
theorem dL_law_2361 : decode cL_law 2361 = .ok (.iconst 1, 1) := by decide +kernel
theorem dL_law_2362 : decode cL_law 2362 = .ok (.if_icmp .eq 72, 3) := by decide +kernel
theorem dL_law_2365 : decode cL_law 2365 = .ok (.lload 35, 2) := by decide +kernel
theorem dL_law_2367 : decode cL_law 2367 = .ok (.lconst 0, 1) := by decide +kernel
theorem dL_law_2368 : decode cL_law 2368 = .ok (.lcmp, 1) := by decide +kernel
theorem dL_law_2369 : decode cL_law 2369 = .ok (.ifCond .ne 6, 3) := by decide +kernel
theorem dL_law_2372 : decode cL_law 2372 = .ok (.goto 62, 3) := by decide +kernel
theorem dL_law_2375 : decode cL_law 2375 = .ok (.lload 28, 2) := by decide +kernel
theorem dL_law_2377 : decode cL_law 2377 = .ok (.lload 35, 2) := by decide +kernel
theorem dL_law_2379 : decode cL_law 2379 = .ok (.lmul, 1) := by decide +kernel
theorem dL_law_2380 : decode cL_law 2380 = .ok (.lload 30, 2) := by decide +kernel
theorem dL_law_2382 : decode cL_law 2382 = .ok (.ldiv, 1) := by decide +kernel
theorem dL_law_2383 : decode cL_law 2383 = .ok (.lstore 37, 2) := by decide +kernel
theorem dL_law_2385 : decode cL_law 2385 = .ok (.lload 28, 2) := by decide +kernel
theorem dL_law_2387 : decode cL_law 2387 = .ok (.lload 35, 2) := by decide +kernel
theorem dL_law_2389 : decode cL_law 2389 = .ok (.lmul, 1) := by decide +kernel
theorem dL_law_2390 : decode cL_law 2390 = .ok (.lload 30, 2) := by decide +kernel
theorem dL_law_2392 : decode cL_law 2392 = .ok (.lrem, 1) := by decide +kernel
theorem dL_law_2393 : decode cL_law 2393 = .ok (.lconst 0, 1) := by decide +kernel
theorem dL_law_2394 : decode cL_law 2394 = .ok (.lcmp, 1) := by decide +kernel
theorem dL_law_2395 : decode cL_law 2395 = .ok (.ifCond .ge 9, 3) := by decide +kernel
theorem dL_law_2398 : decode cL_law 2398 = .ok (.lload 37, 2) := by decide +kernel
theorem dL_law_2400 : decode cL_law 2400 = .ok (.lconst 1, 1) := by decide +kernel
theorem dL_law_2401 : decode cL_law 2401 = .ok (.lsub, 1) := by decide +kernel
theorem dL_law_2402 : decode cL_law 2402 = .ok (.lstore 37, 2) := by decide +kernel
theorem dL_law_2404 : decode cL_law 2404 = .ok (.aload 9, 2) := by decide +kernel
theorem dL_law_2406 : decode cL_law 2406 = .ok (.iconst 3, 1) := by decide +kernel
theorem dL_law_2407 : decode cL_law 2407 = .ok (.iload 34, 2) := by decide +kernel
theorem dL_law_2409 : decode cL_law 2409 = .ok (.imul, 1) := by decide +kernel
theorem dL_law_2410 : decode cL_law 2410 = .ok (.iload 26, 2) := by decide +kernel
theorem dL_law_2412 : decode cL_law 2412 = .ok (.iadd, 1) := by decide +kernel
theorem dL_law_2413 : decode cL_law 2413 = .ok (.lload 37, 2) := by decide +kernel
theorem dL_law_2415 : decode cL_law 2415 = .ok (.lastore, 1) := by decide +kernel
theorem dL_law_2416 : decode cL_law 2416 = .ok (.aload 10, 2) := by decide +kernel
theorem dL_law_2418 : decode cL_law 2418 = .ok (.iconst 3, 1) := by decide +kernel
theorem dL_law_2419 : decode cL_law 2419 = .ok (.iload 34, 2) := by decide +kernel
theorem dL_law_2421 : decode cL_law 2421 = .ok (.imul, 1) := by decide +kernel
theorem dL_law_2422 : decode cL_law 2422 = .ok (.iload 26, 2) := by decide +kernel
theorem dL_law_2424 : decode cL_law 2424 = .ok (.iadd, 1) := by decide +kernel
theorem dL_law_2425 : decode cL_law 2425 = .ok (.iconst 2, 1) := by decide +kernel
theorem dL_law_2426 : decode cL_law 2426 = .ok (.iastore, 1) := by decide +kernel
theorem dL_law_2427 : decode cL_law 2427 = .ok (.lload 32, 2) := by decide +kernel
theorem dL_law_2429 : decode cL_law 2429 = .ok (.lload 37, 2) := by decide +kernel
theorem dL_law_2431 : decode cL_law 2431 = .ok (.lsub, 1) := by decide +kernel
theorem dL_law_2432 : decode cL_law 2432 = .ok (.lstore 32, 2) := by decide +kernel
theorem dL_law_2434 : decode cL_law 2434 = .ok (.iinc 34 1, 3) := by decide +kernel
theorem dL_law_2437 : decode cL_law 2437 = .ok (.goto (-114), 3) := by decide +kernel
theorem dL_law_2440 : decode cL_law 2440 = .ok (.iconst 0, 1) := by decide +kernel
