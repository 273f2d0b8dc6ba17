theorem dL_law_2009 : decode cL_law 2009 = .ok (.i2l, 1) := by decide +kernel
theorem dL_law_2010 : decode cL_law 2010 = .ok (.lcmp, 1) := by decide +kernel
theorem dL_law_2011 : decode cL_law 2011 = .ok (.ifCond .eq 5, 3) := by decide +kernel
theorem dL_law_2014 : decode cL_law 2014 = .ok (.iconst 0, 1) := by decide +kernel
theorem dL_law_2015 : decode cL_law 2015 = .ok (.ireturn, 1) := by decide +kernel
theorem dL_law_2016 : decode cL_law 2016 = .ok (.goto 663, 3) := by decide +kernel
theorem dL_law_2019 : decode cL_law 2019 = .ok (.aload_n 1, 1) := by decide +kernel
theorem dL_law_2020 : decode cL_law 2020 = .ok (.aload_n 0, 1) := by decide +kernel
theorem dL_law_2021 : decode cL_law 2021 = .ok (.iload 5, 2) := by decide +kernel
theorem dL_law_2023 : decode cL_law 2023 = .ok (.iconst 1, 1) := by decide +kernel
theorem dL_law_2024 : decode cL_law 2024 = .ok (.iadd, 1) := by decide +kernel
theorem dL_law_2025 : decode cL_law 2025 = .ok (.iaload, 1) := by decide +kernel
theorem dL_law_2026 : decode cL_law 2026 = .ok (.aload_n 3, 1) := by decide +kernel
theorem dL_law_2027 : decode cL_law 2027 = .ok (.invokestatic 238, 3) := by decide +kernel
theorem dL_law_2030 : decode cL_law 2030 = .ok (.istore 6, 2) := by decide +kernel
theorem dL_law_2032 : decode cL_law 2032 = .ok (.aload_n 2, 1) := by decide +kernel
theorem dL_law_2033 : decode cL_law 2033 = .ok (.aload_n 0, 1) := by decide +kernel
theorem dL_law_2034 : decode cL_law 2034 = .ok (.iload 5, 2) := by decide +kernel
theorem dL_law_2036 : decode cL_law 2036 = .ok (.iconst 1, 1) := by decide +kernel
theorem dL_law_2037 : decode cL_law 2037 = .ok (.iadd, 1) := by decide +kernel
theorem dL_law_2038 : decode cL_law 2038 = .ok (.iaload, 1) := by decide +kernel
theorem dL_law_2039 : decode cL_law 2039 = .ok (.invokevirtual 240, 3) := by decide +kernel
theorem dL_law_2042 : decode cL_law 2042 = .ok (.istore 7, 2) := by decide +kernel
theorem dL_law_2044 : decode cL_law 2044 = .ok (.aload_n 2, 1) := by decide +kernel
theorem dL_law_2045 : decode cL_law 2045 = .ok (.invokevirtual 156, 3) := by decide +kernel
theorem dL_law_2048 : decode cL_law 2048 = .ok (.iload 6, 2) := by decide +kernel
theorem dL_law_2050 : decode cL_law 2050 = .ok (.if_icmp .eq 5, 3) := by decide +kernel
theorem dL_law_2053 : decode cL_law 2053 = .ok (.iconst 0, 1) := by decide +kernel
theorem dL_law_2054 : decode cL_law 2054 = .ok (.ireturn, 1) := by decide +kernel
theorem dL_law_2055 : decode cL_law 2055 = .ok (.iload 6, 2) := by decide +kernel
theorem dL_law_2057 : decode cL_law 2057 = .ok (.ifCond .ne 15, 3) := by decide +kernel
theorem dL_law_2060 : decode cL_law 2060 = .ok (.aload_n 3, 1) := by decide +kernel
theorem dL_law_2061 : decode cL_law 2061 = .ok (.iconst 0, 1) := by decide +kernel
theorem dL_law_2062 : decode cL_law 2062 = .ok (.laload, 1) := by decide +kernel
theorem dL_law_2063 : decode cL_law 2063 = .ok (.iload 7, 2) := by decide +kernel
theorem dL_law_2065 : decode cL_law 2065 = .ok (.i2l, 1) := by decide +kernel
theorem dL_law_2066 : decode cL_law 2066 = .ok (.lcmp, 1) := by decide +kernel
theorem dL_law_2067 : decode cL_law 2067 = .ok (.ifCond .eq 5, 3) := by decide +kernel
theorem dL_law_2070 : decode cL_law 2070 = .ok (.iconst 0, 1) := by decide +kernel
theorem dL_law_2071 : decode cL_law 2071 = .ok (.ireturn, 1) := by decide +kernel
theorem dL_law_2072 : decode cL_law 2072 = .ok (.goto 607, 3) := by decide +kernel
theorem dL_law_2075 : decode cL_law 2075 = .ok (.aload_n 1, 1) := by decide +kernel
theorem dL_law_2076 : decode cL_law 2076 = .ok (.aload_n 0, 1) := by decide +kernel
theorem dL_law_2077 : decode cL_law 2077 = .ok (.iload 5, 2) := by decide +kernel
theorem dL_law_2079 : decode cL_law 2079 = .ok (.iconst 1, 1) := by decide +kernel
theorem dL_law_2080 : decode cL_law 2080 = .ok (.iadd, 1) := by decide +kernel
theorem dL_law_2081 : decode cL_law 2081 = .ok (.iaload, 1) := by decide +kernel
theorem dL_law_2082 : decode cL_law 2082 = .ok (.aload_n 3, 1) := by decide +kernel
theorem dL_law_2083 : decode cL_law 2083 = .ok (.invokestatic 241, 3) := by decide +kernel
theorem dL_law_2086 : decode cL_law 2086 = .ok (.istore 6, 2) := by decide +kernel
theorem dL_law_2088 : decode cL_law 2088 = .ok (.aload_n 2, 1) := by decide +kernel
theorem dL_law_2089 : decode cL_law 2089 = .ok (.aload_n 0, 1) := by decide +kernel
theorem dL_law_2090 : decode cL_law 2090 = .ok (.iload 5, 2) := by decide +kernel
theorem dL_law_2092 : decode cL_law 2092 = .ok (.iconst 1, 1) := by decide +kernel
theorem dL_law_2093 : decode cL_law 2093 = .ok (.iadd, 1) := by decide +kernel
theorem dL_law_2094 : decode cL_law 2094 = .ok (.iaload, 1) := by decide +kernel
theorem dL_law_2095 : decode cL_law 2095 = .ok (.invokevirtual 243, 3) := by decide +kernel
theorem dL_law_2098 : decode cL_law 2098 = .ok (.istore 7, 2) := by decide +kernel
theorem dL_law_2100 : decode cL_law 2100 = .ok (.aload_n 2, 1) := by decide +kernel
theorem dL_law_2101 : decode cL_law 2101 = .ok (.invokevirtual 156, 3) := by decide +kernel
theorem dL_law_2104 : decode cL_law 2104 = .ok (.iload 6, 2) := by decide +kernel
theorem dL_law_2106 : decode cL_law 2106 = .ok (.if_icmp .eq 5, 3) := by decide +kernel
theorem dL_law_2109 : decode cL_law 2109 = .ok (.iconst 0, 1) := by decide +kernel
theorem dL_law_2110 : decode cL_law 2110 = .ok (.ireturn, 1) := by decide +kernel
theorem dL_law_2111 : decode cL_law 2111 = .ok (.iload 6, 2) := by decide +kernel
theorem dL_law_2113 : decode cL_law 2113 = .ok (.ifCond .ne 15, 3) := by decide +kernel
theorem dL_law_2116 : decode cL_law 2116 = .ok (.aload_n 3, 1) := by decide +kernel
theorem dL_law_2117 : decode cL_law 2117 = .ok (.iconst 0, 1) := by decide +kernel
theorem dL_law_2118 : decode cL_law 2118 = .ok (.laload, 1) := by decide +kernel
theorem dL_law_2119 : decode cL_law 2119 = .ok (.iload 7, 2) := by decide +kernel
theorem dL_law_2121 : decode cL_law 2121 = .ok (.i2l, 1) := by decide +kernel
theorem dL_law_2122 : decode cL_law 2122 = .ok (.lcmp, 1) := by decide +kernel
theorem dL_law_2123 : decode cL_law 2123 = .ok (.ifCond .eq 5, 3) := by decide +kernel
theorem dL_law_2126 : decode cL_law 2126 = .ok (.iconst 0, 1) := by decide +kernel
theorem dL_law_2127 : decode cL_law 2127 = .ok (.ireturn, 1) := by decide +kernel
theorem dL_law_2128 : decode cL_law 2128 = .ok (.goto 551, 3) := by decide +kernel
theorem dL_law_2131 : decode cL_law 2131 = .ok (.aload_n 1, 1) := by decide +kernel
theorem dL_law_2132 : decode cL_law 2132 = .ok (.aload_n 0, 1) := by decide +kernel
theorem dL_law_2133 : decode cL_law 2133 = .ok (.iload 5, 2) := by decide +kernel
theorem dL_law_2135 : decode cL_law 2135 = .ok (.iconst 1, 1) := by decide +kernel
theorem dL_law_2136 : decode cL_law 2136 = .ok (.iadd, 1) := by decide +kernel
theorem dL_law_2137 : decode cL_law 2137 = .ok (.iaload, 1) := by decide +kernel
theorem dL_law_2138 : decode cL_law 2138 = .ok (.ifCond .eq 7, 3) := by decide +kernel
theorem dL_law_2141 : decode cL_law 2141 = .ok (.iconst 1, 1) := by decide +kernel
theorem dL_law_2142 : decode cL_law 2142 = .ok (.goto 4, 3) := by decide +kernel
theorem dL_law_2145 : decode cL_law 2145 = .ok (.iconst 0, 1) := by decide +kernel
theorem dL_law_2146 : decode cL_law 2146 = .ok (.aload_n 3, 1) := by decide +kernel
theorem dL_law_2147 : decode cL_law 2147 = .ok (.invokestatic 244, 3) := by decide +kernel
theorem dL_law_2150 : decode cL_law 2150 = .ok (.istore 6, 2) := by decide +kernel
theorem dL_law_2152 : decode cL_law 2152 = .ok (.aload_n 2, 1) := by decide +kernel
theorem dL_law_2153 : decode cL_law 2153 = .ok (.aload_n 0, 1) := by decide +kernel
theorem dL_law_2154 : decode cL_law 2154 = .ok (.iload 5, 2) := by decide +kernel
theorem dL_law_2156 : decode cL_law 2156 = .ok (.iconst 1, 1) := by decide +kernel
theorem dL_law_2157 : decode cL_law 2157 = .ok (.iadd, 1) := by decide +kernel
theorem dL_law_2158 : decode cL_law 2158 = .ok (.iaload, 1) := by decide +kernel
theorem dL_law_2159 : decode cL_law 2159 = .ok (.ifCond .eq 7, 3) := by decide +kernel
theorem dL_law_2162 : decode cL_law 2162 = .ok (.iconst 1, 1) := by decide +kernel
theorem dL_law_2163 : decode cL_law 2163 = .ok (.goto 4, 3) := by decide +kernel
theorem dL_law_2166 : decode cL_law 2166 = .ok (.iconst 0, 1) := by decide +kernel
theorem dL_law_2167 : decode cL_law 2167 = .ok (.invokevirtual 247, 3) := by decide +kernel
theorem dL_law_2170 : decode cL_law 2170 = .ok (.istore 7, 2) := by decide +kernel
theorem dL_law_2172 : decode cL_law 2172 = .ok (.aload_n 2, 1) := by decide +kernel
theorem dL_law_2173 : decode cL_law 2173 = .ok (.invokevirtual 156, 3) := by decide +kernel
theorem dL_law_2176 : decode cL_law 2176 = .ok (.iload 6, 2) := by decide +kernel
theorem dL_law_2178 : decode cL_law 2178 = .ok (.if_icmp .eq 5, 3) := by decide +kernel
theorem dL_law_2181 : decode cL_law 2181 = .ok (.iconst 0, 1) := by decide +kernel
theorem dL_law_2182 : decode cL_law 2182 = .ok (.ireturn, 1) := by decide +kernel
theorem dL_law_2183 : decode cL_law 2183 = .ok (.iload 6, 2) := by decide +kernel
theorem dL_law_2185 : decode cL_law 2185 = .ok (.ifCond .ne 15, 3) := by decide +kernel
theorem dL_law_2188 : decode cL_law 2188 = .ok (.aload_n 3, 1) := by decide +kernel
theorem dL_law_2189 : decode cL_law 2189 = .ok (.iconst 0, 1) := by decide +kernel
theorem dL_law_2190 : decode cL_law 2190 = .ok (.laload, 1) := by decide +kernel
theorem dL_law_2191 : decode cL_law 2191 = .ok (.iload 7, 2) := by decide +kernel
theorem dL_law_2193 : decode cL_law 2193 = .ok (.i2l, 1) := by decide +kernel
theorem dL_law_2194 : decode cL_law 2194 = .ok (.lcmp, 1) := by decide +kernel
theorem dL_law_2195 : decode cL_law 2195 = .ok (.ifCond .eq 5, 3) := by decide +kernel
theorem dL_law_2198 : decode cL_law 2198 = .ok (.iconst 0, 1) := by decide +kernel
theorem dL_law_2199 : decode cL_law 2199 = .ok (.ireturn, 1) := by decide +kernel
theorem dL_law_2200 : decode cL_law 2200 = .ok (.goto 479, 3) := by decide +kernel
theorem dL_law_2203 : decode cL_law 2203 = .ok (.aload_n 1, 1) := by decide +kernel
theorem dL_law_2204 : decode cL_law 2204 = .ok (.aload_n 0, 1) := by decide +kernel
theorem dL_law_2205 : decode cL_law 2205 = .ok (.iload 5, 2) := by decide +kernel
theorem dL_law_2207 : decode cL_law 2207 = .ok (.iconst 1, 1) := by decide +kernel
theorem dL_law_2208 : decode cL_law 2208 = .ok (.iadd, 1) := by decide +kernel
theorem dL_law_2209 : decode cL_law 2209 = .ok (.iaload, 1) := by decide +kernel
theorem dL_law_2210 : decode cL_law 2210 = .ok (.aload_n 3, 1) := by decide +kernel
theorem dL_law_2211 : decode cL_law 2211 = .ok (.invokestatic 248, 3) := by decide +kernel
theorem dL_law_2214 : decode cL_law 2214 = .ok (.istore 6, 2) := by decide +kernel
theorem dL_law_2216 : decode cL_law 2216 = .ok (.aload_n 2, 1) := by decide +kernel
theorem dL_law_2217 : decode cL_law 2217 = .ok (.aload_n 0, 1) := by decide +kernel
theorem dL_law_2218 : decode cL_law 2218 = .ok (.iload 5, 2) := by decide +kernel
theorem dL_law_2220 : decode cL_law 2220 = .ok (.iconst 1, 1) := by decide +kernel
theorem dL_law_2221 : decode cL_law 2221 = .ok (.iadd, 1) := by decide +kernel
theorem dL_law_2222 : decode cL_law 2222 = .ok (.iaload, 1) := by decide +kernel
theorem dL_law_2223 : decode cL_law 2223 = .ok (.invokevirtual 250, 3) := by decide +kernel
theorem dL_law_2226 : decode cL_law 2226 = .ok (.istore 7, 2) := by decide +kernel
theorem dL_law_2228 : decode cL_law 2228 = .ok (.aload_n 2, 1) := by decide +kernel
theorem dL_law_2229 : decode cL_law 2229 = .ok (.invokevirtual 156, 3) := by decide +kernel
theorem dL_law_2232 : decode cL_law 2232 = .ok (.iload 6, 2) := by decide +kernel
theorem dL_law_2234 : decode cL_law 2234 = .ok (.if_icmp .eq 5, 3) := by decide +kernel
theorem dL_law_2237 : decode cL_law 2237 = .ok (.iconst 0, 1) := by decide +kernel
theorem dL_law_2238 : decode cL_law 2238 = .ok (.ireturn, 1) := by decide +kernel
theorem dL_law_2239 : decode cL_law 2239 = .ok (.iload 6, 2) := by decide +kernel
theorem dL_law_2241 : decode cL_law 2241 = .ok (.ifCond .ne 15, 3) := by decide +kernel
theorem dL_law_2244 : decode cL_law 2244 = .ok (.aload_n 3, 1) := by decide +kernel
theorem dL_law_2245 : decode cL_law 2245 = .ok (.iconst 0, 1) := by decide +kernel
theorem dL_law_2246 : decode cL_law 2246 = .ok (.laload, 1) := by decide +kernel
theorem dL_law_2247 : decode cL_law 2247 = .ok (.iload 7, 2) := by decide +kernel
theorem dL_law_2249 : decode cL_law 2249 = .ok (.i2l, 1) := by decide +kernel
theorem dL_law_2250 : decode cL_law 2250 = .ok (.lcmp, 1) := by decide +kernel
theorem dL_law_2251 : decode cL_law 2251 = .ok (.ifCond .eq 5, 3) := by decide +kernel
theorem dL_law_2254 : decode cL_law 2254 = .ok (.iconst 0, 1) := by decide +kernel
theorem dL_law_2255 : decode cL_law 2255 = .ok (.ireturn, 1) := by decide +kernel
theorem dL_law_2256 : decode cL_law 2256 = .ok (.goto 423, 3) := by decide +kernel
theorem dL_law_2259 : decode cL_law 2259 = .ok (.aload_n 1, 1) := by decide +kernel
theorem dL_law_2260 : decode cL_law 2260 = .ok (.aload 4, 2) := by decide +kernel
theorem dL_law_2262 : decode cL_law 2262 = .ok (.invokestatic 251, 3) := by decide +kernel
theorem dL_law_2265 : decode cL_law 2265 = .ok (.istore 6, 2) := by decide +kernel
theorem dL_law_2267 : decode cL_law 2267 = .ok (.aload_n 2, 1) := by decide +kernel
theorem dL_law_2268 : decode cL_law 2268 = .ok (.invokevirtual 254, 3) := by decide +kernel
theorem dL_law_2271 : decode cL_law 2271 = .ok (.dstore 7, 2) := by decide +kernel
theorem dL_law_2273 : decode cL_law 2273 = .ok (.aload_n 2, 1) := by decide +kernel
theorem dL_law_2274 : decode cL_law 2274 = .ok (.invokevirtual 156, 3) := by decide +kernel
theorem dL_law_2277 : decode cL_law 2277 = .ok (.iload 6, 2) := by decide +kernel
theorem dL_law_2279 : decode cL_law 2279 = .ok (.if_icmp .eq 5, 3) := by decide +kernel
theorem dL_law_2282 : decode cL_law 2282 = .ok (.iconst 0, 1) := by decide +kernel
theorem dL_law_2283 : decode cL_law 2283 = .ok (.ireturn, 1) := by decide +kernel
theorem dL_law_2284 : decode cL_law 2284 = .ok (.iload 6, 2) := by decide +kernel
theorem dL_law_2286 : decode cL_law 2286 = .ok (.ifCond .ne 35, 3) := by decide +kernel
theorem dL_law_2289 : decode cL_law 2289 = .ok (.aload 4, 2) := by decide +kernel
theorem dL_law_2291 : decode cL_law 2291 = .ok (.iconst 0, 1) := by decide +kernel
theorem dL_law_2292 : decode cL_law 2292 = .ok (.daload, 1) := by decide +kernel
theorem dL_law_2293 : decode cL_law 2293 = .ok (.dload 7, 2) := by decide +kernel
theorem dL_law_2295 : decode cL_law 2295 = .ok (.dcmp .l, 1) := by decide +kernel
theorem dL_law_2296 : decode cL_law 2296 = .ok (.ifCond .eq 25, 3) := by decide +kernel
theorem dL_law_2299 : decode cL_law 2299 = .ok (.aload 4, 2) := by decide +kernel
theorem dL_law_2301 : decode cL_law 2301 = .ok (.iconst 0, 1) := by decide +kernel
theorem dL_law_2302 : decode cL_law 2302 = .ok (.daload, 1) := by decide +kernel
theorem dL_law_2303 : decode cL_law 2303 = .ok (.aload 4, 2) := by decide +kernel
theorem dL_law_2305 : decode cL_law 2305 = .ok (.iconst 0, 1) := by decide +kernel
theorem dL_law_2306 : decode cL_law 2306 = .ok (.daload, 1) := by decide +kernel
theorem dL_law_2307 : decode cL_law 2307 = .ok (.dcmp .l, 1) := by decide +kernel
theorem dL_law_2308 : decode cL_law 2308 = .ok (.ifCond .eq 11, 3) := by decide +kernel
theorem dL_law_2311 : decode cL_law 2311 = .ok (.dload 7, 2) := by decide +kernel
theorem dL_law_2313 : decode cL_law 2313 = .ok (.dload 7, 2) := by decide +kernel
theorem dL_law_2315 : decode cL_law 2315 = .ok (.dcmp .l, 1) := by decide +kernel
theorem dL_law_2316 : decode cL_law 2316 = .ok (.ifCond .ne 5, 3) := by decide +kernel
theorem dL_law_2319 : decode cL_law 2319 = .ok (.iconst 0, 1) := by decide +kernel
theorem dL_law_2320 : decode cL_law 2320 = .ok (.ireturn, 1) := by decide +kernel
theorem dL_law_2321 : decode cL_law 2321 = .ok (.goto 358, 3) := by decide +kernel
theorem dL_law_2324 : decode cL_law 2324 = .ok (.aload_n 1, 1) := by decide +kernel
theorem dL_law_2325 : decode cL_law 2325 = .ok (.aload 4, 2) := by decide +kernel
theorem dL_law_2327 : decode cL_law 2327 = .ok (.invokestatic 255, 3) := by decide +kernel
theorem dL_law_2330 : decode cL_law 2330 = .ok (.istore 6, 2) := by decide +kernel
theorem dL_law_2332 : decode cL_law 2332 = .ok (.aload_n 2, 1) := by decide +kernel
theorem dL_law_2333 : decode cL_law 2333 = .ok (.invokevirtual 257, 3) := by decide +kernel
theorem dL_law_2336 : decode cL_law 2336 = .ok (.fstore 7, 2) := by decide +kernel
theorem dL_law_2338 : decode cL_law 2338 = .ok (.aload_n 2, 1) := by decide +kernel
theorem dL_law_2339 : decode cL_law 2339 = .ok (.invokevirtual 156, 3) := by decide +kernel
theorem dL_law_2342 : decode cL_law 2342 = .ok (.iload 6, 2) := by decide +kernel
theorem dL_law_2344 : decode cL_law 2344 = .ok (.if_icmp .eq 5, 3) := by decide +kernel
theorem dL_law_2347 : decode cL_law 2347 = .ok (.iconst 0, 1) := by decide +kernel
theorem dL_law_2348 : decode cL_law 2348 = .ok (.ireturn, 1) := by decide +kernel
theorem dL_law_2349 : decode cL_law 2349 = .ok (.iload 6, 2) := by decide +kernel
theorem dL_law_2351 : decode cL_law 2351 = .ok (.ifCond .ne 36, 3) := by decide +kernel
theorem dL_law_2354 : decode cL_law 2354 = .ok (.aload 4, 2) := by decide +kernel
theorem dL_law_2356 : decode cL_law 2356 = .ok (.iconst 0, 1) := by decide +kernel
theorem dL_law_2357 : decode cL_law 2357 = .ok (.daload, 1) := by decide +kernel
theorem dL_law_2358 : decode cL_law 2358 = .ok (.fload 7, 2) := by decide +kernel
theorem dL_law_2360 : decode cL_law 2360 = .ok (.f2d, 1) := by decide +kernel
theorem dL_law_2361 : decode cL_law 2361 = .ok (.dcmp .l, 1) := by decide +kernel
theorem dL_law_2362 : decode cL_law 2362 = .ok (.ifCond .eq 25, 3) := by decide +kernel
theorem dL_law_2365 : decode cL_law 2365 = .ok (.aload 4, 2) := by decide +kernel
theorem dL_law_2367 : decode cL_law 2367 = .ok (.iconst 0, 1) := by decide +kernel
theorem dL_law_2368 : decode cL_law 2368 = .ok (.daload, 1) := by decide +kernel
theorem dL_law_2369 : decode cL_law 2369 = .ok (.aload 4, 2) := by decide +kernel
theorem dL_law_2371 : decode cL_law 2371 = .ok (.iconst 0, 1) := by decide +kernel
theorem dL_law_2372 : decode cL_law 2372 = .ok (.daload, 1) := by decide +kernel
theorem dL_law_2373 : decode cL_law 2373 = .ok (.dcmp .l, 1) := by decide +kernel
theorem dL_law_2374 : decode cL_law 2374 = .ok (.ifCond .eq 11, 3) := by decide +kernel
theorem dL_law_2377 : decode cL_law 2377 = .ok (.fload 7, 2) := by decide +kernel
theorem dL_law_2379 : decode cL_law 2379 = .ok (.fload 7, 2) := by decide +kernel
theorem dL_law_2381 : decode cL_law 2381 = .ok (.fcmp .l, 1) := by decide +kernel
theorem dL_law_2382 : decode cL_law 2382 = .ok (.ifCond .ne 5, 3) := by decide +kernel
theorem dL_law_2385 : decode cL_law 2385 = .ok (.iconst 0, 1) := by decide +kernel
theorem dL_law_2386 : decode cL_law 2386 = .ok (.ireturn, 1) := by decide +kernel
theorem dL_law_2387 : decode cL_law 2387 = .ok (.goto 292, 3) := by decide +kernel
theorem dL_law_2390 : decode cL_law 2390 = .ok (.aload_n 1, 1) := by decide +kernel
theorem dL_law_2391 : decode cL_law 2391 = .ok (.aload_n 0, 1) := by decide +kernel
theorem dL_law_2392 : decode cL_law 2392 = .ok (.iload 5, 2) := by decide +kernel
theorem dL_law_2394 : decode cL_law 2394 = .ok (.iconst 1, 1) := by decide +kernel
theorem dL_law_2395 : decode cL_law 2395 = .ok (.iadd, 1) := by decide +kernel
theorem dL_law_2396 : decode cL_law 2396 = .ok (.iaload, 1) := by decide +kernel
theorem dL_law_2397 : decode cL_law 2397 = .ok (.aload_n 3, 1) := by decide +kernel
theorem dL_law_2398 : decode cL_law 2398 = .ok (.invokestatic 258, 3) := by decide +kernel
theorem dL_law_2401 : decode cL_law 2401 = .ok (.istore 6, 2) := by decide +kernel
theorem dL_law_2403 : decode cL_law 2403 = .ok (.aload_n 2, 1) := by decide +kernel
theorem dL_law_2404 : decode cL_law 2404 = .ok (.aload_n 0, 1) := by decide +kernel
theorem dL_law_2405 : decode cL_law 2405 = .ok (.iload 5, 2) := by decide +kernel
theorem dL_law_2407 : decode cL_law 2407 = .ok (.iconst 1, 1) := by decide +kernel
theorem dL_law_2408 : decode cL_law 2408 = .ok (.iadd, 1) := by decide +kernel
theorem dL_law_2409 : decode cL_law 2409 = .ok (.iaload, 1) := by decide +kernel
theorem dL_law_2410 : decode cL_law 2410 = .ok (.invokevirtual 260, 3) := by decide +kernel
theorem dL_law_2413 : decode cL_law 2413 = .ok (.istore 7, 2) := by decide +kernel
theorem dL_law_2415 : decode cL_law 2415 = .ok (.aload_n 2, 1) := by decide +kernel
theorem dL_law_2416 : decode cL_law 2416 = .ok (.invokevirtual 156, 3) := by decide +kernel
theorem dL_law_2419 : decode cL_law 2419 = .ok (.iload 6, 2) := by decide +kernel
theorem dL_law_2421 : decode cL_law 2421 = .ok (.if_icmp .eq 5, 3) := by decide +kernel
theorem dL_law_2424 : decode cL_law 2424 = .ok (.iconst 0, 1) := by decide +kernel
theorem dL_law_2425 : decode cL_law 2425 = .ok (.ireturn, 1) := by decide +kernel
theorem dL_law_2426 : decode cL_law 2426 = .ok (.iload 6, 2) := by decide +kernel
theorem dL_law_2428 : decode cL_law 2428 = .ok (.ifCond .ne 15, 3) := by decide +kernel
theorem dL_law_2431 : decode cL_law 2431 = .ok (.aload_n 3, 1) := by decide +kernel
theorem dL_law_2432 : decode cL_law 2432 = .ok (.iconst 0, 1) := by decide +kernel
theorem dL_law_2433 : decode cL_law 2433 = .ok (.laload, 1) := by decide +kernel
theorem dL_law_2434 : decode cL_law 2434 = .ok (.iload 7, 2) := by decide +kernel
theorem dL_law_2436 : decode cL_law 2436 = .ok (.i2l, 1) := by decide +kernel
theorem dL_law_2437 : decode cL_law 2437 = .ok (.lcmp, 1) := by decide +kernel
theorem dL_law_2438 : decode cL_law 2438 = .ok (.ifCond .eq 5, 3) := by decide +kernel
theorem dL_law_2441 : decode cL_law 2441 = .ok (.iconst 0, 1) := by decide +kernel
theorem dL_law_2442 : decode cL_law 2442 = .ok (.ireturn, 1) := by decide +kernel
theorem dL_law_2443 : decode cL_law 2443 = .ok (.goto 236, 3) := by decide +kernel
theorem dL_law_2446 : decode cL_law 2446 = .ok (.aload_n 1, 1) := by decide +kernel
theorem dL_law_2447 : decode cL_law 2447 = .ok (.aload_n 3, 1) := by decide +kernel
theorem dL_law_2448 : decode cL_law 2448 = .ok (.invokestatic 261, 3) := by decide +kernel
theorem dL_law_2451 : decode cL_law 2451 = .ok (.istore 6, 2) := by decide +kernel
theorem dL_law_2453 : decode cL_law 2453 = .ok (.aload_n 2, 1) := by decide +kernel
theorem dL_law_2454 : decode cL_law 2454 = .ok (.invokevirtual 264, 3) := by decide +kernel
theorem dL_law_2457 : decode cL_law 2457 = .ok (.istore 7, 2) := by decide +kernel
theorem dL_law_2459 : decode cL_law 2459 = .ok (.aload_n 2, 1) := by decide +kernel
theorem dL_law_2460 : decode cL_law 2460 = .ok (.invokevirtual 156, 3) := by decide +kernel
theorem dL_law_2463 : decode cL_law 2463 = .ok (.iload 6, 2) := by decide +kernel
theorem dL_law_2465 : decode cL_law 2465 = .ok (.if_icmp .eq 5, 3) := by decide +kernel
theorem dL_law_2468 : decode cL_law 2468 = .ok (.iconst 0, 1) := by decide +kernel
theorem dL_law_2469 : decode cL_law 2469 = .ok (.ireturn, 1) := by decide +kernel
theorem dL_law_2470 : decode cL_law 2470 = .ok (.iload 6, 2) := by decide +kernel
theorem dL_law_2472 : decode cL_law 2472 = .ok (.ifCond .ne 15, 3) := by decide +kernel
theorem dL_law_2475 : decode cL_law 2475 = .ok (.aload_n 3, 1) := by decide +kernel
theorem dL_law_2476 : decode cL_law 2476 = .ok (.iconst 0, 1) := by decide +kernel
theorem dL_law_2477 : decode cL_law 2477 = .ok (.laload, 1) := by decide +kernel
theorem dL_law_2478 : decode cL_law 2478 = .ok (.iload 7, 2) := by decide +kernel
theorem dL_law_2480 : decode cL_law 2480 = .ok (.i2l, 1) := by decide +kernel
theorem dL_law_2481 : decode cL_law 2481 = .ok (.lcmp, 1) := by decide +kernel
theorem dL_law_2482 : decode cL_law 2482 = .ok (.ifCond .eq 5, 3) := by decide +kernel
theorem dL_law_2485 : decode cL_law 2485 = .ok (.iconst 0, 1) := by decide +kernel
theorem dL_law_2486 : decode cL_law 2486 = .ok (.ireturn, 1) := by decide +kernel
theorem dL_law_2487 : decode cL_law 2487 = .ok (.goto 192, 3) := by decide +kernel
theorem dL_law_2490 : decode cL_law 2490 = .ok (.aload_n 1, 1) := by decide +kernel
theorem dL_law_2491 : decode cL_law 2491 = .ok (.aload_n 3, 1) := by decide +kernel
theorem dL_law_2492 : decode cL_law 2492 = .ok (.invokestatic 265, 3) := by decide +kernel
theorem dL_law_2495 : decode cL_law 2495 = .ok (.istore 6, 2) := by decide +kernel
theorem dL_law_2497 : decode cL_law 2497 = .ok (.aload_n 2, 1) := by decide +kernel
theorem dL_law_2498 : decode cL_law 2498 = .ok (.invokevirtual 267, 3) := by decide +kernel
theorem dL_law_2501 : decode cL_law 2501 = .ok (.istore 7, 2) := by decide +kernel
theorem dL_law_2503 : decode cL_law 2503 = .ok (.aload_n 2, 1) := by decide +kernel
theorem dL_law_2504 : decode cL_law 2504 = .ok (.invokevirtual 156, 3) := by decide +kernel
theorem dL_law_2507 : decode cL_law 2507 = .ok (.iload 6, 2) := by decide +kernel
theorem dL_law_2509 : decode cL_law 2509 = .ok (.if_icmp .eq 5, 3) := by decide +kernel
theorem dL_law_2512 : decode cL_law 2512 = .ok (.iconst 0, 1) := by decide +kernel
theorem dL_law_2513 : decode cL_law 2513 = .ok (.ireturn, 1) := by decide +kernel
theorem dL_law_2514 : decode cL_law 2514 = .ok (.iload 6, 2) := by decide +kernel
theorem dL_law_2516 : decode cL_law 2516 = .ok (.ifCond .ne 15, 3) := by decide +kernel
theorem dL_law_2519 : decode cL_law 2519 = .ok (.aload_n 3, 1) := by decide +kernel
theorem dL_law_2520 : decode cL_law 2520 = .ok (.iconst 0, 1) := by decide +kernel
theorem dL_law_2521 : decode cL_law 2521 = .ok (.laload, 1) := by decide +kernel
theorem dL_law_2522 : decode cL_law 2522 = .ok (.iload 7, 2) := by decide +kernel
theorem dL_law_2524 : decode cL_law 2524 = .ok (.i2l, 1) := by decide +kernel
theorem dL_law_2525 : decode cL_law 2525 = .ok (.lcmp, 1) := by decide +kernel
theorem dL_law_2526 : decode cL_law 2526 = .ok (.ifCond .eq 5, 3) := by decide +kernel
theorem dL_law_2529 : decode cL_law 2529 = .ok (.iconst 0, 1) := by decide +kernel
theorem dL_law_2530 : decode cL_law 2530 = .ok (.ireturn, 1) := by decide +kernel
theorem dL_law_2531 : decode cL_law 2531 = .ok (.goto 148, 3) := by decide +kernel
theorem dL_law_2534 : decode cL_law 2534 = .ok (.aload_n 1, 1) := by decide +kernel
theorem dL_law_2535 : decode cL_law 2535 = .ok (.aload_n 3, 1) := by decide +kernel
theorem dL_law_2536 : decode cL_law 2536 = .ok (.invokestatic 268, 3) := by decide +kernel
theorem dL_law_2539 : decode cL_law 2539 = .ok (.istore 6, 2) := by decide +kernel
theorem dL_law_2541 : decode cL_law 2541 = .ok (.aload_n 2, 1) := by decide +kernel
theorem dL_law_2542 : decode cL_law 2542 = .ok (.invokevirtual 270, 3) := by decide +kernel
theorem dL_law_2545 : decode cL_law 2545 = .ok (.istore 7, 2) := by decide +kernel
theorem dL_law_2547 : decode cL_law 2547 = .ok (.aload_n 2, 1) := by decide +kernel
theorem dL_law_2548 : decode cL_law 2548 = .ok (.invokevirtual 156, 3) := by decide +kernel
theorem dL_law_2551 : decode cL_law 2551 = .ok (.iload 6, 2) := by decide +kernel
theorem dL_law_2553 : decode cL_law 2553 = .ok (.if_icmp .eq 5, 3) := by decide +kernel
theorem dL_law_2556 : decode cL_law 2556 = .ok (.iconst 0, 1) := by decide +kernel
theorem dL_law_2557 : decode cL_law 2557 = .ok (.ireturn, 1) := by decide +kernel
theorem dL_law_2558 : decode cL_law 2558 = .ok (.iload 6, 2) := by decide +kernel
theorem dL_law_2560 : decode cL_law 2560 = .ok (.ifCond .ne 15, 3) := by decide +kernel
theorem dL_law_2563 : decode cL_law 2563 = .ok (.aload_n 3, 1) := by decide +kernel
theorem dL_law_2564 : decode cL_law 2564 = .ok (.iconst 0, 1) := by decide +kernel
theorem dL_law_2565 : decode cL_law 2565 = .ok (.laload, 1) := by decide +kernel
theorem dL_law_2566 : decode cL_law 2566 = .ok (.iload 7, 2) := by decide +kernel
theorem dL_law_2568 : decode cL_law 2568 = .ok (.i2l, 1) := by decide +kernel
theorem dL_law_2569 : decode cL_law 2569 = .ok (.lcmp, 1) := by decide +kernel
theorem dL_law_2570 : decode cL_law 2570 = .ok (.ifCond .eq 5, 3) := by decide +kernel
theorem dL_law_2573 : decode cL_law 2573 = .ok (.iconst 0, 1) := by decide +kernel
theorem dL_law_2574 : decode cL_law 2574 = .ok (.ireturn, 1) := by decide +kernel
theorem dL_law_2575 : decode cL_law 2575 = .ok (.goto 104, 3) := by decide +kernel
theorem dL_law_2578 : decode cL_law 2578 = .ok (.aload_n 1, 1) := by decide +kernel
theorem dL_law_2579 : decode cL_law 2579 = .ok (.aload_n 3, 1) := by decide +kernel
theorem dL_law_2580 : decode cL_law 2580 = .ok (.invokestatic 271, 3) := by decide +kernel
theorem dL_law_2583 : decode cL_law 2583 = .ok (.istore 6, 2) := by decide +kernel
theorem dL_law_2585 : decode cL_law 2585 = .ok (.aload_n 2, 1) := by decide +kernel
theorem dL_law_2586 : decode cL_law 2586 = .ok (.invokevirtual 273, 3) := by decide +kernel
theorem dL_law_2589 : decode cL_law 2589 = .ok (.istore 7, 2) := by decide +kernel
theorem dL_law_2591 : decode cL_law 2591 = .ok (.aload_n 2, 1) := by decide +kernel
theorem dL_law_2592 : decode cL_law 2592 = .ok (.invokevirtual 156, 3) := by decide +kernel
theorem dL_law_2595 : decode cL_law 2595 = .ok (.iload 6, 2) := by decide +kernel
theorem dL_law_2597 : decode cL_law 2597 = .ok (.if_icmp .eq 5, 3) := by decide +kernel
theorem dL_law_2600 : decode cL_law 2600 = .ok (.iconst 0, 1) := by decide +kernel
theorem dL_law_2601 : decode cL_law 2601 = .ok (.ireturn, 1) := by decide +kernel
theorem dL_law_2602 : decode cL_law 2602 = .ok (.iload 6, 2) := by decide +kernel
theorem dL_law_2604 : decode cL_law 2604 = .ok (.ifCond .ne 15, 3) := by decide +kernel
theorem dL_law_2607 : decode cL_law 2607 = .ok (.aload_n 3, 1) := by decide +kernel
theorem dL_law_2608 : decode cL_law 2608 = .ok (.iconst 0, 1) := by decide +kernel
theorem dL_law_2609 : decode cL_law 2609 = .ok (.laload, 1) := by decide +kernel
theorem dL_law_2610 : decode cL_law 2610 = .ok (.iload 7, 2) := by decide +kernel
theorem dL_law_2612 : decode cL_law 2612 = .ok (.i2l, 1) := by decide +kernel
theorem dL_law_2613 : decode cL_law 2613 = .ok (.lcmp, 1) := by decide +kernel
theorem dL_law_2614 : decode cL_law 2614 = .ok (.ifCond .eq 5, 3) := by decide +kernel
theorem dL_law_2617 : decode cL_law 2617 = .ok (.iconst 0, 1) := by decide +kernel
theorem dL_law_2618 : decode cL_law 2618 = .ok (.ireturn, 1) := by decide +kernel
theorem dL_law_2619 : decode cL_law 2619 = .ok (.goto 60, 3) := by decide +kernel
theorem dL_law_2622 : decode cL_law 2622 = .ok (.aload_n 1, 1) := by decide +kernel
theorem dL_law_2623 : decode cL_law 2623 = .ok (.invokevirtual 274, 3) := by decide +kernel
theorem dL_law_2626 : decode cL_law 2626 = .ok (.aload_n 2, 1) := by decide +kernel
theorem dL_law_2627 : decode cL_law 2627 = .ok (.invokevirtual 277, 3) := by decide +kernel
theorem dL_law_2630 : decode cL_law 2630 = .ok (.if_icmp .eq 49, 3) := by decide +kernel
theorem dL_law_2633 : decode cL_law 2633 = .ok (.iconst 0, 1) := by decide +kernel
theorem dL_law_2634 : decode cL_law 2634 = .ok (.ireturn, 1) := by decide +kernel
theorem dL_law_2635 : decode cL_law 2635 = .ok (.aload_n 1, 1) := by decide +kernel
theorem dL_law_2636 : decode cL_law 2636 = .ok (.aload_n 3, 1) := by decide +kernel
theorem dL_law_2637 : decode cL_law 2637 = .ok (.invokestatic 278, 3) := by decide +kernel
theorem dL_law_2640 : decode cL_law 2640 = .ok (.istore 6, 2) := by decide +kernel
theorem dL_law_2642 : decode cL_law 2642 = .ok (.aload_n 2, 1) := by decide +kernel
theorem dL_law_2643 : decode cL_law 2643 = .ok (.invokevirtual 280, 3) := by decide +kernel
theorem dL_law_2646 : decode cL_law 2646 = .ok (.istore 7, 2) := by decide +kernel
theorem dL_law_2648 : decode cL_law 2648 = .ok (.aload_n 2, 1) := by decide +kernel
theorem dL_law_2649 : decode cL_law 2649 = .ok (.invokevirtual 156, 3) := by decide +kernel
theorem dL_law_2652 : decode cL_law 2652 = .ok (.iload 6, 2) := by decide +kernel
theorem dL_law_2654 : decode cL_law 2654 = .ok (.if_icmp .eq 5, 3) := by decide +kernel
theorem dL_law_2657 : decode cL_law 2657 = .ok (.iconst 0, 1) := by decide +kernel
theorem dL_law_2658 : decode cL_law 2658 = .ok (.ireturn, 1) := by decide +kernel
theorem dL_law_2659 : decode cL_law 2659 = .ok (.iload 6, 2) := by decide +kernel
theorem dL_law_2661 : decode cL_law 2661 = .ok (.ifCond .ne 15, 3) := by decide +kernel
theorem dL_law_2664 : decode cL_law 2664 = .ok (.aload_n 3, 1) := by decide +kernel
theorem dL_law_2665 : decode cL_law 2665 = .ok (.iconst 0, 1) := by decide +kernel
theorem dL_law_2666 : decode cL_law 2666 = .ok (.laload, 1) := by decide +kernel
theorem dL_law_2667 : decode cL_law 2667 = .ok (.iload 7, 2) := by decide +kernel
theorem dL_law_2669 : decode cL_law 2669 = .ok (.i2l, 1) := by decide +kernel
theorem dL_law_2670 : decode cL_law 2670 = .ok (.lcmp, 1) := by decide +kernel
theorem dL_law_2671 : decode cL_law 2671 = .ok (.ifCond .eq 5, 3) := by decide +kernel
theorem dL_law_2674 : decode cL_law 2674 = .ok (.iconst 0, 1) := by decide +kernel
theorem dL_law_2675 : decode cL_law 2675 = .ok (.ireturn, 1) := by decide +kernel
theorem dL_law_2676 : decode cL_law 2676 = .ok (.goto 3, 3) := by decide +kernel
theorem dL_law_2679 : decode cL_law 2679 = .ok (.iinc 5 6, 3) := by decide +kernel
theorem dL_law_2682 : decode cL_law 2682 = .ok (.goto (-2654), 3) := by decide +kernel
theorem dL_law_2685 : decode cL_law 2685 = .ok (.iconst 1, 1) := by decide +kernel
theorem dL_law_2686 : decode cL_law 2686 = .ok (.ireturn, 1) := by decide +kernel
