section
theorem dw_1908 : decode code 1908 = .ok (.iload 5, 2) := by decide +kernel
theorem dw_1910 : decode code 1910 = .ok (.ifCond .ne 15, 3) := by decide +kernel
theorem dw_1913 : decode code 1913 = .ok (.aload_n 3, 1) := by decide +kernel
theorem dw_1914 : decode code 1914 = .ok (.iconst 0, 1) := by decide +kernel
theorem dw_1915 : decode code 1915 = .ok (.laload, 1) := by decide +kernel
theorem dw_1916 : decode code 1916 = .ok (.iload 6, 2) := by decide +kernel
theorem dw_1918 : decode code 1918 = .ok (.i2l, 1) := by decide +kernel
theorem dw_1919 : decode code 1919 = .ok (.lcmp, 1) := by decide +kernel
theorem dw_1920 : decode code 1920 = .ok (.ifCond .eq 5, 3) := by decide +kernel
theorem dw_1923 : decode code 1923 = .ok (.iconst 0, 1) := by decide +kernel
theorem dw_1924 : decode code 1924 = .ok (.ireturn, 1) := by decide +kernel
theorem dw_1925 : decode code 1925 = .ok (.goto 876, 3) := by decide +kernel
theorem dw_1928 : decode code 1928 = .ok (.aload_n 1, 1) := by decide +kernel
theorem dw_1929 : decode code 1929 = .ok (.aload_n 0, 1) := by decide +kernel
theorem dw_1930 : decode code 1930 = .ok (.iload 4, 2) := by decide +kernel
theorem dw_1932 : decode code 1932 = .ok (.iconst 1, 1) := by decide +kernel
theorem dw_1933 : decode code 1933 = .ok (.iadd, 1) := by decide +kernel
theorem dw_1934 : decode code 1934 = .ok (.iaload, 1) := by decide +kernel
theorem dw_1935 : decode code 1935 = .ok (.ifCond .eq 7, 3) := by decide +kernel
theorem dw_1938 : decode code 1938 = .ok (.iconst 1, 1) := by decide +kernel
theorem dw_1939 : decode code 1939 = .ok (.goto 4, 3) := by decide +kernel
theorem dw_1942 : decode code 1942 = .ok (.iconst 0, 1) := by decide +kernel
theorem dw_1943 : decode code 1943 = .ok (.invokevirtual 228, 3) := by decide +kernel
theorem dw_1946 : decode code 1946 = .ok (.aload_n 2, 1) := by decide +kernel
theorem dw_1947 : decode code 1947 = .ok (.aload_n 0, 1) := by decide +kernel
theorem dw_1948 : decode code 1948 = .ok (.iload 4, 2) := by decide +kernel
theorem dw_1950 : decode code 1950 = .ok (.iconst 1, 1) := by decide +kernel
theorem dw_1951 : decode code 1951 = .ok (.iadd, 1) := by decide +kernel
theorem dw_1952 : decode code 1952 = .ok (.iaload, 1) := by decide +kernel
theorem dw_1953 : decode code 1953 = .ok (.ifCond .eq 7, 3) := by decide +kernel
theorem dw_1956 : decode code 1956 = .ok (.iconst 1, 1) := by decide +kernel
theorem dw_1957 : decode code 1957 = .ok (.goto 4, 3) := by decide +kernel
theorem dw_1960 : decode code 1960 = .ok (.iconst 0, 1) := by decide +kernel
theorem dw_1961 : decode code 1961 = .ok (.invokevirtual 232, 3) := by decide +kernel
theorem dw_1964 : decode code 1964 = .ok (.if_icmp .eq 837, 3) := by decide +kernel
theorem dw_1967 : decode code 1967 = .ok (.iconst 0, 1) := by decide +kernel
theorem dw_1968 : decode code 1968 = .ok (.ireturn, 1) := by decide +kernel
theorem dw_1969 : decode code 1969 = .ok (.aload_n 1, 1) := by decide +kernel
theorem dw_1970 : decode code 1970 = .ok (.invokevirtual 233, 3) := by decide +kernel
theorem dw_1973 : decode code 1973 = .ok (.aload_n 2, 1) := by decide +kernel
theorem dw_1974 : decode code 1974 = .ok (.invokevirtual 236, 3) := by decide +kernel
theorem dw_1977 : decode code 1977 = .ok (.if_icmp .eq 824, 3) := by decide +kernel
theorem dw_1980 : decode code 1980 = .ok (.iconst 0, 1) := by decide +kernel
theorem dw_1981 : decode code 1981 = .ok (.ireturn, 1) := by decide +kernel
theorem dw_1982 : decode code 1982 = .ok (.aload_n 1, 1) := by decide +kernel
theorem dw_1983 : decode code 1983 = .ok (.invokevirtual 237, 3) := by decide +kernel
theorem dw_1986 : decode code 1986 = .ok (.aload_n 2, 1) := by decide +kernel
theorem dw_1987 : decode code 1987 = .ok (.invokevirtual 240, 3) := by decide +kernel
theorem dw_1990 : decode code 1990 = .ok (.if_icmp .eq 811, 3) := by decide +kernel
theorem dw_1993 : decode code 1993 = .ok (.iconst 0, 1) := by decide +kernel
theorem dw_1994 : decode code 1994 = .ok (.ireturn, 1) := by decide +kernel
theorem dw_1995 : decode code 1995 = .ok (.aload_n 1, 1) := by decide +kernel
theorem dw_1996 : decode code 1996 = .ok (.aload_n 0, 1) := by decide +kernel
theorem dw_1997 : decode code 1997 = .ok (.iload 4, 2) := by decide +kernel
theorem dw_1999 : decode code 1999 = .ok (.iconst 1, 1) := by decide +kernel
theorem dw_2000 : decode code 2000 = .ok (.iadd, 1) := by decide +kernel
theorem dw_2001 : decode code 2001 = .ok (.iaload, 1) := by decide +kernel
theorem dw_2002 : decode code 2002 = .ok (.aload_n 3, 1) := by decide +kernel
theorem dw_2003 : decode code 2003 = .ok (.invokestatic 241, 3) := by decide +kernel
theorem dw_2006 : decode code 2006 = .ok (.istore 5, 2) := by decide +kernel
theorem dw_2008 : decode code 2008 = .ok (.aload_n 2, 1) := by decide +kernel
theorem dw_2009 : decode code 2009 = .ok (.aload_n 0, 1) := by decide +kernel
theorem dw_2010 : decode code 2010 = .ok (.iload 4, 2) := by decide +kernel
theorem dw_2012 : decode code 2012 = .ok (.iconst 1, 1) := by decide +kernel
theorem dw_2013 : decode code 2013 = .ok (.iadd, 1) := by decide +kernel
theorem dw_2014 : decode code 2014 = .ok (.iaload, 1) := by decide +kernel
theorem dw_2015 : decode code 2015 = .ok (.invokevirtual 243, 3) := by decide +kernel
theorem dw_2018 : decode code 2018 = .ok (.istore 6, 2) := by decide +kernel
theorem dw_2020 : decode code 2020 = .ok (.aload_n 2, 1) := by decide +kernel
theorem dw_2021 : decode code 2021 = .ok (.invokevirtual 143, 3) := by decide +kernel
theorem dw_2024 : decode code 2024 = .ok (.iload 5, 2) := by decide +kernel
theorem dw_2026 : decode code 2026 = .ok (.if_icmp .eq 5, 3) := by decide +kernel
theorem dw_2029 : decode code 2029 = .ok (.iconst 0, 1) := by decide +kernel
theorem dw_2030 : decode code 2030 = .ok (.ireturn, 1) := by decide +kernel
theorem dw_2031 : decode code 2031 = .ok (.iload 5, 2) := by decide +kernel
theorem dw_2033 : decode code 2033 = .ok (.ifCond .ne 15, 3) := by decide +kernel
theorem dw_2036 : decode code 2036 = .ok (.aload_n 3, 1) := by decide +kernel
theorem dw_2037 : decode code 2037 = .ok (.iconst 0, 1) := by decide +kernel
theorem dw_2038 : decode code 2038 = .ok (.laload, 1) := by decide +kernel
theorem dw_2039 : decode code 2039 = .ok (.iload 6, 2) := by decide +kernel
theorem dw_2041 : decode code 2041 = .ok (.i2l, 1) := by decide +kernel
theorem dw_2042 : decode code 2042 = .ok (.lcmp, 1) := by decide +kernel
theorem dw_2043 : decode code 2043 = .ok (.ifCond .eq 5, 3) := by decide +kernel
theorem dw_2046 : decode code 2046 = .ok (.iconst 0, 1) := by decide +kernel
theorem dw_2047 : decode code 2047 = .ok (.ireturn, 1) := by decide +kernel
theorem dw_2048 : decode code 2048 = .ok (.goto 753, 3) := by decide +kernel
theorem dw_2051 : decode code 2051 = .ok (.aload_n 1, 1) := by decide +kernel
theorem dw_2052 : decode code 2052 = .ok (.aload_n 0, 1) := by decide +kernel
theorem dw_2053 : decode code 2053 = .ok (.iload 4, 2) := by decide +kernel
theorem dw_2055 : decode code 2055 = .ok (.iconst 1, 1) := by decide +kernel
theorem dw_2056 : decode code 2056 = .ok (.iadd, 1) := by decide +kernel
theorem dw_2057 : decode code 2057 = .ok (.iaload, 1) := by decide +kernel
theorem dw_2058 : decode code 2058 = .ok (.aload_n 0, 1) := by decide +kernel
theorem dw_2059 : decode code 2059 = .ok (.iload 4, 2) := by decide +kernel
theorem dw_2061 : decode code 2061 = .ok (.iconst 2, 1) := by decide +kernel
theorem dw_2062 : decode code 2062 = .ok (.iadd, 1) := by decide +kernel
theorem dw_2063 : decode code 2063 = .ok (.iaload, 1) := by decide +kernel
theorem dw_2064 : decode code 2064 = .ok (.aload_n 3, 1) := by decide +kernel
theorem dw_2065 : decode code 2065 = .ok (.invokestatic 244, 3) := by decide +kernel
theorem dw_2068 : decode code 2068 = .ok (.istore 5, 2) := by decide +kernel
theorem dw_2070 : decode code 2070 = .ok (.aload_n 2, 1) := by decide +kernel
theorem dw_2071 : decode code 2071 = .ok (.aload_n 0, 1) := by decide +kernel
theorem dw_2072 : decode code 2072 = .ok (.iload 4, 2) := by decide +kernel
theorem dw_2074 : decode code 2074 = .ok (.iconst 1, 1) := by decide +kernel
theorem dw_2075 : decode code 2075 = .ok (.iadd, 1) := by decide +kernel
theorem dw_2076 : decode code 2076 = .ok (.iaload, 1) := by decide +kernel
theorem dw_2077 : decode code 2077 = .ok (.aload_n 0, 1) := by decide +kernel
theorem dw_2078 : decode code 2078 = .ok (.iload 4, 2) := by decide +kernel
theorem dw_2080 : decode code 2080 = .ok (.iconst 2, 1) := by decide +kernel
theorem dw_2081 : decode code 2081 = .ok (.iadd, 1) := by decide +kernel
theorem dw_2082 : decode code 2082 = .ok (.iaload, 1) := by decide +kernel
theorem dw_2083 : decode code 2083 = .ok (.invokevirtual 246, 3) := by decide +kernel
theorem dw_2086 : decode code 2086 = .ok (.istore 6, 2) := by decide +kernel
theorem dw_2088 : decode code 2088 = .ok (.aload_n 2, 1) := by decide +kernel
theorem dw_2089 : decode code 2089 = .ok (.invokevirtual 143, 3) := by decide +kernel
theorem dw_2092 : decode code 2092 = .ok (.iload 5, 2) := by decide +kernel
theorem dw_2094 : decode code 2094 = .ok (.if_icmp .eq 5, 3) := by decide +kernel
theorem dw_2097 : decode code 2097 = .ok (.iconst 0, 1) := by decide +kernel
theorem dw_2098 : decode code 2098 = .ok (.ireturn, 1) := by decide +kernel
theorem dw_2099 : decode code 2099 = .ok (.iload 5, 2) := by decide +kernel
theorem dw_2101 : decode code 2101 = .ok (.ifCond .ne 15, 3) := by decide +kernel
theorem dw_2104 : decode code 2104 = .ok (.aload_n 3, 1) := by decide +kernel
theorem dw_2105 : decode code 2105 = .ok (.iconst 0, 1) := by decide +kernel
theorem dw_2106 : decode code 2106 = .ok (.laload, 1) := by decide +kernel
theorem dw_2107 : decode code 2107 = .ok (.iload 6, 2) := by decide +kernel
theorem dw_2109 : decode code 2109 = .ok (.i2l, 1) := by decide +kernel
theorem dw_2110 : decode code 2110 = .ok (.lcmp, 1) := by decide +kernel
theorem dw_2111 : decode code 2111 = .ok (.ifCond .eq 5, 3) := by decide +kernel
theorem dw_2114 : decode code 2114 = .ok (.iconst 0, 1) := by decide +kernel
theorem dw_2115 : decode code 2115 = .ok (.ireturn, 1) := by decide +kernel
theorem dw_2116 : decode code 2116 = .ok (.goto 685, 3) := by decide +kernel
theorem dw_2119 : decode code 2119 = .ok (.aload_n 1, 1) := by decide +kernel
theorem dw_2120 : decode code 2120 = .ok (.aload_n 0, 1) := by decide +kernel
theorem dw_2121 : decode code 2121 = .ok (.iload 4, 2) := by decide +kernel
theorem dw_2123 : decode code 2123 = .ok (.iconst 1, 1) := by decide +kernel
theorem dw_2124 : decode code 2124 = .ok (.iadd, 1) := by decide +kernel
theorem dw_2125 : decode code 2125 = .ok (.iaload, 1) := by decide +kernel
theorem dw_2126 : decode code 2126 = .ok (.aload_n 0, 1) := by decide +kernel
theorem dw_2127 : decode code 2127 = .ok (.iload 4, 2) := by decide +kernel
theorem dw_2129 : decode code 2129 = .ok (.iconst 2, 1) := by decide +kernel
theorem dw_2130 : decode code 2130 = .ok (.iadd, 1) := by decide +kernel
theorem dw_2131 : decode code 2131 = .ok (.iaload, 1) := by decide +kernel
theorem dw_2132 : decode code 2132 = .ok (.aload_n 3, 1) := by decide +kernel
theorem dw_2133 : decode code 2133 = .ok (.invokestatic 247, 3) := by decide +kernel
theorem dw_2136 : decode code 2136 = .ok (.istore 5, 2) := by decide +kernel
theorem dw_2138 : decode code 2138 = .ok (.aload_n 2, 1) := by decide +kernel
theorem dw_2139 : decode code 2139 = .ok (.aload_n 0, 1) := by decide +kernel
theorem dw_2140 : decode code 2140 = .ok (.iload 4, 2) := by decide +kernel
theorem dw_2142 : decode code 2142 = .ok (.iconst 1, 1) := by decide +kernel
theorem dw_2143 : decode code 2143 = .ok (.iadd, 1) := by decide +kernel
theorem dw_2144 : decode code 2144 = .ok (.iaload, 1) := by decide +kernel
theorem dw_2145 : decode code 2145 = .ok (.aload_n 0, 1) := by decide +kernel
theorem dw_2146 : decode code 2146 = .ok (.iload 4, 2) := by decide +kernel
theorem dw_2148 : decode code 2148 = .ok (.iconst 2, 1) := by decide +kernel
theorem dw_2149 : decode code 2149 = .ok (.iadd, 1) := by decide +kernel
theorem dw_2150 : decode code 2150 = .ok (.iaload, 1) := by decide +kernel
theorem dw_2151 : decode code 2151 = .ok (.invokevirtual 249, 3) := by decide +kernel
theorem dw_2154 : decode code 2154 = .ok (.istore 6, 2) := by decide +kernel
theorem dw_2156 : decode code 2156 = .ok (.aload_n 2, 1) := by decide +kernel
theorem dw_2157 : decode code 2157 = .ok (.invokevirtual 143, 3) := by decide +kernel
theorem dw_2160 : decode code 2160 = .ok (.iload 5, 2) := by decide +kernel
theorem dw_2162 : decode code 2162 = .ok (.if_icmp .eq 5, 3) := by decide +kernel
theorem dw_2165 : decode code 2165 = .ok (.iconst 0, 1) := by decide +kernel
theorem dw_2166 : decode code 2166 = .ok (.ireturn, 1) := by decide +kernel
theorem dw_2167 : decode code 2167 = .ok (.iload 5, 2) := by decide +kernel
theorem dw_2169 : decode code 2169 = .ok (.ifCond .ne 15, 3) := by decide +kernel
theorem dw_2172 : decode code 2172 = .ok (.aload_n 3, 1) := by decide +kernel
theorem dw_2173 : decode code 2173 = .ok (.iconst 0, 1) := by decide +kernel
theorem dw_2174 : decode code 2174 = .ok (.laload, 1) := by decide +kernel
theorem dw_2175 : decode code 2175 = .ok (.iload 6, 2) := by decide +kernel
theorem dw_2177 : decode code 2177 = .ok (.i2l, 1) := by decide +kernel
theorem dw_2178 : decode code 2178 = .ok (.lcmp, 1) := by decide +kernel
theorem dw_2179 : decode code 2179 = .ok (.ifCond .eq 5, 3) := by decide +kernel
theorem dw_2182 : decode code 2182 = .ok (.iconst 0, 1) := by decide +kernel
theorem dw_2183 : decode code 2183 = .ok (.ireturn, 1) := by decide +kernel
theorem dw_2184 : decode code 2184 = .ok (.goto 617, 3) := by decide +kernel
theorem dw_2187 : decode code 2187 = .ok (.aload_n 1, 1) := by decide +kernel
theorem dw_2188 : decode code 2188 = .ok (.aload_n 0, 1) := by decide +kernel
theorem dw_2189 : decode code 2189 = .ok (.iload 4, 2) := by decide +kernel
theorem dw_2191 : decode code 2191 = .ok (.iconst 1, 1) := by decide +kernel
theorem dw_2192 : decode code 2192 = .ok (.iadd, 1) := by decide +kernel
theorem dw_2193 : decode code 2193 = .ok (.iaload, 1) := by decide +kernel
theorem dw_2194 : decode code 2194 = .ok (.aload_n 3, 1) := by decide +kernel
theorem dw_2195 : decode code 2195 = .ok (.invokestatic 250, 3) := by decide +kernel
theorem dw_2198 : decode code 2198 = .ok (.istore 5, 2) := by decide +kernel
theorem dw_2200 : decode code 2200 = .ok (.aload_n 2, 1) := by decide +kernel
theorem dw_2201 : decode code 2201 = .ok (.aload_n 0, 1) := by decide +kernel
theorem dw_2202 : decode code 2202 = .ok (.iload 4, 2) := by decide +kernel
theorem dw_2204 : decode code 2204 = .ok (.iconst 1, 1) := by decide +kernel
theorem dw_2205 : decode code 2205 = .ok (.iadd, 1) := by decide +kernel
theorem dw_2206 : decode code 2206 = .ok (.iaload, 1) := by decide +kernel
theorem dw_2207 : decode code 2207 = .ok (.invokevirtual 252, 3) := by decide +kernel
theorem dw_2210 : decode code 2210 = .ok (.istore 6, 2) := by decide +kernel
theorem dw_2212 : decode code 2212 = .ok (.aload_n 2, 1) := by decide +kernel
theorem dw_2213 : decode code 2213 = .ok (.invokevirtual 143, 3) := by decide +kernel
theorem dw_2216 : decode code 2216 = .ok (.iload 5, 2) := by decide +kernel
theorem dw_2218 : decode code 2218 = .ok (.if_icmp .eq 5, 3) := by decide +kernel
theorem dw_2221 : decode code 2221 = .ok (.iconst 0, 1) := by decide +kernel
theorem dw_2222 : decode code 2222 = .ok (.ireturn, 1) := by decide +kernel
theorem dw_2223 : decode code 2223 = .ok (.iload 5, 2) := by decide +kernel
theorem dw_2225 : decode code 2225 = .ok (.ifCond .ne 15, 3) := by decide +kernel
theorem dw_2228 : decode code 2228 = .ok (.aload_n 3, 1) := by decide +kernel
theorem dw_2229 : decode code 2229 = .ok (.iconst 0, 1) := by decide +kernel
theorem dw_2230 : decode code 2230 = .ok (.laload, 1) := by decide +kernel
theorem dw_2231 : decode code 2231 = .ok (.iload 6, 2) := by decide +kernel
theorem dw_2233 : decode code 2233 = .ok (.i2l, 1) := by decide +kernel
theorem dw_2234 : decode code 2234 = .ok (.lcmp, 1) := by decide +kernel
theorem dw_2235 : decode code 2235 = .ok (.ifCond .eq 5, 3) := by decide +kernel
theorem dw_2238 : decode code 2238 = .ok (.iconst 0, 1) := by decide +kernel
theorem dw_2239 : decode code 2239 = .ok (.ireturn, 1) := by decide +kernel
theorem dw_2240 : decode code 2240 = .ok (.goto 561, 3) := by decide +kernel
theorem dw_2243 : decode code 2243 = .ok (.aload_n 1, 1) := by decide +kernel
theorem dw_2244 : decode code 2244 = .ok (.aload_n 0, 1) := by decide +kernel
theorem dw_2245 : decode code 2245 = .ok (.iload 4, 2) := by decide +kernel
theorem dw_2247 : decode code 2247 = .ok (.iconst 1, 1) := by decide +kernel
theorem dw_2248 : decode code 2248 = .ok (.iadd, 1) := by decide +kernel
theorem dw_2249 : decode code 2249 = .ok (.iaload, 1) := by decide +kernel
theorem dw_2250 : decode code 2250 = .ok (.aload_n 3, 1) := by decide +kernel
theorem dw_2251 : decode code 2251 = .ok (.invokestatic 253, 3) := by decide +kernel
theorem dw_2254 : decode code 2254 = .ok (.istore 5, 2) := by decide +kernel
theorem dw_2256 : decode code 2256 = .ok (.aload_n 2, 1) := by decide +kernel
theorem dw_2257 : decode code 2257 = .ok (.aload_n 0, 1) := by decide +kernel
theorem dw_2258 : decode code 2258 = .ok (.iload 4, 2) := by decide +kernel
theorem dw_2260 : decode code 2260 = .ok (.iconst 1, 1) := by decide +kernel
theorem dw_2261 : decode code 2261 = .ok (.iadd, 1) := by decide +kernel
theorem dw_2262 : decode code 2262 = .ok (.iaload, 1) := by decide +kernel
theorem dw_2263 : decode code 2263 = .ok (.invokevirtual 255, 3) := by decide +kernel
theorem dw_2266 : decode code 2266 = .ok (.istore 6, 2) := by decide +kernel
theorem dw_2268 : decode code 2268 = .ok (.aload_n 2, 1) := by decide +kernel
theorem dw_2269 : decode code 2269 = .ok (.invokevirtual 143, 3) := by decide +kernel
theorem dw_2272 : decode code 2272 = .ok (.iload 5, 2) := by decide +kernel
theorem dw_2274 : decode code 2274 = .ok (.if_icmp .eq 5, 3) := by decide +kernel
theorem dw_2277 : decode code 2277 = .ok (.iconst 0, 1) := by decide +kernel
theorem dw_2278 : decode code 2278 = .ok (.ireturn, 1) := by decide +kernel
theorem dw_2279 : decode code 2279 = .ok (.iload 5, 2) := by decide +kernel
theorem dw_2281 : decode code 2281 = .ok (.ifCond .ne 15, 3) := by decide +kernel
theorem dw_2284 : decode code 2284 = .ok (.aload_n 3, 1) := by decide +kernel
theorem dw_2285 : decode code 2285 = .ok (.iconst 0, 1) := by decide +kernel
theorem dw_2286 : decode code 2286 = .ok (.laload, 1) := by decide +kernel
theorem dw_2287 : decode code 2287 = .ok (.iload 6, 2) := by decide +kernel
theorem dw_2289 : decode code 2289 = .ok (.i2l, 1) := by decide +kernel
theorem dw_2290 : decode code 2290 = .ok (.lcmp, 1) := by decide +kernel
theorem dw_2291 : decode code 2291 = .ok (.ifCond .eq 5, 3) := by decide +kernel
theorem dw_2294 : decode code 2294 = .ok (.iconst 0, 1) := by decide +kernel
theorem dw_2295 : decode code 2295 = .ok (.ireturn, 1) := by decide +kernel
theorem dw_2296 : decode code 2296 = .ok (.goto 505, 3) := by decide +kernel
theorem dw_2299 : decode code 2299 = .ok (.aload_n 1, 1) := by decide +kernel
theorem dw_2300 : decode code 2300 = .ok (.aload_n 0, 1) := by decide +kernel
theorem dw_2301 : decode code 2301 = .ok (.iload 4, 2) := by decide +kernel
theorem dw_2303 : decode code 2303 = .ok (.iconst 1, 1) := by decide +kernel
theorem dw_2304 : decode code 2304 = .ok (.iadd, 1) := by decide +kernel
theorem dw_2305 : decode code 2305 = .ok (.iaload, 1) := by decide +kernel
theorem dw_2306 : decode code 2306 = .ok (.aload_n 3, 1) := by decide +kernel
theorem dw_2307 : decode code 2307 = .ok (.invokestatic 256, 3) := by decide +kernel
theorem dw_2310 : decode code 2310 = .ok (.istore 5, 2) := by decide +kernel
theorem dw_2312 : decode code 2312 = .ok (.aload_n 2, 1) := by decide +kernel
theorem dw_2313 : decode code 2313 = .ok (.aload_n 0, 1) := by decide +kernel
theorem dw_2314 : decode code 2314 = .ok (.iload 4, 2) := by decide +kernel
theorem dw_2316 : decode code 2316 = .ok (.iconst 1, 1) := by decide +kernel
theorem dw_2317 : decode code 2317 = .ok (.iadd, 1) := by decide +kernel
theorem dw_2318 : decode code 2318 = .ok (.iaload, 1) := by decide +kernel
theorem dw_2319 : decode code 2319 = .ok (.invokevirtual 258, 3) := by decide +kernel
theorem dw_2322 : decode code 2322 = .ok (.istore 6, 2) := by decide +kernel
theorem dw_2324 : decode code 2324 = .ok (.aload_n 2, 1) := by decide +kernel
theorem dw_2325 : decode code 2325 = .ok (.invokevirtual 143, 3) := by decide +kernel
theorem dw_2328 : decode code 2328 = .ok (.iload 5, 2) := by decide +kernel
theorem dw_2330 : decode code 2330 = .ok (.if_icmp .eq 5, 3) := by decide +kernel
theorem dw_2333 : decode code 2333 = .ok (.iconst 0, 1) := by decide +kernel
theorem dw_2334 : decode code 2334 = .ok (.ireturn, 1) := by decide +kernel
theorem dw_2335 : decode code 2335 = .ok (.iload 5, 2) := by decide +kernel
theorem dw_2337 : decode code 2337 = .ok (.ifCond .ne 15, 3) := by decide +kernel
theorem dw_2340 : decode code 2340 = .ok (.aload_n 3, 1) := by decide +kernel
theorem dw_2341 : decode code 2341 = .ok (.iconst 0, 1) := by decide +kernel
theorem dw_2342 : decode code 2342 = .ok (.laload, 1) := by decide +kernel
theorem dw_2343 : decode code 2343 = .ok (.iload 6, 2) := by decide +kernel
theorem dw_2345 : decode code 2345 = .ok (.i2l, 1) := by decide +kernel
theorem dw_2346 : decode code 2346 = .ok (.lcmp, 1) := by decide +kernel
theorem dw_2347 : decode code 2347 = .ok (.ifCond .eq 5, 3) := by decide +kernel
theorem dw_2350 : decode code 2350 = .ok (.iconst 0, 1) := by decide +kernel
theorem dw_2351 : decode code 2351 = .ok (.ireturn, 1) := by decide +kernel
theorem dw_2352 : decode code 2352 = .ok (.goto 449, 3) := by decide +kernel
theorem dw_2355 : decode code 2355 = .ok (.aload_n 1, 1) := by decide +kernel
theorem dw_2356 : decode code 2356 = .ok (.aload_n 0, 1) := by decide +kernel
theorem dw_2357 : decode code 2357 = .ok (.iload 4, 2) := by decide +kernel
theorem dw_2359 : decode code 2359 = .ok (.iconst 1, 1) := by decide +kernel
theorem dw_2360 : decode code 2360 = .ok (.iadd, 1) := by decide +kernel
theorem dw_2361 : decode code 2361 = .ok (.iaload, 1) := by decide +kernel
theorem dw_2362 : decode code 2362 = .ok (.aload_n 3, 1) := by decide +kernel
theorem dw_2363 : decode code 2363 = .ok (.invokestatic 259, 3) := by decide +kernel
theorem dw_2366 : decode code 2366 = .ok (.istore 5, 2) := by decide +kernel
theorem dw_2368 : decode code 2368 = .ok (.aload_n 2, 1) := by decide +kernel
theorem dw_2369 : decode code 2369 = .ok (.aload_n 0, 1) := by decide +kernel
theorem dw_2370 : decode code 2370 = .ok (.iload 4, 2) := by decide +kernel
theorem dw_2372 : decode code 2372 = .ok (.iconst 1, 1) := by decide +kernel
theorem dw_2373 : decode code 2373 = .ok (.iadd, 1) := by decide +kernel
theorem dw_2374 : decode code 2374 = .ok (.iaload, 1) := by decide +kernel
theorem dw_2375 : decode code 2375 = .ok (.invokevirtual 261, 3) := by decide +kernel
theorem dw_2378 : decode code 2378 = .ok (.istore 6, 2) := by decide +kernel
theorem dw_2380 : decode code 2380 = .ok (.aload_n 2, 1) := by decide +kernel
theorem dw_2381 : decode code 2381 = .ok (.invokevirtual 143, 3) := by decide +kernel
theorem dw_2384 : decode code 2384 = .ok (.iload 5, 2) := by decide +kernel
theorem dw_2386 : decode code 2386 = .ok (.if_icmp .eq 5, 3) := by decide +kernel
theorem dw_2389 : decode code 2389 = .ok (.iconst 0, 1) := by decide +kernel
theorem dw_2390 : decode code 2390 = .ok (.ireturn, 1) := by decide +kernel
theorem dw_2391 : decode code 2391 = .ok (.iload 5, 2) := by decide +kernel
theorem dw_2393 : decode code 2393 = .ok (.ifCond .ne 15, 3) := by decide +kernel
theorem dw_2396 : decode code 2396 = .ok (.aload_n 3, 1) := by decide +kernel
theorem dw_2397 : decode code 2397 = .ok (.iconst 0, 1) := by decide +kernel
theorem dw_2398 : decode code 2398 = .ok (.laload, 1) := by decide +kernel
theorem dw_2399 : decode code 2399 = .ok (.iload 6, 2) := by decide +kernel
theorem dw_2401 : decode code 2401 = .ok (.i2l, 1) := by decide +kernel
theorem dw_2402 : decode code 2402 = .ok (.lcmp, 1) := by decide +kernel
theorem dw_2403 : decode code 2403 = .ok (.ifCond .eq 5, 3) := by decide +kernel
theorem dw_2406 : decode code 2406 = .ok (.iconst 0, 1) := by decide +kernel
theorem dw_2407 : decode code 2407 = .ok (.ireturn, 1) := by decide +kernel
theorem dw_2408 : decode code 2408 = .ok (.goto 393, 3) := by decide +kernel
theorem dw_2411 : decode code 2411 = .ok (.aload_n 1, 1) := by decide +kernel
theorem dw_2412 : decode code 2412 = .ok (.aload_n 0, 1) := by decide +kernel
theorem dw_2413 : decode code 2413 = .ok (.iload 4, 2) := by decide +kernel
theorem dw_2415 : decode code 2415 = .ok (.iconst 1, 1) := by decide +kernel
theorem dw_2416 : decode code 2416 = .ok (.iadd, 1) := by decide +kernel
theorem dw_2417 : decode code 2417 = .ok (.iaload, 1) := by decide +kernel
theorem dw_2418 : decode code 2418 = .ok (.aload_n 3, 1) := by decide +kernel
theorem dw_2419 : decode code 2419 = .ok (.invokestatic 262, 3) := by decide +kernel
theorem dw_2422 : decode code 2422 = .ok (.istore 5, 2) := by decide +kernel
theorem dw_2424 : decode code 2424 = .ok (.aload_n 2, 1) := by decide +kernel
theorem dw_2425 : decode code 2425 = .ok (.aload_n 0, 1) := by decide +kernel
theorem dw_2426 : decode code 2426 = .ok (.iload 4, 2) := by decide +kernel
theorem dw_2428 : decode code 2428 = .ok (.iconst 1, 1) := by decide +kernel
theorem dw_2429 : decode code 2429 = .ok (.iadd, 1) := by decide +kernel
theorem dw_2430 : decode code 2430 = .ok (.iaload, 1) := by decide +kernel
theorem dw_2431 : decode code 2431 = .ok (.invokevirtual 264, 3) := by decide +kernel
theorem dw_2434 : decode code 2434 = .ok (.istore 6, 2) := by decide +kernel
theorem dw_2436 : decode code 2436 = .ok (.aload_n 2, 1) := by decide +kernel
theorem dw_2437 : decode code 2437 = .ok (.invokevirtual 143, 3) := by decide +kernel
theorem dw_2440 : decode code 2440 = .ok (.iload 5, 2) := by decide +kernel
theorem dw_2442 : decode code 2442 = .ok (.if_icmp .eq 5, 3) := by decide +kernel
theorem dw_2445 : decode code 2445 = .ok (.iconst 0, 1) := by decide +kernel
theorem dw_2446 : decode code 2446 = .ok (.ireturn, 1) := by decide +kernel
theorem dw_2447 : decode code 2447 = .ok (.iload 5, 2) := by decide +kernel
theorem dw_2449 : decode code 2449 = .ok (.ifCond .ne 15, 3) := by decide +kernel
theorem dw_2452 : decode code 2452 = .ok (.aload_n 3, 1) := by decide +kernel
theorem dw_2453 : decode code 2453 = .ok (.iconst 0, 1) := by decide +kernel
theorem dw_2454 : decode code 2454 = .ok (.laload, 1) := by decide +kernel
theorem dw_2455 : decode code 2455 = .ok (.iload 6, 2) := by decide +kernel
theorem dw_2457 : decode code 2457 = .ok (.i2l, 1) := by decide +kernel
theorem dw_2458 : decode code 2458 = .ok (.lcmp, 1) := by decide +kernel
theorem dw_2459 : decode code 2459 = .ok (.ifCond .eq 5, 3) := by decide +kernel
theorem dw_2462 : decode code 2462 = .ok (.iconst 0, 1) := by decide +kernel
theorem dw_2463 : decode code 2463 = .ok (.ireturn, 1) := by decide +kernel
theorem dw_2464 : decode code 2464 = .ok (.goto 337, 3) := by decide +kernel
theorem dw_2467 : decode code 2467 = .ok (.aload_n 1, 1) := by decide +kernel
theorem dw_2468 : decode code 2468 = .ok (.aload_n 0, 1) := by decide +kernel
theorem dw_2469 : decode code 2469 = .ok (.iload 4, 2) := by decide +kernel
theorem dw_2471 : decode code 2471 = .ok (.iconst 1, 1) := by decide +kernel
theorem dw_2472 : decode code 2472 = .ok (.iadd, 1) := by decide +kernel
theorem dw_2473 : decode code 2473 = .ok (.iaload, 1) := by decide +kernel
theorem dw_2474 : decode code 2474 = .ok (.aload_n 3, 1) := by decide +kernel
theorem dw_2475 : decode code 2475 = .ok (.invokestatic 265, 3) := by decide +kernel
theorem dw_2478 : decode code 2478 = .ok (.istore 5, 2) := by decide +kernel
theorem dw_2480 : decode code 2480 = .ok (.aload_n 2, 1) := by decide +kernel
theorem dw_2481 : decode code 2481 = .ok (.aload_n 0, 1) := by decide +kernel
theorem dw_2482 : decode code 2482 = .ok (.iload 4, 2) := by decide +kernel
theorem dw_2484 : decode code 2484 = .ok (.iconst 1, 1) := by decide +kernel
theorem dw_2485 : decode code 2485 = .ok (.iadd, 1) := by decide +kernel
theorem dw_2486 : decode code 2486 = .ok (.iaload, 1) := by decide +kernel
theorem dw_2487 : decode code 2487 = .ok (.invokevirtual 267, 3) := by decide +kernel
theorem dw_2490 : decode code 2490 = .ok (.istore 6, 2) := by decide +kernel
theorem dw_2492 : decode code 2492 = .ok (.aload_n 2, 1) := by decide +kernel
theorem dw_2493 : decode code 2493 = .ok (.invokevirtual 143, 3) := by decide +kernel
theorem dw_2496 : decode code 2496 = .ok (.iload 5, 2) := by decide +kernel
theorem dw_2498 : decode code 2498 = .ok (.if_icmp .eq 5, 3) := by decide +kernel
theorem dw_2501 : decode code 2501 = .ok (.iconst 0, 1) := by decide +kernel
theorem dw_2502 : decode code 2502 = .ok (.ireturn, 1) := by decide +kernel
theorem dw_2503 : decode code 2503 = .ok (.iload 5, 2) := by decide +kernel
theorem dw_2505 : decode code 2505 = .ok (.ifCond .ne 15, 3) := by decide +kernel
theorem dw_2508 : decode code 2508 = .ok (.aload_n 3, 1) := by decide +kernel
theorem dw_2509 : decode code 2509 = .ok (.iconst 0, 1) := by decide +kernel
theorem dw_2510 : decode code 2510 = .ok (.laload, 1) := by decide +kernel
theorem dw_2511 : decode code 2511 = .ok (.iload 6, 2) := by decide +kernel
theorem dw_2513 : decode code 2513 = .ok (.i2l, 1) := by decide +kernel
theorem dw_2514 : decode code 2514 = .ok (.lcmp, 1) := by decide +kernel
theorem dw_2515 : decode code 2515 = .ok (.ifCond .eq 5, 3) := by decide +kernel
theorem dw_2518 : decode code 2518 = .ok (.iconst 0, 1) := by decide +kernel
theorem dw_2519 : decode code 2519 = .ok (.ireturn, 1) := by decide +kernel
theorem dw_2520 : decode code 2520 = .ok (.goto 281, 3) := by decide +kernel
theorem dw_2523 : decode code 2523 = .ok (.aload_n 1, 1) := by decide +kernel
theorem dw_2524 : decode code 2524 = .ok (.aload_n 0, 1) := by decide +kernel
theorem dw_2525 : decode code 2525 = .ok (.iload 4, 2) := by decide +kernel
theorem dw_2527 : decode code 2527 = .ok (.iconst 1, 1) := by decide +kernel
theorem dw_2528 : decode code 2528 = .ok (.iadd, 1) := by decide +kernel
theorem dw_2529 : decode code 2529 = .ok (.iaload, 1) := by decide +kernel
theorem dw_2530 : decode code 2530 = .ok (.aload_n 3, 1) := by decide +kernel
theorem dw_2531 : decode code 2531 = .ok (.invokestatic 268, 3) := by decide +kernel
theorem dw_2534 : decode code 2534 = .ok (.istore 5, 2) := by decide +kernel
theorem dw_2536 : decode code 2536 = .ok (.aload_n 2, 1) := by decide +kernel
theorem dw_2537 : decode code 2537 = .ok (.aload_n 0, 1) := by decide +kernel
theorem dw_2538 : decode code 2538 = .ok (.iload 4, 2) := by decide +kernel
theorem dw_2540 : decode code 2540 = .ok (.iconst 1, 1) := by decide +kernel
theorem dw_2541 : decode code 2541 = .ok (.iadd, 1) := by decide +kernel
theorem dw_2542 : decode code 2542 = .ok (.iaload, 1) := by decide +kernel
theorem dw_2543 : decode code 2543 = .ok (.invokevirtual 270, 3) := by decide +kernel
theorem dw_2546 : decode code 2546 = .ok (.istore 6, 2) := by decide +kernel
theorem dw_2548 : decode code 2548 = .ok (.aload_n 2, 1) := by decide +kernel
theorem dw_2549 : decode code 2549 = .ok (.invokevirtual 143, 3) := by decide +kernel
theorem dw_2552 : decode code 2552 = .ok (.iload 5, 2) := by decide +kernel
theorem dw_2554 : decode code 2554 = .ok (.if_icmp .eq 5, 3) := by decide +kernel
theorem dw_2557 : decode code 2557 = .ok (.iconst 0, 1) := by decide +kernel
theorem dw_2558 : decode code 2558 = .ok (.ireturn, 1) := by decide +kernel
theorem dw_2559 : decode code 2559 = .ok (.iload 5, 2) := by decide +kernel
theorem dw_2561 : decode code 2561 = .ok (.ifCond .ne 22, 3) := by decide +kernel
theorem dw_2564 : decode code 2564 = .ok (.aload_n 3, 1) := by decide +kernel
theorem dw_2565 : decode code 2565 = .ok (.iconst 0, 1) := by decide +kernel
theorem dw_2566 : decode code 2566 = .ok (.laload, 1) := by decide +kernel
theorem dw_2567 : decode code 2567 = .ok (.iload 6, 2) := by decide +kernel
theorem dw_2569 : decode code 2569 = .ok (.ifCond .eq 7, 3) := by decide +kernel
theorem dw_2572 : decode code 2572 = .ok (.lconst 1, 1) := by decide +kernel
theorem dw_2573 : decode code 2573 = .ok (.goto 4, 3) := by decide +kernel
theorem dw_2576 : decode code 2576 = .ok (.lconst 0, 1) := by decide +kernel
theorem dw_2577 : decode code 2577 = .ok (.lcmp, 1) := by decide +kernel
theorem dw_2578 : decode code 2578 = .ok (.ifCond .eq 5, 3) := by decide +kernel
theorem dw_2581 : decode code 2581 = .ok (.iconst 0, 1) := by decide +kernel
theorem dw_2582 : decode code 2582 = .ok (.ireturn, 1) := by decide +kernel
theorem dw_2583 : decode code 2583 = .ok (.goto 218, 3) := by decide +kernel
theorem dw_2586 : decode code 2586 = .ok (.aload_n 1, 1) := by decide +kernel
theorem dw_2587 : decode code 2587 = .ok (.aload_n 0, 1) := by decide +kernel
theorem dw_2588 : decode code 2588 = .ok (.iload 4, 2) := by decide +kernel
theorem dw_2590 : decode code 2590 = .ok (.iconst 1, 1) := by decide +kernel
theorem dw_2591 : decode code 2591 = .ok (.iadd, 1) := by decide +kernel
theorem dw_2592 : decode code 2592 = .ok (.iaload, 1) := by decide +kernel
theorem dw_2593 : decode code 2593 = .ok (.aload_n 0, 1) := by decide +kernel
theorem dw_2594 : decode code 2594 = .ok (.iload 4, 2) := by decide +kernel
theorem dw_2596 : decode code 2596 = .ok (.iconst 2, 1) := by decide +kernel
theorem dw_2597 : decode code 2597 = .ok (.iadd, 1) := by decide +kernel
theorem dw_2598 : decode code 2598 = .ok (.iaload, 1) := by decide +kernel
theorem dw_2599 : decode code 2599 = .ok (.aload_n 3, 1) := by decide +kernel
theorem dw_2600 : decode code 2600 = .ok (.invokestatic 271, 3) := by decide +kernel
theorem dw_2603 : decode code 2603 = .ok (.istore 5, 2) := by decide +kernel
theorem dw_2605 : decode code 2605 = .ok (.aload_n 2, 1) := by decide +kernel
theorem dw_2606 : decode code 2606 = .ok (.aload_n 0, 1) := by decide +kernel
theorem dw_2607 : decode code 2607 = .ok (.iload 4, 2) := by decide +kernel
theorem dw_2609 : decode code 2609 = .ok (.iconst 1, 1) := by decide +kernel
theorem dw_2610 : decode code 2610 = .ok (.iadd, 1) := by decide +kernel
theorem dw_2611 : decode code 2611 = .ok (.iaload, 1) := by decide +kernel
theorem dw_2612 : decode code 2612 = .ok (.aload_n 0, 1) := by decide +kernel
theorem dw_2613 : decode code 2613 = .ok (.iload 4, 2) := by decide +kernel
theorem dw_2615 : decode code 2615 = .ok (.iconst 2, 1) := by decide +kernel
theorem dw_2616 : decode code 2616 = .ok (.iadd, 1) := by decide +kernel
theorem dw_2617 : decode code 2617 = .ok (.iaload, 1) := by decide +kernel
theorem dw_2618 : decode code 2618 = .ok (.invokevirtual 273, 3) := by decide +kernel
theorem dw_2621 : decode code 2621 = .ok (.istore 6, 2) := by decide +kernel
theorem dw_2623 : decode code 2623 = .ok (.aload_n 2, 1) := by decide +kernel
theorem dw_2624 : decode code 2624 = .ok (.invokevirtual 143, 3) := by decide +kernel
theorem dw_2627 : decode code 2627 = .ok (.iload 5, 2) := by decide +kernel
theorem dw_2629 : decode code 2629 = .ok (.if_icmp .eq 5, 3) := by decide +kernel
theorem dw_2632 : decode code 2632 = .ok (.iconst 0, 1) := by decide +kernel
theorem dw_2633 : decode code 2633 = .ok (.ireturn, 1) := by decide +kernel
theorem dw_2634 : decode code 2634 = .ok (.iload 5, 2) := by decide +kernel
theorem dw_2636 : decode code 2636 = .ok (.ifCond .ne 22, 3) := by decide +kernel
theorem dw_2639 : decode code 2639 = .ok (.aload_n 3, 1) := by decide +kernel
theorem dw_2640 : decode code 2640 = .ok (.iconst 0, 1) := by decide +kernel
theorem dw_2641 : decode code 2641 = .ok (.laload, 1) := by decide +kernel
theorem dw_2642 : decode code 2642 = .ok (.iload 6, 2) := by decide +kernel
theorem dw_2644 : decode code 2644 = .ok (.ifCond .eq 7, 3) := by decide +kernel
theorem dw_2647 : decode code 2647 = .ok (.lconst 1, 1) := by decide +kernel
theorem dw_2648 : decode code 2648 = .ok (.goto 4, 3) := by decide +kernel
theorem dw_2651 : decode code 2651 = .ok (.lconst 0, 1) := by decide +kernel
theorem dw_2652 : decode code 2652 = .ok (.lcmp, 1) := by decide +kernel
theorem dw_2653 : decode code 2653 = .ok (.ifCond .eq 5, 3) := by decide +kernel
theorem dw_2656 : decode code 2656 = .ok (.iconst 0, 1) := by decide +kernel
theorem dw_2657 : decode code 2657 = .ok (.ireturn, 1) := by decide +kernel
theorem dw_2658 : decode code 2658 = .ok (.goto 143, 3) := by decide +kernel
theorem dw_2661 : decode code 2661 = .ok (.aload_n 1, 1) := by decide +kernel
theorem dw_2662 : decode code 2662 = .ok (.aload_n 0, 1) := by decide +kernel
theorem dw_2663 : decode code 2663 = .ok (.iload 4, 2) := by decide +kernel
theorem dw_2665 : decode code 2665 = .ok (.iconst 1, 1) := by decide +kernel
theorem dw_2666 : decode code 2666 = .ok (.iadd, 1) := by decide +kernel
theorem dw_2667 : decode code 2667 = .ok (.iaload, 1) := by decide +kernel
theorem dw_2668 : decode code 2668 = .ok (.aload_n 0, 1) := by decide +kernel
theorem dw_2669 : decode code 2669 = .ok (.iload 4, 2) := by decide +kernel
theorem dw_2671 : decode code 2671 = .ok (.iconst 2, 1) := by decide +kernel
theorem dw_2672 : decode code 2672 = .ok (.iadd, 1) := by decide +kernel
theorem dw_2673 : decode code 2673 = .ok (.iaload, 1) := by decide +kernel
theorem dw_2674 : decode code 2674 = .ok (.ifCond .eq 7, 3) := by decide +kernel
theorem dw_2677 : decode code 2677 = .ok (.iconst 1, 1) := by decide +kernel
theorem dw_2678 : decode code 2678 = .ok (.goto 4, 3) := by decide +kernel
theorem dw_2681 : decode code 2681 = .ok (.iconst 0, 1) := by decide +kernel
theorem dw_2682 : decode code 2682 = .ok (.aload_n 3, 1) := by decide +kernel
theorem dw_2683 : decode code 2683 = .ok (.invokestatic 274, 3) := by decide +kernel
theorem dw_2686 : decode code 2686 = .ok (.istore 5, 2) := by decide +kernel
theorem dw_2688 : decode code 2688 = .ok (.aload_n 2, 1) := by decide +kernel
theorem dw_2689 : decode code 2689 = .ok (.aload_n 0, 1) := by decide +kernel
theorem dw_2690 : decode code 2690 = .ok (.iload 4, 2) := by decide +kernel
theorem dw_2692 : decode code 2692 = .ok (.iconst 1, 1) := by decide +kernel
theorem dw_2693 : decode code 2693 = .ok (.iadd, 1) := by decide +kernel
theorem dw_2694 : decode code 2694 = .ok (.iaload, 1) := by decide +kernel
theorem dw_2695 : decode code 2695 = .ok (.aload_n 0, 1) := by decide +kernel
theorem dw_2696 : decode code 2696 = .ok (.iload 4, 2) := by decide +kernel
theorem dw_2698 : decode code 2698 = .ok (.iconst 2, 1) := by decide +kernel
theorem dw_2699 : decode code 2699 = .ok (.iadd, 1) := by decide +kernel
theorem dw_2700 : decode code 2700 = .ok (.iaload, 1) := by decide +kernel
theorem dw_2701 : decode code 2701 = .ok (.ifCond .eq 7, 3) := by decide +kernel
theorem dw_2704 : decode code 2704 = .ok (.iconst 1, 1) := by decide +kernel
theorem dw_2705 : decode code 2705 = .ok (.goto 4, 3) := by decide +kernel
theorem dw_2708 : decode code 2708 = .ok (.iconst 0, 1) := by decide +kernel
theorem dw_2709 : decode code 2709 = .ok (.invokevirtual 276, 3) := by decide +kernel
theorem dw_2712 : decode code 2712 = .ok (.istore 6, 2) := by decide +kernel
theorem dw_2714 : decode code 2714 = .ok (.aload_n 2, 1) := by decide +kernel
theorem dw_2715 : decode code 2715 = .ok (.invokevirtual 143, 3) := by decide +kernel
theorem dw_2718 : decode code 2718 = .ok (.iload 5, 2) := by decide +kernel
theorem dw_2720 : decode code 2720 = .ok (.if_icmp .eq 5, 3) := by decide +kernel
theorem dw_2723 : decode code 2723 = .ok (.iconst 0, 1) := by decide +kernel
theorem dw_2724 : decode code 2724 = .ok (.ireturn, 1) := by decide +kernel
theorem dw_2725 : decode code 2725 = .ok (.iload 5, 2) := by decide +kernel
theorem dw_2727 : decode code 2727 = .ok (.ifCond .ne 15, 3) := by decide +kernel
theorem dw_2730 : decode code 2730 = .ok (.aload_n 3, 1) := by decide +kernel
theorem dw_2731 : decode code 2731 = .ok (.iconst 0, 1) := by decide +kernel
theorem dw_2732 : decode code 2732 = .ok (.laload, 1) := by decide +kernel
theorem dw_2733 : decode code 2733 = .ok (.iload 6, 2) := by decide +kernel
theorem dw_2735 : decode code 2735 = .ok (.i2l, 1) := by decide +kernel
theorem dw_2736 : decode code 2736 = .ok (.lcmp, 1) := by decide +kernel
theorem dw_2737 : decode code 2737 = .ok (.ifCond .eq 5, 3) := by decide +kernel
theorem dw_2740 : decode code 2740 = .ok (.iconst 0, 1) := by decide +kernel
theorem dw_2741 : decode code 2741 = .ok (.ireturn, 1) := by decide +kernel
theorem dw_2742 : decode code 2742 = .ok (.goto 59, 3) := by decide +kernel
theorem dw_2745 : decode code 2745 = .ok (.aload_n 1, 1) := by decide +kernel
theorem dw_2746 : decode code 2746 = .ok (.aload_n 0, 1) := by decide +kernel
theorem dw_2747 : decode code 2747 = .ok (.iload 4, 2) := by decide +kernel
theorem dw_2749 : decode code 2749 = .ok (.iconst 1, 1) := by decide +kernel
theorem dw_2750 : decode code 2750 = .ok (.iadd, 1) := by decide +kernel
theorem dw_2751 : decode code 2751 = .ok (.iaload, 1) := by decide +kernel
theorem dw_2752 : decode code 2752 = .ok (.aload_n 3, 1) := by decide +kernel
theorem dw_2753 : decode code 2753 = .ok (.invokestatic 277, 3) := by decide +kernel
theorem dw_2756 : decode code 2756 = .ok (.istore 5, 2) := by decide +kernel
theorem dw_2758 : decode code 2758 = .ok (.aload_n 2, 1) := by decide +kernel
theorem dw_2759 : decode code 2759 = .ok (.aload_n 0, 1) := by decide +kernel
theorem dw_2760 : decode code 2760 = .ok (.iload 4, 2) := by decide +kernel
theorem dw_2762 : decode code 2762 = .ok (.iconst 1, 1) := by decide +kernel
theorem dw_2763 : decode code 2763 = .ok (.iadd, 1) := by decide +kernel
theorem dw_2764 : decode code 2764 = .ok (.iaload, 1) := by decide +kernel
theorem dw_2765 : decode code 2765 = .ok (.invokevirtual 279, 3) := by decide +kernel
theorem dw_2768 : decode code 2768 = .ok (.istore 6, 2) := by decide +kernel
theorem dw_2770 : decode code 2770 = .ok (.aload_n 2, 1) := by decide +kernel
theorem dw_2771 : decode code 2771 = .ok (.invokevirtual 143, 3) := by decide +kernel
theorem dw_2774 : decode code 2774 = .ok (.iload 5, 2) := by decide +kernel
theorem dw_2776 : decode code 2776 = .ok (.if_icmp .eq 5, 3) := by decide +kernel
theorem dw_2779 : decode code 2779 = .ok (.iconst 0, 1) := by decide +kernel
theorem dw_2780 : decode code 2780 = .ok (.ireturn, 1) := by decide +kernel
theorem dw_2781 : decode code 2781 = .ok (.iload 5, 2) := by decide +kernel
theorem dw_2783 : decode code 2783 = .ok (.ifCond .ne 15, 3) := by decide +kernel
theorem dw_2786 : decode code 2786 = .ok (.aload_n 3, 1) := by decide +kernel
theorem dw_2787 : decode code 2787 = .ok (.iconst 0, 1) := by decide +kernel
theorem dw_2788 : decode code 2788 = .ok (.laload, 1) := by decide +kernel
theorem dw_2789 : decode code 2789 = .ok (.iload 6, 2) := by decide +kernel
theorem dw_2791 : decode code 2791 = .ok (.i2l, 1) := by decide +kernel
theorem dw_2792 : decode code 2792 = .ok (.lcmp, 1) := by decide +kernel
theorem dw_2793 : decode code 2793 = .ok (.ifCond .eq 5, 3) := by decide +kernel
theorem dw_2796 : decode code 2796 = .ok (.iconst 0, 1) := by decide +kernel
theorem dw_2797 : decode code 2797 = .ok (.ireturn, 1) := by decide +kernel
theorem dw_2798 : decode code 2798 = .ok (.goto 3, 3) := by decide +kernel
theorem dw_2801 : decode code 2801 = .ok (.iinc 4 7, 3) := by decide +kernel
theorem dw_2804 : decode code 2804 = .ok (.goto (-2781), 3) := by decide +kernel
theorem dw_2807 : decode code 2807 = .ok (.iconst 1, 1) := by decide +kernel
theorem dw_2808 : decode code 2808 = .ok (.ireturn, 1) := by decide +kernel
end
