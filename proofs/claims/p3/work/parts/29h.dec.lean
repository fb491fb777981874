noncomputable def dz_p29h_1 : List (Nat × Instr × Nat) := [(2033, (.iadd, 1)), (2034, (.iaload, 1)), (2035, (.aload_n 0, 1)), (2036, (.iload 4, 2)), (2038, (.iconst 2, 1)), (2039, (.iadd, 1)), (2040, (.iaload, 1)), (2041, (.invokevirtual 310, 3)), (2044, (.istore 6, 2)), (2046, (.goto 222, 3)), (2049, (.aload_n 1, 1)), (2050, (.aload_n 0, 1)), (2051, (.iload 4, 2)), (2053, (.iconst 1, 1)), (2054, (.iadd, 1)), (2055, (.iaload, 1)), (2056, (.aload_n 0, 1)), (2057, (.iload 4, 2)), (2059, (.iconst 2, 1)), (2060, (.iadd, 1)), (2061, (.iaload, 1)), (2062, (.aload_n 3, 1)), (2063, (.invokestatic 311, 3)), (2066, (.istore 5, 2)), (2068, (.aload_n 2, 1)), (2069, (.aload_n 0, 1)), (2070, (.iload 4, 2)), (2072, (.iconst 1, 1)), (2073, (.iadd, 1)), (2074, (.iaload, 1)), (2075, (.aload_n 0, 1)), (2076, (.iload 4, 2)), (2078, (.iconst 2, 1)), (2079, (.iadd, 1)), (2080, (.iaload, 1)), (2081, (.invokevirtual 313, 3)), (2084, (.istore 6, 2)), (2086, (.goto 182, 3)), (2089, (.aload_n 1, 1)), (2090, (.aload_n 0, 1))]
theorem dy_p29h_1 : dz_ok cL_law dz_p29h_1 = true := by decide +kernel
theorem dL_law_2033 : decode cL_law 2033 = .ok (.iadd, 1) := dz_at (i := 0) dy_p29h_1 rfl
theorem dL_law_2034 : decode cL_law 2034 = .ok (.iaload, 1) := dz_at (i := 1) dy_p29h_1 rfl
theorem dL_law_2035 : decode cL_law 2035 = .ok (.aload_n 0, 1) := dz_at (i := 2) dy_p29h_1 rfl
theorem dL_law_2036 : decode cL_law 2036 = .ok (.iload 4, 2) := dz_at (i := 3) dy_p29h_1 rfl
theorem dL_law_2038 : decode cL_law 2038 = .ok (.iconst 2, 1) := dz_at (i := 4) dy_p29h_1 rfl
theorem dL_law_2039 : decode cL_law 2039 = .ok (.iadd, 1) := dz_at (i := 5) dy_p29h_1 rfl
theorem dL_law_2040 : decode cL_law 2040 = .ok (.iaload, 1) := dz_at (i := 6) dy_p29h_1 rfl
theorem dL_law_2041 : decode cL_law 2041 = .ok (.invokevirtual 310, 3) := dz_at (i := 7) dy_p29h_1 rfl
theorem dL_law_2044 : decode cL_law 2044 = .ok (.istore 6, 2) := dz_at (i := 8) dy_p29h_1 rfl
theorem dL_law_2046 : decode cL_law 2046 = .ok (.goto 222, 3) := dz_at (i := 9) dy_p29h_1 rfl
theorem dL_law_2049 : decode cL_law 2049 = .ok (.aload_n 1, 1) := dz_at (i := 10) dy_p29h_1 rfl
theorem dL_law_2050 : decode cL_law 2050 = .ok (.aload_n 0, 1) := dz_at (i := 11) dy_p29h_1 rfl
theorem dL_law_2051 : decode cL_law 2051 = .ok (.iload 4, 2) := dz_at (i := 12) dy_p29h_1 rfl
theorem dL_law_2053 : decode cL_law 2053 = .ok (.iconst 1, 1) := dz_at (i := 13) dy_p29h_1 rfl
theorem dL_law_2054 : decode cL_law 2054 = .ok (.iadd, 1) := dz_at (i := 14) dy_p29h_1 rfl
theorem dL_law_2055 : decode cL_law 2055 = .ok (.iaload, 1) := dz_at (i := 15) dy_p29h_1 rfl
theorem dL_law_2056 : decode cL_law 2056 = .ok (.aload_n 0, 1) := dz_at (i := 16) dy_p29h_1 rfl
theorem dL_law_2057 : decode cL_law 2057 = .ok (.iload 4, 2) := dz_at (i := 17) dy_p29h_1 rfl
theorem dL_law_2059 : decode cL_law 2059 = .ok (.iconst 2, 1) := dz_at (i := 18) dy_p29h_1 rfl
theorem dL_law_2060 : decode cL_law 2060 = .ok (.iadd, 1) := dz_at (i := 19) dy_p29h_1 rfl
theorem dL_law_2061 : decode cL_law 2061 = .ok (.iaload, 1) := dz_at (i := 20) dy_p29h_1 rfl
theorem dL_law_2062 : decode cL_law 2062 = .ok (.aload_n 3, 1) := dz_at (i := 21) dy_p29h_1 rfl
theorem dL_law_2063 : decode cL_law 2063 = .ok (.invokestatic 311, 3) := dz_at (i := 22) dy_p29h_1 rfl
theorem dL_law_2066 : decode cL_law 2066 = .ok (.istore 5, 2) := dz_at (i := 23) dy_p29h_1 rfl
theorem dL_law_2068 : decode cL_law 2068 = .ok (.aload_n 2, 1) := dz_at (i := 24) dy_p29h_1 rfl
theorem dL_law_2069 : decode cL_law 2069 = .ok (.aload_n 0, 1) := dz_at (i := 25) dy_p29h_1 rfl
theorem dL_law_2070 : decode cL_law 2070 = .ok (.iload 4, 2) := dz_at (i := 26) dy_p29h_1 rfl
theorem dL_law_2072 : decode cL_law 2072 = .ok (.iconst 1, 1) := dz_at (i := 27) dy_p29h_1 rfl
theorem dL_law_2073 : decode cL_law 2073 = .ok (.iadd, 1) := dz_at (i := 28) dy_p29h_1 rfl
theorem dL_law_2074 : decode cL_law 2074 = .ok (.iaload, 1) := dz_at (i := 29) dy_p29h_1 rfl
theorem dL_law_2075 : decode cL_law 2075 = .ok (.aload_n 0, 1) := dz_at (i := 30) dy_p29h_1 rfl
theorem dL_law_2076 : decode cL_law 2076 = .ok (.iload 4, 2) := dz_at (i := 31) dy_p29h_1 rfl
theorem dL_law_2078 : decode cL_law 2078 = .ok (.iconst 2, 1) := dz_at (i := 32) dy_p29h_1 rfl
theorem dL_law_2079 : decode cL_law 2079 = .ok (.iadd, 1) := dz_at (i := 33) dy_p29h_1 rfl
theorem dL_law_2080 : decode cL_law 2080 = .ok (.iaload, 1) := dz_at (i := 34) dy_p29h_1 rfl
theorem dL_law_2081 : decode cL_law 2081 = .ok (.invokevirtual 313, 3) := dz_at (i := 35) dy_p29h_1 rfl
theorem dL_law_2084 : decode cL_law 2084 = .ok (.istore 6, 2) := dz_at (i := 36) dy_p29h_1 rfl
theorem dL_law_2086 : decode cL_law 2086 = .ok (.goto 182, 3) := dz_at (i := 37) dy_p29h_1 rfl
theorem dL_law_2089 : decode cL_law 2089 = .ok (.aload_n 1, 1) := dz_at (i := 38) dy_p29h_1 rfl
theorem dL_law_2090 : decode cL_law 2090 = .ok (.aload_n 0, 1) := dz_at (i := 39) dy_p29h_1 rfl
noncomputable def dz_p29h_2 : List (Nat × Instr × Nat) := [(2091, (.iload 4, 2)), (2093, (.iconst 1, 1)), (2094, (.iadd, 1)), (2095, (.iaload, 1)), (2096, (.aload_n 3, 1)), (2097, (.invokestatic 314, 3)), (2100, (.istore 5, 2)), (2102, (.aload_n 2, 1)), (2103, (.aload_n 0, 1)), (2104, (.iload 4, 2)), (2106, (.iconst 1, 1)), (2107, (.iadd, 1)), (2108, (.iaload, 1)), (2109, (.invokevirtual 316, 3)), (2112, (.istore 6, 2)), (2114, (.goto 154, 3)), (2117, (.aload_n 1, 1)), (2118, (.aload_n 0, 1)), (2119, (.iload 4, 2)), (2121, (.iconst 1, 1)), (2122, (.iadd, 1)), (2123, (.iaload, 1)), (2124, (.aload_n 0, 1)), (2125, (.iload 4, 2)), (2127, (.iconst 2, 1)), (2128, (.iadd, 1)), (2129, (.iaload, 1)), (2130, (.ifCond .eq 7, 3)), (2133, (.iconst 1, 1)), (2134, (.goto 4, 3)), (2137, (.iconst 0, 1)), (2138, (.aload_n 3, 1)), (2139, (.invokestatic 317, 3)), (2142, (.istore 5, 2)), (2144, (.aload_n 2, 1)), (2145, (.aload_n 0, 1)), (2146, (.iload 4, 2)), (2148, (.iconst 1, 1)), (2149, (.iadd, 1)), (2150, (.iaload, 1))]
theorem dy_p29h_2 : dz_ok cL_law dz_p29h_2 = true := by decide +kernel
theorem dL_law_2091 : decode cL_law 2091 = .ok (.iload 4, 2) := dz_at (i := 0) dy_p29h_2 rfl
theorem dL_law_2093 : decode cL_law 2093 = .ok (.iconst 1, 1) := dz_at (i := 1) dy_p29h_2 rfl
theorem dL_law_2094 : decode cL_law 2094 = .ok (.iadd, 1) := dz_at (i := 2) dy_p29h_2 rfl
theorem dL_law_2095 : decode cL_law 2095 = .ok (.iaload, 1) := dz_at (i := 3) dy_p29h_2 rfl
theorem dL_law_2096 : decode cL_law 2096 = .ok (.aload_n 3, 1) := dz_at (i := 4) dy_p29h_2 rfl
theorem dL_law_2097 : decode cL_law 2097 = .ok (.invokestatic 314, 3) := dz_at (i := 5) dy_p29h_2 rfl
theorem dL_law_2100 : decode cL_law 2100 = .ok (.istore 5, 2) := dz_at (i := 6) dy_p29h_2 rfl
theorem dL_law_2102 : decode cL_law 2102 = .ok (.aload_n 2, 1) := dz_at (i := 7) dy_p29h_2 rfl
theorem dL_law_2103 : decode cL_law 2103 = .ok (.aload_n 0, 1) := dz_at (i := 8) dy_p29h_2 rfl
theorem dL_law_2104 : decode cL_law 2104 = .ok (.iload 4, 2) := dz_at (i := 9) dy_p29h_2 rfl
theorem dL_law_2106 : decode cL_law 2106 = .ok (.iconst 1, 1) := dz_at (i := 10) dy_p29h_2 rfl
theorem dL_law_2107 : decode cL_law 2107 = .ok (.iadd, 1) := dz_at (i := 11) dy_p29h_2 rfl
theorem dL_law_2108 : decode cL_law 2108 = .ok (.iaload, 1) := dz_at (i := 12) dy_p29h_2 rfl
theorem dL_law_2109 : decode cL_law 2109 = .ok (.invokevirtual 316, 3) := dz_at (i := 13) dy_p29h_2 rfl
theorem dL_law_2112 : decode cL_law 2112 = .ok (.istore 6, 2) := dz_at (i := 14) dy_p29h_2 rfl
theorem dL_law_2114 : decode cL_law 2114 = .ok (.goto 154, 3) := dz_at (i := 15) dy_p29h_2 rfl
theorem dL_law_2117 : decode cL_law 2117 = .ok (.aload_n 1, 1) := dz_at (i := 16) dy_p29h_2 rfl
theorem dL_law_2118 : decode cL_law 2118 = .ok (.aload_n 0, 1) := dz_at (i := 17) dy_p29h_2 rfl
theorem dL_law_2119 : decode cL_law 2119 = .ok (.iload 4, 2) := dz_at (i := 18) dy_p29h_2 rfl
theorem dL_law_2121 : decode cL_law 2121 = .ok (.iconst 1, 1) := dz_at (i := 19) dy_p29h_2 rfl
theorem dL_law_2122 : decode cL_law 2122 = .ok (.iadd, 1) := dz_at (i := 20) dy_p29h_2 rfl
theorem dL_law_2123 : decode cL_law 2123 = .ok (.iaload, 1) := dz_at (i := 21) dy_p29h_2 rfl
theorem dL_law_2124 : decode cL_law 2124 = .ok (.aload_n 0, 1) := dz_at (i := 22) dy_p29h_2 rfl
theorem dL_law_2125 : decode cL_law 2125 = .ok (.iload 4, 2) := dz_at (i := 23) dy_p29h_2 rfl
theorem dL_law_2127 : decode cL_law 2127 = .ok (.iconst 2, 1) := dz_at (i := 24) dy_p29h_2 rfl
theorem dL_law_2128 : decode cL_law 2128 = .ok (.iadd, 1) := dz_at (i := 25) dy_p29h_2 rfl
theorem dL_law_2129 : decode cL_law 2129 = .ok (.iaload, 1) := dz_at (i := 26) dy_p29h_2 rfl
theorem dL_law_2130 : decode cL_law 2130 = .ok (.ifCond .eq 7, 3) := dz_at (i := 27) dy_p29h_2 rfl
theorem dL_law_2133 : decode cL_law 2133 = .ok (.iconst 1, 1) := dz_at (i := 28) dy_p29h_2 rfl
theorem dL_law_2134 : decode cL_law 2134 = .ok (.goto 4, 3) := dz_at (i := 29) dy_p29h_2 rfl
theorem dL_law_2137 : decode cL_law 2137 = .ok (.iconst 0, 1) := dz_at (i := 30) dy_p29h_2 rfl
theorem dL_law_2138 : decode cL_law 2138 = .ok (.aload_n 3, 1) := dz_at (i := 31) dy_p29h_2 rfl
theorem dL_law_2139 : decode cL_law 2139 = .ok (.invokestatic 317, 3) := dz_at (i := 32) dy_p29h_2 rfl
theorem dL_law_2142 : decode cL_law 2142 = .ok (.istore 5, 2) := dz_at (i := 33) dy_p29h_2 rfl
theorem dL_law_2144 : decode cL_law 2144 = .ok (.aload_n 2, 1) := dz_at (i := 34) dy_p29h_2 rfl
theorem dL_law_2145 : decode cL_law 2145 = .ok (.aload_n 0, 1) := dz_at (i := 35) dy_p29h_2 rfl
theorem dL_law_2146 : decode cL_law 2146 = .ok (.iload 4, 2) := dz_at (i := 36) dy_p29h_2 rfl
theorem dL_law_2148 : decode cL_law 2148 = .ok (.iconst 1, 1) := dz_at (i := 37) dy_p29h_2 rfl
theorem dL_law_2149 : decode cL_law 2149 = .ok (.iadd, 1) := dz_at (i := 38) dy_p29h_2 rfl
theorem dL_law_2150 : decode cL_law 2150 = .ok (.iaload, 1) := dz_at (i := 39) dy_p29h_2 rfl
noncomputable def dz_p29h_3 : List (Nat × Instr × Nat) := [(2151, (.aload_n 0, 1)), (2152, (.iload 4, 2)), (2154, (.iconst 2, 1)), (2155, (.iadd, 1)), (2156, (.iaload, 1)), (2157, (.ifCond .eq 7, 3)), (2160, (.iconst 1, 1)), (2161, (.goto 4, 3)), (2164, (.iconst 0, 1)), (2165, (.invokevirtual 319, 3)), (2168, (.istore 6, 2)), (2170, (.goto 98, 3)), (2173, (.aload_n 1, 1)), (2174, (.aload_n 0, 1)), (2175, (.iload 4, 2)), (2177, (.iconst 1, 1)), (2178, (.iadd, 1)), (2179, (.iaload, 1)), (2180, (.aload_n 3, 1)), (2181, (.invokestatic 320, 3)), (2184, (.istore 5, 2)), (2186, (.aload_n 2, 1)), (2187, (.aload_n 0, 1)), (2188, (.iload 4, 2)), (2190, (.iconst 1, 1)), (2191, (.iadd, 1)), (2192, (.iaload, 1)), (2193, (.invokevirtual 322, 3)), (2196, (.istore 6, 2)), (2198, (.goto 70, 3)), (2201, (.aload_n 1, 1)), (2202, (.aload_n 0, 1)), (2203, (.iload 4, 2)), (2205, (.iconst 1, 1)), (2206, (.iadd, 1)), (2207, (.iaload, 1)), (2208, (.aload_n 3, 1)), (2209, (.invokestatic 323, 3)), (2212, (.istore 5, 2)), (2214, (.aload_n 2, 1))]
theorem dy_p29h_3 : dz_ok cL_law dz_p29h_3 = true := by decide +kernel
theorem dL_law_2151 : decode cL_law 2151 = .ok (.aload_n 0, 1) := dz_at (i := 0) dy_p29h_3 rfl
theorem dL_law_2152 : decode cL_law 2152 = .ok (.iload 4, 2) := dz_at (i := 1) dy_p29h_3 rfl
theorem dL_law_2154 : decode cL_law 2154 = .ok (.iconst 2, 1) := dz_at (i := 2) dy_p29h_3 rfl
theorem dL_law_2155 : decode cL_law 2155 = .ok (.iadd, 1) := dz_at (i := 3) dy_p29h_3 rfl
theorem dL_law_2156 : decode cL_law 2156 = .ok (.iaload, 1) := dz_at (i := 4) dy_p29h_3 rfl
theorem dL_law_2157 : decode cL_law 2157 = .ok (.ifCond .eq 7, 3) := dz_at (i := 5) dy_p29h_3 rfl
theorem dL_law_2160 : decode cL_law 2160 = .ok (.iconst 1, 1) := dz_at (i := 6) dy_p29h_3 rfl
theorem dL_law_2161 : decode cL_law 2161 = .ok (.goto 4, 3) := dz_at (i := 7) dy_p29h_3 rfl
theorem dL_law_2164 : decode cL_law 2164 = .ok (.iconst 0, 1) := dz_at (i := 8) dy_p29h_3 rfl
theorem dL_law_2165 : decode cL_law 2165 = .ok (.invokevirtual 319, 3) := dz_at (i := 9) dy_p29h_3 rfl
theorem dL_law_2168 : decode cL_law 2168 = .ok (.istore 6, 2) := dz_at (i := 10) dy_p29h_3 rfl
theorem dL_law_2170 : decode cL_law 2170 = .ok (.goto 98, 3) := dz_at (i := 11) dy_p29h_3 rfl
theorem dL_law_2173 : decode cL_law 2173 = .ok (.aload_n 1, 1) := dz_at (i := 12) dy_p29h_3 rfl
theorem dL_law_2174 : decode cL_law 2174 = .ok (.aload_n 0, 1) := dz_at (i := 13) dy_p29h_3 rfl
theorem dL_law_2175 : decode cL_law 2175 = .ok (.iload 4, 2) := dz_at (i := 14) dy_p29h_3 rfl
theorem dL_law_2177 : decode cL_law 2177 = .ok (.iconst 1, 1) := dz_at (i := 15) dy_p29h_3 rfl
theorem dL_law_2178 : decode cL_law 2178 = .ok (.iadd, 1) := dz_at (i := 16) dy_p29h_3 rfl
theorem dL_law_2179 : decode cL_law 2179 = .ok (.iaload, 1) := dz_at (i := 17) dy_p29h_3 rfl
theorem dL_law_2180 : decode cL_law 2180 = .ok (.aload_n 3, 1) := dz_at (i := 18) dy_p29h_3 rfl
theorem dL_law_2181 : decode cL_law 2181 = .ok (.invokestatic 320, 3) := dz_at (i := 19) dy_p29h_3 rfl
theorem dL_law_2184 : decode cL_law 2184 = .ok (.istore 5, 2) := dz_at (i := 20) dy_p29h_3 rfl
theorem dL_law_2186 : decode cL_law 2186 = .ok (.aload_n 2, 1) := dz_at (i := 21) dy_p29h_3 rfl
theorem dL_law_2187 : decode cL_law 2187 = .ok (.aload_n 0, 1) := dz_at (i := 22) dy_p29h_3 rfl
theorem dL_law_2188 : decode cL_law 2188 = .ok (.iload 4, 2) := dz_at (i := 23) dy_p29h_3 rfl
theorem dL_law_2190 : decode cL_law 2190 = .ok (.iconst 1, 1) := dz_at (i := 24) dy_p29h_3 rfl
theorem dL_law_2191 : decode cL_law 2191 = .ok (.iadd, 1) := dz_at (i := 25) dy_p29h_3 rfl
theorem dL_law_2192 : decode cL_law 2192 = .ok (.iaload, 1) := dz_at (i := 26) dy_p29h_3 rfl
theorem dL_law_2193 : decode cL_law 2193 = .ok (.invokevirtual 322, 3) := dz_at (i := 27) dy_p29h_3 rfl
theorem dL_law_2196 : decode cL_law 2196 = .ok (.istore 6, 2) := dz_at (i := 28) dy_p29h_3 rfl
theorem dL_law_2198 : decode cL_law 2198 = .ok (.goto 70, 3) := dz_at (i := 29) dy_p29h_3 rfl
theorem dL_law_2201 : decode cL_law 2201 = .ok (.aload_n 1, 1) := dz_at (i := 30) dy_p29h_3 rfl
theorem dL_law_2202 : decode cL_law 2202 = .ok (.aload_n 0, 1) := dz_at (i := 31) dy_p29h_3 rfl
theorem dL_law_2203 : decode cL_law 2203 = .ok (.iload 4, 2) := dz_at (i := 32) dy_p29h_3 rfl
theorem dL_law_2205 : decode cL_law 2205 = .ok (.iconst 1, 1) := dz_at (i := 33) dy_p29h_3 rfl
theorem dL_law_2206 : decode cL_law 2206 = .ok (.iadd, 1) := dz_at (i := 34) dy_p29h_3 rfl
theorem dL_law_2207 : decode cL_law 2207 = .ok (.iaload, 1) := dz_at (i := 35) dy_p29h_3 rfl
theorem dL_law_2208 : decode cL_law 2208 = .ok (.aload_n 3, 1) := dz_at (i := 36) dy_p29h_3 rfl
theorem dL_law_2209 : decode cL_law 2209 = .ok (.invokestatic 323, 3) := dz_at (i := 37) dy_p29h_3 rfl
theorem dL_law_2212 : decode cL_law 2212 = .ok (.istore 5, 2) := dz_at (i := 38) dy_p29h_3 rfl
theorem dL_law_2214 : decode cL_law 2214 = .ok (.aload_n 2, 1) := dz_at (i := 39) dy_p29h_3 rfl
noncomputable def dz_p29h_4 : List (Nat × Instr × Nat) := [(2215, (.aload_n 0, 1)), (2216, (.iload 4, 2)), (2218, (.iconst 1, 1)), (2219, (.iadd, 1)), (2220, (.iaload, 1)), (2221, (.invokevirtual 325, 3)), (2224, (.istore 6, 2)), (2226, (.goto 42, 3)), (2229, (.aload_n 1, 1)), (2230, (.invokevirtual 326, 3)), (2233, (.pop, 1)), (2234, (.aload_n 2, 1)), (2235, (.invokevirtual 329, 3)), (2238, (.pop, 1)), (2239, (.goto 29, 3)), (2242, (.aload_n 1, 1)), (2243, (.invokevirtual 330, 3)), (2246, (.pop, 1)), (2247, (.aload_n 2, 1)), (2248, (.invokevirtual 334, 3)), (2251, (.pop, 1)), (2252, (.goto 16, 3)), (2255, (.aload_n 1, 1)), (2256, (.invokevirtual 335, 3)), (2259, (.pop2, 1)), (2260, (.aload_n 2, 1)), (2261, (.invokevirtual 339, 3)), (2264, (.pop2, 1)), (2265, (.goto 3, 3)), (2268, (.iinc 4 4, 3)), (2271, (.goto (-2244), 3)), (2274, (.iconst 1, 1)), (2275, (.ireturn, 1))]
theorem dy_p29h_4 : dz_ok cL_law dz_p29h_4 = true := by decide +kernel
theorem dL_law_2215 : decode cL_law 2215 = .ok (.aload_n 0, 1) := dz_at (i := 0) dy_p29h_4 rfl
theorem dL_law_2216 : decode cL_law 2216 = .ok (.iload 4, 2) := dz_at (i := 1) dy_p29h_4 rfl
theorem dL_law_2218 : decode cL_law 2218 = .ok (.iconst 1, 1) := dz_at (i := 2) dy_p29h_4 rfl
theorem dL_law_2219 : decode cL_law 2219 = .ok (.iadd, 1) := dz_at (i := 3) dy_p29h_4 rfl
theorem dL_law_2220 : decode cL_law 2220 = .ok (.iaload, 1) := dz_at (i := 4) dy_p29h_4 rfl
theorem dL_law_2221 : decode cL_law 2221 = .ok (.invokevirtual 325, 3) := dz_at (i := 5) dy_p29h_4 rfl
theorem dL_law_2224 : decode cL_law 2224 = .ok (.istore 6, 2) := dz_at (i := 6) dy_p29h_4 rfl
theorem dL_law_2226 : decode cL_law 2226 = .ok (.goto 42, 3) := dz_at (i := 7) dy_p29h_4 rfl
theorem dL_law_2229 : decode cL_law 2229 = .ok (.aload_n 1, 1) := dz_at (i := 8) dy_p29h_4 rfl
theorem dL_law_2230 : decode cL_law 2230 = .ok (.invokevirtual 326, 3) := dz_at (i := 9) dy_p29h_4 rfl
theorem dL_law_2233 : decode cL_law 2233 = .ok (.pop, 1) := dz_at (i := 10) dy_p29h_4 rfl
theorem dL_law_2234 : decode cL_law 2234 = .ok (.aload_n 2, 1) := dz_at (i := 11) dy_p29h_4 rfl
theorem dL_law_2235 : decode cL_law 2235 = .ok (.invokevirtual 329, 3) := dz_at (i := 12) dy_p29h_4 rfl
theorem dL_law_2238 : decode cL_law 2238 = .ok (.pop, 1) := dz_at (i := 13) dy_p29h_4 rfl
theorem dL_law_2239 : decode cL_law 2239 = .ok (.goto 29, 3) := dz_at (i := 14) dy_p29h_4 rfl
theorem dL_law_2242 : decode cL_law 2242 = .ok (.aload_n 1, 1) := dz_at (i := 15) dy_p29h_4 rfl
theorem dL_law_2243 : decode cL_law 2243 = .ok (.invokevirtual 330, 3) := dz_at (i := 16) dy_p29h_4 rfl
theorem dL_law_2246 : decode cL_law 2246 = .ok (.pop, 1) := dz_at (i := 17) dy_p29h_4 rfl
theorem dL_law_2247 : decode cL_law 2247 = .ok (.aload_n 2, 1) := dz_at (i := 18) dy_p29h_4 rfl
theorem dL_law_2248 : decode cL_law 2248 = .ok (.invokevirtual 334, 3) := dz_at (i := 19) dy_p29h_4 rfl
theorem dL_law_2251 : decode cL_law 2251 = .ok (.pop, 1) := dz_at (i := 20) dy_p29h_4 rfl
theorem dL_law_2252 : decode cL_law 2252 = .ok (.goto 16, 3) := dz_at (i := 21) dy_p29h_4 rfl
theorem dL_law_2255 : decode cL_law 2255 = .ok (.aload_n 1, 1) := dz_at (i := 22) dy_p29h_4 rfl
theorem dL_law_2256 : decode cL_law 2256 = .ok (.invokevirtual 335, 3) := dz_at (i := 23) dy_p29h_4 rfl
theorem dL_law_2259 : decode cL_law 2259 = .ok (.pop2, 1) := dz_at (i := 24) dy_p29h_4 rfl
theorem dL_law_2260 : decode cL_law 2260 = .ok (.aload_n 2, 1) := dz_at (i := 25) dy_p29h_4 rfl
theorem dL_law_2261 : decode cL_law 2261 = .ok (.invokevirtual 339, 3) := dz_at (i := 26) dy_p29h_4 rfl
theorem dL_law_2264 : decode cL_law 2264 = .ok (.pop2, 1) := dz_at (i := 27) dy_p29h_4 rfl
theorem dL_law_2265 : decode cL_law 2265 = .ok (.goto 3, 3) := dz_at (i := 28) dy_p29h_4 rfl
theorem dL_law_2268 : decode cL_law 2268 = .ok (.iinc 4 4, 3) := dz_at (i := 29) dy_p29h_4 rfl
theorem dL_law_2271 : decode cL_law 2271 = .ok (.goto (-2244), 3) := dz_at (i := 30) dy_p29h_4 rfl
theorem dL_law_2274 : decode cL_law 2274 = .ok (.iconst 1, 1) := dz_at (i := 31) dy_p29h_4 rfl
theorem dL_law_2275 : decode cL_law 2275 = .ok (.ireturn, 1) := dz_at (i := 32) dy_p29h_4 rfl
