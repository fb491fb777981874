theorem dk_29h_1 : (cL_law.data.toList.drop 2033).take 151 = [96, 46, 42, 21, 4, 5, 96, 46, 182, 1, 54, 54, 6, 167, 0, 222, 43, 42, 21, 4, 4, 96, 46, 42, 21, 4, 5, 96, 46, 45, 184, 1, 55, 54, 5, 44, 42, 21, 4, 4, 96, 46, 42, 21, 4, 5, 96, 46, 182, 1, 57, 54, 6, 167, 0, 182, 43, 42, 21, 4, 4, 96, 46, 45, 184, 1, 58, 54, 5, 44, 42, 21, 4, 4, 96, 46, 182, 1, 60, 54, 6, 167, 0, 154, 43, 42, 21, 4, 4, 96, 46, 42, 21, 4, 5, 96, 46, 153, 0, 7, 4, 167, 0, 4, 3, 45, 184, 1, 61, 54, 5, 44, 42, 21, 4, 4, 96, 46, 42, 21, 4, 5, 96, 46, 153, 0, 7, 4, 167, 0, 4, 3, 182, 1, 63, 54, 6, 167, 0, 98, 43, 42, 21, 4, 4, 96, 46, 45, 184, 1, 64] := by decide +kernel
theorem dL_law_2033 : decode cL_law 2033 = .ok (.iadd, 1) := dq_op96 (dq_at (j := 0) dk_29h_1 rfl rfl)
theorem dL_law_2034 : decode cL_law 2034 = .ok (.iaload, 1) := dq_op46 (dq_at (j := 1) dk_29h_1 rfl rfl)
theorem dL_law_2035 : decode cL_law 2035 = .ok (.aload_n 0, 1) := dq_op42 (dq_at (j := 2) dk_29h_1 rfl rfl)
theorem dL_law_2036 : decode cL_law 2036 = .ok (.iload 4, 2) := dq_op21 (dq_at (j := 3) dk_29h_1 rfl rfl) (dq_at (j := 4) dk_29h_1 rfl rfl) rfl
theorem dL_law_2038 : decode cL_law 2038 = .ok (.iconst 2, 1) := dq_op5 (dq_at (j := 5) dk_29h_1 rfl rfl)
theorem dL_law_2039 : decode cL_law 2039 = .ok (.iadd, 1) := dq_op96 (dq_at (j := 6) dk_29h_1 rfl rfl)
theorem dL_law_2040 : decode cL_law 2040 = .ok (.iaload, 1) := dq_op46 (dq_at (j := 7) dk_29h_1 rfl rfl)
theorem dL_law_2041 : decode cL_law 2041 = .ok (.invokevirtual 310, 3) := dq_op182 (dq_at (j := 8) dk_29h_1 rfl rfl) (dq_at (j := 9) dk_29h_1 rfl rfl) (dq_at (j := 10) dk_29h_1 rfl rfl) rfl
theorem dL_law_2044 : decode cL_law 2044 = .ok (.istore 6, 2) := dq_op54 (dq_at (j := 11) dk_29h_1 rfl rfl) (dq_at (j := 12) dk_29h_1 rfl rfl) rfl
theorem dL_law_2046 : decode cL_law 2046 = .ok (.goto 222, 3) := dq_op167 (dq_at (j := 13) dk_29h_1 rfl rfl) (dq_at (j := 14) dk_29h_1 rfl rfl) (dq_at (j := 15) dk_29h_1 rfl rfl) (by decide +kernel)
theorem dL_law_2049 : decode cL_law 2049 = .ok (.aload_n 1, 1) := dq_op43 (dq_at (j := 16) dk_29h_1 rfl rfl)
theorem dL_law_2050 : decode cL_law 2050 = .ok (.aload_n 0, 1) := dq_op42 (dq_at (j := 17) dk_29h_1 rfl rfl)
theorem dL_law_2051 : decode cL_law 2051 = .ok (.iload 4, 2) := dq_op21 (dq_at (j := 18) dk_29h_1 rfl rfl) (dq_at (j := 19) dk_29h_1 rfl rfl) rfl
theorem dL_law_2053 : decode cL_law 2053 = .ok (.iconst 1, 1) := dq_op4 (dq_at (j := 20) dk_29h_1 rfl rfl)
theorem dL_law_2054 : decode cL_law 2054 = .ok (.iadd, 1) := dq_op96 (dq_at (j := 21) dk_29h_1 rfl rfl)
theorem dL_law_2055 : decode cL_law 2055 = .ok (.iaload, 1) := dq_op46 (dq_at (j := 22) dk_29h_1 rfl rfl)
theorem dL_law_2056 : decode cL_law 2056 = .ok (.aload_n 0, 1) := dq_op42 (dq_at (j := 23) dk_29h_1 rfl rfl)
theorem dL_law_2057 : decode cL_law 2057 = .ok (.iload 4, 2) := dq_op21 (dq_at (j := 24) dk_29h_1 rfl rfl) (dq_at (j := 25) dk_29h_1 rfl rfl) rfl
theorem dL_law_2059 : decode cL_law 2059 = .ok (.iconst 2, 1) := dq_op5 (dq_at (j := 26) dk_29h_1 rfl rfl)
theorem dL_law_2060 : decode cL_law 2060 = .ok (.iadd, 1) := dq_op96 (dq_at (j := 27) dk_29h_1 rfl rfl)
theorem dL_law_2061 : decode cL_law 2061 = .ok (.iaload, 1) := dq_op46 (dq_at (j := 28) dk_29h_1 rfl rfl)
theorem dL_law_2062 : decode cL_law 2062 = .ok (.aload_n 3, 1) := dq_op45 (dq_at (j := 29) dk_29h_1 rfl rfl)
theorem dL_law_2063 : decode cL_law 2063 = .ok (.invokestatic 311, 3) := dq_op184 (dq_at (j := 30) dk_29h_1 rfl rfl) (dq_at (j := 31) dk_29h_1 rfl rfl) (dq_at (j := 32) dk_29h_1 rfl rfl) rfl
theorem dL_law_2066 : decode cL_law 2066 = .ok (.istore 5, 2) := dq_op54 (dq_at (j := 33) dk_29h_1 rfl rfl) (dq_at (j := 34) dk_29h_1 rfl rfl) rfl
theorem dL_law_2068 : decode cL_law 2068 = .ok (.aload_n 2, 1) := dq_op44 (dq_at (j := 35) dk_29h_1 rfl rfl)
theorem dL_law_2069 : decode cL_law 2069 = .ok (.aload_n 0, 1) := dq_op42 (dq_at (j := 36) dk_29h_1 rfl rfl)
theorem dL_law_2070 : decode cL_law 2070 = .ok (.iload 4, 2) := dq_op21 (dq_at (j := 37) dk_29h_1 rfl rfl) (dq_at (j := 38) dk_29h_1 rfl rfl) rfl
theorem dL_law_2072 : decode cL_law 2072 = .ok (.iconst 1, 1) := dq_op4 (dq_at (j := 39) dk_29h_1 rfl rfl)
theorem dL_law_2073 : decode cL_law 2073 = .ok (.iadd, 1) := dq_op96 (dq_at (j := 40) dk_29h_1 rfl rfl)
theorem dL_law_2074 : decode cL_law 2074 = .ok (.iaload, 1) := dq_op46 (dq_at (j := 41) dk_29h_1 rfl rfl)
theorem dL_law_2075 : decode cL_law 2075 = .ok (.aload_n 0, 1) := dq_op42 (dq_at (j := 42) dk_29h_1 rfl rfl)
theorem dL_law_2076 : decode cL_law 2076 = .ok (.iload 4, 2) := dq_op21 (dq_at (j := 43) dk_29h_1 rfl rfl) (dq_at (j := 44) dk_29h_1 rfl rfl) rfl
theorem dL_law_2078 : decode cL_law 2078 = .ok (.iconst 2, 1) := dq_op5 (dq_at (j := 45) dk_29h_1 rfl rfl)
theorem dL_law_2079 : decode cL_law 2079 = .ok (.iadd, 1) := dq_op96 (dq_at (j := 46) dk_29h_1 rfl rfl)
theorem dL_law_2080 : decode cL_law 2080 = .ok (.iaload, 1) := dq_op46 (dq_at (j := 47) dk_29h_1 rfl rfl)
theorem dL_law_2081 : decode cL_law 2081 = .ok (.invokevirtual 313, 3) := dq_op182 (dq_at (j := 48) dk_29h_1 rfl rfl) (dq_at (j := 49) dk_29h_1 rfl rfl) (dq_at (j := 50) dk_29h_1 rfl rfl) rfl
theorem dL_law_2084 : decode cL_law 2084 = .ok (.istore 6, 2) := dq_op54 (dq_at (j := 51) dk_29h_1 rfl rfl) (dq_at (j := 52) dk_29h_1 rfl rfl) rfl
theorem dL_law_2086 : decode cL_law 2086 = .ok (.goto 182, 3) := dq_op167 (dq_at (j := 53) dk_29h_1 rfl rfl) (dq_at (j := 54) dk_29h_1 rfl rfl) (dq_at (j := 55) dk_29h_1 rfl rfl) (by decide +kernel)
theorem dL_law_2089 : decode cL_law 2089 = .ok (.aload_n 1, 1) := dq_op43 (dq_at (j := 56) dk_29h_1 rfl rfl)
theorem dL_law_2090 : decode cL_law 2090 = .ok (.aload_n 0, 1) := dq_op42 (dq_at (j := 57) dk_29h_1 rfl rfl)
theorem dL_law_2091 : decode cL_law 2091 = .ok (.iload 4, 2) := dq_op21 (dq_at (j := 58) dk_29h_1 rfl rfl) (dq_at (j := 59) dk_29h_1 rfl rfl) rfl
theorem dL_law_2093 : decode cL_law 2093 = .ok (.iconst 1, 1) := dq_op4 (dq_at (j := 60) dk_29h_1 rfl rfl)
theorem dL_law_2094 : decode cL_law 2094 = .ok (.iadd, 1) := dq_op96 (dq_at (j := 61) dk_29h_1 rfl rfl)
theorem dL_law_2095 : decode cL_law 2095 = .ok (.iaload, 1) := dq_op46 (dq_at (j := 62) dk_29h_1 rfl rfl)
theorem dL_law_2096 : decode cL_law 2096 = .ok (.aload_n 3, 1) := dq_op45 (dq_at (j := 63) dk_29h_1 rfl rfl)
theorem dL_law_2097 : decode cL_law 2097 = .ok (.invokestatic 314, 3) := dq_op184 (dq_at (j := 64) dk_29h_1 rfl rfl) (dq_at (j := 65) dk_29h_1 rfl rfl) (dq_at (j := 66) dk_29h_1 rfl rfl) rfl
theorem dL_law_2100 : decode cL_law 2100 = .ok (.istore 5, 2) := dq_op54 (dq_at (j := 67) dk_29h_1 rfl rfl) (dq_at (j := 68) dk_29h_1 rfl rfl) rfl
theorem dL_law_2102 : decode cL_law 2102 = .ok (.aload_n 2, 1) := dq_op44 (dq_at (j := 69) dk_29h_1 rfl rfl)
theorem dL_law_2103 : decode cL_law 2103 = .ok (.aload_n 0, 1) := dq_op42 (dq_at (j := 70) dk_29h_1 rfl rfl)
theorem dL_law_2104 : decode cL_law 2104 = .ok (.iload 4, 2) := dq_op21 (dq_at (j := 71) dk_29h_1 rfl rfl) (dq_at (j := 72) dk_29h_1 rfl rfl) rfl
theorem dL_law_2106 : decode cL_law 2106 = .ok (.iconst 1, 1) := dq_op4 (dq_at (j := 73) dk_29h_1 rfl rfl)
theorem dL_law_2107 : decode cL_law 2107 = .ok (.iadd, 1) := dq_op96 (dq_at (j := 74) dk_29h_1 rfl rfl)
theorem dL_law_2108 : decode cL_law 2108 = .ok (.iaload, 1) := dq_op46 (dq_at (j := 75) dk_29h_1 rfl rfl)
theorem dL_law_2109 : decode cL_law 2109 = .ok (.invokevirtual 316, 3) := dq_op182 (dq_at (j := 76) dk_29h_1 rfl rfl) (dq_at (j := 77) dk_29h_1 rfl rfl) (dq_at (j := 78) dk_29h_1 rfl rfl) rfl
theorem dL_law_2112 : decode cL_law 2112 = .ok (.istore 6, 2) := dq_op54 (dq_at (j := 79) dk_29h_1 rfl rfl) (dq_at (j := 80) dk_29h_1 rfl rfl) rfl
theorem dL_law_2114 : decode cL_law 2114 = .ok (.goto 154, 3) := dq_op167 (dq_at (j := 81) dk_29h_1 rfl rfl) (dq_at (j := 82) dk_29h_1 rfl rfl) (dq_at (j := 83) dk_29h_1 rfl rfl) (by decide +kernel)
theorem dL_law_2117 : decode cL_law 2117 = .ok (.aload_n 1, 1) := dq_op43 (dq_at (j := 84) dk_29h_1 rfl rfl)
theorem dL_law_2118 : decode cL_law 2118 = .ok (.aload_n 0, 1) := dq_op42 (dq_at (j := 85) dk_29h_1 rfl rfl)
theorem dL_law_2119 : decode cL_law 2119 = .ok (.iload 4, 2) := dq_op21 (dq_at (j := 86) dk_29h_1 rfl rfl) (dq_at (j := 87) dk_29h_1 rfl rfl) rfl
theorem dL_law_2121 : decode cL_law 2121 = .ok (.iconst 1, 1) := dq_op4 (dq_at (j := 88) dk_29h_1 rfl rfl)
theorem dL_law_2122 : decode cL_law 2122 = .ok (.iadd, 1) := dq_op96 (dq_at (j := 89) dk_29h_1 rfl rfl)
theorem dL_law_2123 : decode cL_law 2123 = .ok (.iaload, 1) := dq_op46 (dq_at (j := 90) dk_29h_1 rfl rfl)
theorem dL_law_2124 : decode cL_law 2124 = .ok (.aload_n 0, 1) := dq_op42 (dq_at (j := 91) dk_29h_1 rfl rfl)
theorem dL_law_2125 : decode cL_law 2125 = .ok (.iload 4, 2) := dq_op21 (dq_at (j := 92) dk_29h_1 rfl rfl) (dq_at (j := 93) dk_29h_1 rfl rfl) rfl
theorem dL_law_2127 : decode cL_law 2127 = .ok (.iconst 2, 1) := dq_op5 (dq_at (j := 94) dk_29h_1 rfl rfl)
theorem dL_law_2128 : decode cL_law 2128 = .ok (.iadd, 1) := dq_op96 (dq_at (j := 95) dk_29h_1 rfl rfl)
theorem dL_law_2129 : decode cL_law 2129 = .ok (.iaload, 1) := dq_op46 (dq_at (j := 96) dk_29h_1 rfl rfl)
theorem dL_law_2130 : decode cL_law 2130 = .ok (.ifCond .eq 7, 3) := dq_op153 (dq_at (j := 97) dk_29h_1 rfl rfl) (dq_at (j := 98) dk_29h_1 rfl rfl) (dq_at (j := 99) dk_29h_1 rfl rfl) (by decide +kernel)
theorem dL_law_2133 : decode cL_law 2133 = .ok (.iconst 1, 1) := dq_op4 (dq_at (j := 100) dk_29h_1 rfl rfl)
theorem dL_law_2134 : decode cL_law 2134 = .ok (.goto 4, 3) := dq_op167 (dq_at (j := 101) dk_29h_1 rfl rfl) (dq_at (j := 102) dk_29h_1 rfl rfl) (dq_at (j := 103) dk_29h_1 rfl rfl) (by decide +kernel)
theorem dL_law_2137 : decode cL_law 2137 = .ok (.iconst 0, 1) := dq_op3 (dq_at (j := 104) dk_29h_1 rfl rfl)
theorem dL_law_2138 : decode cL_law 2138 = .ok (.aload_n 3, 1) := dq_op45 (dq_at (j := 105) dk_29h_1 rfl rfl)
theorem dL_law_2139 : decode cL_law 2139 = .ok (.invokestatic 317, 3) := dq_op184 (dq_at (j := 106) dk_29h_1 rfl rfl) (dq_at (j := 107) dk_29h_1 rfl rfl) (dq_at (j := 108) dk_29h_1 rfl rfl) rfl
theorem dL_law_2142 : decode cL_law 2142 = .ok (.istore 5, 2) := dq_op54 (dq_at (j := 109) dk_29h_1 rfl rfl) (dq_at (j := 110) dk_29h_1 rfl rfl) rfl
theorem dL_law_2144 : decode cL_law 2144 = .ok (.aload_n 2, 1) := dq_op44 (dq_at (j := 111) dk_29h_1 rfl rfl)
theorem dL_law_2145 : decode cL_law 2145 = .ok (.aload_n 0, 1) := dq_op42 (dq_at (j := 112) dk_29h_1 rfl rfl)
theorem dL_law_2146 : decode cL_law 2146 = .ok (.iload 4, 2) := dq_op21 (dq_at (j := 113) dk_29h_1 rfl rfl) (dq_at (j := 114) dk_29h_1 rfl rfl) rfl
theorem dL_law_2148 : decode cL_law 2148 = .ok (.iconst 1, 1) := dq_op4 (dq_at (j := 115) dk_29h_1 rfl rfl)
theorem dL_law_2149 : decode cL_law 2149 = .ok (.iadd, 1) := dq_op96 (dq_at (j := 116) dk_29h_1 rfl rfl)
theorem dL_law_2150 : decode cL_law 2150 = .ok (.iaload, 1) := dq_op46 (dq_at (j := 117) dk_29h_1 rfl rfl)
theorem dL_law_2151 : decode cL_law 2151 = .ok (.aload_n 0, 1) := dq_op42 (dq_at (j := 118) dk_29h_1 rfl rfl)
theorem dL_law_2152 : decode cL_law 2152 = .ok (.iload 4, 2) := dq_op21 (dq_at (j := 119) dk_29h_1 rfl rfl) (dq_at (j := 120) dk_29h_1 rfl rfl) rfl
theorem dL_law_2154 : decode cL_law 2154 = .ok (.iconst 2, 1) := dq_op5 (dq_at (j := 121) dk_29h_1 rfl rfl)
theorem dL_law_2155 : decode cL_law 2155 = .ok (.iadd, 1) := dq_op96 (dq_at (j := 122) dk_29h_1 rfl rfl)
theorem dL_law_2156 : decode cL_law 2156 = .ok (.iaload, 1) := dq_op46 (dq_at (j := 123) dk_29h_1 rfl rfl)
theorem dL_law_2157 : decode cL_law 2157 = .ok (.ifCond .eq 7, 3) := dq_op153 (dq_at (j := 124) dk_29h_1 rfl rfl) (dq_at (j := 125) dk_29h_1 rfl rfl) (dq_at (j := 126) dk_29h_1 rfl rfl) (by decide +kernel)
theorem dL_law_2160 : decode cL_law 2160 = .ok (.iconst 1, 1) := dq_op4 (dq_at (j := 127) dk_29h_1 rfl rfl)
theorem dL_law_2161 : decode cL_law 2161 = .ok (.goto 4, 3) := dq_op167 (dq_at (j := 128) dk_29h_1 rfl rfl) (dq_at (j := 129) dk_29h_1 rfl rfl) (dq_at (j := 130) dk_29h_1 rfl rfl) (by decide +kernel)
theorem dL_law_2164 : decode cL_law 2164 = .ok (.iconst 0, 1) := dq_op3 (dq_at (j := 131) dk_29h_1 rfl rfl)
theorem dL_law_2165 : decode cL_law 2165 = .ok (.invokevirtual 319, 3) := dq_op182 (dq_at (j := 132) dk_29h_1 rfl rfl) (dq_at (j := 133) dk_29h_1 rfl rfl) (dq_at (j := 134) dk_29h_1 rfl rfl) rfl
theorem dL_law_2168 : decode cL_law 2168 = .ok (.istore 6, 2) := dq_op54 (dq_at (j := 135) dk_29h_1 rfl rfl) (dq_at (j := 136) dk_29h_1 rfl rfl) rfl
theorem dL_law_2170 : decode cL_law 2170 = .ok (.goto 98, 3) := dq_op167 (dq_at (j := 137) dk_29h_1 rfl rfl) (dq_at (j := 138) dk_29h_1 rfl rfl) (dq_at (j := 139) dk_29h_1 rfl rfl) (by decide +kernel)
theorem dL_law_2173 : decode cL_law 2173 = .ok (.aload_n 1, 1) := dq_op43 (dq_at (j := 140) dk_29h_1 rfl rfl)
theorem dL_law_2174 : decode cL_law 2174 = .ok (.aload_n 0, 1) := dq_op42 (dq_at (j := 141) dk_29h_1 rfl rfl)
theorem dL_law_2175 : decode cL_law 2175 = .ok (.iload 4, 2) := dq_op21 (dq_at (j := 142) dk_29h_1 rfl rfl) (dq_at (j := 143) dk_29h_1 rfl rfl) rfl
theorem dL_law_2177 : decode cL_law 2177 = .ok (.iconst 1, 1) := dq_op4 (dq_at (j := 144) dk_29h_1 rfl rfl)
theorem dL_law_2178 : decode cL_law 2178 = .ok (.iadd, 1) := dq_op96 (dq_at (j := 145) dk_29h_1 rfl rfl)
theorem dL_law_2179 : decode cL_law 2179 = .ok (.iaload, 1) := dq_op46 (dq_at (j := 146) dk_29h_1 rfl rfl)
theorem dL_law_2180 : decode cL_law 2180 = .ok (.aload_n 3, 1) := dq_op45 (dq_at (j := 147) dk_29h_1 rfl rfl)
theorem dL_law_2181 : decode cL_law 2181 = .ok (.invokestatic 320, 3) := dq_op184 (dq_at (j := 148) dk_29h_1 rfl rfl) (dq_at (j := 149) dk_29h_1 rfl rfl) (dq_at (j := 150) dk_29h_1 rfl rfl) rfl
theorem dk_29h_2 : (cL_law.data.toList.drop 2184).take 92 = [54, 5, 44, 42, 21, 4, 4, 96, 46, 182, 1, 66, 54, 6, 167, 0, 70, 43, 42, 21, 4, 4, 96, 46, 45, 184, 1, 67, 54, 5, 44, 42, 21, 4, 4, 96, 46, 182, 1, 69, 54, 6, 167, 0, 42, 43, 182, 1, 70, 87, 44, 182, 1, 73, 87, 167, 0, 29, 43, 182, 1, 74, 87, 44, 182, 1, 78, 87, 167, 0, 16, 43, 182, 1, 79, 88, 44, 182, 1, 83, 88, 167, 0, 3, 132, 4, 4, 167, 247, 60, 4, 172] := by decide +kernel
theorem dL_law_2184 : decode cL_law 2184 = .ok (.istore 5, 2) := dq_op54 (dq_at (j := 0) dk_29h_2 rfl rfl) (dq_at (j := 1) dk_29h_2 rfl rfl) rfl
theorem dL_law_2186 : decode cL_law 2186 = .ok (.aload_n 2, 1) := dq_op44 (dq_at (j := 2) dk_29h_2 rfl rfl)
theorem dL_law_2187 : decode cL_law 2187 = .ok (.aload_n 0, 1) := dq_op42 (dq_at (j := 3) dk_29h_2 rfl rfl)
theorem dL_law_2188 : decode cL_law 2188 = .ok (.iload 4, 2) := dq_op21 (dq_at (j := 4) dk_29h_2 rfl rfl) (dq_at (j := 5) dk_29h_2 rfl rfl) rfl
theorem dL_law_2190 : decode cL_law 2190 = .ok (.iconst 1, 1) := dq_op4 (dq_at (j := 6) dk_29h_2 rfl rfl)
theorem dL_law_2191 : decode cL_law 2191 = .ok (.iadd, 1) := dq_op96 (dq_at (j := 7) dk_29h_2 rfl rfl)
theorem dL_law_2192 : decode cL_law 2192 = .ok (.iaload, 1) := dq_op46 (dq_at (j := 8) dk_29h_2 rfl rfl)
theorem dL_law_2193 : decode cL_law 2193 = .ok (.invokevirtual 322, 3) := dq_op182 (dq_at (j := 9) dk_29h_2 rfl rfl) (dq_at (j := 10) dk_29h_2 rfl rfl) (dq_at (j := 11) dk_29h_2 rfl rfl) rfl
theorem dL_law_2196 : decode cL_law 2196 = .ok (.istore 6, 2) := dq_op54 (dq_at (j := 12) dk_29h_2 rfl rfl) (dq_at (j := 13) dk_29h_2 rfl rfl) rfl
theorem dL_law_2198 : decode cL_law 2198 = .ok (.goto 70, 3) := dq_op167 (dq_at (j := 14) dk_29h_2 rfl rfl) (dq_at (j := 15) dk_29h_2 rfl rfl) (dq_at (j := 16) dk_29h_2 rfl rfl) (by decide +kernel)
theorem dL_law_2201 : decode cL_law 2201 = .ok (.aload_n 1, 1) := dq_op43 (dq_at (j := 17) dk_29h_2 rfl rfl)
theorem dL_law_2202 : decode cL_law 2202 = .ok (.aload_n 0, 1) := dq_op42 (dq_at (j := 18) dk_29h_2 rfl rfl)
theorem dL_law_2203 : decode cL_law 2203 = .ok (.iload 4, 2) := dq_op21 (dq_at (j := 19) dk_29h_2 rfl rfl) (dq_at (j := 20) dk_29h_2 rfl rfl) rfl
theorem dL_law_2205 : decode cL_law 2205 = .ok (.iconst 1, 1) := dq_op4 (dq_at (j := 21) dk_29h_2 rfl rfl)
theorem dL_law_2206 : decode cL_law 2206 = .ok (.iadd, 1) := dq_op96 (dq_at (j := 22) dk_29h_2 rfl rfl)
theorem dL_law_2207 : decode cL_law 2207 = .ok (.iaload, 1) := dq_op46 (dq_at (j := 23) dk_29h_2 rfl rfl)
theorem dL_law_2208 : decode cL_law 2208 = .ok (.aload_n 3, 1) := dq_op45 (dq_at (j := 24) dk_29h_2 rfl rfl)
theorem dL_law_2209 : decode cL_law 2209 = .ok (.invokestatic 323, 3) := dq_op184 (dq_at (j := 25) dk_29h_2 rfl rfl) (dq_at (j := 26) dk_29h_2 rfl rfl) (dq_at (j := 27) dk_29h_2 rfl rfl) rfl
theorem dL_law_2212 : decode cL_law 2212 = .ok (.istore 5, 2) := dq_op54 (dq_at (j := 28) dk_29h_2 rfl rfl) (dq_at (j := 29) dk_29h_2 rfl rfl) rfl
theorem dL_law_2214 : decode cL_law 2214 = .ok (.aload_n 2, 1) := dq_op44 (dq_at (j := 30) dk_29h_2 rfl rfl)
theorem dL_law_2215 : decode cL_law 2215 = .ok (.aload_n 0, 1) := dq_op42 (dq_at (j := 31) dk_29h_2 rfl rfl)
theorem dL_law_2216 : decode cL_law 2216 = .ok (.iload 4, 2) := dq_op21 (dq_at (j := 32) dk_29h_2 rfl rfl) (dq_at (j := 33) dk_29h_2 rfl rfl) rfl
theorem dL_law_2218 : decode cL_law 2218 = .ok (.iconst 1, 1) := dq_op4 (dq_at (j := 34) dk_29h_2 rfl rfl)
theorem dL_law_2219 : decode cL_law 2219 = .ok (.iadd, 1) := dq_op96 (dq_at (j := 35) dk_29h_2 rfl rfl)
theorem dL_law_2220 : decode cL_law 2220 = .ok (.iaload, 1) := dq_op46 (dq_at (j := 36) dk_29h_2 rfl rfl)
theorem dL_law_2221 : decode cL_law 2221 = .ok (.invokevirtual 325, 3) := dq_op182 (dq_at (j := 37) dk_29h_2 rfl rfl) (dq_at (j := 38) dk_29h_2 rfl rfl) (dq_at (j := 39) dk_29h_2 rfl rfl) rfl
theorem dL_law_2224 : decode cL_law 2224 = .ok (.istore 6, 2) := dq_op54 (dq_at (j := 40) dk_29h_2 rfl rfl) (dq_at (j := 41) dk_29h_2 rfl rfl) rfl
theorem dL_law_2226 : decode cL_law 2226 = .ok (.goto 42, 3) := dq_op167 (dq_at (j := 42) dk_29h_2 rfl rfl) (dq_at (j := 43) dk_29h_2 rfl rfl) (dq_at (j := 44) dk_29h_2 rfl rfl) (by decide +kernel)
theorem dL_law_2229 : decode cL_law 2229 = .ok (.aload_n 1, 1) := dq_op43 (dq_at (j := 45) dk_29h_2 rfl rfl)
theorem dL_law_2230 : decode cL_law 2230 = .ok (.invokevirtual 326, 3) := dq_op182 (dq_at (j := 46) dk_29h_2 rfl rfl) (dq_at (j := 47) dk_29h_2 rfl rfl) (dq_at (j := 48) dk_29h_2 rfl rfl) rfl
theorem dL_law_2233 : decode cL_law 2233 = .ok (.pop, 1) := dq_op87 (dq_at (j := 49) dk_29h_2 rfl rfl)
theorem dL_law_2234 : decode cL_law 2234 = .ok (.aload_n 2, 1) := dq_op44 (dq_at (j := 50) dk_29h_2 rfl rfl)
theorem dL_law_2235 : decode cL_law 2235 = .ok (.invokevirtual 329, 3) := dq_op182 (dq_at (j := 51) dk_29h_2 rfl rfl) (dq_at (j := 52) dk_29h_2 rfl rfl) (dq_at (j := 53) dk_29h_2 rfl rfl) rfl
theorem dL_law_2238 : decode cL_law 2238 = .ok (.pop, 1) := dq_op87 (dq_at (j := 54) dk_29h_2 rfl rfl)
theorem dL_law_2239 : decode cL_law 2239 = .ok (.goto 29, 3) := dq_op167 (dq_at (j := 55) dk_29h_2 rfl rfl) (dq_at (j := 56) dk_29h_2 rfl rfl) (dq_at (j := 57) dk_29h_2 rfl rfl) (by decide +kernel)
theorem dL_law_2242 : decode cL_law 2242 = .ok (.aload_n 1, 1) := dq_op43 (dq_at (j := 58) dk_29h_2 rfl rfl)
theorem dL_law_2243 : decode cL_law 2243 = .ok (.invokevirtual 330, 3) := dq_op182 (dq_at (j := 59) dk_29h_2 rfl rfl) (dq_at (j := 60) dk_29h_2 rfl rfl) (dq_at (j := 61) dk_29h_2 rfl rfl) rfl
theorem dL_law_2246 : decode cL_law 2246 = .ok (.pop, 1) := dq_op87 (dq_at (j := 62) dk_29h_2 rfl rfl)
theorem dL_law_2247 : decode cL_law 2247 = .ok (.aload_n 2, 1) := dq_op44 (dq_at (j := 63) dk_29h_2 rfl rfl)
theorem dL_law_2248 : decode cL_law 2248 = .ok (.invokevirtual 334, 3) := dq_op182 (dq_at (j := 64) dk_29h_2 rfl rfl) (dq_at (j := 65) dk_29h_2 rfl rfl) (dq_at (j := 66) dk_29h_2 rfl rfl) rfl
theorem dL_law_2251 : decode cL_law 2251 = .ok (.pop, 1) := dq_op87 (dq_at (j := 67) dk_29h_2 rfl rfl)
theorem dL_law_2252 : decode cL_law 2252 = .ok (.goto 16, 3) := dq_op167 (dq_at (j := 68) dk_29h_2 rfl rfl) (dq_at (j := 69) dk_29h_2 rfl rfl) (dq_at (j := 70) dk_29h_2 rfl rfl) (by decide +kernel)
theorem dL_law_2255 : decode cL_law 2255 = .ok (.aload_n 1, 1) := dq_op43 (dq_at (j := 71) dk_29h_2 rfl rfl)
theorem dL_law_2256 : decode cL_law 2256 = .ok (.invokevirtual 335, 3) := dq_op182 (dq_at (j := 72) dk_29h_2 rfl rfl) (dq_at (j := 73) dk_29h_2 rfl rfl) (dq_at (j := 74) dk_29h_2 rfl rfl) rfl
theorem dL_law_2259 : decode cL_law 2259 = .ok (.pop2, 1) := dq_op88 (dq_at (j := 75) dk_29h_2 rfl rfl)
theorem dL_law_2260 : decode cL_law 2260 = .ok (.aload_n 2, 1) := dq_op44 (dq_at (j := 76) dk_29h_2 rfl rfl)
theorem dL_law_2261 : decode cL_law 2261 = .ok (.invokevirtual 339, 3) := dq_op182 (dq_at (j := 77) dk_29h_2 rfl rfl) (dq_at (j := 78) dk_29h_2 rfl rfl) (dq_at (j := 79) dk_29h_2 rfl rfl) rfl
theorem dL_law_2264 : decode cL_law 2264 = .ok (.pop2, 1) := dq_op88 (dq_at (j := 80) dk_29h_2 rfl rfl)
theorem dL_law_2265 : decode cL_law 2265 = .ok (.goto 3, 3) := dq_op167 (dq_at (j := 81) dk_29h_2 rfl rfl) (dq_at (j := 82) dk_29h_2 rfl rfl) (dq_at (j := 83) dk_29h_2 rfl rfl) (by decide +kernel)
theorem dL_law_2268 : decode cL_law 2268 = .ok (.iinc 4 4, 3) := dq_op132 (dq_at (j := 84) dk_29h_2 rfl rfl) (dq_at (j := 85) dk_29h_2 rfl rfl) (dq_at (j := 86) dk_29h_2 rfl rfl) rfl (by decide +kernel)
theorem dL_law_2271 : decode cL_law 2271 = .ok (.goto (-2244), 3) := dq_op167 (dq_at (j := 87) dk_29h_2 rfl rfl) (dq_at (j := 88) dk_29h_2 rfl rfl) (dq_at (j := 89) dk_29h_2 rfl rfl) (by decide +kernel)
theorem dL_law_2274 : decode cL_law 2274 = .ok (.iconst 1, 1) := dq_op4 (dq_at (j := 90) dk_29h_2 rfl rfl)
theorem dL_law_2275 : decode cL_law 2275 = .ok (.ireturn, 1) := dq_op172 (dq_at (j := 91) dk_29h_2 rfl rfl)
noncomputable def dq_end_29h : Nat := 0
