theorem dk_29k_1 : (cL_law.data.toList.drop 3056).take 165 = [96, 46, 42, 21, 4, 5, 96, 46, 182, 1, 54, 54, 6, 44, 182, 0, 182, 21, 5, 159, 0, 5, 3, 172, 21, 5, 154, 0, 23, 45, 180, 0, 13, 21, 6, 153, 0, 7, 10, 167, 0, 4, 9, 148, 153, 0, 5, 3, 172, 167, 2, 43, 43, 42, 21, 4, 4, 96, 46, 42, 21, 4, 5, 96, 46, 42, 21, 4, 6, 96, 46, 153, 0, 7, 4, 167, 0, 4, 3, 45, 184, 1, 55, 54, 5, 44, 42, 21, 4, 4, 96, 46, 42, 21, 4, 5, 96, 46, 42, 21, 4, 6, 96, 46, 153, 0, 7, 4, 167, 0, 4, 3, 182, 1, 57, 54, 6, 44, 182, 0, 182, 21, 5, 159, 0, 5, 3, 172, 21, 5, 154, 0, 23, 45, 180, 0, 13, 21, 6, 153, 0, 7, 10, 167, 0, 4, 9, 148, 153, 0, 5, 3, 172, 167, 1, 195, 43, 42, 21, 4, 4, 96, 46, 42, 21] := by decide +kernel
theorem dL_law_3056 : decode cL_law 3056 = .ok (.iadd, 1) := dq_op96 (dq_at (j := 0) dk_29k_1 rfl rfl)
theorem dL_law_3057 : decode cL_law 3057 = .ok (.iaload, 1) := dq_op46 (dq_at (j := 1) dk_29k_1 rfl rfl)
theorem dL_law_3058 : decode cL_law 3058 = .ok (.aload_n 0, 1) := dq_op42 (dq_at (j := 2) dk_29k_1 rfl rfl)
theorem dL_law_3059 : decode cL_law 3059 = .ok (.iload 4, 2) := dq_op21 (dq_at (j := 3) dk_29k_1 rfl rfl) (dq_at (j := 4) dk_29k_1 rfl rfl) rfl
theorem dL_law_3061 : decode cL_law 3061 = .ok (.iconst 2, 1) := dq_op5 (dq_at (j := 5) dk_29k_1 rfl rfl)
theorem dL_law_3062 : decode cL_law 3062 = .ok (.iadd, 1) := dq_op96 (dq_at (j := 6) dk_29k_1 rfl rfl)
theorem dL_law_3063 : decode cL_law 3063 = .ok (.iaload, 1) := dq_op46 (dq_at (j := 7) dk_29k_1 rfl rfl)
theorem dL_law_3064 : decode cL_law 3064 = .ok (.invokevirtual 310, 3) := dq_op182 (dq_at (j := 8) dk_29k_1 rfl rfl) (dq_at (j := 9) dk_29k_1 rfl rfl) (dq_at (j := 10) dk_29k_1 rfl rfl) rfl
theorem dL_law_3067 : decode cL_law 3067 = .ok (.istore 6, 2) := dq_op54 (dq_at (j := 11) dk_29k_1 rfl rfl) (dq_at (j := 12) dk_29k_1 rfl rfl) rfl
theorem dL_law_3069 : decode cL_law 3069 = .ok (.aload_n 2, 1) := dq_op44 (dq_at (j := 13) dk_29k_1 rfl rfl)
theorem dL_law_3070 : decode cL_law 3070 = .ok (.invokevirtual 182, 3) := dq_op182 (dq_at (j := 14) dk_29k_1 rfl rfl) (dq_at (j := 15) dk_29k_1 rfl rfl) (dq_at (j := 16) dk_29k_1 rfl rfl) rfl
theorem dL_law_3073 : decode cL_law 3073 = .ok (.iload 5, 2) := dq_op21 (dq_at (j := 17) dk_29k_1 rfl rfl) (dq_at (j := 18) dk_29k_1 rfl rfl) rfl
theorem dL_law_3075 : decode cL_law 3075 = .ok (.if_icmp .eq 5, 3) := dq_op159 (dq_at (j := 19) dk_29k_1 rfl rfl) (dq_at (j := 20) dk_29k_1 rfl rfl) (dq_at (j := 21) dk_29k_1 rfl rfl) (by decide +kernel)
theorem dL_law_3078 : decode cL_law 3078 = .ok (.iconst 0, 1) := dq_op3 (dq_at (j := 22) dk_29k_1 rfl rfl)
theorem dL_law_3079 : decode cL_law 3079 = .ok (.ireturn, 1) := dq_op172 (dq_at (j := 23) dk_29k_1 rfl rfl)
theorem dL_law_3080 : decode cL_law 3080 = .ok (.iload 5, 2) := dq_op21 (dq_at (j := 24) dk_29k_1 rfl rfl) (dq_at (j := 25) dk_29k_1 rfl rfl) rfl
theorem dL_law_3082 : decode cL_law 3082 = .ok (.ifCond .ne 23, 3) := dq_op154 (dq_at (j := 26) dk_29k_1 rfl rfl) (dq_at (j := 27) dk_29k_1 rfl rfl) (dq_at (j := 28) dk_29k_1 rfl rfl) (by decide +kernel)
theorem dL_law_3085 : decode cL_law 3085 = .ok (.aload_n 3, 1) := dq_op45 (dq_at (j := 29) dk_29k_1 rfl rfl)
theorem dL_law_3086 : decode cL_law 3086 = .ok (.getfield 13, 3) := dq_op180 (dq_at (j := 30) dk_29k_1 rfl rfl) (dq_at (j := 31) dk_29k_1 rfl rfl) (dq_at (j := 32) dk_29k_1 rfl rfl) rfl
theorem dL_law_3089 : decode cL_law 3089 = .ok (.iload 6, 2) := dq_op21 (dq_at (j := 33) dk_29k_1 rfl rfl) (dq_at (j := 34) dk_29k_1 rfl rfl) rfl
theorem dL_law_3091 : decode cL_law 3091 = .ok (.ifCond .eq 7, 3) := dq_op153 (dq_at (j := 35) dk_29k_1 rfl rfl) (dq_at (j := 36) dk_29k_1 rfl rfl) (dq_at (j := 37) dk_29k_1 rfl rfl) (by decide +kernel)
theorem dL_law_3094 : decode cL_law 3094 = .ok (.lconst 1, 1) := dq_op10 (dq_at (j := 38) dk_29k_1 rfl rfl)
theorem dL_law_3095 : decode cL_law 3095 = .ok (.goto 4, 3) := dq_op167 (dq_at (j := 39) dk_29k_1 rfl rfl) (dq_at (j := 40) dk_29k_1 rfl rfl) (dq_at (j := 41) dk_29k_1 rfl rfl) (by decide +kernel)
theorem dL_law_3098 : decode cL_law 3098 = .ok (.lconst 0, 1) := dq_op9 (dq_at (j := 42) dk_29k_1 rfl rfl)
theorem dL_law_3099 : decode cL_law 3099 = .ok (.lcmp, 1) := dq_op148 (dq_at (j := 43) dk_29k_1 rfl rfl)
theorem dL_law_3100 : decode cL_law 3100 = .ok (.ifCond .eq 5, 3) := dq_op153 (dq_at (j := 44) dk_29k_1 rfl rfl) (dq_at (j := 45) dk_29k_1 rfl rfl) (dq_at (j := 46) dk_29k_1 rfl rfl) (by decide +kernel)
theorem dL_law_3103 : decode cL_law 3103 = .ok (.iconst 0, 1) := dq_op3 (dq_at (j := 47) dk_29k_1 rfl rfl)
theorem dL_law_3104 : decode cL_law 3104 = .ok (.ireturn, 1) := dq_op172 (dq_at (j := 48) dk_29k_1 rfl rfl)
theorem dL_law_3105 : decode cL_law 3105 = .ok (.goto 555, 3) := dq_op167 (dq_at (j := 49) dk_29k_1 rfl rfl) (dq_at (j := 50) dk_29k_1 rfl rfl) (dq_at (j := 51) dk_29k_1 rfl rfl) (by decide +kernel)
theorem dL_law_3108 : decode cL_law 3108 = .ok (.aload_n 1, 1) := dq_op43 (dq_at (j := 52) dk_29k_1 rfl rfl)
theorem dL_law_3109 : decode cL_law 3109 = .ok (.aload_n 0, 1) := dq_op42 (dq_at (j := 53) dk_29k_1 rfl rfl)
theorem dL_law_3110 : decode cL_law 3110 = .ok (.iload 4, 2) := dq_op21 (dq_at (j := 54) dk_29k_1 rfl rfl) (dq_at (j := 55) dk_29k_1 rfl rfl) rfl
theorem dL_law_3112 : decode cL_law 3112 = .ok (.iconst 1, 1) := dq_op4 (dq_at (j := 56) dk_29k_1 rfl rfl)
theorem dL_law_3113 : decode cL_law 3113 = .ok (.iadd, 1) := dq_op96 (dq_at (j := 57) dk_29k_1 rfl rfl)
theorem dL_law_3114 : decode cL_law 3114 = .ok (.iaload, 1) := dq_op46 (dq_at (j := 58) dk_29k_1 rfl rfl)
theorem dL_law_3115 : decode cL_law 3115 = .ok (.aload_n 0, 1) := dq_op42 (dq_at (j := 59) dk_29k_1 rfl rfl)
theorem dL_law_3116 : decode cL_law 3116 = .ok (.iload 4, 2) := dq_op21 (dq_at (j := 60) dk_29k_1 rfl rfl) (dq_at (j := 61) dk_29k_1 rfl rfl) rfl
theorem dL_law_3118 : decode cL_law 3118 = .ok (.iconst 2, 1) := dq_op5 (dq_at (j := 62) dk_29k_1 rfl rfl)
theorem dL_law_3119 : decode cL_law 3119 = .ok (.iadd, 1) := dq_op96 (dq_at (j := 63) dk_29k_1 rfl rfl)
theorem dL_law_3120 : decode cL_law 3120 = .ok (.iaload, 1) := dq_op46 (dq_at (j := 64) dk_29k_1 rfl rfl)
theorem dL_law_3121 : decode cL_law 3121 = .ok (.aload_n 0, 1) := dq_op42 (dq_at (j := 65) dk_29k_1 rfl rfl)
theorem dL_law_3122 : decode cL_law 3122 = .ok (.iload 4, 2) := dq_op21 (dq_at (j := 66) dk_29k_1 rfl rfl) (dq_at (j := 67) dk_29k_1 rfl rfl) rfl
theorem dL_law_3124 : decode cL_law 3124 = .ok (.iconst 3, 1) := dq_op6 (dq_at (j := 68) dk_29k_1 rfl rfl)
theorem dL_law_3125 : decode cL_law 3125 = .ok (.iadd, 1) := dq_op96 (dq_at (j := 69) dk_29k_1 rfl rfl)
theorem dL_law_3126 : decode cL_law 3126 = .ok (.iaload, 1) := dq_op46 (dq_at (j := 70) dk_29k_1 rfl rfl)
theorem dL_law_3127 : decode cL_law 3127 = .ok (.ifCond .eq 7, 3) := dq_op153 (dq_at (j := 71) dk_29k_1 rfl rfl) (dq_at (j := 72) dk_29k_1 rfl rfl) (dq_at (j := 73) dk_29k_1 rfl rfl) (by decide +kernel)
theorem dL_law_3130 : decode cL_law 3130 = .ok (.iconst 1, 1) := dq_op4 (dq_at (j := 74) dk_29k_1 rfl rfl)
theorem dL_law_3131 : decode cL_law 3131 = .ok (.goto 4, 3) := dq_op167 (dq_at (j := 75) dk_29k_1 rfl rfl) (dq_at (j := 76) dk_29k_1 rfl rfl) (dq_at (j := 77) dk_29k_1 rfl rfl) (by decide +kernel)
theorem dL_law_3134 : decode cL_law 3134 = .ok (.iconst 0, 1) := dq_op3 (dq_at (j := 78) dk_29k_1 rfl rfl)
theorem dL_law_3135 : decode cL_law 3135 = .ok (.aload_n 3, 1) := dq_op45 (dq_at (j := 79) dk_29k_1 rfl rfl)
theorem dL_law_3136 : decode cL_law 3136 = .ok (.invokestatic 311, 3) := dq_op184 (dq_at (j := 80) dk_29k_1 rfl rfl) (dq_at (j := 81) dk_29k_1 rfl rfl) (dq_at (j := 82) dk_29k_1 rfl rfl) rfl
theorem dL_law_3139 : decode cL_law 3139 = .ok (.istore 5, 2) := dq_op54 (dq_at (j := 83) dk_29k_1 rfl rfl) (dq_at (j := 84) dk_29k_1 rfl rfl) rfl
theorem dL_law_3141 : decode cL_law 3141 = .ok (.aload_n 2, 1) := dq_op44 (dq_at (j := 85) dk_29k_1 rfl rfl)
theorem dL_law_3142 : decode cL_law 3142 = .ok (.aload_n 0, 1) := dq_op42 (dq_at (j := 86) dk_29k_1 rfl rfl)
theorem dL_law_3143 : decode cL_law 3143 = .ok (.iload 4, 2) := dq_op21 (dq_at (j := 87) dk_29k_1 rfl rfl) (dq_at (j := 88) dk_29k_1 rfl rfl) rfl
theorem dL_law_3145 : decode cL_law 3145 = .ok (.iconst 1, 1) := dq_op4 (dq_at (j := 89) dk_29k_1 rfl rfl)
theorem dL_law_3146 : decode cL_law 3146 = .ok (.iadd, 1) := dq_op96 (dq_at (j := 90) dk_29k_1 rfl rfl)
theorem dL_law_3147 : decode cL_law 3147 = .ok (.iaload, 1) := dq_op46 (dq_at (j := 91) dk_29k_1 rfl rfl)
theorem dL_law_3148 : decode cL_law 3148 = .ok (.aload_n 0, 1) := dq_op42 (dq_at (j := 92) dk_29k_1 rfl rfl)
theorem dL_law_3149 : decode cL_law 3149 = .ok (.iload 4, 2) := dq_op21 (dq_at (j := 93) dk_29k_1 rfl rfl) (dq_at (j := 94) dk_29k_1 rfl rfl) rfl
theorem dL_law_3151 : decode cL_law 3151 = .ok (.iconst 2, 1) := dq_op5 (dq_at (j := 95) dk_29k_1 rfl rfl)
theorem dL_law_3152 : decode cL_law 3152 = .ok (.iadd, 1) := dq_op96 (dq_at (j := 96) dk_29k_1 rfl rfl)
theorem dL_law_3153 : decode cL_law 3153 = .ok (.iaload, 1) := dq_op46 (dq_at (j := 97) dk_29k_1 rfl rfl)
theorem dL_law_3154 : decode cL_law 3154 = .ok (.aload_n 0, 1) := dq_op42 (dq_at (j := 98) dk_29k_1 rfl rfl)
theorem dL_law_3155 : decode cL_law 3155 = .ok (.iload 4, 2) := dq_op21 (dq_at (j := 99) dk_29k_1 rfl rfl) (dq_at (j := 100) dk_29k_1 rfl rfl) rfl
theorem dL_law_3157 : decode cL_law 3157 = .ok (.iconst 3, 1) := dq_op6 (dq_at (j := 101) dk_29k_1 rfl rfl)
theorem dL_law_3158 : decode cL_law 3158 = .ok (.iadd, 1) := dq_op96 (dq_at (j := 102) dk_29k_1 rfl rfl)
theorem dL_law_3159 : decode cL_law 3159 = .ok (.iaload, 1) := dq_op46 (dq_at (j := 103) dk_29k_1 rfl rfl)
theorem dL_law_3160 : decode cL_law 3160 = .ok (.ifCond .eq 7, 3) := dq_op153 (dq_at (j := 104) dk_29k_1 rfl rfl) (dq_at (j := 105) dk_29k_1 rfl rfl) (dq_at (j := 106) dk_29k_1 rfl rfl) (by decide +kernel)
theorem dL_law_3163 : decode cL_law 3163 = .ok (.iconst 1, 1) := dq_op4 (dq_at (j := 107) dk_29k_1 rfl rfl)
theorem dL_law_3164 : decode cL_law 3164 = .ok (.goto 4, 3) := dq_op167 (dq_at (j := 108) dk_29k_1 rfl rfl) (dq_at (j := 109) dk_29k_1 rfl rfl) (dq_at (j := 110) dk_29k_1 rfl rfl) (by decide +kernel)
theorem dL_law_3167 : decode cL_law 3167 = .ok (.iconst 0, 1) := dq_op3 (dq_at (j := 111) dk_29k_1 rfl rfl)
theorem dL_law_3168 : decode cL_law 3168 = .ok (.invokevirtual 313, 3) := dq_op182 (dq_at (j := 112) dk_29k_1 rfl rfl) (dq_at (j := 113) dk_29k_1 rfl rfl) (dq_at (j := 114) dk_29k_1 rfl rfl) rfl
theorem dL_law_3171 : decode cL_law 3171 = .ok (.istore 6, 2) := dq_op54 (dq_at (j := 115) dk_29k_1 rfl rfl) (dq_at (j := 116) dk_29k_1 rfl rfl) rfl
theorem dL_law_3173 : decode cL_law 3173 = .ok (.aload_n 2, 1) := dq_op44 (dq_at (j := 117) dk_29k_1 rfl rfl)
theorem dL_law_3174 : decode cL_law 3174 = .ok (.invokevirtual 182, 3) := dq_op182 (dq_at (j := 118) dk_29k_1 rfl rfl) (dq_at (j := 119) dk_29k_1 rfl rfl) (dq_at (j := 120) dk_29k_1 rfl rfl) rfl
theorem dL_law_3177 : decode cL_law 3177 = .ok (.iload 5, 2) := dq_op21 (dq_at (j := 121) dk_29k_1 rfl rfl) (dq_at (j := 122) dk_29k_1 rfl rfl) rfl
theorem dL_law_3179 : decode cL_law 3179 = .ok (.if_icmp .eq 5, 3) := dq_op159 (dq_at (j := 123) dk_29k_1 rfl rfl) (dq_at (j := 124) dk_29k_1 rfl rfl) (dq_at (j := 125) dk_29k_1 rfl rfl) (by decide +kernel)
theorem dL_law_3182 : decode cL_law 3182 = .ok (.iconst 0, 1) := dq_op3 (dq_at (j := 126) dk_29k_1 rfl rfl)
theorem dL_law_3183 : decode cL_law 3183 = .ok (.ireturn, 1) := dq_op172 (dq_at (j := 127) dk_29k_1 rfl rfl)
theorem dL_law_3184 : decode cL_law 3184 = .ok (.iload 5, 2) := dq_op21 (dq_at (j := 128) dk_29k_1 rfl rfl) (dq_at (j := 129) dk_29k_1 rfl rfl) rfl
theorem dL_law_3186 : decode cL_law 3186 = .ok (.ifCond .ne 23, 3) := dq_op154 (dq_at (j := 130) dk_29k_1 rfl rfl) (dq_at (j := 131) dk_29k_1 rfl rfl) (dq_at (j := 132) dk_29k_1 rfl rfl) (by decide +kernel)
theorem dL_law_3189 : decode cL_law 3189 = .ok (.aload_n 3, 1) := dq_op45 (dq_at (j := 133) dk_29k_1 rfl rfl)
theorem dL_law_3190 : decode cL_law 3190 = .ok (.getfield 13, 3) := dq_op180 (dq_at (j := 134) dk_29k_1 rfl rfl) (dq_at (j := 135) dk_29k_1 rfl rfl) (dq_at (j := 136) dk_29k_1 rfl rfl) rfl
theorem dL_law_3193 : decode cL_law 3193 = .ok (.iload 6, 2) := dq_op21 (dq_at (j := 137) dk_29k_1 rfl rfl) (dq_at (j := 138) dk_29k_1 rfl rfl) rfl
theorem dL_law_3195 : decode cL_law 3195 = .ok (.ifCond .eq 7, 3) := dq_op153 (dq_at (j := 139) dk_29k_1 rfl rfl) (dq_at (j := 140) dk_29k_1 rfl rfl) (dq_at (j := 141) dk_29k_1 rfl rfl) (by decide +kernel)
theorem dL_law_3198 : decode cL_law 3198 = .ok (.lconst 1, 1) := dq_op10 (dq_at (j := 142) dk_29k_1 rfl rfl)
theorem dL_law_3199 : decode cL_law 3199 = .ok (.goto 4, 3) := dq_op167 (dq_at (j := 143) dk_29k_1 rfl rfl) (dq_at (j := 144) dk_29k_1 rfl rfl) (dq_at (j := 145) dk_29k_1 rfl rfl) (by decide +kernel)
theorem dL_law_3202 : decode cL_law 3202 = .ok (.lconst 0, 1) := dq_op9 (dq_at (j := 146) dk_29k_1 rfl rfl)
theorem dL_law_3203 : decode cL_law 3203 = .ok (.lcmp, 1) := dq_op148 (dq_at (j := 147) dk_29k_1 rfl rfl)
theorem dL_law_3204 : decode cL_law 3204 = .ok (.ifCond .eq 5, 3) := dq_op153 (dq_at (j := 148) dk_29k_1 rfl rfl) (dq_at (j := 149) dk_29k_1 rfl rfl) (dq_at (j := 150) dk_29k_1 rfl rfl) (by decide +kernel)
theorem dL_law_3207 : decode cL_law 3207 = .ok (.iconst 0, 1) := dq_op3 (dq_at (j := 151) dk_29k_1 rfl rfl)
theorem dL_law_3208 : decode cL_law 3208 = .ok (.ireturn, 1) := dq_op172 (dq_at (j := 152) dk_29k_1 rfl rfl)
theorem dL_law_3209 : decode cL_law 3209 = .ok (.goto 451, 3) := dq_op167 (dq_at (j := 153) dk_29k_1 rfl rfl) (dq_at (j := 154) dk_29k_1 rfl rfl) (dq_at (j := 155) dk_29k_1 rfl rfl) (by decide +kernel)
theorem dL_law_3212 : decode cL_law 3212 = .ok (.aload_n 1, 1) := dq_op43 (dq_at (j := 156) dk_29k_1 rfl rfl)
theorem dL_law_3213 : decode cL_law 3213 = .ok (.aload_n 0, 1) := dq_op42 (dq_at (j := 157) dk_29k_1 rfl rfl)
theorem dL_law_3214 : decode cL_law 3214 = .ok (.iload 4, 2) := dq_op21 (dq_at (j := 158) dk_29k_1 rfl rfl) (dq_at (j := 159) dk_29k_1 rfl rfl) rfl
theorem dL_law_3216 : decode cL_law 3216 = .ok (.iconst 1, 1) := dq_op4 (dq_at (j := 160) dk_29k_1 rfl rfl)
theorem dL_law_3217 : decode cL_law 3217 = .ok (.iadd, 1) := dq_op96 (dq_at (j := 161) dk_29k_1 rfl rfl)
theorem dL_law_3218 : decode cL_law 3218 = .ok (.iaload, 1) := dq_op46 (dq_at (j := 162) dk_29k_1 rfl rfl)
theorem dk_29k_2 : (cL_law.data.toList.drop 3219).take 131 = [42, 21, 4, 5, 96, 46, 45, 184, 1, 58, 54, 5, 44, 42, 21, 4, 4, 96, 46, 42, 21, 4, 5, 96, 46, 182, 1, 60, 54, 6, 44, 182, 0, 182, 21, 5, 159, 0, 5, 3, 172, 21, 5, 154, 0, 16, 45, 180, 0, 13, 21, 6, 133, 148, 153, 0, 5, 3, 172, 167, 1, 126, 43, 42, 21, 4, 4, 96, 46, 42, 21, 4, 5, 96, 46, 45, 184, 1, 61, 54, 5, 44, 42, 21, 4, 4, 96, 46, 42, 21, 4, 5, 96, 46, 182, 1, 63, 54, 6, 44, 182, 0, 182, 21, 5, 159, 0, 5, 3, 172, 21, 5, 154, 0, 23, 45, 180, 0, 13, 21, 6, 153, 0, 7, 10, 167, 0, 4, 9, 148, 153] := by decide +kernel
theorem dL_law_3219 : decode cL_law 3219 = .ok (.aload_n 0, 1) := dq_op42 (dq_at (j := 0) dk_29k_2 rfl rfl)
theorem dL_law_3220 : decode cL_law 3220 = .ok (.iload 4, 2) := dq_op21 (dq_at (j := 1) dk_29k_2 rfl rfl) (dq_at (j := 2) dk_29k_2 rfl rfl) rfl
theorem dL_law_3222 : decode cL_law 3222 = .ok (.iconst 2, 1) := dq_op5 (dq_at (j := 3) dk_29k_2 rfl rfl)
theorem dL_law_3223 : decode cL_law 3223 = .ok (.iadd, 1) := dq_op96 (dq_at (j := 4) dk_29k_2 rfl rfl)
theorem dL_law_3224 : decode cL_law 3224 = .ok (.iaload, 1) := dq_op46 (dq_at (j := 5) dk_29k_2 rfl rfl)
theorem dL_law_3225 : decode cL_law 3225 = .ok (.aload_n 3, 1) := dq_op45 (dq_at (j := 6) dk_29k_2 rfl rfl)
theorem dL_law_3226 : decode cL_law 3226 = .ok (.invokestatic 314, 3) := dq_op184 (dq_at (j := 7) dk_29k_2 rfl rfl) (dq_at (j := 8) dk_29k_2 rfl rfl) (dq_at (j := 9) dk_29k_2 rfl rfl) rfl
theorem dL_law_3229 : decode cL_law 3229 = .ok (.istore 5, 2) := dq_op54 (dq_at (j := 10) dk_29k_2 rfl rfl) (dq_at (j := 11) dk_29k_2 rfl rfl) rfl
theorem dL_law_3231 : decode cL_law 3231 = .ok (.aload_n 2, 1) := dq_op44 (dq_at (j := 12) dk_29k_2 rfl rfl)
theorem dL_law_3232 : decode cL_law 3232 = .ok (.aload_n 0, 1) := dq_op42 (dq_at (j := 13) dk_29k_2 rfl rfl)
theorem dL_law_3233 : decode cL_law 3233 = .ok (.iload 4, 2) := dq_op21 (dq_at (j := 14) dk_29k_2 rfl rfl) (dq_at (j := 15) dk_29k_2 rfl rfl) rfl
theorem dL_law_3235 : decode cL_law 3235 = .ok (.iconst 1, 1) := dq_op4 (dq_at (j := 16) dk_29k_2 rfl rfl)
theorem dL_law_3236 : decode cL_law 3236 = .ok (.iadd, 1) := dq_op96 (dq_at (j := 17) dk_29k_2 rfl rfl)
theorem dL_law_3237 : decode cL_law 3237 = .ok (.iaload, 1) := dq_op46 (dq_at (j := 18) dk_29k_2 rfl rfl)
theorem dL_law_3238 : decode cL_law 3238 = .ok (.aload_n 0, 1) := dq_op42 (dq_at (j := 19) dk_29k_2 rfl rfl)
theorem dL_law_3239 : decode cL_law 3239 = .ok (.iload 4, 2) := dq_op21 (dq_at (j := 20) dk_29k_2 rfl rfl) (dq_at (j := 21) dk_29k_2 rfl rfl) rfl
theorem dL_law_3241 : decode cL_law 3241 = .ok (.iconst 2, 1) := dq_op5 (dq_at (j := 22) dk_29k_2 rfl rfl)
theorem dL_law_3242 : decode cL_law 3242 = .ok (.iadd, 1) := dq_op96 (dq_at (j := 23) dk_29k_2 rfl rfl)
theorem dL_law_3243 : decode cL_law 3243 = .ok (.iaload, 1) := dq_op46 (dq_at (j := 24) dk_29k_2 rfl rfl)
theorem dL_law_3244 : decode cL_law 3244 = .ok (.invokevirtual 316, 3) := dq_op182 (dq_at (j := 25) dk_29k_2 rfl rfl) (dq_at (j := 26) dk_29k_2 rfl rfl) (dq_at (j := 27) dk_29k_2 rfl rfl) rfl
theorem dL_law_3247 : decode cL_law 3247 = .ok (.istore 6, 2) := dq_op54 (dq_at (j := 28) dk_29k_2 rfl rfl) (dq_at (j := 29) dk_29k_2 rfl rfl) rfl
theorem dL_law_3249 : decode cL_law 3249 = .ok (.aload_n 2, 1) := dq_op44 (dq_at (j := 30) dk_29k_2 rfl rfl)
theorem dL_law_3250 : decode cL_law 3250 = .ok (.invokevirtual 182, 3) := dq_op182 (dq_at (j := 31) dk_29k_2 rfl rfl) (dq_at (j := 32) dk_29k_2 rfl rfl) (dq_at (j := 33) dk_29k_2 rfl rfl) rfl
theorem dL_law_3253 : decode cL_law 3253 = .ok (.iload 5, 2) := dq_op21 (dq_at (j := 34) dk_29k_2 rfl rfl) (dq_at (j := 35) dk_29k_2 rfl rfl) rfl
theorem dL_law_3255 : decode cL_law 3255 = .ok (.if_icmp .eq 5, 3) := dq_op159 (dq_at (j := 36) dk_29k_2 rfl rfl) (dq_at (j := 37) dk_29k_2 rfl rfl) (dq_at (j := 38) dk_29k_2 rfl rfl) (by decide +kernel)
theorem dL_law_3258 : decode cL_law 3258 = .ok (.iconst 0, 1) := dq_op3 (dq_at (j := 39) dk_29k_2 rfl rfl)
theorem dL_law_3259 : decode cL_law 3259 = .ok (.ireturn, 1) := dq_op172 (dq_at (j := 40) dk_29k_2 rfl rfl)
theorem dL_law_3260 : decode cL_law 3260 = .ok (.iload 5, 2) := dq_op21 (dq_at (j := 41) dk_29k_2 rfl rfl) (dq_at (j := 42) dk_29k_2 rfl rfl) rfl
theorem dL_law_3262 : decode cL_law 3262 = .ok (.ifCond .ne 16, 3) := dq_op154 (dq_at (j := 43) dk_29k_2 rfl rfl) (dq_at (j := 44) dk_29k_2 rfl rfl) (dq_at (j := 45) dk_29k_2 rfl rfl) (by decide +kernel)
theorem dL_law_3265 : decode cL_law 3265 = .ok (.aload_n 3, 1) := dq_op45 (dq_at (j := 46) dk_29k_2 rfl rfl)
theorem dL_law_3266 : decode cL_law 3266 = .ok (.getfield 13, 3) := dq_op180 (dq_at (j := 47) dk_29k_2 rfl rfl) (dq_at (j := 48) dk_29k_2 rfl rfl) (dq_at (j := 49) dk_29k_2 rfl rfl) rfl
theorem dL_law_3269 : decode cL_law 3269 = .ok (.iload 6, 2) := dq_op21 (dq_at (j := 50) dk_29k_2 rfl rfl) (dq_at (j := 51) dk_29k_2 rfl rfl) rfl
theorem dL_law_3271 : decode cL_law 3271 = .ok (.i2l, 1) := dq_op133 (dq_at (j := 52) dk_29k_2 rfl rfl)
theorem dL_law_3272 : decode cL_law 3272 = .ok (.lcmp, 1) := dq_op148 (dq_at (j := 53) dk_29k_2 rfl rfl)
theorem dL_law_3273 : decode cL_law 3273 = .ok (.ifCond .eq 5, 3) := dq_op153 (dq_at (j := 54) dk_29k_2 rfl rfl) (dq_at (j := 55) dk_29k_2 rfl rfl) (dq_at (j := 56) dk_29k_2 rfl rfl) (by decide +kernel)
theorem dL_law_3276 : decode cL_law 3276 = .ok (.iconst 0, 1) := dq_op3 (dq_at (j := 57) dk_29k_2 rfl rfl)
theorem dL_law_3277 : decode cL_law 3277 = .ok (.ireturn, 1) := dq_op172 (dq_at (j := 58) dk_29k_2 rfl rfl)
theorem dL_law_3278 : decode cL_law 3278 = .ok (.goto 382, 3) := dq_op167 (dq_at (j := 59) dk_29k_2 rfl rfl) (dq_at (j := 60) dk_29k_2 rfl rfl) (dq_at (j := 61) dk_29k_2 rfl rfl) (by decide +kernel)
theorem dL_law_3281 : decode cL_law 3281 = .ok (.aload_n 1, 1) := dq_op43 (dq_at (j := 62) dk_29k_2 rfl rfl)
theorem dL_law_3282 : decode cL_law 3282 = .ok (.aload_n 0, 1) := dq_op42 (dq_at (j := 63) dk_29k_2 rfl rfl)
theorem dL_law_3283 : decode cL_law 3283 = .ok (.iload 4, 2) := dq_op21 (dq_at (j := 64) dk_29k_2 rfl rfl) (dq_at (j := 65) dk_29k_2 rfl rfl) rfl
theorem dL_law_3285 : decode cL_law 3285 = .ok (.iconst 1, 1) := dq_op4 (dq_at (j := 66) dk_29k_2 rfl rfl)
theorem dL_law_3286 : decode cL_law 3286 = .ok (.iadd, 1) := dq_op96 (dq_at (j := 67) dk_29k_2 rfl rfl)
theorem dL_law_3287 : decode cL_law 3287 = .ok (.iaload, 1) := dq_op46 (dq_at (j := 68) dk_29k_2 rfl rfl)
theorem dL_law_3288 : decode cL_law 3288 = .ok (.aload_n 0, 1) := dq_op42 (dq_at (j := 69) dk_29k_2 rfl rfl)
theorem dL_law_3289 : decode cL_law 3289 = .ok (.iload 4, 2) := dq_op21 (dq_at (j := 70) dk_29k_2 rfl rfl) (dq_at (j := 71) dk_29k_2 rfl rfl) rfl
theorem dL_law_3291 : decode cL_law 3291 = .ok (.iconst 2, 1) := dq_op5 (dq_at (j := 72) dk_29k_2 rfl rfl)
theorem dL_law_3292 : decode cL_law 3292 = .ok (.iadd, 1) := dq_op96 (dq_at (j := 73) dk_29k_2 rfl rfl)
theorem dL_law_3293 : decode cL_law 3293 = .ok (.iaload, 1) := dq_op46 (dq_at (j := 74) dk_29k_2 rfl rfl)
theorem dL_law_3294 : decode cL_law 3294 = .ok (.aload_n 3, 1) := dq_op45 (dq_at (j := 75) dk_29k_2 rfl rfl)
theorem dL_law_3295 : decode cL_law 3295 = .ok (.invokestatic 317, 3) := dq_op184 (dq_at (j := 76) dk_29k_2 rfl rfl) (dq_at (j := 77) dk_29k_2 rfl rfl) (dq_at (j := 78) dk_29k_2 rfl rfl) rfl
theorem dL_law_3298 : decode cL_law 3298 = .ok (.istore 5, 2) := dq_op54 (dq_at (j := 79) dk_29k_2 rfl rfl) (dq_at (j := 80) dk_29k_2 rfl rfl) rfl
theorem dL_law_3300 : decode cL_law 3300 = .ok (.aload_n 2, 1) := dq_op44 (dq_at (j := 81) dk_29k_2 rfl rfl)
theorem dL_law_3301 : decode cL_law 3301 = .ok (.aload_n 0, 1) := dq_op42 (dq_at (j := 82) dk_29k_2 rfl rfl)
theorem dL_law_3302 : decode cL_law 3302 = .ok (.iload 4, 2) := dq_op21 (dq_at (j := 83) dk_29k_2 rfl rfl) (dq_at (j := 84) dk_29k_2 rfl rfl) rfl
theorem dL_law_3304 : decode cL_law 3304 = .ok (.iconst 1, 1) := dq_op4 (dq_at (j := 85) dk_29k_2 rfl rfl)
theorem dL_law_3305 : decode cL_law 3305 = .ok (.iadd, 1) := dq_op96 (dq_at (j := 86) dk_29k_2 rfl rfl)
theorem dL_law_3306 : decode cL_law 3306 = .ok (.iaload, 1) := dq_op46 (dq_at (j := 87) dk_29k_2 rfl rfl)
theorem dL_law_3307 : decode cL_law 3307 = .ok (.aload_n 0, 1) := dq_op42 (dq_at (j := 88) dk_29k_2 rfl rfl)
theorem dL_law_3308 : decode cL_law 3308 = .ok (.iload 4, 2) := dq_op21 (dq_at (j := 89) dk_29k_2 rfl rfl) (dq_at (j := 90) dk_29k_2 rfl rfl) rfl
theorem dL_law_3310 : decode cL_law 3310 = .ok (.iconst 2, 1) := dq_op5 (dq_at (j := 91) dk_29k_2 rfl rfl)
theorem dL_law_3311 : decode cL_law 3311 = .ok (.iadd, 1) := dq_op96 (dq_at (j := 92) dk_29k_2 rfl rfl)
theorem dL_law_3312 : decode cL_law 3312 = .ok (.iaload, 1) := dq_op46 (dq_at (j := 93) dk_29k_2 rfl rfl)
theorem dL_law_3313 : decode cL_law 3313 = .ok (.invokevirtual 319, 3) := dq_op182 (dq_at (j := 94) dk_29k_2 rfl rfl) (dq_at (j := 95) dk_29k_2 rfl rfl) (dq_at (j := 96) dk_29k_2 rfl rfl) rfl
theorem dL_law_3316 : decode cL_law 3316 = .ok (.istore 6, 2) := dq_op54 (dq_at (j := 97) dk_29k_2 rfl rfl) (dq_at (j := 98) dk_29k_2 rfl rfl) rfl
theorem dL_law_3318 : decode cL_law 3318 = .ok (.aload_n 2, 1) := dq_op44 (dq_at (j := 99) dk_29k_2 rfl rfl)
theorem dL_law_3319 : decode cL_law 3319 = .ok (.invokevirtual 182, 3) := dq_op182 (dq_at (j := 100) dk_29k_2 rfl rfl) (dq_at (j := 101) dk_29k_2 rfl rfl) (dq_at (j := 102) dk_29k_2 rfl rfl) rfl
theorem dL_law_3322 : decode cL_law 3322 = .ok (.iload 5, 2) := dq_op21 (dq_at (j := 103) dk_29k_2 rfl rfl) (dq_at (j := 104) dk_29k_2 rfl rfl) rfl
theorem dL_law_3324 : decode cL_law 3324 = .ok (.if_icmp .eq 5, 3) := dq_op159 (dq_at (j := 105) dk_29k_2 rfl rfl) (dq_at (j := 106) dk_29k_2 rfl rfl) (dq_at (j := 107) dk_29k_2 rfl rfl) (by decide +kernel)
theorem dL_law_3327 : decode cL_law 3327 = .ok (.iconst 0, 1) := dq_op3 (dq_at (j := 108) dk_29k_2 rfl rfl)
theorem dL_law_3328 : decode cL_law 3328 = .ok (.ireturn, 1) := dq_op172 (dq_at (j := 109) dk_29k_2 rfl rfl)
theorem dL_law_3329 : decode cL_law 3329 = .ok (.iload 5, 2) := dq_op21 (dq_at (j := 110) dk_29k_2 rfl rfl) (dq_at (j := 111) dk_29k_2 rfl rfl) rfl
theorem dL_law_3331 : decode cL_law 3331 = .ok (.ifCond .ne 23, 3) := dq_op154 (dq_at (j := 112) dk_29k_2 rfl rfl) (dq_at (j := 113) dk_29k_2 rfl rfl) (dq_at (j := 114) dk_29k_2 rfl rfl) (by decide +kernel)
theorem dL_law_3334 : decode cL_law 3334 = .ok (.aload_n 3, 1) := dq_op45 (dq_at (j := 115) dk_29k_2 rfl rfl)
theorem dL_law_3335 : decode cL_law 3335 = .ok (.getfield 13, 3) := dq_op180 (dq_at (j := 116) dk_29k_2 rfl rfl) (dq_at (j := 117) dk_29k_2 rfl rfl) (dq_at (j := 118) dk_29k_2 rfl rfl) rfl
theorem dL_law_3338 : decode cL_law 3338 = .ok (.iload 6, 2) := dq_op21 (dq_at (j := 119) dk_29k_2 rfl rfl) (dq_at (j := 120) dk_29k_2 rfl rfl) rfl
theorem dL_law_3340 : decode cL_law 3340 = .ok (.ifCond .eq 7, 3) := dq_op153 (dq_at (j := 121) dk_29k_2 rfl rfl) (dq_at (j := 122) dk_29k_2 rfl rfl) (dq_at (j := 123) dk_29k_2 rfl rfl) (by decide +kernel)
theorem dL_law_3343 : decode cL_law 3343 = .ok (.lconst 1, 1) := dq_op10 (dq_at (j := 124) dk_29k_2 rfl rfl)
theorem dL_law_3344 : decode cL_law 3344 = .ok (.goto 4, 3) := dq_op167 (dq_at (j := 125) dk_29k_2 rfl rfl) (dq_at (j := 126) dk_29k_2 rfl rfl) (dq_at (j := 127) dk_29k_2 rfl rfl) (by decide +kernel)
theorem dL_law_3347 : decode cL_law 3347 = .ok (.lconst 0, 1) := dq_op9 (dq_at (j := 128) dk_29k_2 rfl rfl)
noncomputable def dq_end_29k : Nat := 0
