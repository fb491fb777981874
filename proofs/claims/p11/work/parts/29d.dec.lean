theorem dk_29d_1 : (cL_law.data.toList.drop 990).take 147 = [5, 96, 46, 182, 0, 236, 54, 6, 167, 4, 246, 43, 42, 21, 4, 4, 96, 46, 42, 21, 4, 5, 96, 46, 42, 21, 4, 6, 96, 46, 153, 0, 7, 4, 167, 0, 4, 3, 45, 184, 0, 237, 54, 5, 44, 42, 21, 4, 4, 96, 46, 42, 21, 4, 5, 96, 46, 42, 21, 4, 6, 96, 46, 153, 0, 7, 4, 167, 0, 4, 3, 182, 0, 240, 54, 6, 167, 4, 178, 43, 42, 21, 4, 4, 96, 46, 42, 21, 4, 5, 96, 46, 45, 184, 0, 241, 54, 5, 44, 42, 21, 4, 4, 96, 46, 42, 21, 4, 5, 96, 46, 182, 0, 243, 54, 6, 167, 4, 138, 43, 42, 21, 4, 4, 96, 46, 42, 21, 4, 5, 96, 46, 45, 184, 0, 244, 54, 5, 44, 42, 21, 4, 4, 96, 46, 42, 21] := by decide +kernel
theorem dL_law_990 : decode cL_law 990 = .ok (.iconst 2, 1) := dq_op5 (dq_at (j := 0) dk_29d_1 rfl rfl)
theorem dL_law_991 : decode cL_law 991 = .ok (.iadd, 1) := dq_op96 (dq_at (j := 1) dk_29d_1 rfl rfl)
theorem dL_law_992 : decode cL_law 992 = .ok (.iaload, 1) := dq_op46 (dq_at (j := 2) dk_29d_1 rfl rfl)
theorem dL_law_993 : decode cL_law 993 = .ok (.invokevirtual 236, 3) := dq_op182 (dq_at (j := 3) dk_29d_1 rfl rfl) (dq_at (j := 4) dk_29d_1 rfl rfl) (dq_at (j := 5) dk_29d_1 rfl rfl) rfl
theorem dL_law_996 : decode cL_law 996 = .ok (.istore 6, 2) := dq_op54 (dq_at (j := 6) dk_29d_1 rfl rfl) (dq_at (j := 7) dk_29d_1 rfl rfl) rfl
theorem dL_law_998 : decode cL_law 998 = .ok (.goto 1270, 3) := dq_op167 (dq_at (j := 8) dk_29d_1 rfl rfl) (dq_at (j := 9) dk_29d_1 rfl rfl) (dq_at (j := 10) dk_29d_1 rfl rfl) (by decide +kernel)
theorem dL_law_1001 : decode cL_law 1001 = .ok (.aload_n 1, 1) := dq_op43 (dq_at (j := 11) dk_29d_1 rfl rfl)
theorem dL_law_1002 : decode cL_law 1002 = .ok (.aload_n 0, 1) := dq_op42 (dq_at (j := 12) dk_29d_1 rfl rfl)
theorem dL_law_1003 : decode cL_law 1003 = .ok (.iload 4, 2) := dq_op21 (dq_at (j := 13) dk_29d_1 rfl rfl) (dq_at (j := 14) dk_29d_1 rfl rfl) rfl
theorem dL_law_1005 : decode cL_law 1005 = .ok (.iconst 1, 1) := dq_op4 (dq_at (j := 15) dk_29d_1 rfl rfl)
theorem dL_law_1006 : decode cL_law 1006 = .ok (.iadd, 1) := dq_op96 (dq_at (j := 16) dk_29d_1 rfl rfl)
theorem dL_law_1007 : decode cL_law 1007 = .ok (.iaload, 1) := dq_op46 (dq_at (j := 17) dk_29d_1 rfl rfl)
theorem dL_law_1008 : decode cL_law 1008 = .ok (.aload_n 0, 1) := dq_op42 (dq_at (j := 18) dk_29d_1 rfl rfl)
theorem dL_law_1009 : decode cL_law 1009 = .ok (.iload 4, 2) := dq_op21 (dq_at (j := 19) dk_29d_1 rfl rfl) (dq_at (j := 20) dk_29d_1 rfl rfl) rfl
theorem dL_law_1011 : decode cL_law 1011 = .ok (.iconst 2, 1) := dq_op5 (dq_at (j := 21) dk_29d_1 rfl rfl)
theorem dL_law_1012 : decode cL_law 1012 = .ok (.iadd, 1) := dq_op96 (dq_at (j := 22) dk_29d_1 rfl rfl)
theorem dL_law_1013 : decode cL_law 1013 = .ok (.iaload, 1) := dq_op46 (dq_at (j := 23) dk_29d_1 rfl rfl)
theorem dL_law_1014 : decode cL_law 1014 = .ok (.aload_n 0, 1) := dq_op42 (dq_at (j := 24) dk_29d_1 rfl rfl)
theorem dL_law_1015 : decode cL_law 1015 = .ok (.iload 4, 2) := dq_op21 (dq_at (j := 25) dk_29d_1 rfl rfl) (dq_at (j := 26) dk_29d_1 rfl rfl) rfl
theorem dL_law_1017 : decode cL_law 1017 = .ok (.iconst 3, 1) := dq_op6 (dq_at (j := 27) dk_29d_1 rfl rfl)
theorem dL_law_1018 : decode cL_law 1018 = .ok (.iadd, 1) := dq_op96 (dq_at (j := 28) dk_29d_1 rfl rfl)
theorem dL_law_1019 : decode cL_law 1019 = .ok (.iaload, 1) := dq_op46 (dq_at (j := 29) dk_29d_1 rfl rfl)
theorem dL_law_1020 : decode cL_law 1020 = .ok (.ifCond .eq 7, 3) := dq_op153 (dq_at (j := 30) dk_29d_1 rfl rfl) (dq_at (j := 31) dk_29d_1 rfl rfl) (dq_at (j := 32) dk_29d_1 rfl rfl) (by decide +kernel)
theorem dL_law_1023 : decode cL_law 1023 = .ok (.iconst 1, 1) := dq_op4 (dq_at (j := 33) dk_29d_1 rfl rfl)
theorem dL_law_1024 : decode cL_law 1024 = .ok (.goto 4, 3) := dq_op167 (dq_at (j := 34) dk_29d_1 rfl rfl) (dq_at (j := 35) dk_29d_1 rfl rfl) (dq_at (j := 36) dk_29d_1 rfl rfl) (by decide +kernel)
theorem dL_law_1027 : decode cL_law 1027 = .ok (.iconst 0, 1) := dq_op3 (dq_at (j := 37) dk_29d_1 rfl rfl)
theorem dL_law_1028 : decode cL_law 1028 = .ok (.aload_n 3, 1) := dq_op45 (dq_at (j := 38) dk_29d_1 rfl rfl)
theorem dL_law_1029 : decode cL_law 1029 = .ok (.invokestatic 237, 3) := dq_op184 (dq_at (j := 39) dk_29d_1 rfl rfl) (dq_at (j := 40) dk_29d_1 rfl rfl) (dq_at (j := 41) dk_29d_1 rfl rfl) rfl
theorem dL_law_1032 : decode cL_law 1032 = .ok (.istore 5, 2) := dq_op54 (dq_at (j := 42) dk_29d_1 rfl rfl) (dq_at (j := 43) dk_29d_1 rfl rfl) rfl
theorem dL_law_1034 : decode cL_law 1034 = .ok (.aload_n 2, 1) := dq_op44 (dq_at (j := 44) dk_29d_1 rfl rfl)
theorem dL_law_1035 : decode cL_law 1035 = .ok (.aload_n 0, 1) := dq_op42 (dq_at (j := 45) dk_29d_1 rfl rfl)
theorem dL_law_1036 : decode cL_law 1036 = .ok (.iload 4, 2) := dq_op21 (dq_at (j := 46) dk_29d_1 rfl rfl) (dq_at (j := 47) dk_29d_1 rfl rfl) rfl
theorem dL_law_1038 : decode cL_law 1038 = .ok (.iconst 1, 1) := dq_op4 (dq_at (j := 48) dk_29d_1 rfl rfl)
theorem dL_law_1039 : decode cL_law 1039 = .ok (.iadd, 1) := dq_op96 (dq_at (j := 49) dk_29d_1 rfl rfl)
theorem dL_law_1040 : decode cL_law 1040 = .ok (.iaload, 1) := dq_op46 (dq_at (j := 50) dk_29d_1 rfl rfl)
theorem dL_law_1041 : decode cL_law 1041 = .ok (.aload_n 0, 1) := dq_op42 (dq_at (j := 51) dk_29d_1 rfl rfl)
theorem dL_law_1042 : decode cL_law 1042 = .ok (.iload 4, 2) := dq_op21 (dq_at (j := 52) dk_29d_1 rfl rfl) (dq_at (j := 53) dk_29d_1 rfl rfl) rfl
theorem dL_law_1044 : decode cL_law 1044 = .ok (.iconst 2, 1) := dq_op5 (dq_at (j := 54) dk_29d_1 rfl rfl)
theorem dL_law_1045 : decode cL_law 1045 = .ok (.iadd, 1) := dq_op96 (dq_at (j := 55) dk_29d_1 rfl rfl)
theorem dL_law_1046 : decode cL_law 1046 = .ok (.iaload, 1) := dq_op46 (dq_at (j := 56) dk_29d_1 rfl rfl)
theorem dL_law_1047 : decode cL_law 1047 = .ok (.aload_n 0, 1) := dq_op42 (dq_at (j := 57) dk_29d_1 rfl rfl)
theorem dL_law_1048 : decode cL_law 1048 = .ok (.iload 4, 2) := dq_op21 (dq_at (j := 58) dk_29d_1 rfl rfl) (dq_at (j := 59) dk_29d_1 rfl rfl) rfl
theorem dL_law_1050 : decode cL_law 1050 = .ok (.iconst 3, 1) := dq_op6 (dq_at (j := 60) dk_29d_1 rfl rfl)
theorem dL_law_1051 : decode cL_law 1051 = .ok (.iadd, 1) := dq_op96 (dq_at (j := 61) dk_29d_1 rfl rfl)
theorem dL_law_1052 : decode cL_law 1052 = .ok (.iaload, 1) := dq_op46 (dq_at (j := 62) dk_29d_1 rfl rfl)
theorem dL_law_1053 : decode cL_law 1053 = .ok (.ifCond .eq 7, 3) := dq_op153 (dq_at (j := 63) dk_29d_1 rfl rfl) (dq_at (j := 64) dk_29d_1 rfl rfl) (dq_at (j := 65) dk_29d_1 rfl rfl) (by decide +kernel)
theorem dL_law_1056 : decode cL_law 1056 = .ok (.iconst 1, 1) := dq_op4 (dq_at (j := 66) dk_29d_1 rfl rfl)
theorem dL_law_1057 : decode cL_law 1057 = .ok (.goto 4, 3) := dq_op167 (dq_at (j := 67) dk_29d_1 rfl rfl) (dq_at (j := 68) dk_29d_1 rfl rfl) (dq_at (j := 69) dk_29d_1 rfl rfl) (by decide +kernel)
theorem dL_law_1060 : decode cL_law 1060 = .ok (.iconst 0, 1) := dq_op3 (dq_at (j := 70) dk_29d_1 rfl rfl)
theorem dL_law_1061 : decode cL_law 1061 = .ok (.invokevirtual 240, 3) := dq_op182 (dq_at (j := 71) dk_29d_1 rfl rfl) (dq_at (j := 72) dk_29d_1 rfl rfl) (dq_at (j := 73) dk_29d_1 rfl rfl) rfl
theorem dL_law_1064 : decode cL_law 1064 = .ok (.istore 6, 2) := dq_op54 (dq_at (j := 74) dk_29d_1 rfl rfl) (dq_at (j := 75) dk_29d_1 rfl rfl) rfl
theorem dL_law_1066 : decode cL_law 1066 = .ok (.goto 1202, 3) := dq_op167 (dq_at (j := 76) dk_29d_1 rfl rfl) (dq_at (j := 77) dk_29d_1 rfl rfl) (dq_at (j := 78) dk_29d_1 rfl rfl) (by decide +kernel)
theorem dL_law_1069 : decode cL_law 1069 = .ok (.aload_n 1, 1) := dq_op43 (dq_at (j := 79) dk_29d_1 rfl rfl)
theorem dL_law_1070 : decode cL_law 1070 = .ok (.aload_n 0, 1) := dq_op42 (dq_at (j := 80) dk_29d_1 rfl rfl)
theorem dL_law_1071 : decode cL_law 1071 = .ok (.iload 4, 2) := dq_op21 (dq_at (j := 81) dk_29d_1 rfl rfl) (dq_at (j := 82) dk_29d_1 rfl rfl) rfl
theorem dL_law_1073 : decode cL_law 1073 = .ok (.iconst 1, 1) := dq_op4 (dq_at (j := 83) dk_29d_1 rfl rfl)
theorem dL_law_1074 : decode cL_law 1074 = .ok (.iadd, 1) := dq_op96 (dq_at (j := 84) dk_29d_1 rfl rfl)
theorem dL_law_1075 : decode cL_law 1075 = .ok (.iaload, 1) := dq_op46 (dq_at (j := 85) dk_29d_1 rfl rfl)
theorem dL_law_1076 : decode cL_law 1076 = .ok (.aload_n 0, 1) := dq_op42 (dq_at (j := 86) dk_29d_1 rfl rfl)
theorem dL_law_1077 : decode cL_law 1077 = .ok (.iload 4, 2) := dq_op21 (dq_at (j := 87) dk_29d_1 rfl rfl) (dq_at (j := 88) dk_29d_1 rfl rfl) rfl
theorem dL_law_1079 : decode cL_law 1079 = .ok (.iconst 2, 1) := dq_op5 (dq_at (j := 89) dk_29d_1 rfl rfl)
theorem dL_law_1080 : decode cL_law 1080 = .ok (.iadd, 1) := dq_op96 (dq_at (j := 90) dk_29d_1 rfl rfl)
theorem dL_law_1081 : decode cL_law 1081 = .ok (.iaload, 1) := dq_op46 (dq_at (j := 91) dk_29d_1 rfl rfl)
theorem dL_law_1082 : decode cL_law 1082 = .ok (.aload_n 3, 1) := dq_op45 (dq_at (j := 92) dk_29d_1 rfl rfl)
theorem dL_law_1083 : decode cL_law 1083 = .ok (.invokestatic 241, 3) := dq_op184 (dq_at (j := 93) dk_29d_1 rfl rfl) (dq_at (j := 94) dk_29d_1 rfl rfl) (dq_at (j := 95) dk_29d_1 rfl rfl) rfl
theorem dL_law_1086 : decode cL_law 1086 = .ok (.istore 5, 2) := dq_op54 (dq_at (j := 96) dk_29d_1 rfl rfl) (dq_at (j := 97) dk_29d_1 rfl rfl) rfl
theorem dL_law_1088 : decode cL_law 1088 = .ok (.aload_n 2, 1) := dq_op44 (dq_at (j := 98) dk_29d_1 rfl rfl)
theorem dL_law_1089 : decode cL_law 1089 = .ok (.aload_n 0, 1) := dq_op42 (dq_at (j := 99) dk_29d_1 rfl rfl)
theorem dL_law_1090 : decode cL_law 1090 = .ok (.iload 4, 2) := dq_op21 (dq_at (j := 100) dk_29d_1 rfl rfl) (dq_at (j := 101) dk_29d_1 rfl rfl) rfl
theorem dL_law_1092 : decode cL_law 1092 = .ok (.iconst 1, 1) := dq_op4 (dq_at (j := 102) dk_29d_1 rfl rfl)
theorem dL_law_1093 : decode cL_law 1093 = .ok (.iadd, 1) := dq_op96 (dq_at (j := 103) dk_29d_1 rfl rfl)
theorem dL_law_1094 : decode cL_law 1094 = .ok (.iaload, 1) := dq_op46 (dq_at (j := 104) dk_29d_1 rfl rfl)
theorem dL_law_1095 : decode cL_law 1095 = .ok (.aload_n 0, 1) := dq_op42 (dq_at (j := 105) dk_29d_1 rfl rfl)
theorem dL_law_1096 : decode cL_law 1096 = .ok (.iload 4, 2) := dq_op21 (dq_at (j := 106) dk_29d_1 rfl rfl) (dq_at (j := 107) dk_29d_1 rfl rfl) rfl
theorem dL_law_1098 : decode cL_law 1098 = .ok (.iconst 2, 1) := dq_op5 (dq_at (j := 108) dk_29d_1 rfl rfl)
theorem dL_law_1099 : decode cL_law 1099 = .ok (.iadd, 1) := dq_op96 (dq_at (j := 109) dk_29d_1 rfl rfl)
theorem dL_law_1100 : decode cL_law 1100 = .ok (.iaload, 1) := dq_op46 (dq_at (j := 110) dk_29d_1 rfl rfl)
theorem dL_law_1101 : decode cL_law 1101 = .ok (.invokevirtual 243, 3) := dq_op182 (dq_at (j := 111) dk_29d_1 rfl rfl) (dq_at (j := 112) dk_29d_1 rfl rfl) (dq_at (j := 113) dk_29d_1 rfl rfl) rfl
theorem dL_law_1104 : decode cL_law 1104 = .ok (.istore 6, 2) := dq_op54 (dq_at (j := 114) dk_29d_1 rfl rfl) (dq_at (j := 115) dk_29d_1 rfl rfl) rfl
theorem dL_law_1106 : decode cL_law 1106 = .ok (.goto 1162, 3) := dq_op167 (dq_at (j := 116) dk_29d_1 rfl rfl) (dq_at (j := 117) dk_29d_1 rfl rfl) (dq_at (j := 118) dk_29d_1 rfl rfl) (by decide +kernel)
theorem dL_law_1109 : decode cL_law 1109 = .ok (.aload_n 1, 1) := dq_op43 (dq_at (j := 119) dk_29d_1 rfl rfl)
theorem dL_law_1110 : decode cL_law 1110 = .ok (.aload_n 0, 1) := dq_op42 (dq_at (j := 120) dk_29d_1 rfl rfl)
theorem dL_law_1111 : decode cL_law 1111 = .ok (.iload 4, 2) := dq_op21 (dq_at (j := 121) dk_29d_1 rfl rfl) (dq_at (j := 122) dk_29d_1 rfl rfl) rfl
theorem dL_law_1113 : decode cL_law 1113 = .ok (.iconst 1, 1) := dq_op4 (dq_at (j := 123) dk_29d_1 rfl rfl)
theorem dL_law_1114 : decode cL_law 1114 = .ok (.iadd, 1) := dq_op96 (dq_at (j := 124) dk_29d_1 rfl rfl)
theorem dL_law_1115 : decode cL_law 1115 = .ok (.iaload, 1) := dq_op46 (dq_at (j := 125) dk_29d_1 rfl rfl)
theorem dL_law_1116 : decode cL_law 1116 = .ok (.aload_n 0, 1) := dq_op42 (dq_at (j := 126) dk_29d_1 rfl rfl)
theorem dL_law_1117 : decode cL_law 1117 = .ok (.iload 4, 2) := dq_op21 (dq_at (j := 127) dk_29d_1 rfl rfl) (dq_at (j := 128) dk_29d_1 rfl rfl) rfl
theorem dL_law_1119 : decode cL_law 1119 = .ok (.iconst 2, 1) := dq_op5 (dq_at (j := 129) dk_29d_1 rfl rfl)
theorem dL_law_1120 : decode cL_law 1120 = .ok (.iadd, 1) := dq_op96 (dq_at (j := 130) dk_29d_1 rfl rfl)
theorem dL_law_1121 : decode cL_law 1121 = .ok (.iaload, 1) := dq_op46 (dq_at (j := 131) dk_29d_1 rfl rfl)
theorem dL_law_1122 : decode cL_law 1122 = .ok (.aload_n 3, 1) := dq_op45 (dq_at (j := 132) dk_29d_1 rfl rfl)
theorem dL_law_1123 : decode cL_law 1123 = .ok (.invokestatic 244, 3) := dq_op184 (dq_at (j := 133) dk_29d_1 rfl rfl) (dq_at (j := 134) dk_29d_1 rfl rfl) (dq_at (j := 135) dk_29d_1 rfl rfl) rfl
theorem dL_law_1126 : decode cL_law 1126 = .ok (.istore 5, 2) := dq_op54 (dq_at (j := 136) dk_29d_1 rfl rfl) (dq_at (j := 137) dk_29d_1 rfl rfl) rfl
theorem dL_law_1128 : decode cL_law 1128 = .ok (.aload_n 2, 1) := dq_op44 (dq_at (j := 138) dk_29d_1 rfl rfl)
theorem dL_law_1129 : decode cL_law 1129 = .ok (.aload_n 0, 1) := dq_op42 (dq_at (j := 139) dk_29d_1 rfl rfl)
theorem dL_law_1130 : decode cL_law 1130 = .ok (.iload 4, 2) := dq_op21 (dq_at (j := 140) dk_29d_1 rfl rfl) (dq_at (j := 141) dk_29d_1 rfl rfl) rfl
theorem dL_law_1132 : decode cL_law 1132 = .ok (.iconst 1, 1) := dq_op4 (dq_at (j := 142) dk_29d_1 rfl rfl)
theorem dL_law_1133 : decode cL_law 1133 = .ok (.iadd, 1) := dq_op96 (dq_at (j := 143) dk_29d_1 rfl rfl)
theorem dL_law_1134 : decode cL_law 1134 = .ok (.iaload, 1) := dq_op46 (dq_at (j := 144) dk_29d_1 rfl rfl)
theorem dk_29d_2 : (cL_law.data.toList.drop 1135).take 126 = [42, 21, 4, 5, 96, 46, 182, 0, 246, 54, 6, 167, 4, 98, 43, 42, 21, 4, 4, 96, 46, 45, 184, 0, 247, 54, 5, 44, 42, 21, 4, 4, 96, 46, 182, 0, 249, 54, 6, 167, 4, 70, 43, 42, 21, 4, 4, 96, 46, 42, 21, 4, 5, 96, 46, 153, 0, 7, 4, 167, 0, 4, 3, 45, 184, 0, 250, 54, 5, 44, 42, 21, 4, 4, 96, 46, 42, 21, 4, 5, 96, 46, 153, 0, 7, 4, 167, 0, 4, 3, 182, 0, 253, 54, 6, 167, 4, 14, 43, 42, 21, 4, 4, 96, 46, 45, 184, 0, 254, 54, 5, 44, 42, 21, 4, 4, 96, 46, 182, 1, 0, 54, 6, 167, 3, 242] := by decide +kernel
theorem dL_law_1135 : decode cL_law 1135 = .ok (.aload_n 0, 1) := dq_op42 (dq_at (j := 0) dk_29d_2 rfl rfl)
theorem dL_law_1136 : decode cL_law 1136 = .ok (.iload 4, 2) := dq_op21 (dq_at (j := 1) dk_29d_2 rfl rfl) (dq_at (j := 2) dk_29d_2 rfl rfl) rfl
theorem dL_law_1138 : decode cL_law 1138 = .ok (.iconst 2, 1) := dq_op5 (dq_at (j := 3) dk_29d_2 rfl rfl)
theorem dL_law_1139 : decode cL_law 1139 = .ok (.iadd, 1) := dq_op96 (dq_at (j := 4) dk_29d_2 rfl rfl)
theorem dL_law_1140 : decode cL_law 1140 = .ok (.iaload, 1) := dq_op46 (dq_at (j := 5) dk_29d_2 rfl rfl)
theorem dL_law_1141 : decode cL_law 1141 = .ok (.invokevirtual 246, 3) := dq_op182 (dq_at (j := 6) dk_29d_2 rfl rfl) (dq_at (j := 7) dk_29d_2 rfl rfl) (dq_at (j := 8) dk_29d_2 rfl rfl) rfl
theorem dL_law_1144 : decode cL_law 1144 = .ok (.istore 6, 2) := dq_op54 (dq_at (j := 9) dk_29d_2 rfl rfl) (dq_at (j := 10) dk_29d_2 rfl rfl) rfl
theorem dL_law_1146 : decode cL_law 1146 = .ok (.goto 1122, 3) := dq_op167 (dq_at (j := 11) dk_29d_2 rfl rfl) (dq_at (j := 12) dk_29d_2 rfl rfl) (dq_at (j := 13) dk_29d_2 rfl rfl) (by decide +kernel)
theorem dL_law_1149 : decode cL_law 1149 = .ok (.aload_n 1, 1) := dq_op43 (dq_at (j := 14) dk_29d_2 rfl rfl)
theorem dL_law_1150 : decode cL_law 1150 = .ok (.aload_n 0, 1) := dq_op42 (dq_at (j := 15) dk_29d_2 rfl rfl)
theorem dL_law_1151 : decode cL_law 1151 = .ok (.iload 4, 2) := dq_op21 (dq_at (j := 16) dk_29d_2 rfl rfl) (dq_at (j := 17) dk_29d_2 rfl rfl) rfl
theorem dL_law_1153 : decode cL_law 1153 = .ok (.iconst 1, 1) := dq_op4 (dq_at (j := 18) dk_29d_2 rfl rfl)
theorem dL_law_1154 : decode cL_law 1154 = .ok (.iadd, 1) := dq_op96 (dq_at (j := 19) dk_29d_2 rfl rfl)
theorem dL_law_1155 : decode cL_law 1155 = .ok (.iaload, 1) := dq_op46 (dq_at (j := 20) dk_29d_2 rfl rfl)
theorem dL_law_1156 : decode cL_law 1156 = .ok (.aload_n 3, 1) := dq_op45 (dq_at (j := 21) dk_29d_2 rfl rfl)
theorem dL_law_1157 : decode cL_law 1157 = .ok (.invokestatic 247, 3) := dq_op184 (dq_at (j := 22) dk_29d_2 rfl rfl) (dq_at (j := 23) dk_29d_2 rfl rfl) (dq_at (j := 24) dk_29d_2 rfl rfl) rfl
theorem dL_law_1160 : decode cL_law 1160 = .ok (.istore 5, 2) := dq_op54 (dq_at (j := 25) dk_29d_2 rfl rfl) (dq_at (j := 26) dk_29d_2 rfl rfl) rfl
theorem dL_law_1162 : decode cL_law 1162 = .ok (.aload_n 2, 1) := dq_op44 (dq_at (j := 27) dk_29d_2 rfl rfl)
theorem dL_law_1163 : decode cL_law 1163 = .ok (.aload_n 0, 1) := dq_op42 (dq_at (j := 28) dk_29d_2 rfl rfl)
theorem dL_law_1164 : decode cL_law 1164 = .ok (.iload 4, 2) := dq_op21 (dq_at (j := 29) dk_29d_2 rfl rfl) (dq_at (j := 30) dk_29d_2 rfl rfl) rfl
theorem dL_law_1166 : decode cL_law 1166 = .ok (.iconst 1, 1) := dq_op4 (dq_at (j := 31) dk_29d_2 rfl rfl)
theorem dL_law_1167 : decode cL_law 1167 = .ok (.iadd, 1) := dq_op96 (dq_at (j := 32) dk_29d_2 rfl rfl)
theorem dL_law_1168 : decode cL_law 1168 = .ok (.iaload, 1) := dq_op46 (dq_at (j := 33) dk_29d_2 rfl rfl)
theorem dL_law_1169 : decode cL_law 1169 = .ok (.invokevirtual 249, 3) := dq_op182 (dq_at (j := 34) dk_29d_2 rfl rfl) (dq_at (j := 35) dk_29d_2 rfl rfl) (dq_at (j := 36) dk_29d_2 rfl rfl) rfl
theorem dL_law_1172 : decode cL_law 1172 = .ok (.istore 6, 2) := dq_op54 (dq_at (j := 37) dk_29d_2 rfl rfl) (dq_at (j := 38) dk_29d_2 rfl rfl) rfl
theorem dL_law_1174 : decode cL_law 1174 = .ok (.goto 1094, 3) := dq_op167 (dq_at (j := 39) dk_29d_2 rfl rfl) (dq_at (j := 40) dk_29d_2 rfl rfl) (dq_at (j := 41) dk_29d_2 rfl rfl) (by decide +kernel)
theorem dL_law_1177 : decode cL_law 1177 = .ok (.aload_n 1, 1) := dq_op43 (dq_at (j := 42) dk_29d_2 rfl rfl)
theorem dL_law_1178 : decode cL_law 1178 = .ok (.aload_n 0, 1) := dq_op42 (dq_at (j := 43) dk_29d_2 rfl rfl)
theorem dL_law_1179 : decode cL_law 1179 = .ok (.iload 4, 2) := dq_op21 (dq_at (j := 44) dk_29d_2 rfl rfl) (dq_at (j := 45) dk_29d_2 rfl rfl) rfl
theorem dL_law_1181 : decode cL_law 1181 = .ok (.iconst 1, 1) := dq_op4 (dq_at (j := 46) dk_29d_2 rfl rfl)
theorem dL_law_1182 : decode cL_law 1182 = .ok (.iadd, 1) := dq_op96 (dq_at (j := 47) dk_29d_2 rfl rfl)
theorem dL_law_1183 : decode cL_law 1183 = .ok (.iaload, 1) := dq_op46 (dq_at (j := 48) dk_29d_2 rfl rfl)
theorem dL_law_1184 : decode cL_law 1184 = .ok (.aload_n 0, 1) := dq_op42 (dq_at (j := 49) dk_29d_2 rfl rfl)
theorem dL_law_1185 : decode cL_law 1185 = .ok (.iload 4, 2) := dq_op21 (dq_at (j := 50) dk_29d_2 rfl rfl) (dq_at (j := 51) dk_29d_2 rfl rfl) rfl
theorem dL_law_1187 : decode cL_law 1187 = .ok (.iconst 2, 1) := dq_op5 (dq_at (j := 52) dk_29d_2 rfl rfl)
theorem dL_law_1188 : decode cL_law 1188 = .ok (.iadd, 1) := dq_op96 (dq_at (j := 53) dk_29d_2 rfl rfl)
theorem dL_law_1189 : decode cL_law 1189 = .ok (.iaload, 1) := dq_op46 (dq_at (j := 54) dk_29d_2 rfl rfl)
theorem dL_law_1190 : decode cL_law 1190 = .ok (.ifCond .eq 7, 3) := dq_op153 (dq_at (j := 55) dk_29d_2 rfl rfl) (dq_at (j := 56) dk_29d_2 rfl rfl) (dq_at (j := 57) dk_29d_2 rfl rfl) (by decide +kernel)
theorem dL_law_1193 : decode cL_law 1193 = .ok (.iconst 1, 1) := dq_op4 (dq_at (j := 58) dk_29d_2 rfl rfl)
theorem dL_law_1194 : decode cL_law 1194 = .ok (.goto 4, 3) := dq_op167 (dq_at (j := 59) dk_29d_2 rfl rfl) (dq_at (j := 60) dk_29d_2 rfl rfl) (dq_at (j := 61) dk_29d_2 rfl rfl) (by decide +kernel)
theorem dL_law_1197 : decode cL_law 1197 = .ok (.iconst 0, 1) := dq_op3 (dq_at (j := 62) dk_29d_2 rfl rfl)
theorem dL_law_1198 : decode cL_law 1198 = .ok (.aload_n 3, 1) := dq_op45 (dq_at (j := 63) dk_29d_2 rfl rfl)
theorem dL_law_1199 : decode cL_law 1199 = .ok (.invokestatic 250, 3) := dq_op184 (dq_at (j := 64) dk_29d_2 rfl rfl) (dq_at (j := 65) dk_29d_2 rfl rfl) (dq_at (j := 66) dk_29d_2 rfl rfl) rfl
theorem dL_law_1202 : decode cL_law 1202 = .ok (.istore 5, 2) := dq_op54 (dq_at (j := 67) dk_29d_2 rfl rfl) (dq_at (j := 68) dk_29d_2 rfl rfl) rfl
theorem dL_law_1204 : decode cL_law 1204 = .ok (.aload_n 2, 1) := dq_op44 (dq_at (j := 69) dk_29d_2 rfl rfl)
theorem dL_law_1205 : decode cL_law 1205 = .ok (.aload_n 0, 1) := dq_op42 (dq_at (j := 70) dk_29d_2 rfl rfl)
theorem dL_law_1206 : decode cL_law 1206 = .ok (.iload 4, 2) := dq_op21 (dq_at (j := 71) dk_29d_2 rfl rfl) (dq_at (j := 72) dk_29d_2 rfl rfl) rfl
theorem dL_law_1208 : decode cL_law 1208 = .ok (.iconst 1, 1) := dq_op4 (dq_at (j := 73) dk_29d_2 rfl rfl)
theorem dL_law_1209 : decode cL_law 1209 = .ok (.iadd, 1) := dq_op96 (dq_at (j := 74) dk_29d_2 rfl rfl)
theorem dL_law_1210 : decode cL_law 1210 = .ok (.iaload, 1) := dq_op46 (dq_at (j := 75) dk_29d_2 rfl rfl)
theorem dL_law_1211 : decode cL_law 1211 = .ok (.aload_n 0, 1) := dq_op42 (dq_at (j := 76) dk_29d_2 rfl rfl)
theorem dL_law_1212 : decode cL_law 1212 = .ok (.iload 4, 2) := dq_op21 (dq_at (j := 77) dk_29d_2 rfl rfl) (dq_at (j := 78) dk_29d_2 rfl rfl) rfl
theorem dL_law_1214 : decode cL_law 1214 = .ok (.iconst 2, 1) := dq_op5 (dq_at (j := 79) dk_29d_2 rfl rfl)
theorem dL_law_1215 : decode cL_law 1215 = .ok (.iadd, 1) := dq_op96 (dq_at (j := 80) dk_29d_2 rfl rfl)
theorem dL_law_1216 : decode cL_law 1216 = .ok (.iaload, 1) := dq_op46 (dq_at (j := 81) dk_29d_2 rfl rfl)
theorem dL_law_1217 : decode cL_law 1217 = .ok (.ifCond .eq 7, 3) := dq_op153 (dq_at (j := 82) dk_29d_2 rfl rfl) (dq_at (j := 83) dk_29d_2 rfl rfl) (dq_at (j := 84) dk_29d_2 rfl rfl) (by decide +kernel)
theorem dL_law_1220 : decode cL_law 1220 = .ok (.iconst 1, 1) := dq_op4 (dq_at (j := 85) dk_29d_2 rfl rfl)
theorem dL_law_1221 : decode cL_law 1221 = .ok (.goto 4, 3) := dq_op167 (dq_at (j := 86) dk_29d_2 rfl rfl) (dq_at (j := 87) dk_29d_2 rfl rfl) (dq_at (j := 88) dk_29d_2 rfl rfl) (by decide +kernel)
theorem dL_law_1224 : decode cL_law 1224 = .ok (.iconst 0, 1) := dq_op3 (dq_at (j := 89) dk_29d_2 rfl rfl)
theorem dL_law_1225 : decode cL_law 1225 = .ok (.invokevirtual 253, 3) := dq_op182 (dq_at (j := 90) dk_29d_2 rfl rfl) (dq_at (j := 91) dk_29d_2 rfl rfl) (dq_at (j := 92) dk_29d_2 rfl rfl) rfl
theorem dL_law_1228 : decode cL_law 1228 = .ok (.istore 6, 2) := dq_op54 (dq_at (j := 93) dk_29d_2 rfl rfl) (dq_at (j := 94) dk_29d_2 rfl rfl) rfl
theorem dL_law_1230 : decode cL_law 1230 = .ok (.goto 1038, 3) := dq_op167 (dq_at (j := 95) dk_29d_2 rfl rfl) (dq_at (j := 96) dk_29d_2 rfl rfl) (dq_at (j := 97) dk_29d_2 rfl rfl) (by decide +kernel)
theorem dL_law_1233 : decode cL_law 1233 = .ok (.aload_n 1, 1) := dq_op43 (dq_at (j := 98) dk_29d_2 rfl rfl)
theorem dL_law_1234 : decode cL_law 1234 = .ok (.aload_n 0, 1) := dq_op42 (dq_at (j := 99) dk_29d_2 rfl rfl)
theorem dL_law_1235 : decode cL_law 1235 = .ok (.iload 4, 2) := dq_op21 (dq_at (j := 100) dk_29d_2 rfl rfl) (dq_at (j := 101) dk_29d_2 rfl rfl) rfl
theorem dL_law_1237 : decode cL_law 1237 = .ok (.iconst 1, 1) := dq_op4 (dq_at (j := 102) dk_29d_2 rfl rfl)
theorem dL_law_1238 : decode cL_law 1238 = .ok (.iadd, 1) := dq_op96 (dq_at (j := 103) dk_29d_2 rfl rfl)
theorem dL_law_1239 : decode cL_law 1239 = .ok (.iaload, 1) := dq_op46 (dq_at (j := 104) dk_29d_2 rfl rfl)
theorem dL_law_1240 : decode cL_law 1240 = .ok (.aload_n 3, 1) := dq_op45 (dq_at (j := 105) dk_29d_2 rfl rfl)
theorem dL_law_1241 : decode cL_law 1241 = .ok (.invokestatic 254, 3) := dq_op184 (dq_at (j := 106) dk_29d_2 rfl rfl) (dq_at (j := 107) dk_29d_2 rfl rfl) (dq_at (j := 108) dk_29d_2 rfl rfl) rfl
theorem dL_law_1244 : decode cL_law 1244 = .ok (.istore 5, 2) := dq_op54 (dq_at (j := 109) dk_29d_2 rfl rfl) (dq_at (j := 110) dk_29d_2 rfl rfl) rfl
theorem dL_law_1246 : decode cL_law 1246 = .ok (.aload_n 2, 1) := dq_op44 (dq_at (j := 111) dk_29d_2 rfl rfl)
theorem dL_law_1247 : decode cL_law 1247 = .ok (.aload_n 0, 1) := dq_op42 (dq_at (j := 112) dk_29d_2 rfl rfl)
theorem dL_law_1248 : decode cL_law 1248 = .ok (.iload 4, 2) := dq_op21 (dq_at (j := 113) dk_29d_2 rfl rfl) (dq_at (j := 114) dk_29d_2 rfl rfl) rfl
theorem dL_law_1250 : decode cL_law 1250 = .ok (.iconst 1, 1) := dq_op4 (dq_at (j := 115) dk_29d_2 rfl rfl)
theorem dL_law_1251 : decode cL_law 1251 = .ok (.iadd, 1) := dq_op96 (dq_at (j := 116) dk_29d_2 rfl rfl)
theorem dL_law_1252 : decode cL_law 1252 = .ok (.iaload, 1) := dq_op46 (dq_at (j := 117) dk_29d_2 rfl rfl)
theorem dL_law_1253 : decode cL_law 1253 = .ok (.invokevirtual 256, 3) := dq_op182 (dq_at (j := 118) dk_29d_2 rfl rfl) (dq_at (j := 119) dk_29d_2 rfl rfl) (dq_at (j := 120) dk_29d_2 rfl rfl) rfl
theorem dL_law_1256 : decode cL_law 1256 = .ok (.istore 6, 2) := dq_op54 (dq_at (j := 121) dk_29d_2 rfl rfl) (dq_at (j := 122) dk_29d_2 rfl rfl) rfl
theorem dL_law_1258 : decode cL_law 1258 = .ok (.goto 1010, 3) := dq_op167 (dq_at (j := 123) dk_29d_2 rfl rfl) (dq_at (j := 124) dk_29d_2 rfl rfl) (dq_at (j := 125) dk_29d_2 rfl rfl) (by decide +kernel)
noncomputable def dq_end_29d : Nat := 0
