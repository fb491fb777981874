noncomputable def dz_p29d_1 : List (Nat × Instr × Nat) := [(990, (.iconst 2, 1)), (991, (.iadd, 1)), (992, (.iaload, 1)), (993, (.invokevirtual 236, 3)), (996, (.istore 6, 2)), (998, (.goto 1270, 3)), (1001, (.aload_n 1, 1)), (1002, (.aload_n 0, 1)), (1003, (.iload 4, 2)), (1005, (.iconst 1, 1)), (1006, (.iadd, 1)), (1007, (.iaload, 1)), (1008, (.aload_n 0, 1)), (1009, (.iload 4, 2)), (1011, (.iconst 2, 1)), (1012, (.iadd, 1)), (1013, (.iaload, 1)), (1014, (.aload_n 0, 1)), (1015, (.iload 4, 2)), (1017, (.iconst 3, 1)), (1018, (.iadd, 1)), (1019, (.iaload, 1)), (1020, (.ifCond .eq 7, 3)), (1023, (.iconst 1, 1)), (1024, (.goto 4, 3)), (1027, (.iconst 0, 1)), (1028, (.aload_n 3, 1)), (1029, (.invokestatic 237, 3)), (1032, (.istore 5, 2)), (1034, (.aload_n 2, 1)), (1035, (.aload_n 0, 1)), (1036, (.iload 4, 2)), (1038, (.iconst 1, 1)), (1039, (.iadd, 1)), (1040, (.iaload, 1)), (1041, (.aload_n 0, 1)), (1042, (.iload 4, 2)), (1044, (.iconst 2, 1)), (1045, (.iadd, 1)), (1046, (.iaload, 1))]
theorem dy_p29d_1 : dz_ok cL_law dz_p29d_1 = true := by decide +kernel
theorem dL_law_990 : decode cL_law 990 = .ok (.iconst 2, 1) := dz_at (i := 0) dy_p29d_1 rfl
theorem dL_law_991 : decode cL_law 991 = .ok (.iadd, 1) := dz_at (i := 1) dy_p29d_1 rfl
theorem dL_law_992 : decode cL_law 992 = .ok (.iaload, 1) := dz_at (i := 2) dy_p29d_1 rfl
theorem dL_law_993 : decode cL_law 993 = .ok (.invokevirtual 236, 3) := dz_at (i := 3) dy_p29d_1 rfl
theorem dL_law_996 : decode cL_law 996 = .ok (.istore 6, 2) := dz_at (i := 4) dy_p29d_1 rfl
theorem dL_law_998 : decode cL_law 998 = .ok (.goto 1270, 3) := dz_at (i := 5) dy_p29d_1 rfl
theorem dL_law_1001 : decode cL_law 1001 = .ok (.aload_n 1, 1) := dz_at (i := 6) dy_p29d_1 rfl
theorem dL_law_1002 : decode cL_law 1002 = .ok (.aload_n 0, 1) := dz_at (i := 7) dy_p29d_1 rfl
theorem dL_law_1003 : decode cL_law 1003 = .ok (.iload 4, 2) := dz_at (i := 8) dy_p29d_1 rfl
theorem dL_law_1005 : decode cL_law 1005 = .ok (.iconst 1, 1) := dz_at (i := 9) dy_p29d_1 rfl
theorem dL_law_1006 : decode cL_law 1006 = .ok (.iadd, 1) := dz_at (i := 10) dy_p29d_1 rfl
theorem dL_law_1007 : decode cL_law 1007 = .ok (.iaload, 1) := dz_at (i := 11) dy_p29d_1 rfl
theorem dL_law_1008 : decode cL_law 1008 = .ok (.aload_n 0, 1) := dz_at (i := 12) dy_p29d_1 rfl
theorem dL_law_1009 : decode cL_law 1009 = .ok (.iload 4, 2) := dz_at (i := 13) dy_p29d_1 rfl
theorem dL_law_1011 : decode cL_law 1011 = .ok (.iconst 2, 1) := dz_at (i := 14) dy_p29d_1 rfl
theorem dL_law_1012 : decode cL_law 1012 = .ok (.iadd, 1) := dz_at (i := 15) dy_p29d_1 rfl
theorem dL_law_1013 : decode cL_law 1013 = .ok (.iaload, 1) := dz_at (i := 16) dy_p29d_1 rfl
theorem dL_law_1014 : decode cL_law 1014 = .ok (.aload_n 0, 1) := dz_at (i := 17) dy_p29d_1 rfl
theorem dL_law_1015 : decode cL_law 1015 = .ok (.iload 4, 2) := dz_at (i := 18) dy_p29d_1 rfl
theorem dL_law_1017 : decode cL_law 1017 = .ok (.iconst 3, 1) := dz_at (i := 19) dy_p29d_1 rfl
theorem dL_law_1018 : decode cL_law 1018 = .ok (.iadd, 1) := dz_at (i := 20) dy_p29d_1 rfl
theorem dL_law_1019 : decode cL_law 1019 = .ok (.iaload, 1) := dz_at (i := 21) dy_p29d_1 rfl
theorem dL_law_1020 : decode cL_law 1020 = .ok (.ifCond .eq 7, 3) := dz_at (i := 22) dy_p29d_1 rfl
theorem dL_law_1023 : decode cL_law 1023 = .ok (.iconst 1, 1) := dz_at (i := 23) dy_p29d_1 rfl
theorem dL_law_1024 : decode cL_law 1024 = .ok (.goto 4, 3) := dz_at (i := 24) dy_p29d_1 rfl
theorem dL_law_1027 : decode cL_law 1027 = .ok (.iconst 0, 1) := dz_at (i := 25) dy_p29d_1 rfl
theorem dL_law_1028 : decode cL_law 1028 = .ok (.aload_n 3, 1) := dz_at (i := 26) dy_p29d_1 rfl
theorem dL_law_1029 : decode cL_law 1029 = .ok (.invokestatic 237, 3) := dz_at (i := 27) dy_p29d_1 rfl
theorem dL_law_1032 : decode cL_law 1032 = .ok (.istore 5, 2) := dz_at (i := 28) dy_p29d_1 rfl
theorem dL_law_1034 : decode cL_law 1034 = .ok (.aload_n 2, 1) := dz_at (i := 29) dy_p29d_1 rfl
theorem dL_law_1035 : decode cL_law 1035 = .ok (.aload_n 0, 1) := dz_at (i := 30) dy_p29d_1 rfl
theorem dL_law_1036 : decode cL_law 1036 = .ok (.iload 4, 2) := dz_at (i := 31) dy_p29d_1 rfl
theorem dL_law_1038 : decode cL_law 1038 = .ok (.iconst 1, 1) := dz_at (i := 32) dy_p29d_1 rfl
theorem dL_law_1039 : decode cL_law 1039 = .ok (.iadd, 1) := dz_at (i := 33) dy_p29d_1 rfl
theorem dL_law_1040 : decode cL_law 1040 = .ok (.iaload, 1) := dz_at (i := 34) dy_p29d_1 rfl
theorem dL_law_1041 : decode cL_law 1041 = .ok (.aload_n 0, 1) := dz_at (i := 35) dy_p29d_1 rfl
theorem dL_law_1042 : decode cL_law 1042 = .ok (.iload 4, 2) := dz_at (i := 36) dy_p29d_1 rfl
theorem dL_law_1044 : decode cL_law 1044 = .ok (.iconst 2, 1) := dz_at (i := 37) dy_p29d_1 rfl
theorem dL_law_1045 : decode cL_law 1045 = .ok (.iadd, 1) := dz_at (i := 38) dy_p29d_1 rfl
theorem dL_law_1046 : decode cL_law 1046 = .ok (.iaload, 1) := dz_at (i := 39) dy_p29d_1 rfl
noncomputable def dz_p29d_2 : List (Nat × Instr × Nat) := [(1047, (.aload_n 0, 1)), (1048, (.iload 4, 2)), (1050, (.iconst 3, 1)), (1051, (.iadd, 1)), (1052, (.iaload, 1)), (1053, (.ifCond .eq 7, 3)), (1056, (.iconst 1, 1)), (1057, (.goto 4, 3)), (1060, (.iconst 0, 1)), (1061, (.invokevirtual 240, 3)), (1064, (.istore 6, 2)), (1066, (.goto 1202, 3)), (1069, (.aload_n 1, 1)), (1070, (.aload_n 0, 1)), (1071, (.iload 4, 2)), (1073, (.iconst 1, 1)), (1074, (.iadd, 1)), (1075, (.iaload, 1)), (1076, (.aload_n 0, 1)), (1077, (.iload 4, 2)), (1079, (.iconst 2, 1)), (1080, (.iadd, 1)), (1081, (.iaload, 1)), (1082, (.aload_n 3, 1)), (1083, (.invokestatic 241, 3)), (1086, (.istore 5, 2)), (1088, (.aload_n 2, 1)), (1089, (.aload_n 0, 1)), (1090, (.iload 4, 2)), (1092, (.iconst 1, 1)), (1093, (.iadd, 1)), (1094, (.iaload, 1)), (1095, (.aload_n 0, 1)), (1096, (.iload 4, 2)), (1098, (.iconst 2, 1)), (1099, (.iadd, 1)), (1100, (.iaload, 1)), (1101, (.invokevirtual 243, 3)), (1104, (.istore 6, 2)), (1106, (.goto 1162, 3))]
theorem dy_p29d_2 : dz_ok cL_law dz_p29d_2 = true := by decide +kernel
theorem dL_law_1047 : decode cL_law 1047 = .ok (.aload_n 0, 1) := dz_at (i := 0) dy_p29d_2 rfl
theorem dL_law_1048 : decode cL_law 1048 = .ok (.iload 4, 2) := dz_at (i := 1) dy_p29d_2 rfl
theorem dL_law_1050 : decode cL_law 1050 = .ok (.iconst 3, 1) := dz_at (i := 2) dy_p29d_2 rfl
theorem dL_law_1051 : decode cL_law 1051 = .ok (.iadd, 1) := dz_at (i := 3) dy_p29d_2 rfl
theorem dL_law_1052 : decode cL_law 1052 = .ok (.iaload, 1) := dz_at (i := 4) dy_p29d_2 rfl
theorem dL_law_1053 : decode cL_law 1053 = .ok (.ifCond .eq 7, 3) := dz_at (i := 5) dy_p29d_2 rfl
theorem dL_law_1056 : decode cL_law 1056 = .ok (.iconst 1, 1) := dz_at (i := 6) dy_p29d_2 rfl
theorem dL_law_1057 : decode cL_law 1057 = .ok (.goto 4, 3) := dz_at (i := 7) dy_p29d_2 rfl
theorem dL_law_1060 : decode cL_law 1060 = .ok (.iconst 0, 1) := dz_at (i := 8) dy_p29d_2 rfl
theorem dL_law_1061 : decode cL_law 1061 = .ok (.invokevirtual 240, 3) := dz_at (i := 9) dy_p29d_2 rfl
theorem dL_law_1064 : decode cL_law 1064 = .ok (.istore 6, 2) := dz_at (i := 10) dy_p29d_2 rfl
theorem dL_law_1066 : decode cL_law 1066 = .ok (.goto 1202, 3) := dz_at (i := 11) dy_p29d_2 rfl
theorem dL_law_1069 : decode cL_law 1069 = .ok (.aload_n 1, 1) := dz_at (i := 12) dy_p29d_2 rfl
theorem dL_law_1070 : decode cL_law 1070 = .ok (.aload_n 0, 1) := dz_at (i := 13) dy_p29d_2 rfl
theorem dL_law_1071 : decode cL_law 1071 = .ok (.iload 4, 2) := dz_at (i := 14) dy_p29d_2 rfl
theorem dL_law_1073 : decode cL_law 1073 = .ok (.iconst 1, 1) := dz_at (i := 15) dy_p29d_2 rfl
theorem dL_law_1074 : decode cL_law 1074 = .ok (.iadd, 1) := dz_at (i := 16) dy_p29d_2 rfl
theorem dL_law_1075 : decode cL_law 1075 = .ok (.iaload, 1) := dz_at (i := 17) dy_p29d_2 rfl
theorem dL_law_1076 : decode cL_law 1076 = .ok (.aload_n 0, 1) := dz_at (i := 18) dy_p29d_2 rfl
theorem dL_law_1077 : decode cL_law 1077 = .ok (.iload 4, 2) := dz_at (i := 19) dy_p29d_2 rfl
theorem dL_law_1079 : decode cL_law 1079 = .ok (.iconst 2, 1) := dz_at (i := 20) dy_p29d_2 rfl
theorem dL_law_1080 : decode cL_law 1080 = .ok (.iadd, 1) := dz_at (i := 21) dy_p29d_2 rfl
theorem dL_law_1081 : decode cL_law 1081 = .ok (.iaload, 1) := dz_at (i := 22) dy_p29d_2 rfl
theorem dL_law_1082 : decode cL_law 1082 = .ok (.aload_n 3, 1) := dz_at (i := 23) dy_p29d_2 rfl
theorem dL_law_1083 : decode cL_law 1083 = .ok (.invokestatic 241, 3) := dz_at (i := 24) dy_p29d_2 rfl
theorem dL_law_1086 : decode cL_law 1086 = .ok (.istore 5, 2) := dz_at (i := 25) dy_p29d_2 rfl
theorem dL_law_1088 : decode cL_law 1088 = .ok (.aload_n 2, 1) := dz_at (i := 26) dy_p29d_2 rfl
theorem dL_law_1089 : decode cL_law 1089 = .ok (.aload_n 0, 1) := dz_at (i := 27) dy_p29d_2 rfl
theorem dL_law_1090 : decode cL_law 1090 = .ok (.iload 4, 2) := dz_at (i := 28) dy_p29d_2 rfl
theorem dL_law_1092 : decode cL_law 1092 = .ok (.iconst 1, 1) := dz_at (i := 29) dy_p29d_2 rfl
theorem dL_law_1093 : decode cL_law 1093 = .ok (.iadd, 1) := dz_at (i := 30) dy_p29d_2 rfl
theorem dL_law_1094 : decode cL_law 1094 = .ok (.iaload, 1) := dz_at (i := 31) dy_p29d_2 rfl
theorem dL_law_1095 : decode cL_law 1095 = .ok (.aload_n 0, 1) := dz_at (i := 32) dy_p29d_2 rfl
theorem dL_law_1096 : decode cL_law 1096 = .ok (.iload 4, 2) := dz_at (i := 33) dy_p29d_2 rfl
theorem dL_law_1098 : decode cL_law 1098 = .ok (.iconst 2, 1) := dz_at (i := 34) dy_p29d_2 rfl
theorem dL_law_1099 : decode cL_law 1099 = .ok (.iadd, 1) := dz_at (i := 35) dy_p29d_2 rfl
theorem dL_law_1100 : decode cL_law 1100 = .ok (.iaload, 1) := dz_at (i := 36) dy_p29d_2 rfl
theorem dL_law_1101 : decode cL_law 1101 = .ok (.invokevirtual 243, 3) := dz_at (i := 37) dy_p29d_2 rfl
theorem dL_law_1104 : decode cL_law 1104 = .ok (.istore 6, 2) := dz_at (i := 38) dy_p29d_2 rfl
theorem dL_law_1106 : decode cL_law 1106 = .ok (.goto 1162, 3) := dz_at (i := 39) dy_p29d_2 rfl
noncomputable def dz_p29d_3 : List (Nat × Instr × Nat) := [(1109, (.aload_n 1, 1)), (1110, (.aload_n 0, 1)), (1111, (.iload 4, 2)), (1113, (.iconst 1, 1)), (1114, (.iadd, 1)), (1115, (.iaload, 1)), (1116, (.aload_n 0, 1)), (1117, (.iload 4, 2)), (1119, (.iconst 2, 1)), (1120, (.iadd, 1)), (1121, (.iaload, 1)), (1122, (.aload_n 3, 1)), (1123, (.invokestatic 244, 3)), (1126, (.istore 5, 2)), (1128, (.aload_n 2, 1)), (1129, (.aload_n 0, 1)), (1130, (.iload 4, 2)), (1132, (.iconst 1, 1)), (1133, (.iadd, 1)), (1134, (.iaload, 1)), (1135, (.aload_n 0, 1)), (1136, (.iload 4, 2)), (1138, (.iconst 2, 1)), (1139, (.iadd, 1)), (1140, (.iaload, 1)), (1141, (.invokevirtual 246, 3)), (1144, (.istore 6, 2)), (1146, (.goto 1122, 3)), (1149, (.aload_n 1, 1)), (1150, (.aload_n 0, 1)), (1151, (.iload 4, 2)), (1153, (.iconst 1, 1)), (1154, (.iadd, 1)), (1155, (.iaload, 1)), (1156, (.aload_n 3, 1)), (1157, (.invokestatic 247, 3)), (1160, (.istore 5, 2)), (1162, (.aload_n 2, 1)), (1163, (.aload_n 0, 1)), (1164, (.iload 4, 2))]
theorem dy_p29d_3 : dz_ok cL_law dz_p29d_3 = true := by decide +kernel
theorem dL_law_1109 : decode cL_law 1109 = .ok (.aload_n 1, 1) := dz_at (i := 0) dy_p29d_3 rfl
theorem dL_law_1110 : decode cL_law 1110 = .ok (.aload_n 0, 1) := dz_at (i := 1) dy_p29d_3 rfl
theorem dL_law_1111 : decode cL_law 1111 = .ok (.iload 4, 2) := dz_at (i := 2) dy_p29d_3 rfl
theorem dL_law_1113 : decode cL_law 1113 = .ok (.iconst 1, 1) := dz_at (i := 3) dy_p29d_3 rfl
theorem dL_law_1114 : decode cL_law 1114 = .ok (.iadd, 1) := dz_at (i := 4) dy_p29d_3 rfl
theorem dL_law_1115 : decode cL_law 1115 = .ok (.iaload, 1) := dz_at (i := 5) dy_p29d_3 rfl
theorem dL_law_1116 : decode cL_law 1116 = .ok (.aload_n 0, 1) := dz_at (i := 6) dy_p29d_3 rfl
theorem dL_law_1117 : decode cL_law 1117 = .ok (.iload 4, 2) := dz_at (i := 7) dy_p29d_3 rfl
theorem dL_law_1119 : decode cL_law 1119 = .ok (.iconst 2, 1) := dz_at (i := 8) dy_p29d_3 rfl
theorem dL_law_1120 : decode cL_law 1120 = .ok (.iadd, 1) := dz_at (i := 9) dy_p29d_3 rfl
theorem dL_law_1121 : decode cL_law 1121 = .ok (.iaload, 1) := dz_at (i := 10) dy_p29d_3 rfl
theorem dL_law_1122 : decode cL_law 1122 = .ok (.aload_n 3, 1) := dz_at (i := 11) dy_p29d_3 rfl
theorem dL_law_1123 : decode cL_law 1123 = .ok (.invokestatic 244, 3) := dz_at (i := 12) dy_p29d_3 rfl
theorem dL_law_1126 : decode cL_law 1126 = .ok (.istore 5, 2) := dz_at (i := 13) dy_p29d_3 rfl
theorem dL_law_1128 : decode cL_law 1128 = .ok (.aload_n 2, 1) := dz_at (i := 14) dy_p29d_3 rfl
theorem dL_law_1129 : decode cL_law 1129 = .ok (.aload_n 0, 1) := dz_at (i := 15) dy_p29d_3 rfl
theorem dL_law_1130 : decode cL_law 1130 = .ok (.iload 4, 2) := dz_at (i := 16) dy_p29d_3 rfl
theorem dL_law_1132 : decode cL_law 1132 = .ok (.iconst 1, 1) := dz_at (i := 17) dy_p29d_3 rfl
theorem dL_law_1133 : decode cL_law 1133 = .ok (.iadd, 1) := dz_at (i := 18) dy_p29d_3 rfl
theorem dL_law_1134 : decode cL_law 1134 = .ok (.iaload, 1) := dz_at (i := 19) dy_p29d_3 rfl
theorem dL_law_1135 : decode cL_law 1135 = .ok (.aload_n 0, 1) := dz_at (i := 20) dy_p29d_3 rfl
theorem dL_law_1136 : decode cL_law 1136 = .ok (.iload 4, 2) := dz_at (i := 21) dy_p29d_3 rfl
theorem dL_law_1138 : decode cL_law 1138 = .ok (.iconst 2, 1) := dz_at (i := 22) dy_p29d_3 rfl
theorem dL_law_1139 : decode cL_law 1139 = .ok (.iadd, 1) := dz_at (i := 23) dy_p29d_3 rfl
theorem dL_law_1140 : decode cL_law 1140 = .ok (.iaload, 1) := dz_at (i := 24) dy_p29d_3 rfl
theorem dL_law_1141 : decode cL_law 1141 = .ok (.invokevirtual 246, 3) := dz_at (i := 25) dy_p29d_3 rfl
theorem dL_law_1144 : decode cL_law 1144 = .ok (.istore 6, 2) := dz_at (i := 26) dy_p29d_3 rfl
theorem dL_law_1146 : decode cL_law 1146 = .ok (.goto 1122, 3) := dz_at (i := 27) dy_p29d_3 rfl
theorem dL_law_1149 : decode cL_law 1149 = .ok (.aload_n 1, 1) := dz_at (i := 28) dy_p29d_3 rfl
theorem dL_law_1150 : decode cL_law 1150 = .ok (.aload_n 0, 1) := dz_at (i := 29) dy_p29d_3 rfl
theorem dL_law_1151 : decode cL_law 1151 = .ok (.iload 4, 2) := dz_at (i := 30) dy_p29d_3 rfl
theorem dL_law_1153 : decode cL_law 1153 = .ok (.iconst 1, 1) := dz_at (i := 31) dy_p29d_3 rfl
theorem dL_law_1154 : decode cL_law 1154 = .ok (.iadd, 1) := dz_at (i := 32) dy_p29d_3 rfl
theorem dL_law_1155 : decode cL_law 1155 = .ok (.iaload, 1) := dz_at (i := 33) dy_p29d_3 rfl
theorem dL_law_1156 : decode cL_law 1156 = .ok (.aload_n 3, 1) := dz_at (i := 34) dy_p29d_3 rfl
theorem dL_law_1157 : decode cL_law 1157 = .ok (.invokestatic 247, 3) := dz_at (i := 35) dy_p29d_3 rfl
theorem dL_law_1160 : decode cL_law 1160 = .ok (.istore 5, 2) := dz_at (i := 36) dy_p29d_3 rfl
theorem dL_law_1162 : decode cL_law 1162 = .ok (.aload_n 2, 1) := dz_at (i := 37) dy_p29d_3 rfl
theorem dL_law_1163 : decode cL_law 1163 = .ok (.aload_n 0, 1) := dz_at (i := 38) dy_p29d_3 rfl
theorem dL_law_1164 : decode cL_law 1164 = .ok (.iload 4, 2) := dz_at (i := 39) dy_p29d_3 rfl
noncomputable def dz_p29d_4 : List (Nat × Instr × Nat) := [(1166, (.iconst 1, 1)), (1167, (.iadd, 1)), (1168, (.iaload, 1)), (1169, (.invokevirtual 249, 3)), (1172, (.istore 6, 2)), (1174, (.goto 1094, 3)), (1177, (.aload_n 1, 1)), (1178, (.aload_n 0, 1)), (1179, (.iload 4, 2)), (1181, (.iconst 1, 1)), (1182, (.iadd, 1)), (1183, (.iaload, 1)), (1184, (.aload_n 0, 1)), (1185, (.iload 4, 2)), (1187, (.iconst 2, 1)), (1188, (.iadd, 1)), (1189, (.iaload, 1)), (1190, (.ifCond .eq 7, 3)), (1193, (.iconst 1, 1)), (1194, (.goto 4, 3)), (1197, (.iconst 0, 1)), (1198, (.aload_n 3, 1)), (1199, (.invokestatic 250, 3)), (1202, (.istore 5, 2)), (1204, (.aload_n 2, 1)), (1205, (.aload_n 0, 1)), (1206, (.iload 4, 2)), (1208, (.iconst 1, 1)), (1209, (.iadd, 1)), (1210, (.iaload, 1)), (1211, (.aload_n 0, 1)), (1212, (.iload 4, 2)), (1214, (.iconst 2, 1)), (1215, (.iadd, 1)), (1216, (.iaload, 1)), (1217, (.ifCond .eq 7, 3)), (1220, (.iconst 1, 1)), (1221, (.goto 4, 3)), (1224, (.iconst 0, 1)), (1225, (.invokevirtual 253, 3))]
theorem dy_p29d_4 : dz_ok cL_law dz_p29d_4 = true := by decide +kernel
theorem dL_law_1166 : decode cL_law 1166 = .ok (.iconst 1, 1) := dz_at (i := 0) dy_p29d_4 rfl
theorem dL_law_1167 : decode cL_law 1167 = .ok (.iadd, 1) := dz_at (i := 1) dy_p29d_4 rfl
theorem dL_law_1168 : decode cL_law 1168 = .ok (.iaload, 1) := dz_at (i := 2) dy_p29d_4 rfl
theorem dL_law_1169 : decode cL_law 1169 = .ok (.invokevirtual 249, 3) := dz_at (i := 3) dy_p29d_4 rfl
theorem dL_law_1172 : decode cL_law 1172 = .ok (.istore 6, 2) := dz_at (i := 4) dy_p29d_4 rfl
theorem dL_law_1174 : decode cL_law 1174 = .ok (.goto 1094, 3) := dz_at (i := 5) dy_p29d_4 rfl
theorem dL_law_1177 : decode cL_law 1177 = .ok (.aload_n 1, 1) := dz_at (i := 6) dy_p29d_4 rfl
theorem dL_law_1178 : decode cL_law 1178 = .ok (.aload_n 0, 1) := dz_at (i := 7) dy_p29d_4 rfl
theorem dL_law_1179 : decode cL_law 1179 = .ok (.iload 4, 2) := dz_at (i := 8) dy_p29d_4 rfl
theorem dL_law_1181 : decode cL_law 1181 = .ok (.iconst 1, 1) := dz_at (i := 9) dy_p29d_4 rfl
theorem dL_law_1182 : decode cL_law 1182 = .ok (.iadd, 1) := dz_at (i := 10) dy_p29d_4 rfl
theorem dL_law_1183 : decode cL_law 1183 = .ok (.iaload, 1) := dz_at (i := 11) dy_p29d_4 rfl
theorem dL_law_1184 : decode cL_law 1184 = .ok (.aload_n 0, 1) := dz_at (i := 12) dy_p29d_4 rfl
theorem dL_law_1185 : decode cL_law 1185 = .ok (.iload 4, 2) := dz_at (i := 13) dy_p29d_4 rfl
theorem dL_law_1187 : decode cL_law 1187 = .ok (.iconst 2, 1) := dz_at (i := 14) dy_p29d_4 rfl
theorem dL_law_1188 : decode cL_law 1188 = .ok (.iadd, 1) := dz_at (i := 15) dy_p29d_4 rfl
theorem dL_law_1189 : decode cL_law 1189 = .ok (.iaload, 1) := dz_at (i := 16) dy_p29d_4 rfl
theorem dL_law_1190 : decode cL_law 1190 = .ok (.ifCond .eq 7, 3) := dz_at (i := 17) dy_p29d_4 rfl
theorem dL_law_1193 : decode cL_law 1193 = .ok (.iconst 1, 1) := dz_at (i := 18) dy_p29d_4 rfl
theorem dL_law_1194 : decode cL_law 1194 = .ok (.goto 4, 3) := dz_at (i := 19) dy_p29d_4 rfl
theorem dL_law_1197 : decode cL_law 1197 = .ok (.iconst 0, 1) := dz_at (i := 20) dy_p29d_4 rfl
theorem dL_law_1198 : decode cL_law 1198 = .ok (.aload_n 3, 1) := dz_at (i := 21) dy_p29d_4 rfl
theorem dL_law_1199 : decode cL_law 1199 = .ok (.invokestatic 250, 3) := dz_at (i := 22) dy_p29d_4 rfl
theorem dL_law_1202 : decode cL_law 1202 = .ok (.istore 5, 2) := dz_at (i := 23) dy_p29d_4 rfl
theorem dL_law_1204 : decode cL_law 1204 = .ok (.aload_n 2, 1) := dz_at (i := 24) dy_p29d_4 rfl
theorem dL_law_1205 : decode cL_law 1205 = .ok (.aload_n 0, 1) := dz_at (i := 25) dy_p29d_4 rfl
theorem dL_law_1206 : decode cL_law 1206 = .ok (.iload 4, 2) := dz_at (i := 26) dy_p29d_4 rfl
theorem dL_law_1208 : decode cL_law 1208 = .ok (.iconst 1, 1) := dz_at (i := 27) dy_p29d_4 rfl
theorem dL_law_1209 : decode cL_law 1209 = .ok (.iadd, 1) := dz_at (i := 28) dy_p29d_4 rfl
theorem dL_law_1210 : decode cL_law 1210 = .ok (.iaload, 1) := dz_at (i := 29) dy_p29d_4 rfl
theorem dL_law_1211 : decode cL_law 1211 = .ok (.aload_n 0, 1) := dz_at (i := 30) dy_p29d_4 rfl
theorem dL_law_1212 : decode cL_law 1212 = .ok (.iload 4, 2) := dz_at (i := 31) dy_p29d_4 rfl
theorem dL_law_1214 : decode cL_law 1214 = .ok (.iconst 2, 1) := dz_at (i := 32) dy_p29d_4 rfl
theorem dL_law_1215 : decode cL_law 1215 = .ok (.iadd, 1) := dz_at (i := 33) dy_p29d_4 rfl
theorem dL_law_1216 : decode cL_law 1216 = .ok (.iaload, 1) := dz_at (i := 34) dy_p29d_4 rfl
theorem dL_law_1217 : decode cL_law 1217 = .ok (.ifCond .eq 7, 3) := dz_at (i := 35) dy_p29d_4 rfl
theorem dL_law_1220 : decode cL_law 1220 = .ok (.iconst 1, 1) := dz_at (i := 36) dy_p29d_4 rfl
theorem dL_law_1221 : decode cL_law 1221 = .ok (.goto 4, 3) := dz_at (i := 37) dy_p29d_4 rfl
theorem dL_law_1224 : decode cL_law 1224 = .ok (.iconst 0, 1) := dz_at (i := 38) dy_p29d_4 rfl
theorem dL_law_1225 : decode cL_law 1225 = .ok (.invokevirtual 253, 3) := dz_at (i := 39) dy_p29d_4 rfl
noncomputable def dz_p29d_5 : List (Nat × Instr × Nat) := [(1228, (.istore 6, 2)), (1230, (.goto 1038, 3)), (1233, (.aload_n 1, 1)), (1234, (.aload_n 0, 1)), (1235, (.iload 4, 2)), (1237, (.iconst 1, 1)), (1238, (.iadd, 1)), (1239, (.iaload, 1)), (1240, (.aload_n 3, 1)), (1241, (.invokestatic 254, 3)), (1244, (.istore 5, 2)), (1246, (.aload_n 2, 1)), (1247, (.aload_n 0, 1)), (1248, (.iload 4, 2)), (1250, (.iconst 1, 1)), (1251, (.iadd, 1)), (1252, (.iaload, 1)), (1253, (.invokevirtual 256, 3)), (1256, (.istore 6, 2)), (1258, (.goto 1010, 3))]
theorem dy_p29d_5 : dz_ok cL_law dz_p29d_5 = true := by decide +kernel
theorem dL_law_1228 : decode cL_law 1228 = .ok (.istore 6, 2) := dz_at (i := 0) dy_p29d_5 rfl
theorem dL_law_1230 : decode cL_law 1230 = .ok (.goto 1038, 3) := dz_at (i := 1) dy_p29d_5 rfl
theorem dL_law_1233 : decode cL_law 1233 = .ok (.aload_n 1, 1) := dz_at (i := 2) dy_p29d_5 rfl
theorem dL_law_1234 : decode cL_law 1234 = .ok (.aload_n 0, 1) := dz_at (i := 3) dy_p29d_5 rfl
theorem dL_law_1235 : decode cL_law 1235 = .ok (.iload 4, 2) := dz_at (i := 4) dy_p29d_5 rfl
theorem dL_law_1237 : decode cL_law 1237 = .ok (.iconst 1, 1) := dz_at (i := 5) dy_p29d_5 rfl
theorem dL_law_1238 : decode cL_law 1238 = .ok (.iadd, 1) := dz_at (i := 6) dy_p29d_5 rfl
theorem dL_law_1239 : decode cL_law 1239 = .ok (.iaload, 1) := dz_at (i := 7) dy_p29d_5 rfl
theorem dL_law_1240 : decode cL_law 1240 = .ok (.aload_n 3, 1) := dz_at (i := 8) dy_p29d_5 rfl
theorem dL_law_1241 : decode cL_law 1241 = .ok (.invokestatic 254, 3) := dz_at (i := 9) dy_p29d_5 rfl
theorem dL_law_1244 : decode cL_law 1244 = .ok (.istore 5, 2) := dz_at (i := 10) dy_p29d_5 rfl
theorem dL_law_1246 : decode cL_law 1246 = .ok (.aload_n 2, 1) := dz_at (i := 11) dy_p29d_5 rfl
theorem dL_law_1247 : decode cL_law 1247 = .ok (.aload_n 0, 1) := dz_at (i := 12) dy_p29d_5 rfl
theorem dL_law_1248 : decode cL_law 1248 = .ok (.iload 4, 2) := dz_at (i := 13) dy_p29d_5 rfl
theorem dL_law_1250 : decode cL_law 1250 = .ok (.iconst 1, 1) := dz_at (i := 14) dy_p29d_5 rfl
theorem dL_law_1251 : decode cL_law 1251 = .ok (.iadd, 1) := dz_at (i := 15) dy_p29d_5 rfl
theorem dL_law_1252 : decode cL_law 1252 = .ok (.iaload, 1) := dz_at (i := 16) dy_p29d_5 rfl
theorem dL_law_1253 : decode cL_law 1253 = .ok (.invokevirtual 256, 3) := dz_at (i := 17) dy_p29d_5 rfl
theorem dL_law_1256 : decode cL_law 1256 = .ok (.istore 6, 2) := dz_at (i := 18) dy_p29d_5 rfl
theorem dL_law_1258 : decode cL_law 1258 = .ok (.goto 1010, 3) := dz_at (i := 19) dy_p29d_5 rfl
