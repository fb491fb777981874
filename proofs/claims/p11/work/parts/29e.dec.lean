theorem dk_29e_1 : (cL_law.data.toList.drop 1261).take 143 = [43, 42, 21, 4, 4, 96, 46, 42, 21, 4, 5, 96, 46, 45, 184, 1, 1, 54, 5, 44, 42, 21, 4, 4, 96, 46, 42, 21, 4, 5, 96, 46, 182, 1, 3, 54, 6, 167, 3, 202, 43, 42, 21, 4, 4, 96, 46, 42, 21, 4, 5, 96, 46, 45, 184, 1, 4, 54, 5, 44, 42, 21, 4, 4, 96, 46, 42, 21, 4, 5, 96, 46, 182, 1, 6, 54, 6, 167, 3, 162, 43, 42, 21, 4, 4, 96, 46, 42, 21, 4, 5, 96, 46, 45, 184, 1, 7, 54, 5, 44, 42, 21, 4, 4, 96, 46, 42, 21, 4, 5, 96, 46, 182, 1, 9, 54, 6, 167, 3, 122, 43, 42, 21, 4, 4, 96, 46, 42, 21, 4, 5, 96, 46, 45, 184, 1, 10, 54, 5, 44, 42, 21, 4] := by decide +kernel
theorem dL_law_1261 : decode cL_law 1261 = .ok (.aload_n 1, 1) := dq_op43 (dq_at (j := 0) dk_29e_1 rfl rfl)
theorem dL_law_1262 : decode cL_law 1262 = .ok (.aload_n 0, 1) := dq_op42 (dq_at (j := 1) dk_29e_1 rfl rfl)
theorem dL_law_1263 : decode cL_law 1263 = .ok (.iload 4, 2) := dq_op21 (dq_at (j := 2) dk_29e_1 rfl rfl) (dq_at (j := 3) dk_29e_1 rfl rfl) rfl
theorem dL_law_1265 : decode cL_law 1265 = .ok (.iconst 1, 1) := dq_op4 (dq_at (j := 4) dk_29e_1 rfl rfl)
theorem dL_law_1266 : decode cL_law 1266 = .ok (.iadd, 1) := dq_op96 (dq_at (j := 5) dk_29e_1 rfl rfl)
theorem dL_law_1267 : decode cL_law 1267 = .ok (.iaload, 1) := dq_op46 (dq_at (j := 6) dk_29e_1 rfl rfl)
theorem dL_law_1268 : decode cL_law 1268 = .ok (.aload_n 0, 1) := dq_op42 (dq_at (j := 7) dk_29e_1 rfl rfl)
theorem dL_law_1269 : decode cL_law 1269 = .ok (.iload 4, 2) := dq_op21 (dq_at (j := 8) dk_29e_1 rfl rfl) (dq_at (j := 9) dk_29e_1 rfl rfl) rfl
theorem dL_law_1271 : decode cL_law 1271 = .ok (.iconst 2, 1) := dq_op5 (dq_at (j := 10) dk_29e_1 rfl rfl)
theorem dL_law_1272 : decode cL_law 1272 = .ok (.iadd, 1) := dq_op96 (dq_at (j := 11) dk_29e_1 rfl rfl)
theorem dL_law_1273 : decode cL_law 1273 = .ok (.iaload, 1) := dq_op46 (dq_at (j := 12) dk_29e_1 rfl rfl)
theorem dL_law_1274 : decode cL_law 1274 = .ok (.aload_n 3, 1) := dq_op45 (dq_at (j := 13) dk_29e_1 rfl rfl)
theorem dL_law_1275 : decode cL_law 1275 = .ok (.invokestatic 257, 3) := dq_op184 (dq_at (j := 14) dk_29e_1 rfl rfl) (dq_at (j := 15) dk_29e_1 rfl rfl) (dq_at (j := 16) dk_29e_1 rfl rfl) rfl
theorem dL_law_1278 : decode cL_law 1278 = .ok (.istore 5, 2) := dq_op54 (dq_at (j := 17) dk_29e_1 rfl rfl) (dq_at (j := 18) dk_29e_1 rfl rfl) rfl
theorem dL_law_1280 : decode cL_law 1280 = .ok (.aload_n 2, 1) := dq_op44 (dq_at (j := 19) dk_29e_1 rfl rfl)
theorem dL_law_1281 : decode cL_law 1281 = .ok (.aload_n 0, 1) := dq_op42 (dq_at (j := 20) dk_29e_1 rfl rfl)
theorem dL_law_1282 : decode cL_law 1282 = .ok (.iload 4, 2) := dq_op21 (dq_at (j := 21) dk_29e_1 rfl rfl) (dq_at (j := 22) dk_29e_1 rfl rfl) rfl
theorem dL_law_1284 : decode cL_law 1284 = .ok (.iconst 1, 1) := dq_op4 (dq_at (j := 23) dk_29e_1 rfl rfl)
theorem dL_law_1285 : decode cL_law 1285 = .ok (.iadd, 1) := dq_op96 (dq_at (j := 24) dk_29e_1 rfl rfl)
theorem dL_law_1286 : decode cL_law 1286 = .ok (.iaload, 1) := dq_op46 (dq_at (j := 25) dk_29e_1 rfl rfl)
theorem dL_law_1287 : decode cL_law 1287 = .ok (.aload_n 0, 1) := dq_op42 (dq_at (j := 26) dk_29e_1 rfl rfl)
theorem dL_law_1288 : decode cL_law 1288 = .ok (.iload 4, 2) := dq_op21 (dq_at (j := 27) dk_29e_1 rfl rfl) (dq_at (j := 28) dk_29e_1 rfl rfl) rfl
theorem dL_law_1290 : decode cL_law 1290 = .ok (.iconst 2, 1) := dq_op5 (dq_at (j := 29) dk_29e_1 rfl rfl)
theorem dL_law_1291 : decode cL_law 1291 = .ok (.iadd, 1) := dq_op96 (dq_at (j := 30) dk_29e_1 rfl rfl)
theorem dL_law_1292 : decode cL_law 1292 = .ok (.iaload, 1) := dq_op46 (dq_at (j := 31) dk_29e_1 rfl rfl)
theorem dL_law_1293 : decode cL_law 1293 = .ok (.invokevirtual 259, 3) := dq_op182 (dq_at (j := 32) dk_29e_1 rfl rfl) (dq_at (j := 33) dk_29e_1 rfl rfl) (dq_at (j := 34) dk_29e_1 rfl rfl) rfl
theorem dL_law_1296 : decode cL_law 1296 = .ok (.istore 6, 2) := dq_op54 (dq_at (j := 35) dk_29e_1 rfl rfl) (dq_at (j := 36) dk_29e_1 rfl rfl) rfl
theorem dL_law_1298 : decode cL_law 1298 = .ok (.goto 970, 3) := dq_op167 (dq_at (j := 37) dk_29e_1 rfl rfl) (dq_at (j := 38) dk_29e_1 rfl rfl) (dq_at (j := 39) dk_29e_1 rfl rfl) (by decide +kernel)
theorem dL_law_1301 : decode cL_law 1301 = .ok (.aload_n 1, 1) := dq_op43 (dq_at (j := 40) dk_29e_1 rfl rfl)
theorem dL_law_1302 : decode cL_law 1302 = .ok (.aload_n 0, 1) := dq_op42 (dq_at (j := 41) dk_29e_1 rfl rfl)
theorem dL_law_1303 : decode cL_law 1303 = .ok (.iload 4, 2) := dq_op21 (dq_at (j := 42) dk_29e_1 rfl rfl) (dq_at (j := 43) dk_29e_1 rfl rfl) rfl
theorem dL_law_1305 : decode cL_law 1305 = .ok (.iconst 1, 1) := dq_op4 (dq_at (j := 44) dk_29e_1 rfl rfl)
theorem dL_law_1306 : decode cL_law 1306 = .ok (.iadd, 1) := dq_op96 (dq_at (j := 45) dk_29e_1 rfl rfl)
theorem dL_law_1307 : decode cL_law 1307 = .ok (.iaload, 1) := dq_op46 (dq_at (j := 46) dk_29e_1 rfl rfl)
theorem dL_law_1308 : decode cL_law 1308 = .ok (.aload_n 0, 1) := dq_op42 (dq_at (j := 47) dk_29e_1 rfl rfl)
theorem dL_law_1309 : decode cL_law 1309 = .ok (.iload 4, 2) := dq_op21 (dq_at (j := 48) dk_29e_1 rfl rfl) (dq_at (j := 49) dk_29e_1 rfl rfl) rfl
theorem dL_law_1311 : decode cL_law 1311 = .ok (.iconst 2, 1) := dq_op5 (dq_at (j := 50) dk_29e_1 rfl rfl)
theorem dL_law_1312 : decode cL_law 1312 = .ok (.iadd, 1) := dq_op96 (dq_at (j := 51) dk_29e_1 rfl rfl)
theorem dL_law_1313 : decode cL_law 1313 = .ok (.iaload, 1) := dq_op46 (dq_at (j := 52) dk_29e_1 rfl rfl)
theorem dL_law_1314 : decode cL_law 1314 = .ok (.aload_n 3, 1) := dq_op45 (dq_at (j := 53) dk_29e_1 rfl rfl)
theorem dL_law_1315 : decode cL_law 1315 = .ok (.invokestatic 260, 3) := dq_op184 (dq_at (j := 54) dk_29e_1 rfl rfl) (dq_at (j := 55) dk_29e_1 rfl rfl) (dq_at (j := 56) dk_29e_1 rfl rfl) rfl
theorem dL_law_1318 : decode cL_law 1318 = .ok (.istore 5, 2) := dq_op54 (dq_at (j := 57) dk_29e_1 rfl rfl) (dq_at (j := 58) dk_29e_1 rfl rfl) rfl
theorem dL_law_1320 : decode cL_law 1320 = .ok (.aload_n 2, 1) := dq_op44 (dq_at (j := 59) dk_29e_1 rfl rfl)
theorem dL_law_1321 : decode cL_law 1321 = .ok (.aload_n 0, 1) := dq_op42 (dq_at (j := 60) dk_29e_1 rfl rfl)
theorem dL_law_1322 : decode cL_law 1322 = .ok (.iload 4, 2) := dq_op21 (dq_at (j := 61) dk_29e_1 rfl rfl) (dq_at (j := 62) dk_29e_1 rfl rfl) rfl
theorem dL_law_1324 : decode cL_law 1324 = .ok (.iconst 1, 1) := dq_op4 (dq_at (j := 63) dk_29e_1 rfl rfl)
theorem dL_law_1325 : decode cL_law 1325 = .ok (.iadd, 1) := dq_op96 (dq_at (j := 64) dk_29e_1 rfl rfl)
theorem dL_law_1326 : decode cL_law 1326 = .ok (.iaload, 1) := dq_op46 (dq_at (j := 65) dk_29e_1 rfl rfl)
theorem dL_law_1327 : decode cL_law 1327 = .ok (.aload_n 0, 1) := dq_op42 (dq_at (j := 66) dk_29e_1 rfl rfl)
theorem dL_law_1328 : decode cL_law 1328 = .ok (.iload 4, 2) := dq_op21 (dq_at (j := 67) dk_29e_1 rfl rfl) (dq_at (j := 68) dk_29e_1 rfl rfl) rfl
theorem dL_law_1330 : decode cL_law 1330 = .ok (.iconst 2, 1) := dq_op5 (dq_at (j := 69) dk_29e_1 rfl rfl)
theorem dL_law_1331 : decode cL_law 1331 = .ok (.iadd, 1) := dq_op96 (dq_at (j := 70) dk_29e_1 rfl rfl)
theorem dL_law_1332 : decode cL_law 1332 = .ok (.iaload, 1) := dq_op46 (dq_at (j := 71) dk_29e_1 rfl rfl)
theorem dL_law_1333 : decode cL_law 1333 = .ok (.invokevirtual 262, 3) := dq_op182 (dq_at (j := 72) dk_29e_1 rfl rfl) (dq_at (j := 73) dk_29e_1 rfl rfl) (dq_at (j := 74) dk_29e_1 rfl rfl) rfl
theorem dL_law_1336 : decode cL_law 1336 = .ok (.istore 6, 2) := dq_op54 (dq_at (j := 75) dk_29e_1 rfl rfl) (dq_at (j := 76) dk_29e_1 rfl rfl) rfl
theorem dL_law_1338 : decode cL_law 1338 = .ok (.goto 930, 3) := dq_op167 (dq_at (j := 77) dk_29e_1 rfl rfl) (dq_at (j := 78) dk_29e_1 rfl rfl) (dq_at (j := 79) dk_29e_1 rfl rfl) (by decide +kernel)
theorem dL_law_1341 : decode cL_law 1341 = .ok (.aload_n 1, 1) := dq_op43 (dq_at (j := 80) dk_29e_1 rfl rfl)
theorem dL_law_1342 : decode cL_law 1342 = .ok (.aload_n 0, 1) := dq_op42 (dq_at (j := 81) dk_29e_1 rfl rfl)
theorem dL_law_1343 : decode cL_law 1343 = .ok (.iload 4, 2) := dq_op21 (dq_at (j := 82) dk_29e_1 rfl rfl) (dq_at (j := 83) dk_29e_1 rfl rfl) rfl
theorem dL_law_1345 : decode cL_law 1345 = .ok (.iconst 1, 1) := dq_op4 (dq_at (j := 84) dk_29e_1 rfl rfl)
theorem dL_law_1346 : decode cL_law 1346 = .ok (.iadd, 1) := dq_op96 (dq_at (j := 85) dk_29e_1 rfl rfl)
theorem dL_law_1347 : decode cL_law 1347 = .ok (.iaload, 1) := dq_op46 (dq_at (j := 86) dk_29e_1 rfl rfl)
theorem dL_law_1348 : decode cL_law 1348 = .ok (.aload_n 0, 1) := dq_op42 (dq_at (j := 87) dk_29e_1 rfl rfl)
theorem dL_law_1349 : decode cL_law 1349 = .ok (.iload 4, 2) := dq_op21 (dq_at (j := 88) dk_29e_1 rfl rfl) (dq_at (j := 89) dk_29e_1 rfl rfl) rfl
theorem dL_law_1351 : decode cL_law 1351 = .ok (.iconst 2, 1) := dq_op5 (dq_at (j := 90) dk_29e_1 rfl rfl)
theorem dL_law_1352 : decode cL_law 1352 = .ok (.iadd, 1) := dq_op96 (dq_at (j := 91) dk_29e_1 rfl rfl)
theorem dL_law_1353 : decode cL_law 1353 = .ok (.iaload, 1) := dq_op46 (dq_at (j := 92) dk_29e_1 rfl rfl)
theorem dL_law_1354 : decode cL_law 1354 = .ok (.aload_n 3, 1) := dq_op45 (dq_at (j := 93) dk_29e_1 rfl rfl)
theorem dL_law_1355 : decode cL_law 1355 = .ok (.invokestatic 263, 3) := dq_op184 (dq_at (j := 94) dk_29e_1 rfl rfl) (dq_at (j := 95) dk_29e_1 rfl rfl) (dq_at (j := 96) dk_29e_1 rfl rfl) rfl
theorem dL_law_1358 : decode cL_law 1358 = .ok (.istore 5, 2) := dq_op54 (dq_at (j := 97) dk_29e_1 rfl rfl) (dq_at (j := 98) dk_29e_1 rfl rfl) rfl
theorem dL_law_1360 : decode cL_law 1360 = .ok (.aload_n 2, 1) := dq_op44 (dq_at (j := 99) dk_29e_1 rfl rfl)
theorem dL_law_1361 : decode cL_law 1361 = .ok (.aload_n 0, 1) := dq_op42 (dq_at (j := 100) dk_29e_1 rfl rfl)
theorem dL_law_1362 : decode cL_law 1362 = .ok (.iload 4, 2) := dq_op21 (dq_at (j := 101) dk_29e_1 rfl rfl) (dq_at (j := 102) dk_29e_1 rfl rfl) rfl
theorem dL_law_1364 : decode cL_law 1364 = .ok (.iconst 1, 1) := dq_op4 (dq_at (j := 103) dk_29e_1 rfl rfl)
theorem dL_law_1365 : decode cL_law 1365 = .ok (.iadd, 1) := dq_op96 (dq_at (j := 104) dk_29e_1 rfl rfl)
theorem dL_law_1366 : decode cL_law 1366 = .ok (.iaload, 1) := dq_op46 (dq_at (j := 105) dk_29e_1 rfl rfl)
theorem dL_law_1367 : decode cL_law 1367 = .ok (.aload_n 0, 1) := dq_op42 (dq_at (j := 106) dk_29e_1 rfl rfl)
theorem dL_law_1368 : decode cL_law 1368 = .ok (.iload 4, 2) := dq_op21 (dq_at (j := 107) dk_29e_1 rfl rfl) (dq_at (j := 108) dk_29e_1 rfl rfl) rfl
theorem dL_law_1370 : decode cL_law 1370 = .ok (.iconst 2, 1) := dq_op5 (dq_at (j := 109) dk_29e_1 rfl rfl)
theorem dL_law_1371 : decode cL_law 1371 = .ok (.iadd, 1) := dq_op96 (dq_at (j := 110) dk_29e_1 rfl rfl)
theorem dL_law_1372 : decode cL_law 1372 = .ok (.iaload, 1) := dq_op46 (dq_at (j := 111) dk_29e_1 rfl rfl)
theorem dL_law_1373 : decode cL_law 1373 = .ok (.invokevirtual 265, 3) := dq_op182 (dq_at (j := 112) dk_29e_1 rfl rfl) (dq_at (j := 113) dk_29e_1 rfl rfl) (dq_at (j := 114) dk_29e_1 rfl rfl) rfl
theorem dL_law_1376 : decode cL_law 1376 = .ok (.istore 6, 2) := dq_op54 (dq_at (j := 115) dk_29e_1 rfl rfl) (dq_at (j := 116) dk_29e_1 rfl rfl) rfl
theorem dL_law_1378 : decode cL_law 1378 = .ok (.goto 890, 3) := dq_op167 (dq_at (j := 117) dk_29e_1 rfl rfl) (dq_at (j := 118) dk_29e_1 rfl rfl) (dq_at (j := 119) dk_29e_1 rfl rfl) (by decide +kernel)
theorem dL_law_1381 : decode cL_law 1381 = .ok (.aload_n 1, 1) := dq_op43 (dq_at (j := 120) dk_29e_1 rfl rfl)
theorem dL_law_1382 : decode cL_law 1382 = .ok (.aload_n 0, 1) := dq_op42 (dq_at (j := 121) dk_29e_1 rfl rfl)
theorem dL_law_1383 : decode cL_law 1383 = .ok (.iload 4, 2) := dq_op21 (dq_at (j := 122) dk_29e_1 rfl rfl) (dq_at (j := 123) dk_29e_1 rfl rfl) rfl
theorem dL_law_1385 : decode cL_law 1385 = .ok (.iconst 1, 1) := dq_op4 (dq_at (j := 124) dk_29e_1 rfl rfl)
theorem dL_law_1386 : decode cL_law 1386 = .ok (.iadd, 1) := dq_op96 (dq_at (j := 125) dk_29e_1 rfl rfl)
theorem dL_law_1387 : decode cL_law 1387 = .ok (.iaload, 1) := dq_op46 (dq_at (j := 126) dk_29e_1 rfl rfl)
theorem dL_law_1388 : decode cL_law 1388 = .ok (.aload_n 0, 1) := dq_op42 (dq_at (j := 127) dk_29e_1 rfl rfl)
theorem dL_law_1389 : decode cL_law 1389 = .ok (.iload 4, 2) := dq_op21 (dq_at (j := 128) dk_29e_1 rfl rfl) (dq_at (j := 129) dk_29e_1 rfl rfl) rfl
theorem dL_law_1391 : decode cL_law 1391 = .ok (.iconst 2, 1) := dq_op5 (dq_at (j := 130) dk_29e_1 rfl rfl)
theorem dL_law_1392 : decode cL_law 1392 = .ok (.iadd, 1) := dq_op96 (dq_at (j := 131) dk_29e_1 rfl rfl)
theorem dL_law_1393 : decode cL_law 1393 = .ok (.iaload, 1) := dq_op46 (dq_at (j := 132) dk_29e_1 rfl rfl)
theorem dL_law_1394 : decode cL_law 1394 = .ok (.aload_n 3, 1) := dq_op45 (dq_at (j := 133) dk_29e_1 rfl rfl)
theorem dL_law_1395 : decode cL_law 1395 = .ok (.invokestatic 266, 3) := dq_op184 (dq_at (j := 134) dk_29e_1 rfl rfl) (dq_at (j := 135) dk_29e_1 rfl rfl) (dq_at (j := 136) dk_29e_1 rfl rfl) rfl
theorem dL_law_1398 : decode cL_law 1398 = .ok (.istore 5, 2) := dq_op54 (dq_at (j := 137) dk_29e_1 rfl rfl) (dq_at (j := 138) dk_29e_1 rfl rfl) rfl
theorem dL_law_1400 : decode cL_law 1400 = .ok (.aload_n 2, 1) := dq_op44 (dq_at (j := 139) dk_29e_1 rfl rfl)
theorem dL_law_1401 : decode cL_law 1401 = .ok (.aload_n 0, 1) := dq_op42 (dq_at (j := 140) dk_29e_1 rfl rfl)
theorem dk_29e_2 : (cL_law.data.toList.drop 1402).take 115 = [21, 4, 4, 96, 46, 42, 21, 4, 5, 96, 46, 182, 1, 12, 54, 6, 167, 3, 82, 43, 42, 21, 4, 4, 96, 46, 42, 21, 4, 5, 96, 46, 45, 184, 1, 13, 54, 5, 44, 42, 21, 4, 4, 96, 46, 42, 21, 4, 5, 96, 46, 182, 1, 15, 54, 6, 167, 3, 42, 43, 42, 21, 4, 4, 96, 46, 42, 21, 4, 5, 96, 46, 42, 21, 4, 6, 96, 46, 45, 184, 1, 16, 54, 5, 44, 42, 21, 4, 4, 96, 46, 42, 21, 4, 5, 96, 46, 42, 21, 4, 6, 96, 46, 182, 1, 18, 54, 6, 167, 2, 246, 43, 42, 21, 4] := by decide +kernel
theorem dL_law_1402 : decode cL_law 1402 = .ok (.iload 4, 2) := dq_op21 (dq_at (j := 0) dk_29e_2 rfl rfl) (dq_at (j := 1) dk_29e_2 rfl rfl) rfl
theorem dL_law_1404 : decode cL_law 1404 = .ok (.iconst 1, 1) := dq_op4 (dq_at (j := 2) dk_29e_2 rfl rfl)
theorem dL_law_1405 : decode cL_law 1405 = .ok (.iadd, 1) := dq_op96 (dq_at (j := 3) dk_29e_2 rfl rfl)
theorem dL_law_1406 : decode cL_law 1406 = .ok (.iaload, 1) := dq_op46 (dq_at (j := 4) dk_29e_2 rfl rfl)
theorem dL_law_1407 : decode cL_law 1407 = .ok (.aload_n 0, 1) := dq_op42 (dq_at (j := 5) dk_29e_2 rfl rfl)
theorem dL_law_1408 : decode cL_law 1408 = .ok (.iload 4, 2) := dq_op21 (dq_at (j := 6) dk_29e_2 rfl rfl) (dq_at (j := 7) dk_29e_2 rfl rfl) rfl
theorem dL_law_1410 : decode cL_law 1410 = .ok (.iconst 2, 1) := dq_op5 (dq_at (j := 8) dk_29e_2 rfl rfl)
theorem dL_law_1411 : decode cL_law 1411 = .ok (.iadd, 1) := dq_op96 (dq_at (j := 9) dk_29e_2 rfl rfl)
theorem dL_law_1412 : decode cL_law 1412 = .ok (.iaload, 1) := dq_op46 (dq_at (j := 10) dk_29e_2 rfl rfl)
theorem dL_law_1413 : decode cL_law 1413 = .ok (.invokevirtual 268, 3) := dq_op182 (dq_at (j := 11) dk_29e_2 rfl rfl) (dq_at (j := 12) dk_29e_2 rfl rfl) (dq_at (j := 13) dk_29e_2 rfl rfl) rfl
theorem dL_law_1416 : decode cL_law 1416 = .ok (.istore 6, 2) := dq_op54 (dq_at (j := 14) dk_29e_2 rfl rfl) (dq_at (j := 15) dk_29e_2 rfl rfl) rfl
theorem dL_law_1418 : decode cL_law 1418 = .ok (.goto 850, 3) := dq_op167 (dq_at (j := 16) dk_29e_2 rfl rfl) (dq_at (j := 17) dk_29e_2 rfl rfl) (dq_at (j := 18) dk_29e_2 rfl rfl) (by decide +kernel)
theorem dL_law_1421 : decode cL_law 1421 = .ok (.aload_n 1, 1) := dq_op43 (dq_at (j := 19) dk_29e_2 rfl rfl)
theorem dL_law_1422 : decode cL_law 1422 = .ok (.aload_n 0, 1) := dq_op42 (dq_at (j := 20) dk_29e_2 rfl rfl)
theorem dL_law_1423 : decode cL_law 1423 = .ok (.iload 4, 2) := dq_op21 (dq_at (j := 21) dk_29e_2 rfl rfl) (dq_at (j := 22) dk_29e_2 rfl rfl) rfl
theorem dL_law_1425 : decode cL_law 1425 = .ok (.iconst 1, 1) := dq_op4 (dq_at (j := 23) dk_29e_2 rfl rfl)
theorem dL_law_1426 : decode cL_law 1426 = .ok (.iadd, 1) := dq_op96 (dq_at (j := 24) dk_29e_2 rfl rfl)
theorem dL_law_1427 : decode cL_law 1427 = .ok (.iaload, 1) := dq_op46 (dq_at (j := 25) dk_29e_2 rfl rfl)
theorem dL_law_1428 : decode cL_law 1428 = .ok (.aload_n 0, 1) := dq_op42 (dq_at (j := 26) dk_29e_2 rfl rfl)
theorem dL_law_1429 : decode cL_law 1429 = .ok (.iload 4, 2) := dq_op21 (dq_at (j := 27) dk_29e_2 rfl rfl) (dq_at (j := 28) dk_29e_2 rfl rfl) rfl
theorem dL_law_1431 : decode cL_law 1431 = .ok (.iconst 2, 1) := dq_op5 (dq_at (j := 29) dk_29e_2 rfl rfl)
theorem dL_law_1432 : decode cL_law 1432 = .ok (.iadd, 1) := dq_op96 (dq_at (j := 30) dk_29e_2 rfl rfl)
theorem dL_law_1433 : decode cL_law 1433 = .ok (.iaload, 1) := dq_op46 (dq_at (j := 31) dk_29e_2 rfl rfl)
theorem dL_law_1434 : decode cL_law 1434 = .ok (.aload_n 3, 1) := dq_op45 (dq_at (j := 32) dk_29e_2 rfl rfl)
theorem dL_law_1435 : decode cL_law 1435 = .ok (.invokestatic 269, 3) := dq_op184 (dq_at (j := 33) dk_29e_2 rfl rfl) (dq_at (j := 34) dk_29e_2 rfl rfl) (dq_at (j := 35) dk_29e_2 rfl rfl) rfl
theorem dL_law_1438 : decode cL_law 1438 = .ok (.istore 5, 2) := dq_op54 (dq_at (j := 36) dk_29e_2 rfl rfl) (dq_at (j := 37) dk_29e_2 rfl rfl) rfl
theorem dL_law_1440 : decode cL_law 1440 = .ok (.aload_n 2, 1) := dq_op44 (dq_at (j := 38) dk_29e_2 rfl rfl)
theorem dL_law_1441 : decode cL_law 1441 = .ok (.aload_n 0, 1) := dq_op42 (dq_at (j := 39) dk_29e_2 rfl rfl)
theorem dL_law_1442 : decode cL_law 1442 = .ok (.iload 4, 2) := dq_op21 (dq_at (j := 40) dk_29e_2 rfl rfl) (dq_at (j := 41) dk_29e_2 rfl rfl) rfl
theorem dL_law_1444 : decode cL_law 1444 = .ok (.iconst 1, 1) := dq_op4 (dq_at (j := 42) dk_29e_2 rfl rfl)
theorem dL_law_1445 : decode cL_law 1445 = .ok (.iadd, 1) := dq_op96 (dq_at (j := 43) dk_29e_2 rfl rfl)
theorem dL_law_1446 : decode cL_law 1446 = .ok (.iaload, 1) := dq_op46 (dq_at (j := 44) dk_29e_2 rfl rfl)
theorem dL_law_1447 : decode cL_law 1447 = .ok (.aload_n 0, 1) := dq_op42 (dq_at (j := 45) dk_29e_2 rfl rfl)
theorem dL_law_1448 : decode cL_law 1448 = .ok (.iload 4, 2) := dq_op21 (dq_at (j := 46) dk_29e_2 rfl rfl) (dq_at (j := 47) dk_29e_2 rfl rfl) rfl
theorem dL_law_1450 : decode cL_law 1450 = .ok (.iconst 2, 1) := dq_op5 (dq_at (j := 48) dk_29e_2 rfl rfl)
theorem dL_law_1451 : decode cL_law 1451 = .ok (.iadd, 1) := dq_op96 (dq_at (j := 49) dk_29e_2 rfl rfl)
theorem dL_law_1452 : decode cL_law 1452 = .ok (.iaload, 1) := dq_op46 (dq_at (j := 50) dk_29e_2 rfl rfl)
theorem dL_law_1453 : decode cL_law 1453 = .ok (.invokevirtual 271, 3) := dq_op182 (dq_at (j := 51) dk_29e_2 rfl rfl) (dq_at (j := 52) dk_29e_2 rfl rfl) (dq_at (j := 53) dk_29e_2 rfl rfl) rfl
theorem dL_law_1456 : decode cL_law 1456 = .ok (.istore 6, 2) := dq_op54 (dq_at (j := 54) dk_29e_2 rfl rfl) (dq_at (j := 55) dk_29e_2 rfl rfl) rfl
theorem dL_law_1458 : decode cL_law 1458 = .ok (.goto 810, 3) := dq_op167 (dq_at (j := 56) dk_29e_2 rfl rfl) (dq_at (j := 57) dk_29e_2 rfl rfl) (dq_at (j := 58) dk_29e_2 rfl rfl) (by decide +kernel)
theorem dL_law_1461 : decode cL_law 1461 = .ok (.aload_n 1, 1) := dq_op43 (dq_at (j := 59) dk_29e_2 rfl rfl)
theorem dL_law_1462 : decode cL_law 1462 = .ok (.aload_n 0, 1) := dq_op42 (dq_at (j := 60) dk_29e_2 rfl rfl)
theorem dL_law_1463 : decode cL_law 1463 = .ok (.iload 4, 2) := dq_op21 (dq_at (j := 61) dk_29e_2 rfl rfl) (dq_at (j := 62) dk_29e_2 rfl rfl) rfl
theorem dL_law_1465 : decode cL_law 1465 = .ok (.iconst 1, 1) := dq_op4 (dq_at (j := 63) dk_29e_2 rfl rfl)
theorem dL_law_1466 : decode cL_law 1466 = .ok (.iadd, 1) := dq_op96 (dq_at (j := 64) dk_29e_2 rfl rfl)
theorem dL_law_1467 : decode cL_law 1467 = .ok (.iaload, 1) := dq_op46 (dq_at (j := 65) dk_29e_2 rfl rfl)
theorem dL_law_1468 : decode cL_law 1468 = .ok (.aload_n 0, 1) := dq_op42 (dq_at (j := 66) dk_29e_2 rfl rfl)
theorem dL_law_1469 : decode cL_law 1469 = .ok (.iload 4, 2) := dq_op21 (dq_at (j := 67) dk_29e_2 rfl rfl) (dq_at (j := 68) dk_29e_2 rfl rfl) rfl
theorem dL_law_1471 : decode cL_law 1471 = .ok (.iconst 2, 1) := dq_op5 (dq_at (j := 69) dk_29e_2 rfl rfl)
theorem dL_law_1472 : decode cL_law 1472 = .ok (.iadd, 1) := dq_op96 (dq_at (j := 70) dk_29e_2 rfl rfl)
theorem dL_law_1473 : decode cL_law 1473 = .ok (.iaload, 1) := dq_op46 (dq_at (j := 71) dk_29e_2 rfl rfl)
theorem dL_law_1474 : decode cL_law 1474 = .ok (.aload_n 0, 1) := dq_op42 (dq_at (j := 72) dk_29e_2 rfl rfl)
theorem dL_law_1475 : decode cL_law 1475 = .ok (.iload 4, 2) := dq_op21 (dq_at (j := 73) dk_29e_2 rfl rfl) (dq_at (j := 74) dk_29e_2 rfl rfl) rfl
theorem dL_law_1477 : decode cL_law 1477 = .ok (.iconst 3, 1) := dq_op6 (dq_at (j := 75) dk_29e_2 rfl rfl)
theorem dL_law_1478 : decode cL_law 1478 = .ok (.iadd, 1) := dq_op96 (dq_at (j := 76) dk_29e_2 rfl rfl)
theorem dL_law_1479 : decode cL_law 1479 = .ok (.iaload, 1) := dq_op46 (dq_at (j := 77) dk_29e_2 rfl rfl)
theorem dL_law_1480 : decode cL_law 1480 = .ok (.aload_n 3, 1) := dq_op45 (dq_at (j := 78) dk_29e_2 rfl rfl)
theorem dL_law_1481 : decode cL_law 1481 = .ok (.invokestatic 272, 3) := dq_op184 (dq_at (j := 79) dk_29e_2 rfl rfl) (dq_at (j := 80) dk_29e_2 rfl rfl) (dq_at (j := 81) dk_29e_2 rfl rfl) rfl
theorem dL_law_1484 : decode cL_law 1484 = .ok (.istore 5, 2) := dq_op54 (dq_at (j := 82) dk_29e_2 rfl rfl) (dq_at (j := 83) dk_29e_2 rfl rfl) rfl
theorem dL_law_1486 : decode cL_law 1486 = .ok (.aload_n 2, 1) := dq_op44 (dq_at (j := 84) dk_29e_2 rfl rfl)
theorem dL_law_1487 : decode cL_law 1487 = .ok (.aload_n 0, 1) := dq_op42 (dq_at (j := 85) dk_29e_2 rfl rfl)
theorem dL_law_1488 : decode cL_law 1488 = .ok (.iload 4, 2) := dq_op21 (dq_at (j := 86) dk_29e_2 rfl rfl) (dq_at (j := 87) dk_29e_2 rfl rfl) rfl
theorem dL_law_1490 : decode cL_law 1490 = .ok (.iconst 1, 1) := dq_op4 (dq_at (j := 88) dk_29e_2 rfl rfl)
theorem dL_law_1491 : decode cL_law 1491 = .ok (.iadd, 1) := dq_op96 (dq_at (j := 89) dk_29e_2 rfl rfl)
theorem dL_law_1492 : decode cL_law 1492 = .ok (.iaload, 1) := dq_op46 (dq_at (j := 90) dk_29e_2 rfl rfl)
theorem dL_law_1493 : decode cL_law 1493 = .ok (.aload_n 0, 1) := dq_op42 (dq_at (j := 91) dk_29e_2 rfl rfl)
theorem dL_law_1494 : decode cL_law 1494 = .ok (.iload 4, 2) := dq_op21 (dq_at (j := 92) dk_29e_2 rfl rfl) (dq_at (j := 93) dk_29e_2 rfl rfl) rfl
theorem dL_law_1496 : decode cL_law 1496 = .ok (.iconst 2, 1) := dq_op5 (dq_at (j := 94) dk_29e_2 rfl rfl)
theorem dL_law_1497 : decode cL_law 1497 = .ok (.iadd, 1) := dq_op96 (dq_at (j := 95) dk_29e_2 rfl rfl)
theorem dL_law_1498 : decode cL_law 1498 = .ok (.iaload, 1) := dq_op46 (dq_at (j := 96) dk_29e_2 rfl rfl)
theorem dL_law_1499 : decode cL_law 1499 = .ok (.aload_n 0, 1) := dq_op42 (dq_at (j := 97) dk_29e_2 rfl rfl)
theorem dL_law_1500 : decode cL_law 1500 = .ok (.iload 4, 2) := dq_op21 (dq_at (j := 98) dk_29e_2 rfl rfl) (dq_at (j := 99) dk_29e_2 rfl rfl) rfl
theorem dL_law_1502 : decode cL_law 1502 = .ok (.iconst 3, 1) := dq_op6 (dq_at (j := 100) dk_29e_2 rfl rfl)
theorem dL_law_1503 : decode cL_law 1503 = .ok (.iadd, 1) := dq_op96 (dq_at (j := 101) dk_29e_2 rfl rfl)
theorem dL_law_1504 : decode cL_law 1504 = .ok (.iaload, 1) := dq_op46 (dq_at (j := 102) dk_29e_2 rfl rfl)
theorem dL_law_1505 : decode cL_law 1505 = .ok (.invokevirtual 274, 3) := dq_op182 (dq_at (j := 103) dk_29e_2 rfl rfl) (dq_at (j := 104) dk_29e_2 rfl rfl) (dq_at (j := 105) dk_29e_2 rfl rfl) rfl
theorem dL_law_1508 : decode cL_law 1508 = .ok (.istore 6, 2) := dq_op54 (dq_at (j := 106) dk_29e_2 rfl rfl) (dq_at (j := 107) dk_29e_2 rfl rfl) rfl
theorem dL_law_1510 : decode cL_law 1510 = .ok (.goto 758, 3) := dq_op167 (dq_at (j := 108) dk_29e_2 rfl rfl) (dq_at (j := 109) dk_29e_2 rfl rfl) (dq_at (j := 110) dk_29e_2 rfl rfl) (by decide +kernel)
theorem dL_law_1513 : decode cL_law 1513 = .ok (.aload_n 1, 1) := dq_op43 (dq_at (j := 111) dk_29e_2 rfl rfl)
theorem dL_law_1514 : decode cL_law 1514 = .ok (.aload_n 0, 1) := dq_op42 (dq_at (j := 112) dk_29e_2 rfl rfl)
noncomputable def dq_end_29e : Nat := 0
