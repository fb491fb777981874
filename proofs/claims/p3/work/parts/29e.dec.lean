noncomputable def dz_p29e_1 : List (Nat × Instr × Nat) := [(1261, (.aload_n 1, 1)), (1262, (.aload_n 0, 1)), (1263, (.iload 4, 2)), (1265, (.iconst 1, 1)), (1266, (.iadd, 1)), (1267, (.iaload, 1)), (1268, (.aload_n 0, 1)), (1269, (.iload 4, 2)), (1271, (.iconst 2, 1)), (1272, (.iadd, 1)), (1273, (.iaload, 1)), (1274, (.aload_n 3, 1)), (1275, (.invokestatic 257, 3)), (1278, (.istore 5, 2)), (1280, (.aload_n 2, 1)), (1281, (.aload_n 0, 1)), (1282, (.iload 4, 2)), (1284, (.iconst 1, 1)), (1285, (.iadd, 1)), (1286, (.iaload, 1)), (1287, (.aload_n 0, 1)), (1288, (.iload 4, 2)), (1290, (.iconst 2, 1)), (1291, (.iadd, 1)), (1292, (.iaload, 1)), (1293, (.invokevirtual 259, 3)), (1296, (.istore 6, 2)), (1298, (.goto 970, 3)), (1301, (.aload_n 1, 1)), (1302, (.aload_n 0, 1)), (1303, (.iload 4, 2)), (1305, (.iconst 1, 1)), (1306, (.iadd, 1)), (1307, (.iaload, 1)), (1308, (.aload_n 0, 1)), (1309, (.iload 4, 2)), (1311, (.iconst 2, 1)), (1312, (.iadd, 1)), (1313, (.iaload, 1)), (1314, (.aload_n 3, 1))]
theorem dy_p29e_1 : dz_ok cL_law dz_p29e_1 = true := by decide +kernel
theorem dL_law_1261 : decode cL_law 1261 = .ok (.aload_n 1, 1) := dz_at (i := 0) dy_p29e_1 rfl
theorem dL_law_1262 : decode cL_law 1262 = .ok (.aload_n 0, 1) := dz_at (i := 1) dy_p29e_1 rfl
theorem dL_law_1263 : decode cL_law 1263 = .ok (.iload 4, 2) := dz_at (i := 2) dy_p29e_1 rfl
theorem dL_law_1265 : decode cL_law 1265 = .ok (.iconst 1, 1) := dz_at (i := 3) dy_p29e_1 rfl
theorem dL_law_1266 : decode cL_law 1266 = .ok (.iadd, 1) := dz_at (i := 4) dy_p29e_1 rfl
theorem dL_law_1267 : decode cL_law 1267 = .ok (.iaload, 1) := dz_at (i := 5) dy_p29e_1 rfl
theorem dL_law_1268 : decode cL_law 1268 = .ok (.aload_n 0, 1) := dz_at (i := 6) dy_p29e_1 rfl
theorem dL_law_1269 : decode cL_law 1269 = .ok (.iload 4, 2) := dz_at (i := 7) dy_p29e_1 rfl
theorem dL_law_1271 : decode cL_law 1271 = .ok (.iconst 2, 1) := dz_at (i := 8) dy_p29e_1 rfl
theorem dL_law_1272 : decode cL_law 1272 = .ok (.iadd, 1) := dz_at (i := 9) dy_p29e_1 rfl
theorem dL_law_1273 : decode cL_law 1273 = .ok (.iaload, 1) := dz_at (i := 10) dy_p29e_1 rfl
theorem dL_law_1274 : decode cL_law 1274 = .ok (.aload_n 3, 1) := dz_at (i := 11) dy_p29e_1 rfl
theorem dL_law_1275 : decode cL_law 1275 = .ok (.invokestatic 257, 3) := dz_at (i := 12) dy_p29e_1 rfl
theorem dL_law_1278 : decode cL_law 1278 = .ok (.istore 5, 2) := dz_at (i := 13) dy_p29e_1 rfl
theorem dL_law_1280 : decode cL_law 1280 = .ok (.aload_n 2, 1) := dz_at (i := 14) dy_p29e_1 rfl
theorem dL_law_1281 : decode cL_law 1281 = .ok (.aload_n 0, 1) := dz_at (i := 15) dy_p29e_1 rfl
theorem dL_law_1282 : decode cL_law 1282 = .ok (.iload 4, 2) := dz_at (i := 16) dy_p29e_1 rfl
theorem dL_law_1284 : decode cL_law 1284 = .ok (.iconst 1, 1) := dz_at (i := 17) dy_p29e_1 rfl
theorem dL_law_1285 : decode cL_law 1285 = .ok (.iadd, 1) := dz_at (i := 18) dy_p29e_1 rfl
theorem dL_law_1286 : decode cL_law 1286 = .ok (.iaload, 1) := dz_at (i := 19) dy_p29e_1 rfl
theorem dL_law_1287 : decode cL_law 1287 = .ok (.aload_n 0, 1) := dz_at (i := 20) dy_p29e_1 rfl
theorem dL_law_1288 : decode cL_law 1288 = .ok (.iload 4, 2) := dz_at (i := 21) dy_p29e_1 rfl
theorem dL_law_1290 : decode cL_law 1290 = .ok (.iconst 2, 1) := dz_at (i := 22) dy_p29e_1 rfl
theorem dL_law_1291 : decode cL_law 1291 = .ok (.iadd, 1) := dz_at (i := 23) dy_p29e_1 rfl
theorem dL_law_1292 : decode cL_law 1292 = .ok (.iaload, 1) := dz_at (i := 24) dy_p29e_1 rfl
theorem dL_law_1293 : decode cL_law 1293 = .ok (.invokevirtual 259, 3) := dz_at (i := 25) dy_p29e_1 rfl
theorem dL_law_1296 : decode cL_law 1296 = .ok (.istore 6, 2) := dz_at (i := 26) dy_p29e_1 rfl
theorem dL_law_1298 : decode cL_law 1298 = .ok (.goto 970, 3) := dz_at (i := 27) dy_p29e_1 rfl
theorem dL_law_1301 : decode cL_law 1301 = .ok (.aload_n 1, 1) := dz_at (i := 28) dy_p29e_1 rfl
theorem dL_law_1302 : decode cL_law 1302 = .ok (.aload_n 0, 1) := dz_at (i := 29) dy_p29e_1 rfl
theorem dL_law_1303 : decode cL_law 1303 = .ok (.iload 4, 2) := dz_at (i := 30) dy_p29e_1 rfl
theorem dL_law_1305 : decode cL_law 1305 = .ok (.iconst 1, 1) := dz_at (i := 31) dy_p29e_1 rfl
theorem dL_law_1306 : decode cL_law 1306 = .ok (.iadd, 1) := dz_at (i := 32) dy_p29e_1 rfl
theorem dL_law_1307 : decode cL_law 1307 = .ok (.iaload, 1) := dz_at (i := 33) dy_p29e_1 rfl
theorem dL_law_1308 : decode cL_law 1308 = .ok (.aload_n 0, 1) := dz_at (i := 34) dy_p29e_1 rfl
theorem dL_law_1309 : decode cL_law 1309 = .ok (.iload 4, 2) := dz_at (i := 35) dy_p29e_1 rfl
theorem dL_law_1311 : decode cL_law 1311 = .ok (.iconst 2, 1) := dz_at (i := 36) dy_p29e_1 rfl
theorem dL_law_1312 : decode cL_law 1312 = .ok (.iadd, 1) := dz_at (i := 37) dy_p29e_1 rfl
theorem dL_law_1313 : decode cL_law 1313 = .ok (.iaload, 1) := dz_at (i := 38) dy_p29e_1 rfl
theorem dL_law_1314 : decode cL_law 1314 = .ok (.aload_n 3, 1) := dz_at (i := 39) dy_p29e_1 rfl
noncomputable def dz_p29e_2 : List (Nat × Instr × Nat) := [(1315, (.invokestatic 260, 3)), (1318, (.istore 5, 2)), (1320, (.aload_n 2, 1)), (1321, (.aload_n 0, 1)), (1322, (.iload 4, 2)), (1324, (.iconst 1, 1)), (1325, (.iadd, 1)), (1326, (.iaload, 1)), (1327, (.aload_n 0, 1)), (1328, (.iload 4, 2)), (1330, (.iconst 2, 1)), (1331, (.iadd, 1)), (1332, (.iaload, 1)), (1333, (.invokevirtual 262, 3)), (1336, (.istore 6, 2)), (1338, (.goto 930, 3)), (1341, (.aload_n 1, 1)), (1342, (.aload_n 0, 1)), (1343, (.iload 4, 2)), (1345, (.iconst 1, 1)), (1346, (.iadd, 1)), (1347, (.iaload, 1)), (1348, (.aload_n 0, 1)), (1349, (.iload 4, 2)), (1351, (.iconst 2, 1)), (1352, (.iadd, 1)), (1353, (.iaload, 1)), (1354, (.aload_n 3, 1)), (1355, (.invokestatic 263, 3)), (1358, (.istore 5, 2)), (1360, (.aload_n 2, 1)), (1361, (.aload_n 0, 1)), (1362, (.iload 4, 2)), (1364, (.iconst 1, 1)), (1365, (.iadd, 1)), (1366, (.iaload, 1)), (1367, (.aload_n 0, 1)), (1368, (.iload 4, 2)), (1370, (.iconst 2, 1)), (1371, (.iadd, 1))]
theorem dy_p29e_2 : dz_ok cL_law dz_p29e_2 = true := by decide +kernel
theorem dL_law_1315 : decode cL_law 1315 = .ok (.invokestatic 260, 3) := dz_at (i := 0) dy_p29e_2 rfl
theorem dL_law_1318 : decode cL_law 1318 = .ok (.istore 5, 2) := dz_at (i := 1) dy_p29e_2 rfl
theorem dL_law_1320 : decode cL_law 1320 = .ok (.aload_n 2, 1) := dz_at (i := 2) dy_p29e_2 rfl
theorem dL_law_1321 : decode cL_law 1321 = .ok (.aload_n 0, 1) := dz_at (i := 3) dy_p29e_2 rfl
theorem dL_law_1322 : decode cL_law 1322 = .ok (.iload 4, 2) := dz_at (i := 4) dy_p29e_2 rfl
theorem dL_law_1324 : decode cL_law 1324 = .ok (.iconst 1, 1) := dz_at (i := 5) dy_p29e_2 rfl
theorem dL_law_1325 : decode cL_law 1325 = .ok (.iadd, 1) := dz_at (i := 6) dy_p29e_2 rfl
theorem dL_law_1326 : decode cL_law 1326 = .ok (.iaload, 1) := dz_at (i := 7) dy_p29e_2 rfl
theorem dL_law_1327 : decode cL_law 1327 = .ok (.aload_n 0, 1) := dz_at (i := 8) dy_p29e_2 rfl
theorem dL_law_1328 : decode cL_law 1328 = .ok (.iload 4, 2) := dz_at (i := 9) dy_p29e_2 rfl
theorem dL_law_1330 : decode cL_law 1330 = .ok (.iconst 2, 1) := dz_at (i := 10) dy_p29e_2 rfl
theorem dL_law_1331 : decode cL_law 1331 = .ok (.iadd, 1) := dz_at (i := 11) dy_p29e_2 rfl
theorem dL_law_1332 : decode cL_law 1332 = .ok (.iaload, 1) := dz_at (i := 12) dy_p29e_2 rfl
theorem dL_law_1333 : decode cL_law 1333 = .ok (.invokevirtual 262, 3) := dz_at (i := 13) dy_p29e_2 rfl
theorem dL_law_1336 : decode cL_law 1336 = .ok (.istore 6, 2) := dz_at (i := 14) dy_p29e_2 rfl
theorem dL_law_1338 : decode cL_law 1338 = .ok (.goto 930, 3) := dz_at (i := 15) dy_p29e_2 rfl
theorem dL_law_1341 : decode cL_law 1341 = .ok (.aload_n 1, 1) := dz_at (i := 16) dy_p29e_2 rfl
theorem dL_law_1342 : decode cL_law 1342 = .ok (.aload_n 0, 1) := dz_at (i := 17) dy_p29e_2 rfl
theorem dL_law_1343 : decode cL_law 1343 = .ok (.iload 4, 2) := dz_at (i := 18) dy_p29e_2 rfl
theorem dL_law_1345 : decode cL_law 1345 = .ok (.iconst 1, 1) := dz_at (i := 19) dy_p29e_2 rfl
theorem dL_law_1346 : decode cL_law 1346 = .ok (.iadd, 1) := dz_at (i := 20) dy_p29e_2 rfl
theorem dL_law_1347 : decode cL_law 1347 = .ok (.iaload, 1) := dz_at (i := 21) dy_p29e_2 rfl
theorem dL_law_1348 : decode cL_law 1348 = .ok (.aload_n 0, 1) := dz_at (i := 22) dy_p29e_2 rfl
theorem dL_law_1349 : decode cL_law 1349 = .ok (.iload 4, 2) := dz_at (i := 23) dy_p29e_2 rfl
theorem dL_law_1351 : decode cL_law 1351 = .ok (.iconst 2, 1) := dz_at (i := 24) dy_p29e_2 rfl
theorem dL_law_1352 : decode cL_law 1352 = .ok (.iadd, 1) := dz_at (i := 25) dy_p29e_2 rfl
theorem dL_law_1353 : decode cL_law 1353 = .ok (.iaload, 1) := dz_at (i := 26) dy_p29e_2 rfl
theorem dL_law_1354 : decode cL_law 1354 = .ok (.aload_n 3, 1) := dz_at (i := 27) dy_p29e_2 rfl
theorem dL_law_1355 : decode cL_law 1355 = .ok (.invokestatic 263, 3) := dz_at (i := 28) dy_p29e_2 rfl
theorem dL_law_1358 : decode cL_law 1358 = .ok (.istore 5, 2) := dz_at (i := 29) dy_p29e_2 rfl
theorem dL_law_1360 : decode cL_law 1360 = .ok (.aload_n 2, 1) := dz_at (i := 30) dy_p29e_2 rfl
theorem dL_law_1361 : decode cL_law 1361 = .ok (.aload_n 0, 1) := dz_at (i := 31) dy_p29e_2 rfl
theorem dL_law_1362 : decode cL_law 1362 = .ok (.iload 4, 2) := dz_at (i := 32) dy_p29e_2 rfl
theorem dL_law_1364 : decode cL_law 1364 = .ok (.iconst 1, 1) := dz_at (i := 33) dy_p29e_2 rfl
theorem dL_law_1365 : decode cL_law 1365 = .ok (.iadd, 1) := dz_at (i := 34) dy_p29e_2 rfl
theorem dL_law_1366 : decode cL_law 1366 = .ok (.iaload, 1) := dz_at (i := 35) dy_p29e_2 rfl
theorem dL_law_1367 : decode cL_law 1367 = .ok (.aload_n 0, 1) := dz_at (i := 36) dy_p29e_2 rfl
theorem dL_law_1368 : decode cL_law 1368 = .ok (.iload 4, 2) := dz_at (i := 37) dy_p29e_2 rfl
theorem dL_law_1370 : decode cL_law 1370 = .ok (.iconst 2, 1) := dz_at (i := 38) dy_p29e_2 rfl
theorem dL_law_1371 : decode cL_law 1371 = .ok (.iadd, 1) := dz_at (i := 39) dy_p29e_2 rfl
noncomputable def dz_p29e_3 : List (Nat × Instr × Nat) := [(1372, (.iaload, 1)), (1373, (.invokevirtual 265, 3)), (1376, (.istore 6, 2)), (1378, (.goto 890, 3)), (1381, (.aload_n 1, 1)), (1382, (.aload_n 0, 1)), (1383, (.iload 4, 2)), (1385, (.iconst 1, 1)), (1386, (.iadd, 1)), (1387, (.iaload, 1)), (1388, (.aload_n 0, 1)), (1389, (.iload 4, 2)), (1391, (.iconst 2, 1)), (1392, (.iadd, 1)), (1393, (.iaload, 1)), (1394, (.aload_n 3, 1)), (1395, (.invokestatic 266, 3)), (1398, (.istore 5, 2)), (1400, (.aload_n 2, 1)), (1401, (.aload_n 0, 1)), (1402, (.iload 4, 2)), (1404, (.iconst 1, 1)), (1405, (.iadd, 1)), (1406, (.iaload, 1)), (1407, (.aload_n 0, 1)), (1408, (.iload 4, 2)), (1410, (.iconst 2, 1)), (1411, (.iadd, 1)), (1412, (.iaload, 1)), (1413, (.invokevirtual 268, 3)), (1416, (.istore 6, 2)), (1418, (.goto 850, 3)), (1421, (.aload_n 1, 1)), (1422, (.aload_n 0, 1)), (1423, (.iload 4, 2)), (1425, (.iconst 1, 1)), (1426, (.iadd, 1)), (1427, (.iaload, 1)), (1428, (.aload_n 0, 1)), (1429, (.iload 4, 2))]
theorem dy_p29e_3 : dz_ok cL_law dz_p29e_3 = true := by decide +kernel
theorem dL_law_1372 : decode cL_law 1372 = .ok (.iaload, 1) := dz_at (i := 0) dy_p29e_3 rfl
theorem dL_law_1373 : decode cL_law 1373 = .ok (.invokevirtual 265, 3) := dz_at (i := 1) dy_p29e_3 rfl
theorem dL_law_1376 : decode cL_law 1376 = .ok (.istore 6, 2) := dz_at (i := 2) dy_p29e_3 rfl
theorem dL_law_1378 : decode cL_law 1378 = .ok (.goto 890, 3) := dz_at (i := 3) dy_p29e_3 rfl
theorem dL_law_1381 : decode cL_law 1381 = .ok (.aload_n 1, 1) := dz_at (i := 4) dy_p29e_3 rfl
theorem dL_law_1382 : decode cL_law 1382 = .ok (.aload_n 0, 1) := dz_at (i := 5) dy_p29e_3 rfl
theorem dL_law_1383 : decode cL_law 1383 = .ok (.iload 4, 2) := dz_at (i := 6) dy_p29e_3 rfl
theorem dL_law_1385 : decode cL_law 1385 = .ok (.iconst 1, 1) := dz_at (i := 7) dy_p29e_3 rfl
theorem dL_law_1386 : decode cL_law 1386 = .ok (.iadd, 1) := dz_at (i := 8) dy_p29e_3 rfl
theorem dL_law_1387 : decode cL_law 1387 = .ok (.iaload, 1) := dz_at (i := 9) dy_p29e_3 rfl
theorem dL_law_1388 : decode cL_law 1388 = .ok (.aload_n 0, 1) := dz_at (i := 10) dy_p29e_3 rfl
theorem dL_law_1389 : decode cL_law 1389 = .ok (.iload 4, 2) := dz_at (i := 11) dy_p29e_3 rfl
theorem dL_law_1391 : decode cL_law 1391 = .ok (.iconst 2, 1) := dz_at (i := 12) dy_p29e_3 rfl
theorem dL_law_1392 : decode cL_law 1392 = .ok (.iadd, 1) := dz_at (i := 13) dy_p29e_3 rfl
theorem dL_law_1393 : decode cL_law 1393 = .ok (.iaload, 1) := dz_at (i := 14) dy_p29e_3 rfl
theorem dL_law_1394 : decode cL_law 1394 = .ok (.aload_n 3, 1) := dz_at (i := 15) dy_p29e_3 rfl
theorem dL_law_1395 : decode cL_law 1395 = .ok (.invokestatic 266, 3) := dz_at (i := 16) dy_p29e_3 rfl
theorem dL_law_1398 : decode cL_law 1398 = .ok (.istore 5, 2) := dz_at (i := 17) dy_p29e_3 rfl
theorem dL_law_1400 : decode cL_law 1400 = .ok (.aload_n 2, 1) := dz_at (i := 18) dy_p29e_3 rfl
theorem dL_law_1401 : decode cL_law 1401 = .ok (.aload_n 0, 1) := dz_at (i := 19) dy_p29e_3 rfl
theorem dL_law_1402 : decode cL_law 1402 = .ok (.iload 4, 2) := dz_at (i := 20) dy_p29e_3 rfl
theorem dL_law_1404 : decode cL_law 1404 = .ok (.iconst 1, 1) := dz_at (i := 21) dy_p29e_3 rfl
theorem dL_law_1405 : decode cL_law 1405 = .ok (.iadd, 1) := dz_at (i := 22) dy_p29e_3 rfl
theorem dL_law_1406 : decode cL_law 1406 = .ok (.iaload, 1) := dz_at (i := 23) dy_p29e_3 rfl
theorem dL_law_1407 : decode cL_law 1407 = .ok (.aload_n 0, 1) := dz_at (i := 24) dy_p29e_3 rfl
theorem dL_law_1408 : decode cL_law 1408 = .ok (.iload 4, 2) := dz_at (i := 25) dy_p29e_3 rfl
theorem dL_law_1410 : decode cL_law 1410 = .ok (.iconst 2, 1) := dz_at (i := 26) dy_p29e_3 rfl
theorem dL_law_1411 : decode cL_law 1411 = .ok (.iadd, 1) := dz_at (i := 27) dy_p29e_3 rfl
theorem dL_law_1412 : decode cL_law 1412 = .ok (.iaload, 1) := dz_at (i := 28) dy_p29e_3 rfl
theorem dL_law_1413 : decode cL_law 1413 = .ok (.invokevirtual 268, 3) := dz_at (i := 29) dy_p29e_3 rfl
theorem dL_law_1416 : decode cL_law 1416 = .ok (.istore 6, 2) := dz_at (i := 30) dy_p29e_3 rfl
theorem dL_law_1418 : decode cL_law 1418 = .ok (.goto 850, 3) := dz_at (i := 31) dy_p29e_3 rfl
theorem dL_law_1421 : decode cL_law 1421 = .ok (.aload_n 1, 1) := dz_at (i := 32) dy_p29e_3 rfl
theorem dL_law_1422 : decode cL_law 1422 = .ok (.aload_n 0, 1) := dz_at (i := 33) dy_p29e_3 rfl
theorem dL_law_1423 : decode cL_law 1423 = .ok (.iload 4, 2) := dz_at (i := 34) dy_p29e_3 rfl
theorem dL_law_1425 : decode cL_law 1425 = .ok (.iconst 1, 1) := dz_at (i := 35) dy_p29e_3 rfl
theorem dL_law_1426 : decode cL_law 1426 = .ok (.iadd, 1) := dz_at (i := 36) dy_p29e_3 rfl
theorem dL_law_1427 : decode cL_law 1427 = .ok (.iaload, 1) := dz_at (i := 37) dy_p29e_3 rfl
theorem dL_law_1428 : decode cL_law 1428 = .ok (.aload_n 0, 1) := dz_at (i := 38) dy_p29e_3 rfl
theorem dL_law_1429 : decode cL_law 1429 = .ok (.iload 4, 2) := dz_at (i := 39) dy_p29e_3 rfl
noncomputable def dz_p29e_4 : List (Nat × Instr × Nat) := [(1431, (.iconst 2, 1)), (1432, (.iadd, 1)), (1433, (.iaload, 1)), (1434, (.aload_n 3, 1)), (1435, (.invokestatic 269, 3)), (1438, (.istore 5, 2)), (1440, (.aload_n 2, 1)), (1441, (.aload_n 0, 1)), (1442, (.iload 4, 2)), (1444, (.iconst 1, 1)), (1445, (.iadd, 1)), (1446, (.iaload, 1)), (1447, (.aload_n 0, 1)), (1448, (.iload 4, 2)), (1450, (.iconst 2, 1)), (1451, (.iadd, 1)), (1452, (.iaload, 1)), (1453, (.invokevirtual 271, 3)), (1456, (.istore 6, 2)), (1458, (.goto 810, 3)), (1461, (.aload_n 1, 1)), (1462, (.aload_n 0, 1)), (1463, (.iload 4, 2)), (1465, (.iconst 1, 1)), (1466, (.iadd, 1)), (1467, (.iaload, 1)), (1468, (.aload_n 0, 1)), (1469, (.iload 4, 2)), (1471, (.iconst 2, 1)), (1472, (.iadd, 1)), (1473, (.iaload, 1)), (1474, (.aload_n 0, 1)), (1475, (.iload 4, 2)), (1477, (.iconst 3, 1)), (1478, (.iadd, 1)), (1479, (.iaload, 1)), (1480, (.aload_n 3, 1)), (1481, (.invokestatic 272, 3)), (1484, (.istore 5, 2)), (1486, (.aload_n 2, 1))]
theorem dy_p29e_4 : dz_ok cL_law dz_p29e_4 = true := by decide +kernel
theorem dL_law_1431 : decode cL_law 1431 = .ok (.iconst 2, 1) := dz_at (i := 0) dy_p29e_4 rfl
theorem dL_law_1432 : decode cL_law 1432 = .ok (.iadd, 1) := dz_at (i := 1) dy_p29e_4 rfl
theorem dL_law_1433 : decode cL_law 1433 = .ok (.iaload, 1) := dz_at (i := 2) dy_p29e_4 rfl
theorem dL_law_1434 : decode cL_law 1434 = .ok (.aload_n 3, 1) := dz_at (i := 3) dy_p29e_4 rfl
theorem dL_law_1435 : decode cL_law 1435 = .ok (.invokestatic 269, 3) := dz_at (i := 4) dy_p29e_4 rfl
theorem dL_law_1438 : decode cL_law 1438 = .ok (.istore 5, 2) := dz_at (i := 5) dy_p29e_4 rfl
theorem dL_law_1440 : decode cL_law 1440 = .ok (.aload_n 2, 1) := dz_at (i := 6) dy_p29e_4 rfl
theorem dL_law_1441 : decode cL_law 1441 = .ok (.aload_n 0, 1) := dz_at (i := 7) dy_p29e_4 rfl
theorem dL_law_1442 : decode cL_law 1442 = .ok (.iload 4, 2) := dz_at (i := 8) dy_p29e_4 rfl
theorem dL_law_1444 : decode cL_law 1444 = .ok (.iconst 1, 1) := dz_at (i := 9) dy_p29e_4 rfl
theorem dL_law_1445 : decode cL_law 1445 = .ok (.iadd, 1) := dz_at (i := 10) dy_p29e_4 rfl
theorem dL_law_1446 : decode cL_law 1446 = .ok (.iaload, 1) := dz_at (i := 11) dy_p29e_4 rfl
theorem dL_law_1447 : decode cL_law 1447 = .ok (.aload_n 0, 1) := dz_at (i := 12) dy_p29e_4 rfl
theorem dL_law_1448 : decode cL_law 1448 = .ok (.iload 4, 2) := dz_at (i := 13) dy_p29e_4 rfl
theorem dL_law_1450 : decode cL_law 1450 = .ok (.iconst 2, 1) := dz_at (i := 14) dy_p29e_4 rfl
theorem dL_law_1451 : decode cL_law 1451 = .ok (.iadd, 1) := dz_at (i := 15) dy_p29e_4 rfl
theorem dL_law_1452 : decode cL_law 1452 = .ok (.iaload, 1) := dz_at (i := 16) dy_p29e_4 rfl
theorem dL_law_1453 : decode cL_law 1453 = .ok (.invokevirtual 271, 3) := dz_at (i := 17) dy_p29e_4 rfl
theorem dL_law_1456 : decode cL_law 1456 = .ok (.istore 6, 2) := dz_at (i := 18) dy_p29e_4 rfl
theorem dL_law_1458 : decode cL_law 1458 = .ok (.goto 810, 3) := dz_at (i := 19) dy_p29e_4 rfl
theorem dL_law_1461 : decode cL_law 1461 = .ok (.aload_n 1, 1) := dz_at (i := 20) dy_p29e_4 rfl
theorem dL_law_1462 : decode cL_law 1462 = .ok (.aload_n 0, 1) := dz_at (i := 21) dy_p29e_4 rfl
theorem dL_law_1463 : decode cL_law 1463 = .ok (.iload 4, 2) := dz_at (i := 22) dy_p29e_4 rfl
theorem dL_law_1465 : decode cL_law 1465 = .ok (.iconst 1, 1) := dz_at (i := 23) dy_p29e_4 rfl
theorem dL_law_1466 : decode cL_law 1466 = .ok (.iadd, 1) := dz_at (i := 24) dy_p29e_4 rfl
theorem dL_law_1467 : decode cL_law 1467 = .ok (.iaload, 1) := dz_at (i := 25) dy_p29e_4 rfl
theorem dL_law_1468 : decode cL_law 1468 = .ok (.aload_n 0, 1) := dz_at (i := 26) dy_p29e_4 rfl
theorem dL_law_1469 : decode cL_law 1469 = .ok (.iload 4, 2) := dz_at (i := 27) dy_p29e_4 rfl
theorem dL_law_1471 : decode cL_law 1471 = .ok (.iconst 2, 1) := dz_at (i := 28) dy_p29e_4 rfl
theorem dL_law_1472 : decode cL_law 1472 = .ok (.iadd, 1) := dz_at (i := 29) dy_p29e_4 rfl
theorem dL_law_1473 : decode cL_law 1473 = .ok (.iaload, 1) := dz_at (i := 30) dy_p29e_4 rfl
theorem dL_law_1474 : decode cL_law 1474 = .ok (.aload_n 0, 1) := dz_at (i := 31) dy_p29e_4 rfl
theorem dL_law_1475 : decode cL_law 1475 = .ok (.iload 4, 2) := dz_at (i := 32) dy_p29e_4 rfl
theorem dL_law_1477 : decode cL_law 1477 = .ok (.iconst 3, 1) := dz_at (i := 33) dy_p29e_4 rfl
theorem dL_law_1478 : decode cL_law 1478 = .ok (.iadd, 1) := dz_at (i := 34) dy_p29e_4 rfl
theorem dL_law_1479 : decode cL_law 1479 = .ok (.iaload, 1) := dz_at (i := 35) dy_p29e_4 rfl
theorem dL_law_1480 : decode cL_law 1480 = .ok (.aload_n 3, 1) := dz_at (i := 36) dy_p29e_4 rfl
theorem dL_law_1481 : decode cL_law 1481 = .ok (.invokestatic 272, 3) := dz_at (i := 37) dy_p29e_4 rfl
theorem dL_law_1484 : decode cL_law 1484 = .ok (.istore 5, 2) := dz_at (i := 38) dy_p29e_4 rfl
theorem dL_law_1486 : decode cL_law 1486 = .ok (.aload_n 2, 1) := dz_at (i := 39) dy_p29e_4 rfl
noncomputable def dz_p29e_5 : List (Nat × Instr × Nat) := [(1487, (.aload_n 0, 1)), (1488, (.iload 4, 2)), (1490, (.iconst 1, 1)), (1491, (.iadd, 1)), (1492, (.iaload, 1)), (1493, (.aload_n 0, 1)), (1494, (.iload 4, 2)), (1496, (.iconst 2, 1)), (1497, (.iadd, 1)), (1498, (.iaload, 1)), (1499, (.aload_n 0, 1)), (1500, (.iload 4, 2)), (1502, (.iconst 3, 1)), (1503, (.iadd, 1)), (1504, (.iaload, 1)), (1505, (.invokevirtual 274, 3)), (1508, (.istore 6, 2)), (1510, (.goto 758, 3)), (1513, (.aload_n 1, 1)), (1514, (.aload_n 0, 1))]
theorem dy_p29e_5 : dz_ok cL_law dz_p29e_5 = true := by decide +kernel
theorem dL_law_1487 : decode cL_law 1487 = .ok (.aload_n 0, 1) := dz_at (i := 0) dy_p29e_5 rfl
theorem dL_law_1488 : decode cL_law 1488 = .ok (.iload 4, 2) := dz_at (i := 1) dy_p29e_5 rfl
theorem dL_law_1490 : decode cL_law 1490 = .ok (.iconst 1, 1) := dz_at (i := 2) dy_p29e_5 rfl
theorem dL_law_1491 : decode cL_law 1491 = .ok (.iadd, 1) := dz_at (i := 3) dy_p29e_5 rfl
theorem dL_law_1492 : decode cL_law 1492 = .ok (.iaload, 1) := dz_at (i := 4) dy_p29e_5 rfl
theorem dL_law_1493 : decode cL_law 1493 = .ok (.aload_n 0, 1) := dz_at (i := 5) dy_p29e_5 rfl
theorem dL_law_1494 : decode cL_law 1494 = .ok (.iload 4, 2) := dz_at (i := 6) dy_p29e_5 rfl
theorem dL_law_1496 : decode cL_law 1496 = .ok (.iconst 2, 1) := dz_at (i := 7) dy_p29e_5 rfl
theorem dL_law_1497 : decode cL_law 1497 = .ok (.iadd, 1) := dz_at (i := 8) dy_p29e_5 rfl
theorem dL_law_1498 : decode cL_law 1498 = .ok (.iaload, 1) := dz_at (i := 9) dy_p29e_5 rfl
theorem dL_law_1499 : decode cL_law 1499 = .ok (.aload_n 0, 1) := dz_at (i := 10) dy_p29e_5 rfl
theorem dL_law_1500 : decode cL_law 1500 = .ok (.iload 4, 2) := dz_at (i := 11) dy_p29e_5 rfl
theorem dL_law_1502 : decode cL_law 1502 = .ok (.iconst 3, 1) := dz_at (i := 12) dy_p29e_5 rfl
theorem dL_law_1503 : decode cL_law 1503 = .ok (.iadd, 1) := dz_at (i := 13) dy_p29e_5 rfl
theorem dL_law_1504 : decode cL_law 1504 = .ok (.iaload, 1) := dz_at (i := 14) dy_p29e_5 rfl
theorem dL_law_1505 : decode cL_law 1505 = .ok (.invokevirtual 274, 3) := dz_at (i := 15) dy_p29e_5 rfl
theorem dL_law_1508 : decode cL_law 1508 = .ok (.istore 6, 2) := dz_at (i := 16) dy_p29e_5 rfl
theorem dL_law_1510 : decode cL_law 1510 = .ok (.goto 758, 3) := dz_at (i := 17) dy_p29e_5 rfl
theorem dL_law_1513 : decode cL_law 1513 = .ok (.aload_n 1, 1) := dz_at (i := 18) dy_p29e_5 rfl
theorem dL_law_1514 : decode cL_law 1514 = .ok (.aload_n 0, 1) := dz_at (i := 19) dy_p29e_5 rfl
