noncomputable def dz_p29a_1 : List (Nat × Instr × Nat) := [(0, (.new 8, 3)), (3, (.dup, 1)), (4, (.invokespecial 171, 3)), (7, (.astore_n 1, 1)), (8, (.new 172, 3)), (11, (.dup, 1)), (12, (.invokespecial 174, 3)), (15, (.astore_n 2, 1)), (16, (.new 14, 3)), (19, (.dup, 1)), (20, (.invokespecial 175, 3)), (23, (.astore_n 3, 1)), (24, (.iconst 0, 1)), (25, (.istore 4, 2)), (27, (.iload 4, 2)), (29, (.aload_n 0, 1)), (30, (.arraylength, 1)), (31, (.iconst 4, 1)), (32, (.isub, 1)), (33, (.if_icmp .gt 2241, 3)), (36, (.aload_n 0, 1)), (37, (.iload 4, 2)), (39, (.iaload, 1)), (40, (.bipush 63, 2)), (42, (.iand, 1)), (43, (.tableswitch 2225 0 48 #[209, 261, 330, 370, 410, 450, 502, 554, 606, 634, 690, 718, 746, 774, 826, 878, 918, 958, 1026, 1066, 1106, 1134, 1190, 1218, 1258, 1298, 1338, 1378, 1418, 1470, 1522, 1574, 1602, 1658, 1686, 1714, 1766, 1818, 1858, 1898, 1966, 2006, 2046, 2074, 2130, 2158, 2186, 2199, 2212], 209)), (252, (.aload_n 1, 1)), (253, (.aload_n 0, 1)), (254, (.iload 4, 2)), (256, (.iconst 1, 1)), (257, (.iadd, 1)), (258, (.iaload, 1)), (259, (.aload_n 0, 1)), (260, (.iload 4, 2)), (262, (.iconst 2, 1)), (263, (.iadd, 1)), (264, (.iaload, 1)), (265, (.aload_n 0, 1)), (266, (.iload 4, 2)), (268, (.iconst 3, 1))]
theorem dy_p29a_1 : dz_ok cL_law dz_p29a_1 = true := by decide +kernel
theorem dL_law_0 : decode cL_law 0 = .ok (.new 8, 3) := dz_at (i := 0) dy_p29a_1 rfl
theorem dL_law_3 : decode cL_law 3 = .ok (.dup, 1) := dz_at (i := 1) dy_p29a_1 rfl
theorem dL_law_4 : decode cL_law 4 = .ok (.invokespecial 171, 3) := dz_at (i := 2) dy_p29a_1 rfl
theorem dL_law_7 : decode cL_law 7 = .ok (.astore_n 1, 1) := dz_at (i := 3) dy_p29a_1 rfl
theorem dL_law_8 : decode cL_law 8 = .ok (.new 172, 3) := dz_at (i := 4) dy_p29a_1 rfl
theorem dL_law_11 : decode cL_law 11 = .ok (.dup, 1) := dz_at (i := 5) dy_p29a_1 rfl
theorem dL_law_12 : decode cL_law 12 = .ok (.invokespecial 174, 3) := dz_at (i := 6) dy_p29a_1 rfl
theorem dL_law_15 : decode cL_law 15 = .ok (.astore_n 2, 1) := dz_at (i := 7) dy_p29a_1 rfl
theorem dL_law_16 : decode cL_law 16 = .ok (.new 14, 3) := dz_at (i := 8) dy_p29a_1 rfl
theorem dL_law_19 : decode cL_law 19 = .ok (.dup, 1) := dz_at (i := 9) dy_p29a_1 rfl
theorem dL_law_20 : decode cL_law 20 = .ok (.invokespecial 175, 3) := dz_at (i := 10) dy_p29a_1 rfl
theorem dL_law_23 : decode cL_law 23 = .ok (.astore_n 3, 1) := dz_at (i := 11) dy_p29a_1 rfl
theorem dL_law_24 : decode cL_law 24 = .ok (.iconst 0, 1) := dz_at (i := 12) dy_p29a_1 rfl
theorem dL_law_25 : decode cL_law 25 = .ok (.istore 4, 2) := dz_at (i := 13) dy_p29a_1 rfl
theorem dL_law_27 : decode cL_law 27 = .ok (.iload 4, 2) := dz_at (i := 14) dy_p29a_1 rfl
theorem dL_law_29 : decode cL_law 29 = .ok (.aload_n 0, 1) := dz_at (i := 15) dy_p29a_1 rfl
theorem dL_law_30 : decode cL_law 30 = .ok (.arraylength, 1) := dz_at (i := 16) dy_p29a_1 rfl
theorem dL_law_31 : decode cL_law 31 = .ok (.iconst 4, 1) := dz_at (i := 17) dy_p29a_1 rfl
theorem dL_law_32 : decode cL_law 32 = .ok (.isub, 1) := dz_at (i := 18) dy_p29a_1 rfl
theorem dL_law_33 : decode cL_law 33 = .ok (.if_icmp .gt 2241, 3) := dz_at (i := 19) dy_p29a_1 rfl
theorem dL_law_36 : decode cL_law 36 = .ok (.aload_n 0, 1) := dz_at (i := 20) dy_p29a_1 rfl
theorem dL_law_37 : decode cL_law 37 = .ok (.iload 4, 2) := dz_at (i := 21) dy_p29a_1 rfl
theorem dL_law_39 : decode cL_law 39 = .ok (.iaload, 1) := dz_at (i := 22) dy_p29a_1 rfl
theorem dL_law_40 : decode cL_law 40 = .ok (.bipush 63, 2) := dz_at (i := 23) dy_p29a_1 rfl
theorem dL_law_42 : decode cL_law 42 = .ok (.iand, 1) := dz_at (i := 24) dy_p29a_1 rfl
theorem dL_law_43 : decode cL_law 43 = .ok (.tableswitch 2225 0 48 #[209, 261, 330, 370, 410, 450, 502, 554, 606, 634, 690, 718, 746, 774, 826, 878, 918, 958, 1026, 1066, 1106, 1134, 1190, 1218, 1258, 1298, 1338, 1378, 1418, 1470, 1522, 1574, 1602, 1658, 1686, 1714, 1766, 1818, 1858, 1898, 1966, 2006, 2046, 2074, 2130, 2158, 2186, 2199, 2212], 209) := dz_at (i := 25) dy_p29a_1 rfl
theorem dL_law_252 : decode cL_law 252 = .ok (.aload_n 1, 1) := dz_at (i := 26) dy_p29a_1 rfl
theorem dL_law_253 : decode cL_law 253 = .ok (.aload_n 0, 1) := dz_at (i := 27) dy_p29a_1 rfl
theorem dL_law_254 : decode cL_law 254 = .ok (.iload 4, 2) := dz_at (i := 28) dy_p29a_1 rfl
theorem dL_law_256 : decode cL_law 256 = .ok (.iconst 1, 1) := dz_at (i := 29) dy_p29a_1 rfl
theorem dL_law_257 : decode cL_law 257 = .ok (.iadd, 1) := dz_at (i := 30) dy_p29a_1 rfl
theorem dL_law_258 : decode cL_law 258 = .ok (.iaload, 1) := dz_at (i := 31) dy_p29a_1 rfl
theorem dL_law_259 : decode cL_law 259 = .ok (.aload_n 0, 1) := dz_at (i := 32) dy_p29a_1 rfl
theorem dL_law_260 : decode cL_law 260 = .ok (.iload 4, 2) := dz_at (i := 33) dy_p29a_1 rfl
theorem dL_law_262 : decode cL_law 262 = .ok (.iconst 2, 1) := dz_at (i := 34) dy_p29a_1 rfl
theorem dL_law_263 : decode cL_law 263 = .ok (.iadd, 1) := dz_at (i := 35) dy_p29a_1 rfl
theorem dL_law_264 : decode cL_law 264 = .ok (.iaload, 1) := dz_at (i := 36) dy_p29a_1 rfl
theorem dL_law_265 : decode cL_law 265 = .ok (.aload_n 0, 1) := dz_at (i := 37) dy_p29a_1 rfl
theorem dL_law_266 : decode cL_law 266 = .ok (.iload 4, 2) := dz_at (i := 38) dy_p29a_1 rfl
theorem dL_law_268 : decode cL_law 268 = .ok (.iconst 3, 1) := dz_at (i := 39) dy_p29a_1 rfl
noncomputable def dz_p29a_2 : List (Nat × Instr × Nat) := [(269, (.iadd, 1)), (270, (.iaload, 1)), (271, (.aload_n 3, 1)), (272, (.invokestatic 176, 3)), (275, (.istore 5, 2)), (277, (.aload_n 2, 1)), (278, (.aload_n 0, 1)), (279, (.iload 4, 2)), (281, (.iconst 1, 1)), (282, (.iadd, 1)), (283, (.iaload, 1)), (284, (.aload_n 0, 1)), (285, (.iload 4, 2)), (287, (.iconst 2, 1)), (288, (.iadd, 1)), (289, (.iaload, 1)), (290, (.aload_n 0, 1)), (291, (.iload 4, 2)), (293, (.iconst 3, 1)), (294, (.iadd, 1)), (295, (.iaload, 1)), (296, (.invokevirtual 181, 3)), (299, (.istore 6, 2)), (301, (.goto 1967, 3)), (304, (.aload_n 1, 1)), (305, (.aload_n 0, 1)), (306, (.iload 4, 2)), (308, (.iconst 1, 1)), (309, (.iadd, 1)), (310, (.iaload, 1)), (311, (.aload_n 0, 1)), (312, (.iload 4, 2)), (314, (.iconst 2, 1)), (315, (.iadd, 1)), (316, (.iaload, 1)), (317, (.aload_n 3, 1)), (318, (.invokestatic 182, 3)), (321, (.istore 5, 2)), (323, (.aload_n 2, 1)), (324, (.aload_n 0, 1))]
theorem dy_p29a_2 : dz_ok cL_law dz_p29a_2 = true := by decide +kernel
theorem dL_law_269 : decode cL_law 269 = .ok (.iadd, 1) := dz_at (i := 0) dy_p29a_2 rfl
theorem dL_law_270 : decode cL_law 270 = .ok (.iaload, 1) := dz_at (i := 1) dy_p29a_2 rfl
theorem dL_law_271 : decode cL_law 271 = .ok (.aload_n 3, 1) := dz_at (i := 2) dy_p29a_2 rfl
theorem dL_law_272 : decode cL_law 272 = .ok (.invokestatic 176, 3) := dz_at (i := 3) dy_p29a_2 rfl
theorem dL_law_275 : decode cL_law 275 = .ok (.istore 5, 2) := dz_at (i := 4) dy_p29a_2 rfl
theorem dL_law_277 : decode cL_law 277 = .ok (.aload_n 2, 1) := dz_at (i := 5) dy_p29a_2 rfl
theorem dL_law_278 : decode cL_law 278 = .ok (.aload_n 0, 1) := dz_at (i := 6) dy_p29a_2 rfl
theorem dL_law_279 : decode cL_law 279 = .ok (.iload 4, 2) := dz_at (i := 7) dy_p29a_2 rfl
theorem dL_law_281 : decode cL_law 281 = .ok (.iconst 1, 1) := dz_at (i := 8) dy_p29a_2 rfl
theorem dL_law_282 : decode cL_law 282 = .ok (.iadd, 1) := dz_at (i := 9) dy_p29a_2 rfl
theorem dL_law_283 : decode cL_law 283 = .ok (.iaload, 1) := dz_at (i := 10) dy_p29a_2 rfl
theorem dL_law_284 : decode cL_law 284 = .ok (.aload_n 0, 1) := dz_at (i := 11) dy_p29a_2 rfl
theorem dL_law_285 : decode cL_law 285 = .ok (.iload 4, 2) := dz_at (i := 12) dy_p29a_2 rfl
theorem dL_law_287 : decode cL_law 287 = .ok (.iconst 2, 1) := dz_at (i := 13) dy_p29a_2 rfl
theorem dL_law_288 : decode cL_law 288 = .ok (.iadd, 1) := dz_at (i := 14) dy_p29a_2 rfl
theorem dL_law_289 : decode cL_law 289 = .ok (.iaload, 1) := dz_at (i := 15) dy_p29a_2 rfl
theorem dL_law_290 : decode cL_law 290 = .ok (.aload_n 0, 1) := dz_at (i := 16) dy_p29a_2 rfl
theorem dL_law_291 : decode cL_law 291 = .ok (.iload 4, 2) := dz_at (i := 17) dy_p29a_2 rfl
theorem dL_law_293 : decode cL_law 293 = .ok (.iconst 3, 1) := dz_at (i := 18) dy_p29a_2 rfl
theorem dL_law_294 : decode cL_law 294 = .ok (.iadd, 1) := dz_at (i := 19) dy_p29a_2 rfl
theorem dL_law_295 : decode cL_law 295 = .ok (.iaload, 1) := dz_at (i := 20) dy_p29a_2 rfl
theorem dL_law_296 : decode cL_law 296 = .ok (.invokevirtual 181, 3) := dz_at (i := 21) dy_p29a_2 rfl
theorem dL_law_299 : decode cL_law 299 = .ok (.istore 6, 2) := dz_at (i := 22) dy_p29a_2 rfl
theorem dL_law_301 : decode cL_law 301 = .ok (.goto 1967, 3) := dz_at (i := 23) dy_p29a_2 rfl
theorem dL_law_304 : decode cL_law 304 = .ok (.aload_n 1, 1) := dz_at (i := 24) dy_p29a_2 rfl
theorem dL_law_305 : decode cL_law 305 = .ok (.aload_n 0, 1) := dz_at (i := 25) dy_p29a_2 rfl
theorem dL_law_306 : decode cL_law 306 = .ok (.iload 4, 2) := dz_at (i := 26) dy_p29a_2 rfl
theorem dL_law_308 : decode cL_law 308 = .ok (.iconst 1, 1) := dz_at (i := 27) dy_p29a_2 rfl
theorem dL_law_309 : decode cL_law 309 = .ok (.iadd, 1) := dz_at (i := 28) dy_p29a_2 rfl
theorem dL_law_310 : decode cL_law 310 = .ok (.iaload, 1) := dz_at (i := 29) dy_p29a_2 rfl
theorem dL_law_311 : decode cL_law 311 = .ok (.aload_n 0, 1) := dz_at (i := 30) dy_p29a_2 rfl
theorem dL_law_312 : decode cL_law 312 = .ok (.iload 4, 2) := dz_at (i := 31) dy_p29a_2 rfl
theorem dL_law_314 : decode cL_law 314 = .ok (.iconst 2, 1) := dz_at (i := 32) dy_p29a_2 rfl
theorem dL_law_315 : decode cL_law 315 = .ok (.iadd, 1) := dz_at (i := 33) dy_p29a_2 rfl
theorem dL_law_316 : decode cL_law 316 = .ok (.iaload, 1) := dz_at (i := 34) dy_p29a_2 rfl
theorem dL_law_317 : decode cL_law 317 = .ok (.aload_n 3, 1) := dz_at (i := 35) dy_p29a_2 rfl
theorem dL_law_318 : decode cL_law 318 = .ok (.invokestatic 182, 3) := dz_at (i := 36) dy_p29a_2 rfl
theorem dL_law_321 : decode cL_law 321 = .ok (.istore 5, 2) := dz_at (i := 37) dy_p29a_2 rfl
theorem dL_law_323 : decode cL_law 323 = .ok (.aload_n 2, 1) := dz_at (i := 38) dy_p29a_2 rfl
theorem dL_law_324 : decode cL_law 324 = .ok (.aload_n 0, 1) := dz_at (i := 39) dy_p29a_2 rfl
noncomputable def dz_p29a_3 : List (Nat × Instr × Nat) := [(325, (.iload 4, 2)), (327, (.iconst 1, 1)), (328, (.iadd, 1)), (329, (.iaload, 1)), (330, (.aload_n 0, 1)), (331, (.iload 4, 2)), (333, (.iconst 2, 1)), (334, (.iadd, 1)), (335, (.iaload, 1)), (336, (.invokevirtual 185, 3)), (339, (.istore 6, 2)), (341, (.aload_n 2, 1)), (342, (.invokevirtual 186, 3)), (345, (.iload 5, 2)), (347, (.if_icmp .eq 5, 3)), (350, (.iconst 0, 1)), (351, (.ireturn, 1)), (352, (.iload 5, 2)), (354, (.ifCond .ne 16, 3)), (357, (.aload_n 3, 1)), (358, (.getfield 13, 3)), (361, (.iload 6, 2)), (363, (.i2l, 1)), (364, (.lcmp, 1)), (365, (.ifCond .eq 5, 3)), (368, (.iconst 0, 1)), (369, (.ireturn, 1)), (370, (.goto 1898, 3)), (373, (.aload_n 1, 1)), (374, (.aload_n 0, 1)), (375, (.iload 4, 2)), (377, (.iconst 1, 1)), (378, (.iadd, 1)), (379, (.iaload, 1)), (380, (.aload_n 0, 1)), (381, (.iload 4, 2)), (383, (.iconst 2, 1)), (384, (.iadd, 1)), (385, (.iaload, 1)), (386, (.aload_n 3, 1))]
theorem dy_p29a_3 : dz_ok cL_law dz_p29a_3 = true := by decide +kernel
theorem dL_law_325 : decode cL_law 325 = .ok (.iload 4, 2) := dz_at (i := 0) dy_p29a_3 rfl
theorem dL_law_327 : decode cL_law 327 = .ok (.iconst 1, 1) := dz_at (i := 1) dy_p29a_3 rfl
theorem dL_law_328 : decode cL_law 328 = .ok (.iadd, 1) := dz_at (i := 2) dy_p29a_3 rfl
theorem dL_law_329 : decode cL_law 329 = .ok (.iaload, 1) := dz_at (i := 3) dy_p29a_3 rfl
theorem dL_law_330 : decode cL_law 330 = .ok (.aload_n 0, 1) := dz_at (i := 4) dy_p29a_3 rfl
theorem dL_law_331 : decode cL_law 331 = .ok (.iload 4, 2) := dz_at (i := 5) dy_p29a_3 rfl
theorem dL_law_333 : decode cL_law 333 = .ok (.iconst 2, 1) := dz_at (i := 6) dy_p29a_3 rfl
theorem dL_law_334 : decode cL_law 334 = .ok (.iadd, 1) := dz_at (i := 7) dy_p29a_3 rfl
theorem dL_law_335 : decode cL_law 335 = .ok (.iaload, 1) := dz_at (i := 8) dy_p29a_3 rfl
theorem dL_law_336 : decode cL_law 336 = .ok (.invokevirtual 185, 3) := dz_at (i := 9) dy_p29a_3 rfl
theorem dL_law_339 : decode cL_law 339 = .ok (.istore 6, 2) := dz_at (i := 10) dy_p29a_3 rfl
theorem dL_law_341 : decode cL_law 341 = .ok (.aload_n 2, 1) := dz_at (i := 11) dy_p29a_3 rfl
theorem dL_law_342 : decode cL_law 342 = .ok (.invokevirtual 186, 3) := dz_at (i := 12) dy_p29a_3 rfl
theorem dL_law_345 : decode cL_law 345 = .ok (.iload 5, 2) := dz_at (i := 13) dy_p29a_3 rfl
theorem dL_law_347 : decode cL_law 347 = .ok (.if_icmp .eq 5, 3) := dz_at (i := 14) dy_p29a_3 rfl
theorem dL_law_350 : decode cL_law 350 = .ok (.iconst 0, 1) := dz_at (i := 15) dy_p29a_3 rfl
theorem dL_law_351 : decode cL_law 351 = .ok (.ireturn, 1) := dz_at (i := 16) dy_p29a_3 rfl
theorem dL_law_352 : decode cL_law 352 = .ok (.iload 5, 2) := dz_at (i := 17) dy_p29a_3 rfl
theorem dL_law_354 : decode cL_law 354 = .ok (.ifCond .ne 16, 3) := dz_at (i := 18) dy_p29a_3 rfl
theorem dL_law_357 : decode cL_law 357 = .ok (.aload_n 3, 1) := dz_at (i := 19) dy_p29a_3 rfl
theorem dL_law_358 : decode cL_law 358 = .ok (.getfield 13, 3) := dz_at (i := 20) dy_p29a_3 rfl
theorem dL_law_361 : decode cL_law 361 = .ok (.iload 6, 2) := dz_at (i := 21) dy_p29a_3 rfl
theorem dL_law_363 : decode cL_law 363 = .ok (.i2l, 1) := dz_at (i := 22) dy_p29a_3 rfl
theorem dL_law_364 : decode cL_law 364 = .ok (.lcmp, 1) := dz_at (i := 23) dy_p29a_3 rfl
theorem dL_law_365 : decode cL_law 365 = .ok (.ifCond .eq 5, 3) := dz_at (i := 24) dy_p29a_3 rfl
theorem dL_law_368 : decode cL_law 368 = .ok (.iconst 0, 1) := dz_at (i := 25) dy_p29a_3 rfl
theorem dL_law_369 : decode cL_law 369 = .ok (.ireturn, 1) := dz_at (i := 26) dy_p29a_3 rfl
theorem dL_law_370 : decode cL_law 370 = .ok (.goto 1898, 3) := dz_at (i := 27) dy_p29a_3 rfl
theorem dL_law_373 : decode cL_law 373 = .ok (.aload_n 1, 1) := dz_at (i := 28) dy_p29a_3 rfl
theorem dL_law_374 : decode cL_law 374 = .ok (.aload_n 0, 1) := dz_at (i := 29) dy_p29a_3 rfl
theorem dL_law_375 : decode cL_law 375 = .ok (.iload 4, 2) := dz_at (i := 30) dy_p29a_3 rfl
theorem dL_law_377 : decode cL_law 377 = .ok (.iconst 1, 1) := dz_at (i := 31) dy_p29a_3 rfl
theorem dL_law_378 : decode cL_law 378 = .ok (.iadd, 1) := dz_at (i := 32) dy_p29a_3 rfl
theorem dL_law_379 : decode cL_law 379 = .ok (.iaload, 1) := dz_at (i := 33) dy_p29a_3 rfl
theorem dL_law_380 : decode cL_law 380 = .ok (.aload_n 0, 1) := dz_at (i := 34) dy_p29a_3 rfl
theorem dL_law_381 : decode cL_law 381 = .ok (.iload 4, 2) := dz_at (i := 35) dy_p29a_3 rfl
theorem dL_law_383 : decode cL_law 383 = .ok (.iconst 2, 1) := dz_at (i := 36) dy_p29a_3 rfl
theorem dL_law_384 : decode cL_law 384 = .ok (.iadd, 1) := dz_at (i := 37) dy_p29a_3 rfl
theorem dL_law_385 : decode cL_law 385 = .ok (.iaload, 1) := dz_at (i := 38) dy_p29a_3 rfl
theorem dL_law_386 : decode cL_law 386 = .ok (.aload_n 3, 1) := dz_at (i := 39) dy_p29a_3 rfl
noncomputable def dz_p29a_4 : List (Nat × Instr × Nat) := [(387, (.invokestatic 190, 3)), (390, (.istore 5, 2)), (392, (.aload_n 2, 1)), (393, (.aload_n 0, 1)), (394, (.iload 4, 2)), (396, (.iconst 1, 1)), (397, (.iadd, 1)), (398, (.iaload, 1)), (399, (.aload_n 0, 1)), (400, (.iload 4, 2)), (402, (.iconst 2, 1)), (403, (.iadd, 1)), (404, (.iaload, 1)), (405, (.invokevirtual 192, 3)), (408, (.istore 6, 2)), (410, (.goto 1858, 3)), (413, (.aload_n 1, 1)), (414, (.aload_n 0, 1)), (415, (.iload 4, 2)), (417, (.iconst 1, 1)), (418, (.iadd, 1)), (419, (.iaload, 1)), (420, (.aload_n 0, 1)), (421, (.iload 4, 2)), (423, (.iconst 2, 1)), (424, (.iadd, 1)), (425, (.iaload, 1)), (426, (.aload_n 3, 1)), (427, (.invokestatic 193, 3)), (430, (.istore 5, 2)), (432, (.aload_n 2, 1)), (433, (.aload_n 0, 1)), (434, (.iload 4, 2)), (436, (.iconst 1, 1)), (437, (.iadd, 1)), (438, (.iaload, 1)), (439, (.aload_n 0, 1)), (440, (.iload 4, 2)), (442, (.iconst 2, 1)), (443, (.iadd, 1))]
theorem dy_p29a_4 : dz_ok cL_law dz_p29a_4 = true := by decide +kernel
theorem dL_law_387 : decode cL_law 387 = .ok (.invokestatic 190, 3) := dz_at (i := 0) dy_p29a_4 rfl
theorem dL_law_390 : decode cL_law 390 = .ok (.istore 5, 2) := dz_at (i := 1) dy_p29a_4 rfl
theorem dL_law_392 : decode cL_law 392 = .ok (.aload_n 2, 1) := dz_at (i := 2) dy_p29a_4 rfl
theorem dL_law_393 : decode cL_law 393 = .ok (.aload_n 0, 1) := dz_at (i := 3) dy_p29a_4 rfl
theorem dL_law_394 : decode cL_law 394 = .ok (.iload 4, 2) := dz_at (i := 4) dy_p29a_4 rfl
theorem dL_law_396 : decode cL_law 396 = .ok (.iconst 1, 1) := dz_at (i := 5) dy_p29a_4 rfl
theorem dL_law_397 : decode cL_law 397 = .ok (.iadd, 1) := dz_at (i := 6) dy_p29a_4 rfl
theorem dL_law_398 : decode cL_law 398 = .ok (.iaload, 1) := dz_at (i := 7) dy_p29a_4 rfl
theorem dL_law_399 : decode cL_law 399 = .ok (.aload_n 0, 1) := dz_at (i := 8) dy_p29a_4 rfl
theorem dL_law_400 : decode cL_law 400 = .ok (.iload 4, 2) := dz_at (i := 9) dy_p29a_4 rfl
theorem dL_law_402 : decode cL_law 402 = .ok (.iconst 2, 1) := dz_at (i := 10) dy_p29a_4 rfl
theorem dL_law_403 : decode cL_law 403 = .ok (.iadd, 1) := dz_at (i := 11) dy_p29a_4 rfl
theorem dL_law_404 : decode cL_law 404 = .ok (.iaload, 1) := dz_at (i := 12) dy_p29a_4 rfl
theorem dL_law_405 : decode cL_law 405 = .ok (.invokevirtual 192, 3) := dz_at (i := 13) dy_p29a_4 rfl
theorem dL_law_408 : decode cL_law 408 = .ok (.istore 6, 2) := dz_at (i := 14) dy_p29a_4 rfl
theorem dL_law_410 : decode cL_law 410 = .ok (.goto 1858, 3) := dz_at (i := 15) dy_p29a_4 rfl
theorem dL_law_413 : decode cL_law 413 = .ok (.aload_n 1, 1) := dz_at (i := 16) dy_p29a_4 rfl
theorem dL_law_414 : decode cL_law 414 = .ok (.aload_n 0, 1) := dz_at (i := 17) dy_p29a_4 rfl
theorem dL_law_415 : decode cL_law 415 = .ok (.iload 4, 2) := dz_at (i := 18) dy_p29a_4 rfl
theorem dL_law_417 : decode cL_law 417 = .ok (.iconst 1, 1) := dz_at (i := 19) dy_p29a_4 rfl
theorem dL_law_418 : decode cL_law 418 = .ok (.iadd, 1) := dz_at (i := 20) dy_p29a_4 rfl
theorem dL_law_419 : decode cL_law 419 = .ok (.iaload, 1) := dz_at (i := 21) dy_p29a_4 rfl
theorem dL_law_420 : decode cL_law 420 = .ok (.aload_n 0, 1) := dz_at (i := 22) dy_p29a_4 rfl
theorem dL_law_421 : decode cL_law 421 = .ok (.iload 4, 2) := dz_at (i := 23) dy_p29a_4 rfl
theorem dL_law_423 : decode cL_law 423 = .ok (.iconst 2, 1) := dz_at (i := 24) dy_p29a_4 rfl
theorem dL_law_424 : decode cL_law 424 = .ok (.iadd, 1) := dz_at (i := 25) dy_p29a_4 rfl
theorem dL_law_425 : decode cL_law 425 = .ok (.iaload, 1) := dz_at (i := 26) dy_p29a_4 rfl
theorem dL_law_426 : decode cL_law 426 = .ok (.aload_n 3, 1) := dz_at (i := 27) dy_p29a_4 rfl
theorem dL_law_427 : decode cL_law 427 = .ok (.invokestatic 193, 3) := dz_at (i := 28) dy_p29a_4 rfl
theorem dL_law_430 : decode cL_law 430 = .ok (.istore 5, 2) := dz_at (i := 29) dy_p29a_4 rfl
theorem dL_law_432 : decode cL_law 432 = .ok (.aload_n 2, 1) := dz_at (i := 30) dy_p29a_4 rfl
theorem dL_law_433 : decode cL_law 433 = .ok (.aload_n 0, 1) := dz_at (i := 31) dy_p29a_4 rfl
theorem dL_law_434 : decode cL_law 434 = .ok (.iload 4, 2) := dz_at (i := 32) dy_p29a_4 rfl
theorem dL_law_436 : decode cL_law 436 = .ok (.iconst 1, 1) := dz_at (i := 33) dy_p29a_4 rfl
theorem dL_law_437 : decode cL_law 437 = .ok (.iadd, 1) := dz_at (i := 34) dy_p29a_4 rfl
theorem dL_law_438 : decode cL_law 438 = .ok (.iaload, 1) := dz_at (i := 35) dy_p29a_4 rfl
theorem dL_law_439 : decode cL_law 439 = .ok (.aload_n 0, 1) := dz_at (i := 36) dy_p29a_4 rfl
theorem dL_law_440 : decode cL_law 440 = .ok (.iload 4, 2) := dz_at (i := 37) dy_p29a_4 rfl
theorem dL_law_442 : decode cL_law 442 = .ok (.iconst 2, 1) := dz_at (i := 38) dy_p29a_4 rfl
theorem dL_law_443 : decode cL_law 443 = .ok (.iadd, 1) := dz_at (i := 39) dy_p29a_4 rfl
noncomputable def dz_p29a_5 : List (Nat × Instr × Nat) := [(444, (.iaload, 1)), (445, (.invokevirtual 195, 3)), (448, (.istore 6, 2)), (450, (.goto 1818, 3)), (453, (.aload_n 1, 1)), (454, (.aload_n 0, 1)), (455, (.iload 4, 2)), (457, (.iconst 1, 1)), (458, (.iadd, 1)), (459, (.iaload, 1)), (460, (.aload_n 0, 1)), (461, (.iload 4, 2)), (463, (.iconst 2, 1)), (464, (.iadd, 1)), (465, (.iaload, 1)), (466, (.aload_n 3, 1)), (467, (.invokestatic 196, 3)), (470, (.istore 5, 2)), (472, (.aload_n 2, 1)), (473, (.aload_n 0, 1))]
theorem dy_p29a_5 : dz_ok cL_law dz_p29a_5 = true := by decide +kernel
theorem dL_law_444 : decode cL_law 444 = .ok (.iaload, 1) := dz_at (i := 0) dy_p29a_5 rfl
theorem dL_law_445 : decode cL_law 445 = .ok (.invokevirtual 195, 3) := dz_at (i := 1) dy_p29a_5 rfl
theorem dL_law_448 : decode cL_law 448 = .ok (.istore 6, 2) := dz_at (i := 2) dy_p29a_5 rfl
theorem dL_law_450 : decode cL_law 450 = .ok (.goto 1818, 3) := dz_at (i := 3) dy_p29a_5 rfl
theorem dL_law_453 : decode cL_law 453 = .ok (.aload_n 1, 1) := dz_at (i := 4) dy_p29a_5 rfl
theorem dL_law_454 : decode cL_law 454 = .ok (.aload_n 0, 1) := dz_at (i := 5) dy_p29a_5 rfl
theorem dL_law_455 : decode cL_law 455 = .ok (.iload 4, 2) := dz_at (i := 6) dy_p29a_5 rfl
theorem dL_law_457 : decode cL_law 457 = .ok (.iconst 1, 1) := dz_at (i := 7) dy_p29a_5 rfl
theorem dL_law_458 : decode cL_law 458 = .ok (.iadd, 1) := dz_at (i := 8) dy_p29a_5 rfl
theorem dL_law_459 : decode cL_law 459 = .ok (.iaload, 1) := dz_at (i := 9) dy_p29a_5 rfl
theorem dL_law_460 : decode cL_law 460 = .ok (.aload_n 0, 1) := dz_at (i := 10) dy_p29a_5 rfl
theorem dL_law_461 : decode cL_law 461 = .ok (.iload 4, 2) := dz_at (i := 11) dy_p29a_5 rfl
theorem dL_law_463 : decode cL_law 463 = .ok (.iconst 2, 1) := dz_at (i := 12) dy_p29a_5 rfl
theorem dL_law_464 : decode cL_law 464 = .ok (.iadd, 1) := dz_at (i := 13) dy_p29a_5 rfl
theorem dL_law_465 : decode cL_law 465 = .ok (.iaload, 1) := dz_at (i := 14) dy_p29a_5 rfl
theorem dL_law_466 : decode cL_law 466 = .ok (.aload_n 3, 1) := dz_at (i := 15) dy_p29a_5 rfl
theorem dL_law_467 : decode cL_law 467 = .ok (.invokestatic 196, 3) := dz_at (i := 16) dy_p29a_5 rfl
theorem dL_law_470 : decode cL_law 470 = .ok (.istore 5, 2) := dz_at (i := 17) dy_p29a_5 rfl
theorem dL_law_472 : decode cL_law 472 = .ok (.aload_n 2, 1) := dz_at (i := 18) dy_p29a_5 rfl
theorem dL_law_473 : decode cL_law 473 = .ok (.aload_n 0, 1) := dz_at (i := 19) dy_p29a_5 rfl
