theorem dk_29a_1 : (cL_law.data.toList.drop 0).take 355 = [187, 0, 8, 89, 183, 0, 171, 76, 187, 0, 172, 89, 183, 0, 174, 77, 187, 0, 14, 89, 183, 0, 175, 78, 3, 54, 4, 21, 4, 42, 190, 7, 100, 163, 8, 193, 42, 21, 4, 46, 16, 63, 126, 170, 0, 0, 8, 177, 0, 0, 0, 0, 0, 0, 0, 48, 0, 0, 0, 209, 0, 0, 1, 5, 0, 0, 1, 45, 0, 0, 1, 85, 0, 0, 1, 125, 0, 0, 1, 165, 0, 0, 1, 217, 0, 0, 2, 13, 0, 0, 2, 65, 0, 0, 2, 93, 0, 0, 2, 178, 0, 0, 2, 206, 0, 0, 2, 234, 0, 0, 3, 6, 0, 0, 3, 58, 0, 0, 3, 110, 0, 0, 3, 150, 0, 0, 3, 190, 0, 0, 4, 2, 0, 0, 4, 42, 0, 0, 4, 82, 0, 0, 4, 110, 0, 0, 4, 166, 0, 0, 4, 194, 0, 0, 4, 234, 0, 0, 5, 18, 0, 0, 5, 58, 0, 0, 5, 98, 0, 0, 5, 138, 0, 0, 5, 190, 0, 0, 5, 242, 0, 0, 6, 38, 0, 0, 6, 66, 0, 0, 6, 122, 0, 0, 6, 150, 0, 0, 6, 178, 0, 0, 6, 230, 0, 0, 7, 26, 0, 0, 7, 66, 0, 0, 7, 106, 0, 0, 7, 174, 0, 0, 7, 214, 0, 0, 7, 254, 0, 0, 8, 26, 0, 0, 8, 82, 0, 0, 8, 110, 0, 0, 8, 138, 0, 0, 8, 151, 0, 0, 8, 164, 43, 42, 21, 4, 4, 96, 46, 42, 21, 4, 5, 96, 46, 42, 21, 4, 6, 96, 46, 45, 184, 0, 176, 54, 5, 44, 42, 21, 4, 4, 96, 46, 42, 21, 4, 5, 96, 46, 42, 21, 4, 6, 96, 46, 182, 0, 181, 54, 6, 167, 7, 175, 43, 42, 21, 4, 4, 96, 46, 42, 21, 4, 5, 96, 46, 45, 184, 0, 182, 54, 5, 44, 42, 21, 4, 4, 96, 46, 42, 21, 4, 5, 96, 46, 182, 0, 185, 54, 6, 167, 7, 135, 43, 42, 21, 4, 4, 96, 46, 42, 21, 4, 5] := by decide +kernel
theorem dL_law_0 : decode cL_law 0 = .ok (.new 8, 3) := dq_op187 (dq_at (j := 0) dk_29a_1 rfl rfl) (dq_at (j := 1) dk_29a_1 rfl rfl) (dq_at (j := 2) dk_29a_1 rfl rfl) rfl
theorem dL_law_3 : decode cL_law 3 = .ok (.dup, 1) := dq_op89 (dq_at (j := 3) dk_29a_1 rfl rfl)
theorem dL_law_4 : decode cL_law 4 = .ok (.invokespecial 171, 3) := dq_op183 (dq_at (j := 4) dk_29a_1 rfl rfl) (dq_at (j := 5) dk_29a_1 rfl rfl) (dq_at (j := 6) dk_29a_1 rfl rfl) rfl
theorem dL_law_7 : decode cL_law 7 = .ok (.astore_n 1, 1) := dq_op76 (dq_at (j := 7) dk_29a_1 rfl rfl)
theorem dL_law_8 : decode cL_law 8 = .ok (.new 172, 3) := dq_op187 (dq_at (j := 8) dk_29a_1 rfl rfl) (dq_at (j := 9) dk_29a_1 rfl rfl) (dq_at (j := 10) dk_29a_1 rfl rfl) rfl
theorem dL_law_11 : decode cL_law 11 = .ok (.dup, 1) := dq_op89 (dq_at (j := 11) dk_29a_1 rfl rfl)
theorem dL_law_12 : decode cL_law 12 = .ok (.invokespecial 174, 3) := dq_op183 (dq_at (j := 12) dk_29a_1 rfl rfl) (dq_at (j := 13) dk_29a_1 rfl rfl) (dq_at (j := 14) dk_29a_1 rfl rfl) rfl
theorem dL_law_15 : decode cL_law 15 = .ok (.astore_n 2, 1) := dq_op77 (dq_at (j := 15) dk_29a_1 rfl rfl)
theorem dL_law_16 : decode cL_law 16 = .ok (.new 14, 3) := dq_op187 (dq_at (j := 16) dk_29a_1 rfl rfl) (dq_at (j := 17) dk_29a_1 rfl rfl) (dq_at (j := 18) dk_29a_1 rfl rfl) rfl
theorem dL_law_19 : decode cL_law 19 = .ok (.dup, 1) := dq_op89 (dq_at (j := 19) dk_29a_1 rfl rfl)
theorem dL_law_20 : decode cL_law 20 = .ok (.invokespecial 175, 3) := dq_op183 (dq_at (j := 20) dk_29a_1 rfl rfl) (dq_at (j := 21) dk_29a_1 rfl rfl) (dq_at (j := 22) dk_29a_1 rfl rfl) rfl
theorem dL_law_23 : decode cL_law 23 = .ok (.astore_n 3, 1) := dq_op78 (dq_at (j := 23) dk_29a_1 rfl rfl)
theorem dL_law_24 : decode cL_law 24 = .ok (.iconst 0, 1) := dq_op3 (dq_at (j := 24) dk_29a_1 rfl rfl)
theorem dL_law_25 : decode cL_law 25 = .ok (.istore 4, 2) := dq_op54 (dq_at (j := 25) dk_29a_1 rfl rfl) (dq_at (j := 26) dk_29a_1 rfl rfl) rfl
theorem dL_law_27 : decode cL_law 27 = .ok (.iload 4, 2) := dq_op21 (dq_at (j := 27) dk_29a_1 rfl rfl) (dq_at (j := 28) dk_29a_1 rfl rfl) rfl
theorem dL_law_29 : decode cL_law 29 = .ok (.aload_n 0, 1) := dq_op42 (dq_at (j := 29) dk_29a_1 rfl rfl)
theorem dL_law_30 : decode cL_law 30 = .ok (.arraylength, 1) := dq_op190 (dq_at (j := 30) dk_29a_1 rfl rfl)
theorem dL_law_31 : decode cL_law 31 = .ok (.iconst 4, 1) := dq_op7 (dq_at (j := 31) dk_29a_1 rfl rfl)
theorem dL_law_32 : decode cL_law 32 = .ok (.isub, 1) := dq_op100 (dq_at (j := 32) dk_29a_1 rfl rfl)
theorem dL_law_33 : decode cL_law 33 = .ok (.if_icmp .gt 2241, 3) := dq_op163 (dq_at (j := 33) dk_29a_1 rfl rfl) (dq_at (j := 34) dk_29a_1 rfl rfl) (dq_at (j := 35) dk_29a_1 rfl rfl) (by decide +kernel)
theorem dL_law_36 : decode cL_law 36 = .ok (.aload_n 0, 1) := dq_op42 (dq_at (j := 36) dk_29a_1 rfl rfl)
theorem dL_law_37 : decode cL_law 37 = .ok (.iload 4, 2) := dq_op21 (dq_at (j := 37) dk_29a_1 rfl rfl) (dq_at (j := 38) dk_29a_1 rfl rfl) rfl
theorem dL_law_39 : decode cL_law 39 = .ok (.iaload, 1) := dq_op46 (dq_at (j := 39) dk_29a_1 rfl rfl)
theorem dL_law_40 : decode cL_law 40 = .ok (.bipush 63, 2) := dq_op16 (dq_at (j := 40) dk_29a_1 rfl rfl) (dq_at (j := 41) dk_29a_1 rfl rfl) (by decide +kernel)
theorem dL_law_42 : decode cL_law 42 = .ok (.iand, 1) := dq_op126 (dq_at (j := 42) dk_29a_1 rfl rfl)
theorem dL_law_43 : decode cL_law 43 = .ok (.tableswitch 2225 0 48 #[209, 261, 301, 341, 381, 421, 473, 525, 577, 605, 690, 718, 746, 774, 826, 878, 918, 958, 1026, 1066, 1106, 1134, 1190, 1218, 1258, 1298, 1338, 1378, 1418, 1470, 1522, 1574, 1602, 1658, 1686, 1714, 1766, 1818, 1858, 1898, 1966, 2006, 2046, 2074, 2130, 2158, 2186, 2199, 2212], 209) := by decide +kernel
theorem dL_law_252 : decode cL_law 252 = .ok (.aload_n 1, 1) := dq_op43 (dq_at (j := 252) dk_29a_1 rfl rfl)
theorem dL_law_253 : decode cL_law 253 = .ok (.aload_n 0, 1) := dq_op42 (dq_at (j := 253) dk_29a_1 rfl rfl)
theorem dL_law_254 : decode cL_law 254 = .ok (.iload 4, 2) := dq_op21 (dq_at (j := 254) dk_29a_1 rfl rfl) (dq_at (j := 255) dk_29a_1 rfl rfl) rfl
theorem dL_law_256 : decode cL_law 256 = .ok (.iconst 1, 1) := dq_op4 (dq_at (j := 256) dk_29a_1 rfl rfl)
theorem dL_law_257 : decode cL_law 257 = .ok (.iadd, 1) := dq_op96 (dq_at (j := 257) dk_29a_1 rfl rfl)
theorem dL_law_258 : decode cL_law 258 = .ok (.iaload, 1) := dq_op46 (dq_at (j := 258) dk_29a_1 rfl rfl)
theorem dL_law_259 : decode cL_law 259 = .ok (.aload_n 0, 1) := dq_op42 (dq_at (j := 259) dk_29a_1 rfl rfl)
theorem dL_law_260 : decode cL_law 260 = .ok (.iload 4, 2) := dq_op21 (dq_at (j := 260) dk_29a_1 rfl rfl) (dq_at (j := 261) dk_29a_1 rfl rfl) rfl
theorem dL_law_262 : decode cL_law 262 = .ok (.iconst 2, 1) := dq_op5 (dq_at (j := 262) dk_29a_1 rfl rfl)
theorem dL_law_263 : decode cL_law 263 = .ok (.iadd, 1) := dq_op96 (dq_at (j := 263) dk_29a_1 rfl rfl)
theorem dL_law_264 : decode cL_law 264 = .ok (.iaload, 1) := dq_op46 (dq_at (j := 264) dk_29a_1 rfl rfl)
theorem dL_law_265 : decode cL_law 265 = .ok (.aload_n 0, 1) := dq_op42 (dq_at (j := 265) dk_29a_1 rfl rfl)
theorem dL_law_266 : decode cL_law 266 = .ok (.iload 4, 2) := dq_op21 (dq_at (j := 266) dk_29a_1 rfl rfl) (dq_at (j := 267) dk_29a_1 rfl rfl) rfl
theorem dL_law_268 : decode cL_law 268 = .ok (.iconst 3, 1) := dq_op6 (dq_at (j := 268) dk_29a_1 rfl rfl)
theorem dL_law_269 : decode cL_law 269 = .ok (.iadd, 1) := dq_op96 (dq_at (j := 269) dk_29a_1 rfl rfl)
theorem dL_law_270 : decode cL_law 270 = .ok (.iaload, 1) := dq_op46 (dq_at (j := 270) dk_29a_1 rfl rfl)
theorem dL_law_271 : decode cL_law 271 = .ok (.aload_n 3, 1) := dq_op45 (dq_at (j := 271) dk_29a_1 rfl rfl)
theorem dL_law_272 : decode cL_law 272 = .ok (.invokestatic 176, 3) := dq_op184 (dq_at (j := 272) dk_29a_1 rfl rfl) (dq_at (j := 273) dk_29a_1 rfl rfl) (dq_at (j := 274) dk_29a_1 rfl rfl) rfl
theorem dL_law_275 : decode cL_law 275 = .ok (.istore 5, 2) := dq_op54 (dq_at (j := 275) dk_29a_1 rfl rfl) (dq_at (j := 276) dk_29a_1 rfl rfl) rfl
theorem dL_law_277 : decode cL_law 277 = .ok (.aload_n 2, 1) := dq_op44 (dq_at (j := 277) dk_29a_1 rfl rfl)
theorem dL_law_278 : decode cL_law 278 = .ok (.aload_n 0, 1) := dq_op42 (dq_at (j := 278) dk_29a_1 rfl rfl)
theorem dL_law_279 : decode cL_law 279 = .ok (.iload 4, 2) := dq_op21 (dq_at (j := 279) dk_29a_1 rfl rfl) (dq_at (j := 280) dk_29a_1 rfl rfl) rfl
theorem dL_law_281 : decode cL_law 281 = .ok (.iconst 1, 1) := dq_op4 (dq_at (j := 281) dk_29a_1 rfl rfl)
theorem dL_law_282 : decode cL_law 282 = .ok (.iadd, 1) := dq_op96 (dq_at (j := 282) dk_29a_1 rfl rfl)
theorem dL_law_283 : decode cL_law 283 = .ok (.iaload, 1) := dq_op46 (dq_at (j := 283) dk_29a_1 rfl rfl)
theorem dL_law_284 : decode cL_law 284 = .ok (.aload_n 0, 1) := dq_op42 (dq_at (j := 284) dk_29a_1 rfl rfl)
theorem dL_law_285 : decode cL_law 285 = .ok (.iload 4, 2) := dq_op21 (dq_at (j := 285) dk_29a_1 rfl rfl) (dq_at (j := 286) dk_29a_1 rfl rfl) rfl
theorem dL_law_287 : decode cL_law 287 = .ok (.iconst 2, 1) := dq_op5 (dq_at (j := 287) dk_29a_1 rfl rfl)
theorem dL_law_288 : decode cL_law 288 = .ok (.iadd, 1) := dq_op96 (dq_at (j := 288) dk_29a_1 rfl rfl)
theorem dL_law_289 : decode cL_law 289 = .ok (.iaload, 1) := dq_op46 (dq_at (j := 289) dk_29a_1 rfl rfl)
theorem dL_law_290 : decode cL_law 290 = .ok (.aload_n 0, 1) := dq_op42 (dq_at (j := 290) dk_29a_1 rfl rfl)
theorem dL_law_291 : decode cL_law 291 = .ok (.iload 4, 2) := dq_op21 (dq_at (j := 291) dk_29a_1 rfl rfl) (dq_at (j := 292) dk_29a_1 rfl rfl) rfl
theorem dL_law_293 : decode cL_law 293 = .ok (.iconst 3, 1) := dq_op6 (dq_at (j := 293) dk_29a_1 rfl rfl)
theorem dL_law_294 : decode cL_law 294 = .ok (.iadd, 1) := dq_op96 (dq_at (j := 294) dk_29a_1 rfl rfl)
theorem dL_law_295 : decode cL_law 295 = .ok (.iaload, 1) := dq_op46 (dq_at (j := 295) dk_29a_1 rfl rfl)
theorem dL_law_296 : decode cL_law 296 = .ok (.invokevirtual 181, 3) := dq_op182 (dq_at (j := 296) dk_29a_1 rfl rfl) (dq_at (j := 297) dk_29a_1 rfl rfl) (dq_at (j := 298) dk_29a_1 rfl rfl) rfl
theorem dL_law_299 : decode cL_law 299 = .ok (.istore 6, 2) := dq_op54 (dq_at (j := 299) dk_29a_1 rfl rfl) (dq_at (j := 300) dk_29a_1 rfl rfl) rfl
theorem dL_law_301 : decode cL_law 301 = .ok (.goto 1967, 3) := dq_op167 (dq_at (j := 301) dk_29a_1 rfl rfl) (dq_at (j := 302) dk_29a_1 rfl rfl) (dq_at (j := 303) dk_29a_1 rfl rfl) (by decide +kernel)
theorem dL_law_304 : decode cL_law 304 = .ok (.aload_n 1, 1) := dq_op43 (dq_at (j := 304) dk_29a_1 rfl rfl)
theorem dL_law_305 : decode cL_law 305 = .ok (.aload_n 0, 1) := dq_op42 (dq_at (j := 305) dk_29a_1 rfl rfl)
theorem dL_law_306 : decode cL_law 306 = .ok (.iload 4, 2) := dq_op21 (dq_at (j := 306) dk_29a_1 rfl rfl) (dq_at (j := 307) dk_29a_1 rfl rfl) rfl
theorem dL_law_308 : decode cL_law 308 = .ok (.iconst 1, 1) := dq_op4 (dq_at (j := 308) dk_29a_1 rfl rfl)
theorem dL_law_309 : decode cL_law 309 = .ok (.iadd, 1) := dq_op96 (dq_at (j := 309) dk_29a_1 rfl rfl)
theorem dL_law_310 : decode cL_law 310 = .ok (.iaload, 1) := dq_op46 (dq_at (j := 310) dk_29a_1 rfl rfl)
theorem dL_law_311 : decode cL_law 311 = .ok (.aload_n 0, 1) := dq_op42 (dq_at (j := 311) dk_29a_1 rfl rfl)
theorem dL_law_312 : decode cL_law 312 = .ok (.iload 4, 2) := dq_op21 (dq_at (j := 312) dk_29a_1 rfl rfl) (dq_at (j := 313) dk_29a_1 rfl rfl) rfl
theorem dL_law_314 : decode cL_law 314 = .ok (.iconst 2, 1) := dq_op5 (dq_at (j := 314) dk_29a_1 rfl rfl)
theorem dL_law_315 : decode cL_law 315 = .ok (.iadd, 1) := dq_op96 (dq_at (j := 315) dk_29a_1 rfl rfl)
theorem dL_law_316 : decode cL_law 316 = .ok (.iaload, 1) := dq_op46 (dq_at (j := 316) dk_29a_1 rfl rfl)
theorem dL_law_317 : decode cL_law 317 = .ok (.aload_n 3, 1) := dq_op45 (dq_at (j := 317) dk_29a_1 rfl rfl)
theorem dL_law_318 : decode cL_law 318 = .ok (.invokestatic 182, 3) := dq_op184 (dq_at (j := 318) dk_29a_1 rfl rfl) (dq_at (j := 319) dk_29a_1 rfl rfl) (dq_at (j := 320) dk_29a_1 rfl rfl) rfl
theorem dL_law_321 : decode cL_law 321 = .ok (.istore 5, 2) := dq_op54 (dq_at (j := 321) dk_29a_1 rfl rfl) (dq_at (j := 322) dk_29a_1 rfl rfl) rfl
theorem dL_law_323 : decode cL_law 323 = .ok (.aload_n 2, 1) := dq_op44 (dq_at (j := 323) dk_29a_1 rfl rfl)
theorem dL_law_324 : decode cL_law 324 = .ok (.aload_n 0, 1) := dq_op42 (dq_at (j := 324) dk_29a_1 rfl rfl)
theorem dL_law_325 : decode cL_law 325 = .ok (.iload 4, 2) := dq_op21 (dq_at (j := 325) dk_29a_1 rfl rfl) (dq_at (j := 326) dk_29a_1 rfl rfl) rfl
theorem dL_law_327 : decode cL_law 327 = .ok (.iconst 1, 1) := dq_op4 (dq_at (j := 327) dk_29a_1 rfl rfl)
theorem dL_law_328 : decode cL_law 328 = .ok (.iadd, 1) := dq_op96 (dq_at (j := 328) dk_29a_1 rfl rfl)
theorem dL_law_329 : decode cL_law 329 = .ok (.iaload, 1) := dq_op46 (dq_at (j := 329) dk_29a_1 rfl rfl)
theorem dL_law_330 : decode cL_law 330 = .ok (.aload_n 0, 1) := dq_op42 (dq_at (j := 330) dk_29a_1 rfl rfl)
theorem dL_law_331 : decode cL_law 331 = .ok (.iload 4, 2) := dq_op21 (dq_at (j := 331) dk_29a_1 rfl rfl) (dq_at (j := 332) dk_29a_1 rfl rfl) rfl
theorem dL_law_333 : decode cL_law 333 = .ok (.iconst 2, 1) := dq_op5 (dq_at (j := 333) dk_29a_1 rfl rfl)
theorem dL_law_334 : decode cL_law 334 = .ok (.iadd, 1) := dq_op96 (dq_at (j := 334) dk_29a_1 rfl rfl)
theorem dL_law_335 : decode cL_law 335 = .ok (.iaload, 1) := dq_op46 (dq_at (j := 335) dk_29a_1 rfl rfl)
theorem dL_law_336 : decode cL_law 336 = .ok (.invokevirtual 185, 3) := dq_op182 (dq_at (j := 336) dk_29a_1 rfl rfl) (dq_at (j := 337) dk_29a_1 rfl rfl) (dq_at (j := 338) dk_29a_1 rfl rfl) rfl
theorem dL_law_339 : decode cL_law 339 = .ok (.istore 6, 2) := dq_op54 (dq_at (j := 339) dk_29a_1 rfl rfl) (dq_at (j := 340) dk_29a_1 rfl rfl) rfl
theorem dL_law_341 : decode cL_law 341 = .ok (.goto 1927, 3) := dq_op167 (dq_at (j := 341) dk_29a_1 rfl rfl) (dq_at (j := 342) dk_29a_1 rfl rfl) (dq_at (j := 343) dk_29a_1 rfl rfl) (by decide +kernel)
theorem dL_law_344 : decode cL_law 344 = .ok (.aload_n 1, 1) := dq_op43 (dq_at (j := 344) dk_29a_1 rfl rfl)
theorem dL_law_345 : decode cL_law 345 = .ok (.aload_n 0, 1) := dq_op42 (dq_at (j := 345) dk_29a_1 rfl rfl)
theorem dL_law_346 : decode cL_law 346 = .ok (.iload 4, 2) := dq_op21 (dq_at (j := 346) dk_29a_1 rfl rfl) (dq_at (j := 347) dk_29a_1 rfl rfl) rfl
theorem dL_law_348 : decode cL_law 348 = .ok (.iconst 1, 1) := dq_op4 (dq_at (j := 348) dk_29a_1 rfl rfl)
theorem dL_law_349 : decode cL_law 349 = .ok (.iadd, 1) := dq_op96 (dq_at (j := 349) dk_29a_1 rfl rfl)
theorem dL_law_350 : decode cL_law 350 = .ok (.iaload, 1) := dq_op46 (dq_at (j := 350) dk_29a_1 rfl rfl)
theorem dL_law_351 : decode cL_law 351 = .ok (.aload_n 0, 1) := dq_op42 (dq_at (j := 351) dk_29a_1 rfl rfl)
theorem dL_law_352 : decode cL_law 352 = .ok (.iload 4, 2) := dq_op21 (dq_at (j := 352) dk_29a_1 rfl rfl) (dq_at (j := 353) dk_29a_1 rfl rfl) rfl
theorem dk_29a_2 : (cL_law.data.toList.drop 354).take 117 = [5, 96, 46, 45, 184, 0, 186, 54, 5, 44, 42, 21, 4, 4, 96, 46, 42, 21, 4, 5, 96, 46, 182, 0, 188, 54, 6, 167, 7, 95, 43, 42, 21, 4, 4, 96, 46, 42, 21, 4, 5, 96, 46, 45, 184, 0, 189, 54, 5, 44, 42, 21, 4, 4, 96, 46, 42, 21, 4, 5, 96, 46, 182, 0, 191, 54, 6, 167, 7, 55, 43, 42, 21, 4, 4, 96, 46, 42, 21, 4, 5, 96, 46, 45, 184, 0, 192, 54, 5, 44, 42, 21, 4, 4, 96, 46, 42, 21, 4, 5, 96, 46, 182, 0, 194, 54, 6, 167, 7, 15, 43, 42, 21, 4, 4, 96, 46] := by decide +kernel
theorem dL_law_354 : decode cL_law 354 = .ok (.iconst 2, 1) := dq_op5 (dq_at (j := 0) dk_29a_2 rfl rfl)
theorem dL_law_355 : decode cL_law 355 = .ok (.iadd, 1) := dq_op96 (dq_at (j := 1) dk_29a_2 rfl rfl)
theorem dL_law_356 : decode cL_law 356 = .ok (.iaload, 1) := dq_op46 (dq_at (j := 2) dk_29a_2 rfl rfl)
theorem dL_law_357 : decode cL_law 357 = .ok (.aload_n 3, 1) := dq_op45 (dq_at (j := 3) dk_29a_2 rfl rfl)
theorem dL_law_358 : decode cL_law 358 = .ok (.invokestatic 186, 3) := dq_op184 (dq_at (j := 4) dk_29a_2 rfl rfl) (dq_at (j := 5) dk_29a_2 rfl rfl) (dq_at (j := 6) dk_29a_2 rfl rfl) rfl
theorem dL_law_361 : decode cL_law 361 = .ok (.istore 5, 2) := dq_op54 (dq_at (j := 7) dk_29a_2 rfl rfl) (dq_at (j := 8) dk_29a_2 rfl rfl) rfl
theorem dL_law_363 : decode cL_law 363 = .ok (.aload_n 2, 1) := dq_op44 (dq_at (j := 9) dk_29a_2 rfl rfl)
theorem dL_law_364 : decode cL_law 364 = .ok (.aload_n 0, 1) := dq_op42 (dq_at (j := 10) dk_29a_2 rfl rfl)
theorem dL_law_365 : decode cL_law 365 = .ok (.iload 4, 2) := dq_op21 (dq_at (j := 11) dk_29a_2 rfl rfl) (dq_at (j := 12) dk_29a_2 rfl rfl) rfl
theorem dL_law_367 : decode cL_law 367 = .ok (.iconst 1, 1) := dq_op4 (dq_at (j := 13) dk_29a_2 rfl rfl)
theorem dL_law_368 : decode cL_law 368 = .ok (.iadd, 1) := dq_op96 (dq_at (j := 14) dk_29a_2 rfl rfl)
theorem dL_law_369 : decode cL_law 369 = .ok (.iaload, 1) := dq_op46 (dq_at (j := 15) dk_29a_2 rfl rfl)
theorem dL_law_370 : decode cL_law 370 = .ok (.aload_n 0, 1) := dq_op42 (dq_at (j := 16) dk_29a_2 rfl rfl)
theorem dL_law_371 : decode cL_law 371 = .ok (.iload 4, 2) := dq_op21 (dq_at (j := 17) dk_29a_2 rfl rfl) (dq_at (j := 18) dk_29a_2 rfl rfl) rfl
theorem dL_law_373 : decode cL_law 373 = .ok (.iconst 2, 1) := dq_op5 (dq_at (j := 19) dk_29a_2 rfl rfl)
theorem dL_law_374 : decode cL_law 374 = .ok (.iadd, 1) := dq_op96 (dq_at (j := 20) dk_29a_2 rfl rfl)
theorem dL_law_375 : decode cL_law 375 = .ok (.iaload, 1) := dq_op46 (dq_at (j := 21) dk_29a_2 rfl rfl)
theorem dL_law_376 : decode cL_law 376 = .ok (.invokevirtual 188, 3) := dq_op182 (dq_at (j := 22) dk_29a_2 rfl rfl) (dq_at (j := 23) dk_29a_2 rfl rfl) (dq_at (j := 24) dk_29a_2 rfl rfl) rfl
theorem dL_law_379 : decode cL_law 379 = .ok (.istore 6, 2) := dq_op54 (dq_at (j := 25) dk_29a_2 rfl rfl) (dq_at (j := 26) dk_29a_2 rfl rfl) rfl
theorem dL_law_381 : decode cL_law 381 = .ok (.goto 1887, 3) := dq_op167 (dq_at (j := 27) dk_29a_2 rfl rfl) (dq_at (j := 28) dk_29a_2 rfl rfl) (dq_at (j := 29) dk_29a_2 rfl rfl) (by decide +kernel)
theorem dL_law_384 : decode cL_law 384 = .ok (.aload_n 1, 1) := dq_op43 (dq_at (j := 30) dk_29a_2 rfl rfl)
theorem dL_law_385 : decode cL_law 385 = .ok (.aload_n 0, 1) := dq_op42 (dq_at (j := 31) dk_29a_2 rfl rfl)
theorem dL_law_386 : decode cL_law 386 = .ok (.iload 4, 2) := dq_op21 (dq_at (j := 32) dk_29a_2 rfl rfl) (dq_at (j := 33) dk_29a_2 rfl rfl) rfl
theorem dL_law_388 : decode cL_law 388 = .ok (.iconst 1, 1) := dq_op4 (dq_at (j := 34) dk_29a_2 rfl rfl)
theorem dL_law_389 : decode cL_law 389 = .ok (.iadd, 1) := dq_op96 (dq_at (j := 35) dk_29a_2 rfl rfl)
theorem dL_law_390 : decode cL_law 390 = .ok (.iaload, 1) := dq_op46 (dq_at (j := 36) dk_29a_2 rfl rfl)
theorem dL_law_391 : decode cL_law 391 = .ok (.aload_n 0, 1) := dq_op42 (dq_at (j := 37) dk_29a_2 rfl rfl)
theorem dL_law_392 : decode cL_law 392 = .ok (.iload 4, 2) := dq_op21 (dq_at (j := 38) dk_29a_2 rfl rfl) (dq_at (j := 39) dk_29a_2 rfl rfl) rfl
theorem dL_law_394 : decode cL_law 394 = .ok (.iconst 2, 1) := dq_op5 (dq_at (j := 40) dk_29a_2 rfl rfl)
theorem dL_law_395 : decode cL_law 395 = .ok (.iadd, 1) := dq_op96 (dq_at (j := 41) dk_29a_2 rfl rfl)
theorem dL_law_396 : decode cL_law 396 = .ok (.iaload, 1) := dq_op46 (dq_at (j := 42) dk_29a_2 rfl rfl)
theorem dL_law_397 : decode cL_law 397 = .ok (.aload_n 3, 1) := dq_op45 (dq_at (j := 43) dk_29a_2 rfl rfl)
theorem dL_law_398 : decode cL_law 398 = .ok (.invokestatic 189, 3) := dq_op184 (dq_at (j := 44) dk_29a_2 rfl rfl) (dq_at (j := 45) dk_29a_2 rfl rfl) (dq_at (j := 46) dk_29a_2 rfl rfl) rfl
theorem dL_law_401 : decode cL_law 401 = .ok (.istore 5, 2) := dq_op54 (dq_at (j := 47) dk_29a_2 rfl rfl) (dq_at (j := 48) dk_29a_2 rfl rfl) rfl
theorem dL_law_403 : decode cL_law 403 = .ok (.aload_n 2, 1) := dq_op44 (dq_at (j := 49) dk_29a_2 rfl rfl)
theorem dL_law_404 : decode cL_law 404 = .ok (.aload_n 0, 1) := dq_op42 (dq_at (j := 50) dk_29a_2 rfl rfl)
theorem dL_law_405 : decode cL_law 405 = .ok (.iload 4, 2) := dq_op21 (dq_at (j := 51) dk_29a_2 rfl rfl) (dq_at (j := 52) dk_29a_2 rfl rfl) rfl
theorem dL_law_407 : decode cL_law 407 = .ok (.iconst 1, 1) := dq_op4 (dq_at (j := 53) dk_29a_2 rfl rfl)
theorem dL_law_408 : decode cL_law 408 = .ok (.iadd, 1) := dq_op96 (dq_at (j := 54) dk_29a_2 rfl rfl)
theorem dL_law_409 : decode cL_law 409 = .ok (.iaload, 1) := dq_op46 (dq_at (j := 55) dk_29a_2 rfl rfl)
theorem dL_law_410 : decode cL_law 410 = .ok (.aload_n 0, 1) := dq_op42 (dq_at (j := 56) dk_29a_2 rfl rfl)
theorem dL_law_411 : decode cL_law 411 = .ok (.iload 4, 2) := dq_op21 (dq_at (j := 57) dk_29a_2 rfl rfl) (dq_at (j := 58) dk_29a_2 rfl rfl) rfl
theorem dL_law_413 : decode cL_law 413 = .ok (.iconst 2, 1) := dq_op5 (dq_at (j := 59) dk_29a_2 rfl rfl)
theorem dL_law_414 : decode cL_law 414 = .ok (.iadd, 1) := dq_op96 (dq_at (j := 60) dk_29a_2 rfl rfl)
theorem dL_law_415 : decode cL_law 415 = .ok (.iaload, 1) := dq_op46 (dq_at (j := 61) dk_29a_2 rfl rfl)
theorem dL_law_416 : decode cL_law 416 = .ok (.invokevirtual 191, 3) := dq_op182 (dq_at (j := 62) dk_29a_2 rfl rfl) (dq_at (j := 63) dk_29a_2 rfl rfl) (dq_at (j := 64) dk_29a_2 rfl rfl) rfl
theorem dL_law_419 : decode cL_law 419 = .ok (.istore 6, 2) := dq_op54 (dq_at (j := 65) dk_29a_2 rfl rfl) (dq_at (j := 66) dk_29a_2 rfl rfl) rfl
theorem dL_law_421 : decode cL_law 421 = .ok (.goto 1847, 3) := dq_op167 (dq_at (j := 67) dk_29a_2 rfl rfl) (dq_at (j := 68) dk_29a_2 rfl rfl) (dq_at (j := 69) dk_29a_2 rfl rfl) (by decide +kernel)
theorem dL_law_424 : decode cL_law 424 = .ok (.aload_n 1, 1) := dq_op43 (dq_at (j := 70) dk_29a_2 rfl rfl)
theorem dL_law_425 : decode cL_law 425 = .ok (.aload_n 0, 1) := dq_op42 (dq_at (j := 71) dk_29a_2 rfl rfl)
theorem dL_law_426 : decode cL_law 426 = .ok (.iload 4, 2) := dq_op21 (dq_at (j := 72) dk_29a_2 rfl rfl) (dq_at (j := 73) dk_29a_2 rfl rfl) rfl
theorem dL_law_428 : decode cL_law 428 = .ok (.iconst 1, 1) := dq_op4 (dq_at (j := 74) dk_29a_2 rfl rfl)
theorem dL_law_429 : decode cL_law 429 = .ok (.iadd, 1) := dq_op96 (dq_at (j := 75) dk_29a_2 rfl rfl)
theorem dL_law_430 : decode cL_law 430 = .ok (.iaload, 1) := dq_op46 (dq_at (j := 76) dk_29a_2 rfl rfl)
theorem dL_law_431 : decode cL_law 431 = .ok (.aload_n 0, 1) := dq_op42 (dq_at (j := 77) dk_29a_2 rfl rfl)
theorem dL_law_432 : decode cL_law 432 = .ok (.iload 4, 2) := dq_op21 (dq_at (j := 78) dk_29a_2 rfl rfl) (dq_at (j := 79) dk_29a_2 rfl rfl) rfl
theorem dL_law_434 : decode cL_law 434 = .ok (.iconst 2, 1) := dq_op5 (dq_at (j := 80) dk_29a_2 rfl rfl)
theorem dL_law_435 : decode cL_law 435 = .ok (.iadd, 1) := dq_op96 (dq_at (j := 81) dk_29a_2 rfl rfl)
theorem dL_law_436 : decode cL_law 436 = .ok (.iaload, 1) := dq_op46 (dq_at (j := 82) dk_29a_2 rfl rfl)
theorem dL_law_437 : decode cL_law 437 = .ok (.aload_n 3, 1) := dq_op45 (dq_at (j := 83) dk_29a_2 rfl rfl)
theorem dL_law_438 : decode cL_law 438 = .ok (.invokestatic 192, 3) := dq_op184 (dq_at (j := 84) dk_29a_2 rfl rfl) (dq_at (j := 85) dk_29a_2 rfl rfl) (dq_at (j := 86) dk_29a_2 rfl rfl) rfl
theorem dL_law_441 : decode cL_law 441 = .ok (.istore 5, 2) := dq_op54 (dq_at (j := 87) dk_29a_2 rfl rfl) (dq_at (j := 88) dk_29a_2 rfl rfl) rfl
theorem dL_law_443 : decode cL_law 443 = .ok (.aload_n 2, 1) := dq_op44 (dq_at (j := 89) dk_29a_2 rfl rfl)
theorem dL_law_444 : decode cL_law 444 = .ok (.aload_n 0, 1) := dq_op42 (dq_at (j := 90) dk_29a_2 rfl rfl)
theorem dL_law_445 : decode cL_law 445 = .ok (.iload 4, 2) := dq_op21 (dq_at (j := 91) dk_29a_2 rfl rfl) (dq_at (j := 92) dk_29a_2 rfl rfl) rfl
theorem dL_law_447 : decode cL_law 447 = .ok (.iconst 1, 1) := dq_op4 (dq_at (j := 93) dk_29a_2 rfl rfl)
theorem dL_law_448 : decode cL_law 448 = .ok (.iadd, 1) := dq_op96 (dq_at (j := 94) dk_29a_2 rfl rfl)
theorem dL_law_449 : decode cL_law 449 = .ok (.iaload, 1) := dq_op46 (dq_at (j := 95) dk_29a_2 rfl rfl)
theorem dL_law_450 : decode cL_law 450 = .ok (.aload_n 0, 1) := dq_op42 (dq_at (j := 96) dk_29a_2 rfl rfl)
theorem dL_law_451 : decode cL_law 451 = .ok (.iload 4, 2) := dq_op21 (dq_at (j := 97) dk_29a_2 rfl rfl) (dq_at (j := 98) dk_29a_2 rfl rfl) rfl
theorem dL_law_453 : decode cL_law 453 = .ok (.iconst 2, 1) := dq_op5 (dq_at (j := 99) dk_29a_2 rfl rfl)
theorem dL_law_454 : decode cL_law 454 = .ok (.iadd, 1) := dq_op96 (dq_at (j := 100) dk_29a_2 rfl rfl)
theorem dL_law_455 : decode cL_law 455 = .ok (.iaload, 1) := dq_op46 (dq_at (j := 101) dk_29a_2 rfl rfl)
theorem dL_law_456 : decode cL_law 456 = .ok (.invokevirtual 194, 3) := dq_op182 (dq_at (j := 102) dk_29a_2 rfl rfl) (dq_at (j := 103) dk_29a_2 rfl rfl) (dq_at (j := 104) dk_29a_2 rfl rfl) rfl
theorem dL_law_459 : decode cL_law 459 = .ok (.istore 6, 2) := dq_op54 (dq_at (j := 105) dk_29a_2 rfl rfl) (dq_at (j := 106) dk_29a_2 rfl rfl) rfl
theorem dL_law_461 : decode cL_law 461 = .ok (.goto 1807, 3) := dq_op167 (dq_at (j := 107) dk_29a_2 rfl rfl) (dq_at (j := 108) dk_29a_2 rfl rfl) (dq_at (j := 109) dk_29a_2 rfl rfl) (by decide +kernel)
theorem dL_law_464 : decode cL_law 464 = .ok (.aload_n 1, 1) := dq_op43 (dq_at (j := 110) dk_29a_2 rfl rfl)
theorem dL_law_465 : decode cL_law 465 = .ok (.aload_n 0, 1) := dq_op42 (dq_at (j := 111) dk_29a_2 rfl rfl)
theorem dL_law_466 : decode cL_law 466 = .ok (.iload 4, 2) := dq_op21 (dq_at (j := 112) dk_29a_2 rfl rfl) (dq_at (j := 113) dk_29a_2 rfl rfl) rfl
theorem dL_law_468 : decode cL_law 468 = .ok (.iconst 1, 1) := dq_op4 (dq_at (j := 114) dk_29a_2 rfl rfl)
noncomputable def dq_end_29a : Nat := 0
