theorem dk_29l_1 : (cL_law.data.toList.drop 3348).take 165 = [148, 153, 0, 5, 3, 172, 167, 1, 50, 43, 42, 21, 4, 4, 96, 46, 45, 184, 1, 64, 54, 5, 44, 42, 21, 4, 4, 96, 46, 182, 1, 66, 54, 6, 44, 182, 0, 182, 21, 5, 159, 0, 5, 3, 172, 21, 5, 154, 0, 16, 45, 180, 0, 13, 21, 6, 133, 148, 153, 0, 5, 3, 172, 167, 0, 249, 43, 42, 21, 4, 4, 96, 46, 42, 21, 4, 5, 96, 46, 153, 0, 7, 4, 167, 0, 4, 3, 45, 184, 1, 67, 54, 5, 44, 42, 21, 4, 4, 96, 46, 42, 21, 4, 5, 96, 46, 153, 0, 7, 4, 167, 0, 4, 3, 182, 1, 69, 54, 6, 44, 182, 0, 182, 21, 5, 159, 0, 5, 3, 172, 21, 5, 154, 0, 16, 45, 180, 0, 13, 21, 6, 133, 148, 153, 0, 5, 3, 172, 167, 0, 164, 43, 42, 21, 4, 4, 96, 46, 45, 184, 1, 70, 54, 5, 44] := by decide +kernel
theorem dL_law_3348 : decode cL_law 3348 = .ok (.lcmp, 1) := dq_op148 (dq_at (j := 0) dk_29l_1 rfl rfl)
theorem dL_law_3349 : decode cL_law 3349 = .ok (.ifCond .eq 5, 3) := dq_op153 (dq_at (j := 1) dk_29l_1 rfl rfl) (dq_at (j := 2) dk_29l_1 rfl rfl) (dq_at (j := 3) dk_29l_1 rfl rfl) (by decide +kernel)
theorem dL_law_3352 : decode cL_law 3352 = .ok (.iconst 0, 1) := dq_op3 (dq_at (j := 4) dk_29l_1 rfl rfl)
theorem dL_law_3353 : decode cL_law 3353 = .ok (.ireturn, 1) := dq_op172 (dq_at (j := 5) dk_29l_1 rfl rfl)
theorem dL_law_3354 : decode cL_law 3354 = .ok (.goto 306, 3) := dq_op167 (dq_at (j := 6) dk_29l_1 rfl rfl) (dq_at (j := 7) dk_29l_1 rfl rfl) (dq_at (j := 8) dk_29l_1 rfl rfl) (by decide +kernel)
theorem dL_law_3357 : decode cL_law 3357 = .ok (.aload_n 1, 1) := dq_op43 (dq_at (j := 9) dk_29l_1 rfl rfl)
theorem dL_law_3358 : decode cL_law 3358 = .ok (.aload_n 0, 1) := dq_op42 (dq_at (j := 10) dk_29l_1 rfl rfl)
theorem dL_law_3359 : decode cL_law 3359 = .ok (.iload 4, 2) := dq_op21 (dq_at (j := 11) dk_29l_1 rfl rfl) (dq_at (j := 12) dk_29l_1 rfl rfl) rfl
theorem dL_law_3361 : decode cL_law 3361 = .ok (.iconst 1, 1) := dq_op4 (dq_at (j := 13) dk_29l_1 rfl rfl)
theorem dL_law_3362 : decode cL_law 3362 = .ok (.iadd, 1) := dq_op96 (dq_at (j := 14) dk_29l_1 rfl rfl)
theorem dL_law_3363 : decode cL_law 3363 = .ok (.iaload, 1) := dq_op46 (dq_at (j := 15) dk_29l_1 rfl rfl)
theorem dL_law_3364 : decode cL_law 3364 = .ok (.aload_n 3, 1) := dq_op45 (dq_at (j := 16) dk_29l_1 rfl rfl)
theorem dL_law_3365 : decode cL_law 3365 = .ok (.invokestatic 320, 3) := dq_op184 (dq_at (j := 17) dk_29l_1 rfl rfl) (dq_at (j := 18) dk_29l_1 rfl rfl) (dq_at (j := 19) dk_29l_1 rfl rfl) rfl
theorem dL_law_3368 : decode cL_law 3368 = .ok (.istore 5, 2) := dq_op54 (dq_at (j := 20) dk_29l_1 rfl rfl) (dq_at (j := 21) dk_29l_1 rfl rfl) rfl
theorem dL_law_3370 : decode cL_law 3370 = .ok (.aload_n 2, 1) := dq_op44 (dq_at (j := 22) dk_29l_1 rfl rfl)
theorem dL_law_3371 : decode cL_law 3371 = .ok (.aload_n 0, 1) := dq_op42 (dq_at (j := 23) dk_29l_1 rfl rfl)
theorem dL_law_3372 : decode cL_law 3372 = .ok (.iload 4, 2) := dq_op21 (dq_at (j := 24) dk_29l_1 rfl rfl) (dq_at (j := 25) dk_29l_1 rfl rfl) rfl
theorem dL_law_3374 : decode cL_law 3374 = .ok (.iconst 1, 1) := dq_op4 (dq_at (j := 26) dk_29l_1 rfl rfl)
theorem dL_law_3375 : decode cL_law 3375 = .ok (.iadd, 1) := dq_op96 (dq_at (j := 27) dk_29l_1 rfl rfl)
theorem dL_law_3376 : decode cL_law 3376 = .ok (.iaload, 1) := dq_op46 (dq_at (j := 28) dk_29l_1 rfl rfl)
theorem dL_law_3377 : decode cL_law 3377 = .ok (.invokevirtual 322, 3) := dq_op182 (dq_at (j := 29) dk_29l_1 rfl rfl) (dq_at (j := 30) dk_29l_1 rfl rfl) (dq_at (j := 31) dk_29l_1 rfl rfl) rfl
theorem dL_law_3380 : decode cL_law 3380 = .ok (.istore 6, 2) := dq_op54 (dq_at (j := 32) dk_29l_1 rfl rfl) (dq_at (j := 33) dk_29l_1 rfl rfl) rfl
theorem dL_law_3382 : decode cL_law 3382 = .ok (.aload_n 2, 1) := dq_op44 (dq_at (j := 34) dk_29l_1 rfl rfl)
theorem dL_law_3383 : decode cL_law 3383 = .ok (.invokevirtual 182, 3) := dq_op182 (dq_at (j := 35) dk_29l_1 rfl rfl) (dq_at (j := 36) dk_29l_1 rfl rfl) (dq_at (j := 37) dk_29l_1 rfl rfl) rfl
theorem dL_law_3386 : decode cL_law 3386 = .ok (.iload 5, 2) := dq_op21 (dq_at (j := 38) dk_29l_1 rfl rfl) (dq_at (j := 39) dk_29l_1 rfl rfl) rfl
theorem dL_law_3388 : decode cL_law 3388 = .ok (.if_icmp .eq 5, 3) := dq_op159 (dq_at (j := 40) dk_29l_1 rfl rfl) (dq_at (j := 41) dk_29l_1 rfl rfl) (dq_at (j := 42) dk_29l_1 rfl rfl) (by decide +kernel)
theorem dL_law_3391 : decode cL_law 3391 = .ok (.iconst 0, 1) := dq_op3 (dq_at (j := 43) dk_29l_1 rfl rfl)
theorem dL_law_3392 : decode cL_law 3392 = .ok (.ireturn, 1) := dq_op172 (dq_at (j := 44) dk_29l_1 rfl rfl)
theorem dL_law_3393 : decode cL_law 3393 = .ok (.iload 5, 2) := dq_op21 (dq_at (j := 45) dk_29l_1 rfl rfl) (dq_at (j := 46) dk_29l_1 rfl rfl) rfl
theorem dL_law_3395 : decode cL_law 3395 = .ok (.ifCond .ne 16, 3) := dq_op154 (dq_at (j := 47) dk_29l_1 rfl rfl) (dq_at (j := 48) dk_29l_1 rfl rfl) (dq_at (j := 49) dk_29l_1 rfl rfl) (by decide +kernel)
theorem dL_law_3398 : decode cL_law 3398 = .ok (.aload_n 3, 1) := dq_op45 (dq_at (j := 50) dk_29l_1 rfl rfl)
theorem dL_law_3399 : decode cL_law 3399 = .ok (.getfield 13, 3) := dq_op180 (dq_at (j := 51) dk_29l_1 rfl rfl) (dq_at (j := 52) dk_29l_1 rfl rfl) (dq_at (j := 53) dk_29l_1 rfl rfl) rfl
theorem dL_law_3402 : decode cL_law 3402 = .ok (.iload 6, 2) := dq_op21 (dq_at (j := 54) dk_29l_1 rfl rfl) (dq_at (j := 55) dk_29l_1 rfl rfl) rfl
theorem dL_law_3404 : decode cL_law 3404 = .ok (.i2l, 1) := dq_op133 (dq_at (j := 56) dk_29l_1 rfl rfl)
theorem dL_law_3405 : decode cL_law 3405 = .ok (.lcmp, 1) := dq_op148 (dq_at (j := 57) dk_29l_1 rfl rfl)
theorem dL_law_3406 : decode cL_law 3406 = .ok (.ifCond .eq 5, 3) := dq_op153 (dq_at (j := 58) dk_29l_1 rfl rfl) (dq_at (j := 59) dk_29l_1 rfl rfl) (dq_at (j := 60) dk_29l_1 rfl rfl) (by decide +kernel)
theorem dL_law_3409 : decode cL_law 3409 = .ok (.iconst 0, 1) := dq_op3 (dq_at (j := 61) dk_29l_1 rfl rfl)
theorem dL_law_3410 : decode cL_law 3410 = .ok (.ireturn, 1) := dq_op172 (dq_at (j := 62) dk_29l_1 rfl rfl)
theorem dL_law_3411 : decode cL_law 3411 = .ok (.goto 249, 3) := dq_op167 (dq_at (j := 63) dk_29l_1 rfl rfl) (dq_at (j := 64) dk_29l_1 rfl rfl) (dq_at (j := 65) dk_29l_1 rfl rfl) (by decide +kernel)
theorem dL_law_3414 : decode cL_law 3414 = .ok (.aload_n 1, 1) := dq_op43 (dq_at (j := 66) dk_29l_1 rfl rfl)
theorem dL_law_3415 : decode cL_law 3415 = .ok (.aload_n 0, 1) := dq_op42 (dq_at (j := 67) dk_29l_1 rfl rfl)
theorem dL_law_3416 : decode cL_law 3416 = .ok (.iload 4, 2) := dq_op21 (dq_at (j := 68) dk_29l_1 rfl rfl) (dq_at (j := 69) dk_29l_1 rfl rfl) rfl
theorem dL_law_3418 : decode cL_law 3418 = .ok (.iconst 1, 1) := dq_op4 (dq_at (j := 70) dk_29l_1 rfl rfl)
theorem dL_law_3419 : decode cL_law 3419 = .ok (.iadd, 1) := dq_op96 (dq_at (j := 71) dk_29l_1 rfl rfl)
theorem dL_law_3420 : decode cL_law 3420 = .ok (.iaload, 1) := dq_op46 (dq_at (j := 72) dk_29l_1 rfl rfl)
theorem dL_law_3421 : decode cL_law 3421 = .ok (.aload_n 0, 1) := dq_op42 (dq_at (j := 73) dk_29l_1 rfl rfl)
theorem dL_law_3422 : decode cL_law 3422 = .ok (.iload 4, 2) := dq_op21 (dq_at (j := 74) dk_29l_1 rfl rfl) (dq_at (j := 75) dk_29l_1 rfl rfl) rfl
theorem dL_law_3424 : decode cL_law 3424 = .ok (.iconst 2, 1) := dq_op5 (dq_at (j := 76) dk_29l_1 rfl rfl)
theorem dL_law_3425 : decode cL_law 3425 = .ok (.iadd, 1) := dq_op96 (dq_at (j := 77) dk_29l_1 rfl rfl)
theorem dL_law_3426 : decode cL_law 3426 = .ok (.iaload, 1) := dq_op46 (dq_at (j := 78) dk_29l_1 rfl rfl)
theorem dL_law_3427 : decode cL_law 3427 = .ok (.ifCond .eq 7, 3) := dq_op153 (dq_at (j := 79) dk_29l_1 rfl rfl) (dq_at (j := 80) dk_29l_1 rfl rfl) (dq_at (j := 81) dk_29l_1 rfl rfl) (by decide +kernel)
theorem dL_law_3430 : decode cL_law 3430 = .ok (.iconst 1, 1) := dq_op4 (dq_at (j := 82) dk_29l_1 rfl rfl)
theorem dL_law_3431 : decode cL_law 3431 = .ok (.goto 4, 3) := dq_op167 (dq_at (j := 83) dk_29l_1 rfl rfl) (dq_at (j := 84) dk_29l_1 rfl rfl) (dq_at (j := 85) dk_29l_1 rfl rfl) (by decide +kernel)
theorem dL_law_3434 : decode cL_law 3434 = .ok (.iconst 0, 1) := dq_op3 (dq_at (j := 86) dk_29l_1 rfl rfl)
theorem dL_law_3435 : decode cL_law 3435 = .ok (.aload_n 3, 1) := dq_op45 (dq_at (j := 87) dk_29l_1 rfl rfl)
theorem dL_law_3436 : decode cL_law 3436 = .ok (.invokestatic 323, 3) := dq_op184 (dq_at (j := 88) dk_29l_1 rfl rfl) (dq_at (j := 89) dk_29l_1 rfl rfl) (dq_at (j := 90) dk_29l_1 rfl rfl) rfl
theorem dL_law_3439 : decode cL_law 3439 = .ok (.istore 5, 2) := dq_op54 (dq_at (j := 91) dk_29l_1 rfl rfl) (dq_at (j := 92) dk_29l_1 rfl rfl) rfl
theorem dL_law_3441 : decode cL_law 3441 = .ok (.aload_n 2, 1) := dq_op44 (dq_at (j := 93) dk_29l_1 rfl rfl)
theorem dL_law_3442 : decode cL_law 3442 = .ok (.aload_n 0, 1) := dq_op42 (dq_at (j := 94) dk_29l_1 rfl rfl)
theorem dL_law_3443 : decode cL_law 3443 = .ok (.iload 4, 2) := dq_op21 (dq_at (j := 95) dk_29l_1 rfl rfl) (dq_at (j := 96) dk_29l_1 rfl rfl) rfl
theorem dL_law_3445 : decode cL_law 3445 = .ok (.iconst 1, 1) := dq_op4 (dq_at (j := 97) dk_29l_1 rfl rfl)
theorem dL_law_3446 : decode cL_law 3446 = .ok (.iadd, 1) := dq_op96 (dq_at (j := 98) dk_29l_1 rfl rfl)
theorem dL_law_3447 : decode cL_law 3447 = .ok (.iaload, 1) := dq_op46 (dq_at (j := 99) dk_29l_1 rfl rfl)
theorem dL_law_3448 : decode cL_law 3448 = .ok (.aload_n 0, 1) := dq_op42 (dq_at (j := 100) dk_29l_1 rfl rfl)
theorem dL_law_3449 : decode cL_law 3449 = .ok (.iload 4, 2) := dq_op21 (dq_at (j := 101) dk_29l_1 rfl rfl) (dq_at (j := 102) dk_29l_1 rfl rfl) rfl
theorem dL_law_3451 : decode cL_law 3451 = .ok (.iconst 2, 1) := dq_op5 (dq_at (j := 103) dk_29l_1 rfl rfl)
theorem dL_law_3452 : decode cL_law 3452 = .ok (.iadd, 1) := dq_op96 (dq_at (j := 104) dk_29l_1 rfl rfl)
theorem dL_law_3453 : decode cL_law 3453 = .ok (.iaload, 1) := dq_op46 (dq_at (j := 105) dk_29l_1 rfl rfl)
theorem dL_law_3454 : decode cL_law 3454 = .ok (.ifCond .eq 7, 3) := dq_op153 (dq_at (j := 106) dk_29l_1 rfl rfl) (dq_at (j := 107) dk_29l_1 rfl rfl) (dq_at (j := 108) dk_29l_1 rfl rfl) (by decide +kernel)
theorem dL_law_3457 : decode cL_law 3457 = .ok (.iconst 1, 1) := dq_op4 (dq_at (j := 109) dk_29l_1 rfl rfl)
theorem dL_law_3458 : decode cL_law 3458 = .ok (.goto 4, 3) := dq_op167 (dq_at (j := 110) dk_29l_1 rfl rfl) (dq_at (j := 111) dk_29l_1 rfl rfl) (dq_at (j := 112) dk_29l_1 rfl rfl) (by decide +kernel)
theorem dL_law_3461 : decode cL_law 3461 = .ok (.iconst 0, 1) := dq_op3 (dq_at (j := 113) dk_29l_1 rfl rfl)
theorem dL_law_3462 : decode cL_law 3462 = .ok (.invokevirtual 325, 3) := dq_op182 (dq_at (j := 114) dk_29l_1 rfl rfl) (dq_at (j := 115) dk_29l_1 rfl rfl) (dq_at (j := 116) dk_29l_1 rfl rfl) rfl
theorem dL_law_3465 : decode cL_law 3465 = .ok (.istore 6, 2) := dq_op54 (dq_at (j := 117) dk_29l_1 rfl rfl) (dq_at (j := 118) dk_29l_1 rfl rfl) rfl
theorem dL_law_3467 : decode cL_law 3467 = .ok (.aload_n 2, 1) := dq_op44 (dq_at (j := 119) dk_29l_1 rfl rfl)
theorem dL_law_3468 : decode cL_law 3468 = .ok (.invokevirtual 182, 3) := dq_op182 (dq_at (j := 120) dk_29l_1 rfl rfl) (dq_at (j := 121) dk_29l_1 rfl rfl) (dq_at (j := 122) dk_29l_1 rfl rfl) rfl
theorem dL_law_3471 : decode cL_law 3471 = .ok (.iload 5, 2) := dq_op21 (dq_at (j := 123) dk_29l_1 rfl rfl) (dq_at (j := 124) dk_29l_1 rfl rfl) rfl
theorem dL_law_3473 : decode cL_law 3473 = .ok (.if_icmp .eq 5, 3) := dq_op159 (dq_at (j := 125) dk_29l_1 rfl rfl) (dq_at (j := 126) dk_29l_1 rfl rfl) (dq_at (j := 127) dk_29l_1 rfl rfl) (by decide +kernel)
theorem dL_law_3476 : decode cL_law 3476 = .ok (.iconst 0, 1) := dq_op3 (dq_at (j := 128) dk_29l_1 rfl rfl)
theorem dL_law_3477 : decode cL_law 3477 = .ok (.ireturn, 1) := dq_op172 (dq_at (j := 129) dk_29l_1 rfl rfl)
theorem dL_law_3478 : decode cL_law 3478 = .ok (.iload 5, 2) := dq_op21 (dq_at (j := 130) dk_29l_1 rfl rfl) (dq_at (j := 131) dk_29l_1 rfl rfl) rfl
theorem dL_law_3480 : decode cL_law 3480 = .ok (.ifCond .ne 16, 3) := dq_op154 (dq_at (j := 132) dk_29l_1 rfl rfl) (dq_at (j := 133) dk_29l_1 rfl rfl) (dq_at (j := 134) dk_29l_1 rfl rfl) (by decide +kernel)
theorem dL_law_3483 : decode cL_law 3483 = .ok (.aload_n 3, 1) := dq_op45 (dq_at (j := 135) dk_29l_1 rfl rfl)
theorem dL_law_3484 : decode cL_law 3484 = .ok (.getfield 13, 3) := dq_op180 (dq_at (j := 136) dk_29l_1 rfl rfl) (dq_at (j := 137) dk_29l_1 rfl rfl) (dq_at (j := 138) dk_29l_1 rfl rfl) rfl
theorem dL_law_3487 : decode cL_law 3487 = .ok (.iload 6, 2) := dq_op21 (dq_at (j := 139) dk_29l_1 rfl rfl) (dq_at (j := 140) dk_29l_1 rfl rfl) rfl
theorem dL_law_3489 : decode cL_law 3489 = .ok (.i2l, 1) := dq_op133 (dq_at (j := 141) dk_29l_1 rfl rfl)
theorem dL_law_3490 : decode cL_law 3490 = .ok (.lcmp, 1) := dq_op148 (dq_at (j := 142) dk_29l_1 rfl rfl)
theorem dL_law_3491 : decode cL_law 3491 = .ok (.ifCond .eq 5, 3) := dq_op153 (dq_at (j := 143) dk_29l_1 rfl rfl) (dq_at (j := 144) dk_29l_1 rfl rfl) (dq_at (j := 145) dk_29l_1 rfl rfl) (by decide +kernel)
theorem dL_law_3494 : decode cL_law 3494 = .ok (.iconst 0, 1) := dq_op3 (dq_at (j := 146) dk_29l_1 rfl rfl)
theorem dL_law_3495 : decode cL_law 3495 = .ok (.ireturn, 1) := dq_op172 (dq_at (j := 147) dk_29l_1 rfl rfl)
theorem dL_law_3496 : decode cL_law 3496 = .ok (.goto 164, 3) := dq_op167 (dq_at (j := 148) dk_29l_1 rfl rfl) (dq_at (j := 149) dk_29l_1 rfl rfl) (dq_at (j := 150) dk_29l_1 rfl rfl) (by decide +kernel)
theorem dL_law_3499 : decode cL_law 3499 = .ok (.aload_n 1, 1) := dq_op43 (dq_at (j := 151) dk_29l_1 rfl rfl)
theorem dL_law_3500 : decode cL_law 3500 = .ok (.aload_n 0, 1) := dq_op42 (dq_at (j := 152) dk_29l_1 rfl rfl)
theorem dL_law_3501 : decode cL_law 3501 = .ok (.iload 4, 2) := dq_op21 (dq_at (j := 153) dk_29l_1 rfl rfl) (dq_at (j := 154) dk_29l_1 rfl rfl) rfl
theorem dL_law_3503 : decode cL_law 3503 = .ok (.iconst 1, 1) := dq_op4 (dq_at (j := 155) dk_29l_1 rfl rfl)
theorem dL_law_3504 : decode cL_law 3504 = .ok (.iadd, 1) := dq_op96 (dq_at (j := 156) dk_29l_1 rfl rfl)
theorem dL_law_3505 : decode cL_law 3505 = .ok (.iaload, 1) := dq_op46 (dq_at (j := 157) dk_29l_1 rfl rfl)
theorem dL_law_3506 : decode cL_law 3506 = .ok (.aload_n 3, 1) := dq_op45 (dq_at (j := 158) dk_29l_1 rfl rfl)
theorem dL_law_3507 : decode cL_law 3507 = .ok (.invokestatic 326, 3) := dq_op184 (dq_at (j := 159) dk_29l_1 rfl rfl) (dq_at (j := 160) dk_29l_1 rfl rfl) (dq_at (j := 161) dk_29l_1 rfl rfl) rfl
theorem dL_law_3510 : decode cL_law 3510 = .ok (.istore 5, 2) := dq_op54 (dq_at (j := 162) dk_29l_1 rfl rfl) (dq_at (j := 163) dk_29l_1 rfl rfl) rfl
theorem dk_29l_2 : (cL_law.data.toList.drop 3512).take 142 = [44, 42, 21, 4, 4, 96, 46, 182, 1, 72, 54, 6, 44, 182, 0, 182, 21, 5, 159, 0, 5, 3, 172, 21, 5, 154, 0, 23, 45, 180, 0, 13, 21, 6, 153, 0, 7, 10, 167, 0, 4, 9, 148, 153, 0, 5, 3, 172, 167, 0, 100, 43, 42, 21, 4, 4, 96, 46, 45, 184, 1, 73, 54, 5, 44, 42, 21, 4, 4, 96, 46, 182, 1, 75, 54, 6, 44, 182, 0, 182, 21, 5, 159, 0, 5, 3, 172, 21, 5, 154, 0, 16, 45, 180, 0, 13, 21, 6, 133, 148, 153, 0, 5, 3, 172, 167, 0, 43, 43, 182, 1, 76, 44, 182, 1, 79, 159, 0, 32, 3, 172, 43, 182, 1, 80, 44, 182, 1, 84, 159, 0, 19, 3, 172, 43, 182, 1, 85, 44, 182, 1, 89] := by decide +kernel
theorem dL_law_3512 : decode cL_law 3512 = .ok (.aload_n 2, 1) := dq_op44 (dq_at (j := 0) dk_29l_2 rfl rfl)
theorem dL_law_3513 : decode cL_law 3513 = .ok (.aload_n 0, 1) := dq_op42 (dq_at (j := 1) dk_29l_2 rfl rfl)
theorem dL_law_3514 : decode cL_law 3514 = .ok (.iload 4, 2) := dq_op21 (dq_at (j := 2) dk_29l_2 rfl rfl) (dq_at (j := 3) dk_29l_2 rfl rfl) rfl
theorem dL_law_3516 : decode cL_law 3516 = .ok (.iconst 1, 1) := dq_op4 (dq_at (j := 4) dk_29l_2 rfl rfl)
theorem dL_law_3517 : decode cL_law 3517 = .ok (.iadd, 1) := dq_op96 (dq_at (j := 5) dk_29l_2 rfl rfl)
theorem dL_law_3518 : decode cL_law 3518 = .ok (.iaload, 1) := dq_op46 (dq_at (j := 6) dk_29l_2 rfl rfl)
theorem dL_law_3519 : decode cL_law 3519 = .ok (.invokevirtual 328, 3) := dq_op182 (dq_at (j := 7) dk_29l_2 rfl rfl) (dq_at (j := 8) dk_29l_2 rfl rfl) (dq_at (j := 9) dk_29l_2 rfl rfl) rfl
theorem dL_law_3522 : decode cL_law 3522 = .ok (.istore 6, 2) := dq_op54 (dq_at (j := 10) dk_29l_2 rfl rfl) (dq_at (j := 11) dk_29l_2 rfl rfl) rfl
theorem dL_law_3524 : decode cL_law 3524 = .ok (.aload_n 2, 1) := dq_op44 (dq_at (j := 12) dk_29l_2 rfl rfl)
theorem dL_law_3525 : decode cL_law 3525 = .ok (.invokevirtual 182, 3) := dq_op182 (dq_at (j := 13) dk_29l_2 rfl rfl) (dq_at (j := 14) dk_29l_2 rfl rfl) (dq_at (j := 15) dk_29l_2 rfl rfl) rfl
theorem dL_law_3528 : decode cL_law 3528 = .ok (.iload 5, 2) := dq_op21 (dq_at (j := 16) dk_29l_2 rfl rfl) (dq_at (j := 17) dk_29l_2 rfl rfl) rfl
theorem dL_law_3530 : decode cL_law 3530 = .ok (.if_icmp .eq 5, 3) := dq_op159 (dq_at (j := 18) dk_29l_2 rfl rfl) (dq_at (j := 19) dk_29l_2 rfl rfl) (dq_at (j := 20) dk_29l_2 rfl rfl) (by decide +kernel)
theorem dL_law_3533 : decode cL_law 3533 = .ok (.iconst 0, 1) := dq_op3 (dq_at (j := 21) dk_29l_2 rfl rfl)
theorem dL_law_3534 : decode cL_law 3534 = .ok (.ireturn, 1) := dq_op172 (dq_at (j := 22) dk_29l_2 rfl rfl)
theorem dL_law_3535 : decode cL_law 3535 = .ok (.iload 5, 2) := dq_op21 (dq_at (j := 23) dk_29l_2 rfl rfl) (dq_at (j := 24) dk_29l_2 rfl rfl) rfl
theorem dL_law_3537 : decode cL_law 3537 = .ok (.ifCond .ne 23, 3) := dq_op154 (dq_at (j := 25) dk_29l_2 rfl rfl) (dq_at (j := 26) dk_29l_2 rfl rfl) (dq_at (j := 27) dk_29l_2 rfl rfl) (by decide +kernel)
theorem dL_law_3540 : decode cL_law 3540 = .ok (.aload_n 3, 1) := dq_op45 (dq_at (j := 28) dk_29l_2 rfl rfl)
theorem dL_law_3541 : decode cL_law 3541 = .ok (.getfield 13, 3) := dq_op180 (dq_at (j := 29) dk_29l_2 rfl rfl) (dq_at (j := 30) dk_29l_2 rfl rfl) (dq_at (j := 31) dk_29l_2 rfl rfl) rfl
theorem dL_law_3544 : decode cL_law 3544 = .ok (.iload 6, 2) := dq_op21 (dq_at (j := 32) dk_29l_2 rfl rfl) (dq_at (j := 33) dk_29l_2 rfl rfl) rfl
theorem dL_law_3546 : decode cL_law 3546 = .ok (.ifCond .eq 7, 3) := dq_op153 (dq_at (j := 34) dk_29l_2 rfl rfl) (dq_at (j := 35) dk_29l_2 rfl rfl) (dq_at (j := 36) dk_29l_2 rfl rfl) (by decide +kernel)
theorem dL_law_3549 : decode cL_law 3549 = .ok (.lconst 1, 1) := dq_op10 (dq_at (j := 37) dk_29l_2 rfl rfl)
theorem dL_law_3550 : decode cL_law 3550 = .ok (.goto 4, 3) := dq_op167 (dq_at (j := 38) dk_29l_2 rfl rfl) (dq_at (j := 39) dk_29l_2 rfl rfl) (dq_at (j := 40) dk_29l_2 rfl rfl) (by decide +kernel)
theorem dL_law_3553 : decode cL_law 3553 = .ok (.lconst 0, 1) := dq_op9 (dq_at (j := 41) dk_29l_2 rfl rfl)
theorem dL_law_3554 : decode cL_law 3554 = .ok (.lcmp, 1) := dq_op148 (dq_at (j := 42) dk_29l_2 rfl rfl)
theorem dL_law_3555 : decode cL_law 3555 = .ok (.ifCond .eq 5, 3) := dq_op153 (dq_at (j := 43) dk_29l_2 rfl rfl) (dq_at (j := 44) dk_29l_2 rfl rfl) (dq_at (j := 45) dk_29l_2 rfl rfl) (by decide +kernel)
theorem dL_law_3558 : decode cL_law 3558 = .ok (.iconst 0, 1) := dq_op3 (dq_at (j := 46) dk_29l_2 rfl rfl)
theorem dL_law_3559 : decode cL_law 3559 = .ok (.ireturn, 1) := dq_op172 (dq_at (j := 47) dk_29l_2 rfl rfl)
theorem dL_law_3560 : decode cL_law 3560 = .ok (.goto 100, 3) := dq_op167 (dq_at (j := 48) dk_29l_2 rfl rfl) (dq_at (j := 49) dk_29l_2 rfl rfl) (dq_at (j := 50) dk_29l_2 rfl rfl) (by decide +kernel)
theorem dL_law_3563 : decode cL_law 3563 = .ok (.aload_n 1, 1) := dq_op43 (dq_at (j := 51) dk_29l_2 rfl rfl)
theorem dL_law_3564 : decode cL_law 3564 = .ok (.aload_n 0, 1) := dq_op42 (dq_at (j := 52) dk_29l_2 rfl rfl)
theorem dL_law_3565 : decode cL_law 3565 = .ok (.iload 4, 2) := dq_op21 (dq_at (j := 53) dk_29l_2 rfl rfl) (dq_at (j := 54) dk_29l_2 rfl rfl) rfl
theorem dL_law_3567 : decode cL_law 3567 = .ok (.iconst 1, 1) := dq_op4 (dq_at (j := 55) dk_29l_2 rfl rfl)
theorem dL_law_3568 : decode cL_law 3568 = .ok (.iadd, 1) := dq_op96 (dq_at (j := 56) dk_29l_2 rfl rfl)
theorem dL_law_3569 : decode cL_law 3569 = .ok (.iaload, 1) := dq_op46 (dq_at (j := 57) dk_29l_2 rfl rfl)
theorem dL_law_3570 : decode cL_law 3570 = .ok (.aload_n 3, 1) := dq_op45 (dq_at (j := 58) dk_29l_2 rfl rfl)
theorem dL_law_3571 : decode cL_law 3571 = .ok (.invokestatic 329, 3) := dq_op184 (dq_at (j := 59) dk_29l_2 rfl rfl) (dq_at (j := 60) dk_29l_2 rfl rfl) (dq_at (j := 61) dk_29l_2 rfl rfl) rfl
theorem dL_law_3574 : decode cL_law 3574 = .ok (.istore 5, 2) := dq_op54 (dq_at (j := 62) dk_29l_2 rfl rfl) (dq_at (j := 63) dk_29l_2 rfl rfl) rfl
theorem dL_law_3576 : decode cL_law 3576 = .ok (.aload_n 2, 1) := dq_op44 (dq_at (j := 64) dk_29l_2 rfl rfl)
theorem dL_law_3577 : decode cL_law 3577 = .ok (.aload_n 0, 1) := dq_op42 (dq_at (j := 65) dk_29l_2 rfl rfl)
theorem dL_law_3578 : decode cL_law 3578 = .ok (.iload 4, 2) := dq_op21 (dq_at (j := 66) dk_29l_2 rfl rfl) (dq_at (j := 67) dk_29l_2 rfl rfl) rfl
theorem dL_law_3580 : decode cL_law 3580 = .ok (.iconst 1, 1) := dq_op4 (dq_at (j := 68) dk_29l_2 rfl rfl)
theorem dL_law_3581 : decode cL_law 3581 = .ok (.iadd, 1) := dq_op96 (dq_at (j := 69) dk_29l_2 rfl rfl)
theorem dL_law_3582 : decode cL_law 3582 = .ok (.iaload, 1) := dq_op46 (dq_at (j := 70) dk_29l_2 rfl rfl)
theorem dL_law_3583 : decode cL_law 3583 = .ok (.invokevirtual 331, 3) := dq_op182 (dq_at (j := 71) dk_29l_2 rfl rfl) (dq_at (j := 72) dk_29l_2 rfl rfl) (dq_at (j := 73) dk_29l_2 rfl rfl) rfl
theorem dL_law_3586 : decode cL_law 3586 = .ok (.istore 6, 2) := dq_op54 (dq_at (j := 74) dk_29l_2 rfl rfl) (dq_at (j := 75) dk_29l_2 rfl rfl) rfl
theorem dL_law_3588 : decode cL_law 3588 = .ok (.aload_n 2, 1) := dq_op44 (dq_at (j := 76) dk_29l_2 rfl rfl)
theorem dL_law_3589 : decode cL_law 3589 = .ok (.invokevirtual 182, 3) := dq_op182 (dq_at (j := 77) dk_29l_2 rfl rfl) (dq_at (j := 78) dk_29l_2 rfl rfl) (dq_at (j := 79) dk_29l_2 rfl rfl) rfl
theorem dL_law_3592 : decode cL_law 3592 = .ok (.iload 5, 2) := dq_op21 (dq_at (j := 80) dk_29l_2 rfl rfl) (dq_at (j := 81) dk_29l_2 rfl rfl) rfl
theorem dL_law_3594 : decode cL_law 3594 = .ok (.if_icmp .eq 5, 3) := dq_op159 (dq_at (j := 82) dk_29l_2 rfl rfl) (dq_at (j := 83) dk_29l_2 rfl rfl) (dq_at (j := 84) dk_29l_2 rfl rfl) (by decide +kernel)
theorem dL_law_3597 : decode cL_law 3597 = .ok (.iconst 0, 1) := dq_op3 (dq_at (j := 85) dk_29l_2 rfl rfl)
theorem dL_law_3598 : decode cL_law 3598 = .ok (.ireturn, 1) := dq_op172 (dq_at (j := 86) dk_29l_2 rfl rfl)
theorem dL_law_3599 : decode cL_law 3599 = .ok (.iload 5, 2) := dq_op21 (dq_at (j := 87) dk_29l_2 rfl rfl) (dq_at (j := 88) dk_29l_2 rfl rfl) rfl
theorem dL_law_3601 : decode cL_law 3601 = .ok (.ifCond .ne 16, 3) := dq_op154 (dq_at (j := 89) dk_29l_2 rfl rfl) (dq_at (j := 90) dk_29l_2 rfl rfl) (dq_at (j := 91) dk_29l_2 rfl rfl) (by decide +kernel)
theorem dL_law_3604 : decode cL_law 3604 = .ok (.aload_n 3, 1) := dq_op45 (dq_at (j := 92) dk_29l_2 rfl rfl)
theorem dL_law_3605 : decode cL_law 3605 = .ok (.getfield 13, 3) := dq_op180 (dq_at (j := 93) dk_29l_2 rfl rfl) (dq_at (j := 94) dk_29l_2 rfl rfl) (dq_at (j := 95) dk_29l_2 rfl rfl) rfl
theorem dL_law_3608 : decode cL_law 3608 = .ok (.iload 6, 2) := dq_op21 (dq_at (j := 96) dk_29l_2 rfl rfl) (dq_at (j := 97) dk_29l_2 rfl rfl) rfl
theorem dL_law_3610 : decode cL_law 3610 = .ok (.i2l, 1) := dq_op133 (dq_at (j := 98) dk_29l_2 rfl rfl)
theorem dL_law_3611 : decode cL_law 3611 = .ok (.lcmp, 1) := dq_op148 (dq_at (j := 99) dk_29l_2 rfl rfl)
theorem dL_law_3612 : decode cL_law 3612 = .ok (.ifCond .eq 5, 3) := dq_op153 (dq_at (j := 100) dk_29l_2 rfl rfl) (dq_at (j := 101) dk_29l_2 rfl rfl) (dq_at (j := 102) dk_29l_2 rfl rfl) (by decide +kernel)
theorem dL_law_3615 : decode cL_law 3615 = .ok (.iconst 0, 1) := dq_op3 (dq_at (j := 103) dk_29l_2 rfl rfl)
theorem dL_law_3616 : decode cL_law 3616 = .ok (.ireturn, 1) := dq_op172 (dq_at (j := 104) dk_29l_2 rfl rfl)
theorem dL_law_3617 : decode cL_law 3617 = .ok (.goto 43, 3) := dq_op167 (dq_at (j := 105) dk_29l_2 rfl rfl) (dq_at (j := 106) dk_29l_2 rfl rfl) (dq_at (j := 107) dk_29l_2 rfl rfl) (by decide +kernel)
theorem dL_law_3620 : decode cL_law 3620 = .ok (.aload_n 1, 1) := dq_op43 (dq_at (j := 108) dk_29l_2 rfl rfl)
theorem dL_law_3621 : decode cL_law 3621 = .ok (.invokevirtual 332, 3) := dq_op182 (dq_at (j := 109) dk_29l_2 rfl rfl) (dq_at (j := 110) dk_29l_2 rfl rfl) (dq_at (j := 111) dk_29l_2 rfl rfl) rfl
theorem dL_law_3624 : decode cL_law 3624 = .ok (.aload_n 2, 1) := dq_op44 (dq_at (j := 112) dk_29l_2 rfl rfl)
theorem dL_law_3625 : decode cL_law 3625 = .ok (.invokevirtual 335, 3) := dq_op182 (dq_at (j := 113) dk_29l_2 rfl rfl) (dq_at (j := 114) dk_29l_2 rfl rfl) (dq_at (j := 115) dk_29l_2 rfl rfl) rfl
theorem dL_law_3628 : decode cL_law 3628 = .ok (.if_icmp .eq 32, 3) := dq_op159 (dq_at (j := 116) dk_29l_2 rfl rfl) (dq_at (j := 117) dk_29l_2 rfl rfl) (dq_at (j := 118) dk_29l_2 rfl rfl) (by decide +kernel)
theorem dL_law_3631 : decode cL_law 3631 = .ok (.iconst 0, 1) := dq_op3 (dq_at (j := 119) dk_29l_2 rfl rfl)
theorem dL_law_3632 : decode cL_law 3632 = .ok (.ireturn, 1) := dq_op172 (dq_at (j := 120) dk_29l_2 rfl rfl)
theorem dL_law_3633 : decode cL_law 3633 = .ok (.aload_n 1, 1) := dq_op43 (dq_at (j := 121) dk_29l_2 rfl rfl)
theorem dL_law_3634 : decode cL_law 3634 = .ok (.invokevirtual 336, 3) := dq_op182 (dq_at (j := 122) dk_29l_2 rfl rfl) (dq_at (j := 123) dk_29l_2 rfl rfl) (dq_at (j := 124) dk_29l_2 rfl rfl) rfl
theorem dL_law_3637 : decode cL_law 3637 = .ok (.aload_n 2, 1) := dq_op44 (dq_at (j := 125) dk_29l_2 rfl rfl)
theorem dL_law_3638 : decode cL_law 3638 = .ok (.invokevirtual 340, 3) := dq_op182 (dq_at (j := 126) dk_29l_2 rfl rfl) (dq_at (j := 127) dk_29l_2 rfl rfl) (dq_at (j := 128) dk_29l_2 rfl rfl) rfl
theorem dL_law_3641 : decode cL_law 3641 = .ok (.if_icmp .eq 19, 3) := dq_op159 (dq_at (j := 129) dk_29l_2 rfl rfl) (dq_at (j := 130) dk_29l_2 rfl rfl) (dq_at (j := 131) dk_29l_2 rfl rfl) (by decide +kernel)
theorem dL_law_3644 : decode cL_law 3644 = .ok (.iconst 0, 1) := dq_op3 (dq_at (j := 132) dk_29l_2 rfl rfl)
theorem dL_law_3645 : decode cL_law 3645 = .ok (.ireturn, 1) := dq_op172 (dq_at (j := 133) dk_29l_2 rfl rfl)
theorem dL_law_3646 : decode cL_law 3646 = .ok (.aload_n 1, 1) := dq_op43 (dq_at (j := 134) dk_29l_2 rfl rfl)
theorem dL_law_3647 : decode cL_law 3647 = .ok (.invokevirtual 341, 3) := dq_op182 (dq_at (j := 135) dk_29l_2 rfl rfl) (dq_at (j := 136) dk_29l_2 rfl rfl) (dq_at (j := 137) dk_29l_2 rfl rfl) rfl
theorem dL_law_3650 : decode cL_law 3650 = .ok (.aload_n 2, 1) := dq_op44 (dq_at (j := 138) dk_29l_2 rfl rfl)
theorem dL_law_3651 : decode cL_law 3651 = .ok (.invokevirtual 345, 3) := dq_op182 (dq_at (j := 139) dk_29l_2 rfl rfl) (dq_at (j := 140) dk_29l_2 rfl rfl) (dq_at (j := 141) dk_29l_2 rfl rfl) rfl
noncomputable def dq_end_29l : Nat := 0
