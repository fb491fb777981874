theorem dk_29i_1 : (cL_law.data.toList.drop 2479).take 162 = [96, 46, 42, 21, 4, 5, 96, 46, 42, 21, 4, 6, 96, 46, 182, 1, 30, 54, 6, 44, 182, 0, 182, 21, 5, 159, 0, 5, 3, 172, 21, 5, 154, 0, 16, 45, 180, 0, 13, 21, 6, 133, 148, 153, 0, 5, 3, 172, 167, 4, 109, 43, 42, 21, 4, 4, 96, 46, 45, 184, 1, 31, 54, 5, 44, 42, 21, 4, 4, 96, 46, 182, 1, 33, 54, 6, 44, 182, 0, 182, 21, 5, 159, 0, 5, 3, 172, 21, 5, 154, 0, 16, 45, 180, 0, 13, 21, 6, 133, 148, 153, 0, 5, 3, 172, 167, 4, 52, 43, 42, 21, 4, 4, 96, 46, 153, 0, 7, 4, 167, 0, 4, 3, 42, 21, 4, 5, 96, 46, 45, 184, 1, 34, 54, 5, 44, 42, 21, 4, 4, 96, 46, 153, 0, 7, 4, 167, 0, 4, 3, 42, 21, 4, 5, 96, 46, 182, 1, 36, 54, 6, 44] := by decide +kernel
theorem dL_law_2479 : decode cL_law 2479 = .ok (.iadd, 1) := dq_op96 (dq_at (j := 0) dk_29i_1 rfl rfl)
theorem dL_law_2480 : decode cL_law 2480 = .ok (.iaload, 1) := dq_op46 (dq_at (j := 1) dk_29i_1 rfl rfl)
theorem dL_law_2481 : decode cL_law 2481 = .ok (.aload_n 0, 1) := dq_op42 (dq_at (j := 2) dk_29i_1 rfl rfl)
theorem dL_law_2482 : decode cL_law 2482 = .ok (.iload 4, 2) := dq_op21 (dq_at (j := 3) dk_29i_1 rfl rfl) (dq_at (j := 4) dk_29i_1 rfl rfl) rfl
theorem dL_law_2484 : decode cL_law 2484 = .ok (.iconst 2, 1) := dq_op5 (dq_at (j := 5) dk_29i_1 rfl rfl)
theorem dL_law_2485 : decode cL_law 2485 = .ok (.iadd, 1) := dq_op96 (dq_at (j := 6) dk_29i_1 rfl rfl)
theorem dL_law_2486 : decode cL_law 2486 = .ok (.iaload, 1) := dq_op46 (dq_at (j := 7) dk_29i_1 rfl rfl)
theorem dL_law_2487 : decode cL_law 2487 = .ok (.aload_n 0, 1) := dq_op42 (dq_at (j := 8) dk_29i_1 rfl rfl)
theorem dL_law_2488 : decode cL_law 2488 = .ok (.iload 4, 2) := dq_op21 (dq_at (j := 9) dk_29i_1 rfl rfl) (dq_at (j := 10) dk_29i_1 rfl rfl) rfl
theorem dL_law_2490 : decode cL_law 2490 = .ok (.iconst 3, 1) := dq_op6 (dq_at (j := 11) dk_29i_1 rfl rfl)
theorem dL_law_2491 : decode cL_law 2491 = .ok (.iadd, 1) := dq_op96 (dq_at (j := 12) dk_29i_1 rfl rfl)
theorem dL_law_2492 : decode cL_law 2492 = .ok (.iaload, 1) := dq_op46 (dq_at (j := 13) dk_29i_1 rfl rfl)
theorem dL_law_2493 : decode cL_law 2493 = .ok (.invokevirtual 286, 3) := dq_op182 (dq_at (j := 14) dk_29i_1 rfl rfl) (dq_at (j := 15) dk_29i_1 rfl rfl) (dq_at (j := 16) dk_29i_1 rfl rfl) rfl
theorem dL_law_2496 : decode cL_law 2496 = .ok (.istore 6, 2) := dq_op54 (dq_at (j := 17) dk_29i_1 rfl rfl) (dq_at (j := 18) dk_29i_1 rfl rfl) rfl
theorem dL_law_2498 : decode cL_law 2498 = .ok (.aload_n 2, 1) := dq_op44 (dq_at (j := 19) dk_29i_1 rfl rfl)
theorem dL_law_2499 : decode cL_law 2499 = .ok (.invokevirtual 182, 3) := dq_op182 (dq_at (j := 20) dk_29i_1 rfl rfl) (dq_at (j := 21) dk_29i_1 rfl rfl) (dq_at (j := 22) dk_29i_1 rfl rfl) rfl
theorem dL_law_2502 : decode cL_law 2502 = .ok (.iload 5, 2) := dq_op21 (dq_at (j := 23) dk_29i_1 rfl rfl) (dq_at (j := 24) dk_29i_1 rfl rfl) rfl
theorem dL_law_2504 : decode cL_law 2504 = .ok (.if_icmp .eq 5, 3) := dq_op159 (dq_at (j := 25) dk_29i_1 rfl rfl) (dq_at (j := 26) dk_29i_1 rfl rfl) (dq_at (j := 27) dk_29i_1 rfl rfl) (by decide +kernel)
theorem dL_law_2507 : decode cL_law 2507 = .ok (.iconst 0, 1) := dq_op3 (dq_at (j := 28) dk_29i_1 rfl rfl)
theorem dL_law_2508 : decode cL_law 2508 = .ok (.ireturn, 1) := dq_op172 (dq_at (j := 29) dk_29i_1 rfl rfl)
theorem dL_law_2509 : decode cL_law 2509 = .ok (.iload 5, 2) := dq_op21 (dq_at (j := 30) dk_29i_1 rfl rfl) (dq_at (j := 31) dk_29i_1 rfl rfl) rfl
theorem dL_law_2511 : decode cL_law 2511 = .ok (.ifCond .ne 16, 3) := dq_op154 (dq_at (j := 32) dk_29i_1 rfl rfl) (dq_at (j := 33) dk_29i_1 rfl rfl) (dq_at (j := 34) dk_29i_1 rfl rfl) (by decide +kernel)
theorem dL_law_2514 : decode cL_law 2514 = .ok (.aload_n 3, 1) := dq_op45 (dq_at (j := 35) dk_29i_1 rfl rfl)
theorem dL_law_2515 : decode cL_law 2515 = .ok (.getfield 13, 3) := dq_op180 (dq_at (j := 36) dk_29i_1 rfl rfl) (dq_at (j := 37) dk_29i_1 rfl rfl) (dq_at (j := 38) dk_29i_1 rfl rfl) rfl
theorem dL_law_2518 : decode cL_law 2518 = .ok (.iload 6, 2) := dq_op21 (dq_at (j := 39) dk_29i_1 rfl rfl) (dq_at (j := 40) dk_29i_1 rfl rfl) rfl
theorem dL_law_2520 : decode cL_law 2520 = .ok (.i2l, 1) := dq_op133 (dq_at (j := 41) dk_29i_1 rfl rfl)
theorem dL_law_2521 : decode cL_law 2521 = .ok (.lcmp, 1) := dq_op148 (dq_at (j := 42) dk_29i_1 rfl rfl)
theorem dL_law_2522 : decode cL_law 2522 = .ok (.ifCond .eq 5, 3) := dq_op153 (dq_at (j := 43) dk_29i_1 rfl rfl) (dq_at (j := 44) dk_29i_1 rfl rfl) (dq_at (j := 45) dk_29i_1 rfl rfl) (by decide +kernel)
theorem dL_law_2525 : decode cL_law 2525 = .ok (.iconst 0, 1) := dq_op3 (dq_at (j := 46) dk_29i_1 rfl rfl)
theorem dL_law_2526 : decode cL_law 2526 = .ok (.ireturn, 1) := dq_op172 (dq_at (j := 47) dk_29i_1 rfl rfl)
theorem dL_law_2527 : decode cL_law 2527 = .ok (.goto 1133, 3) := dq_op167 (dq_at (j := 48) dk_29i_1 rfl rfl) (dq_at (j := 49) dk_29i_1 rfl rfl) (dq_at (j := 50) dk_29i_1 rfl rfl) (by decide +kernel)
theorem dL_law_2530 : decode cL_law 2530 = .ok (.aload_n 1, 1) := dq_op43 (dq_at (j := 51) dk_29i_1 rfl rfl)
theorem dL_law_2531 : decode cL_law 2531 = .ok (.aload_n 0, 1) := dq_op42 (dq_at (j := 52) dk_29i_1 rfl rfl)
theorem dL_law_2532 : decode cL_law 2532 = .ok (.iload 4, 2) := dq_op21 (dq_at (j := 53) dk_29i_1 rfl rfl) (dq_at (j := 54) dk_29i_1 rfl rfl) rfl
theorem dL_law_2534 : decode cL_law 2534 = .ok (.iconst 1, 1) := dq_op4 (dq_at (j := 55) dk_29i_1 rfl rfl)
theorem dL_law_2535 : decode cL_law 2535 = .ok (.iadd, 1) := dq_op96 (dq_at (j := 56) dk_29i_1 rfl rfl)
theorem dL_law_2536 : decode cL_law 2536 = .ok (.iaload, 1) := dq_op46 (dq_at (j := 57) dk_29i_1 rfl rfl)
theorem dL_law_2537 : decode cL_law 2537 = .ok (.aload_n 3, 1) := dq_op45 (dq_at (j := 58) dk_29i_1 rfl rfl)
theorem dL_law_2538 : decode cL_law 2538 = .ok (.invokestatic 287, 3) := dq_op184 (dq_at (j := 59) dk_29i_1 rfl rfl) (dq_at (j := 60) dk_29i_1 rfl rfl) (dq_at (j := 61) dk_29i_1 rfl rfl) rfl
theorem dL_law_2541 : decode cL_law 2541 = .ok (.istore 5, 2) := dq_op54 (dq_at (j := 62) dk_29i_1 rfl rfl) (dq_at (j := 63) dk_29i_1 rfl rfl) rfl
theorem dL_law_2543 : decode cL_law 2543 = .ok (.aload_n 2, 1) := dq_op44 (dq_at (j := 64) dk_29i_1 rfl rfl)
theorem dL_law_2544 : decode cL_law 2544 = .ok (.aload_n 0, 1) := dq_op42 (dq_at (j := 65) dk_29i_1 rfl rfl)
theorem dL_law_2545 : decode cL_law 2545 = .ok (.iload 4, 2) := dq_op21 (dq_at (j := 66) dk_29i_1 rfl rfl) (dq_at (j := 67) dk_29i_1 rfl rfl) rfl
theorem dL_law_2547 : decode cL_law 2547 = .ok (.iconst 1, 1) := dq_op4 (dq_at (j := 68) dk_29i_1 rfl rfl)
theorem dL_law_2548 : decode cL_law 2548 = .ok (.iadd, 1) := dq_op96 (dq_at (j := 69) dk_29i_1 rfl rfl)
theorem dL_law_2549 : decode cL_law 2549 = .ok (.iaload, 1) := dq_op46 (dq_at (j := 70) dk_29i_1 rfl rfl)
theorem dL_law_2550 : decode cL_law 2550 = .ok (.invokevirtual 289, 3) := dq_op182 (dq_at (j := 71) dk_29i_1 rfl rfl) (dq_at (j := 72) dk_29i_1 rfl rfl) (dq_at (j := 73) dk_29i_1 rfl rfl) rfl
theorem dL_law_2553 : decode cL_law 2553 = .ok (.istore 6, 2) := dq_op54 (dq_at (j := 74) dk_29i_1 rfl rfl) (dq_at (j := 75) dk_29i_1 rfl rfl) rfl
theorem dL_law_2555 : decode cL_law 2555 = .ok (.aload_n 2, 1) := dq_op44 (dq_at (j := 76) dk_29i_1 rfl rfl)
theorem dL_law_2556 : decode cL_law 2556 = .ok (.invokevirtual 182, 3) := dq_op182 (dq_at (j := 77) dk_29i_1 rfl rfl) (dq_at (j := 78) dk_29i_1 rfl rfl) (dq_at (j := 79) dk_29i_1 rfl rfl) rfl
theorem dL_law_2559 : decode cL_law 2559 = .ok (.iload 5, 2) := dq_op21 (dq_at (j := 80) dk_29i_1 rfl rfl) (dq_at (j := 81) dk_29i_1 rfl rfl) rfl
theorem dL_law_2561 : decode cL_law 2561 = .ok (.if_icmp .eq 5, 3) := dq_op159 (dq_at (j := 82) dk_29i_1 rfl rfl) (dq_at (j := 83) dk_29i_1 rfl rfl) (dq_at (j := 84) dk_29i_1 rfl rfl) (by decide +kernel)
theorem dL_law_2564 : decode cL_law 2564 = .ok (.iconst 0, 1) := dq_op3 (dq_at (j := 85) dk_29i_1 rfl rfl)
theorem dL_law_2565 : decode cL_law 2565 = .ok (.ireturn, 1) := dq_op172 (dq_at (j := 86) dk_29i_1 rfl rfl)
theorem dL_law_2566 : decode cL_law 2566 = .ok (.iload 5, 2) := dq_op21 (dq_at (j := 87) dk_29i_1 rfl rfl) (dq_at (j := 88) dk_29i_1 rfl rfl) rfl
theorem dL_law_2568 : decode cL_law 2568 = .ok (.ifCond .ne 16, 3) := dq_op154 (dq_at (j := 89) dk_29i_1 rfl rfl) (dq_at (j := 90) dk_29i_1 rfl rfl) (dq_at (j := 91) dk_29i_1 rfl rfl) (by decide +kernel)
theorem dL_law_2571 : decode cL_law 2571 = .ok (.aload_n 3, 1) := dq_op45 (dq_at (j := 92) dk_29i_1 rfl rfl)
theorem dL_law_2572 : decode cL_law 2572 = .ok (.getfield 13, 3) := dq_op180 (dq_at (j := 93) dk_29i_1 rfl rfl) (dq_at (j := 94) dk_29i_1 rfl rfl) (dq_at (j := 95) dk_29i_1 rfl rfl) rfl
theorem dL_law_2575 : decode cL_law 2575 = .ok (.iload 6, 2) := dq_op21 (dq_at (j := 96) dk_29i_1 rfl rfl) (dq_at (j := 97) dk_29i_1 rfl rfl) rfl
theorem dL_law_2577 : decode cL_law 2577 = .ok (.i2l, 1) := dq_op133 (dq_at (j := 98) dk_29i_1 rfl rfl)
theorem dL_law_2578 : decode cL_law 2578 = .ok (.lcmp, 1) := dq_op148 (dq_at (j := 99) dk_29i_1 rfl rfl)
theorem dL_law_2579 : decode cL_law 2579 = .ok (.ifCond .eq 5, 3) := dq_op153 (dq_at (j := 100) dk_29i_1 rfl rfl) (dq_at (j := 101) dk_29i_1 rfl rfl) (dq_at (j := 102) dk_29i_1 rfl rfl) (by decide +kernel)
theorem dL_law_2582 : decode cL_law 2582 = .ok (.iconst 0, 1) := dq_op3 (dq_at (j := 103) dk_29i_1 rfl rfl)
theorem dL_law_2583 : decode cL_law 2583 = .ok (.ireturn, 1) := dq_op172 (dq_at (j := 104) dk_29i_1 rfl rfl)
theorem dL_law_2584 : decode cL_law 2584 = .ok (.goto 1076, 3) := dq_op167 (dq_at (j := 105) dk_29i_1 rfl rfl) (dq_at (j := 106) dk_29i_1 rfl rfl) (dq_at (j := 107) dk_29i_1 rfl rfl) (by decide +kernel)
theorem dL_law_2587 : decode cL_law 2587 = .ok (.aload_n 1, 1) := dq_op43 (dq_at (j := 108) dk_29i_1 rfl rfl)
theorem dL_law_2588 : decode cL_law 2588 = .ok (.aload_n 0, 1) := dq_op42 (dq_at (j := 109) dk_29i_1 rfl rfl)
theorem dL_law_2589 : decode cL_law 2589 = .ok (.iload 4, 2) := dq_op21 (dq_at (j := 110) dk_29i_1 rfl rfl) (dq_at (j := 111) dk_29i_1 rfl rfl) rfl
theorem dL_law_2591 : decode cL_law 2591 = .ok (.iconst 1, 1) := dq_op4 (dq_at (j := 112) dk_29i_1 rfl rfl)
theorem dL_law_2592 : decode cL_law 2592 = .ok (.iadd, 1) := dq_op96 (dq_at (j := 113) dk_29i_1 rfl rfl)
theorem dL_law_2593 : decode cL_law 2593 = .ok (.iaload, 1) := dq_op46 (dq_at (j := 114) dk_29i_1 rfl rfl)
theorem dL_law_2594 : decode cL_law 2594 = .ok (.ifCond .eq 7, 3) := dq_op153 (dq_at (j := 115) dk_29i_1 rfl rfl) (dq_at (j := 116) dk_29i_1 rfl rfl) (dq_at (j := 117) dk_29i_1 rfl rfl) (by decide +kernel)
theorem dL_law_2597 : decode cL_law 2597 = .ok (.iconst 1, 1) := dq_op4 (dq_at (j := 118) dk_29i_1 rfl rfl)
theorem dL_law_2598 : decode cL_law 2598 = .ok (.goto 4, 3) := dq_op167 (dq_at (j := 119) dk_29i_1 rfl rfl) (dq_at (j := 120) dk_29i_1 rfl rfl) (dq_at (j := 121) dk_29i_1 rfl rfl) (by decide +kernel)
theorem dL_law_2601 : decode cL_law 2601 = .ok (.iconst 0, 1) := dq_op3 (dq_at (j := 122) dk_29i_1 rfl rfl)
theorem dL_law_2602 : decode cL_law 2602 = .ok (.aload_n 0, 1) := dq_op42 (dq_at (j := 123) dk_29i_1 rfl rfl)
theorem dL_law_2603 : decode cL_law 2603 = .ok (.iload 4, 2) := dq_op21 (dq_at (j := 124) dk_29i_1 rfl rfl) (dq_at (j := 125) dk_29i_1 rfl rfl) rfl
theorem dL_law_2605 : decode cL_law 2605 = .ok (.iconst 2, 1) := dq_op5 (dq_at (j := 126) dk_29i_1 rfl rfl)
theorem dL_law_2606 : decode cL_law 2606 = .ok (.iadd, 1) := dq_op96 (dq_at (j := 127) dk_29i_1 rfl rfl)
theorem dL_law_2607 : decode cL_law 2607 = .ok (.iaload, 1) := dq_op46 (dq_at (j := 128) dk_29i_1 rfl rfl)
theorem dL_law_2608 : decode cL_law 2608 = .ok (.aload_n 3, 1) := dq_op45 (dq_at (j := 129) dk_29i_1 rfl rfl)
theorem dL_law_2609 : decode cL_law 2609 = .ok (.invokestatic 290, 3) := dq_op184 (dq_at (j := 130) dk_29i_1 rfl rfl) (dq_at (j := 131) dk_29i_1 rfl rfl) (dq_at (j := 132) dk_29i_1 rfl rfl) rfl
theorem dL_law_2612 : decode cL_law 2612 = .ok (.istore 5, 2) := dq_op54 (dq_at (j := 133) dk_29i_1 rfl rfl) (dq_at (j := 134) dk_29i_1 rfl rfl) rfl
theorem dL_law_2614 : decode cL_law 2614 = .ok (.aload_n 2, 1) := dq_op44 (dq_at (j := 135) dk_29i_1 rfl rfl)
theorem dL_law_2615 : decode cL_law 2615 = .ok (.aload_n 0, 1) := dq_op42 (dq_at (j := 136) dk_29i_1 rfl rfl)
theorem dL_law_2616 : decode cL_law 2616 = .ok (.iload 4, 2) := dq_op21 (dq_at (j := 137) dk_29i_1 rfl rfl) (dq_at (j := 138) dk_29i_1 rfl rfl) rfl
theorem dL_law_2618 : decode cL_law 2618 = .ok (.iconst 1, 1) := dq_op4 (dq_at (j := 139) dk_29i_1 rfl rfl)
theorem dL_law_2619 : decode cL_law 2619 = .ok (.iadd, 1) := dq_op96 (dq_at (j := 140) dk_29i_1 rfl rfl)
theorem dL_law_2620 : decode cL_law 2620 = .ok (.iaload, 1) := dq_op46 (dq_at (j := 141) dk_29i_1 rfl rfl)
theorem dL_law_2621 : decode cL_law 2621 = .ok (.ifCond .eq 7, 3) := dq_op153 (dq_at (j := 142) dk_29i_1 rfl rfl) (dq_at (j := 143) dk_29i_1 rfl rfl) (dq_at (j := 144) dk_29i_1 rfl rfl) (by decide +kernel)
theorem dL_law_2624 : decode cL_law 2624 = .ok (.iconst 1, 1) := dq_op4 (dq_at (j := 145) dk_29i_1 rfl rfl)
theorem dL_law_2625 : decode cL_law 2625 = .ok (.goto 4, 3) := dq_op167 (dq_at (j := 146) dk_29i_1 rfl rfl) (dq_at (j := 147) dk_29i_1 rfl rfl) (dq_at (j := 148) dk_29i_1 rfl rfl) (by decide +kernel)
theorem dL_law_2628 : decode cL_law 2628 = .ok (.iconst 0, 1) := dq_op3 (dq_at (j := 149) dk_29i_1 rfl rfl)
theorem dL_law_2629 : decode cL_law 2629 = .ok (.aload_n 0, 1) := dq_op42 (dq_at (j := 150) dk_29i_1 rfl rfl)
theorem dL_law_2630 : decode cL_law 2630 = .ok (.iload 4, 2) := dq_op21 (dq_at (j := 151) dk_29i_1 rfl rfl) (dq_at (j := 152) dk_29i_1 rfl rfl) rfl
theorem dL_law_2632 : decode cL_law 2632 = .ok (.iconst 2, 1) := dq_op5 (dq_at (j := 153) dk_29i_1 rfl rfl)
theorem dL_law_2633 : decode cL_law 2633 = .ok (.iadd, 1) := dq_op96 (dq_at (j := 154) dk_29i_1 rfl rfl)
theorem dL_law_2634 : decode cL_law 2634 = .ok (.iaload, 1) := dq_op46 (dq_at (j := 155) dk_29i_1 rfl rfl)
theorem dL_law_2635 : decode cL_law 2635 = .ok (.invokevirtual 292, 3) := dq_op182 (dq_at (j := 156) dk_29i_1 rfl rfl) (dq_at (j := 157) dk_29i_1 rfl rfl) (dq_at (j := 158) dk_29i_1 rfl rfl) rfl
theorem dL_law_2638 : decode cL_law 2638 = .ok (.istore 6, 2) := dq_op54 (dq_at (j := 159) dk_29i_1 rfl rfl) (dq_at (j := 160) dk_29i_1 rfl rfl) rfl
theorem dk_29i_2 : (cL_law.data.toList.drop 2640).take 139 = [44, 182, 0, 182, 21, 5, 159, 0, 5, 3, 172, 21, 5, 154, 0, 16, 45, 180, 0, 13, 21, 6, 133, 148, 153, 0, 5, 3, 172, 167, 3, 223, 43, 42, 21, 4, 4, 96, 46, 45, 184, 1, 37, 54, 5, 44, 42, 21, 4, 4, 96, 46, 182, 1, 39, 54, 6, 44, 182, 0, 182, 21, 5, 159, 0, 5, 3, 172, 21, 5, 154, 0, 16, 45, 180, 0, 13, 21, 6, 133, 148, 153, 0, 5, 3, 172, 167, 3, 166, 43, 42, 21, 4, 4, 96, 46, 45, 184, 1, 40, 54, 5, 44, 42, 21, 4, 4, 96, 46, 182, 1, 42, 58, 6, 44, 182, 0, 182, 21, 5, 159, 0, 5, 3, 172, 21, 5, 154, 0, 17, 45, 180, 0, 63, 25, 6, 182, 0, 225] := by decide +kernel
theorem dL_law_2640 : decode cL_law 2640 = .ok (.aload_n 2, 1) := dq_op44 (dq_at (j := 0) dk_29i_2 rfl rfl)
theorem dL_law_2641 : decode cL_law 2641 = .ok (.invokevirtual 182, 3) := dq_op182 (dq_at (j := 1) dk_29i_2 rfl rfl) (dq_at (j := 2) dk_29i_2 rfl rfl) (dq_at (j := 3) dk_29i_2 rfl rfl) rfl
theorem dL_law_2644 : decode cL_law 2644 = .ok (.iload 5, 2) := dq_op21 (dq_at (j := 4) dk_29i_2 rfl rfl) (dq_at (j := 5) dk_29i_2 rfl rfl) rfl
theorem dL_law_2646 : decode cL_law 2646 = .ok (.if_icmp .eq 5, 3) := dq_op159 (dq_at (j := 6) dk_29i_2 rfl rfl) (dq_at (j := 7) dk_29i_2 rfl rfl) (dq_at (j := 8) dk_29i_2 rfl rfl) (by decide +kernel)
theorem dL_law_2649 : decode cL_law 2649 = .ok (.iconst 0, 1) := dq_op3 (dq_at (j := 9) dk_29i_2 rfl rfl)
theorem dL_law_2650 : decode cL_law 2650 = .ok (.ireturn, 1) := dq_op172 (dq_at (j := 10) dk_29i_2 rfl rfl)
theorem dL_law_2651 : decode cL_law 2651 = .ok (.iload 5, 2) := dq_op21 (dq_at (j := 11) dk_29i_2 rfl rfl) (dq_at (j := 12) dk_29i_2 rfl rfl) rfl
theorem dL_law_2653 : decode cL_law 2653 = .ok (.ifCond .ne 16, 3) := dq_op154 (dq_at (j := 13) dk_29i_2 rfl rfl) (dq_at (j := 14) dk_29i_2 rfl rfl) (dq_at (j := 15) dk_29i_2 rfl rfl) (by decide +kernel)
theorem dL_law_2656 : decode cL_law 2656 = .ok (.aload_n 3, 1) := dq_op45 (dq_at (j := 16) dk_29i_2 rfl rfl)
theorem dL_law_2657 : decode cL_law 2657 = .ok (.getfield 13, 3) := dq_op180 (dq_at (j := 17) dk_29i_2 rfl rfl) (dq_at (j := 18) dk_29i_2 rfl rfl) (dq_at (j := 19) dk_29i_2 rfl rfl) rfl
theorem dL_law_2660 : decode cL_law 2660 = .ok (.iload 6, 2) := dq_op21 (dq_at (j := 20) dk_29i_2 rfl rfl) (dq_at (j := 21) dk_29i_2 rfl rfl) rfl
theorem dL_law_2662 : decode cL_law 2662 = .ok (.i2l, 1) := dq_op133 (dq_at (j := 22) dk_29i_2 rfl rfl)
theorem dL_law_2663 : decode cL_law 2663 = .ok (.lcmp, 1) := dq_op148 (dq_at (j := 23) dk_29i_2 rfl rfl)
theorem dL_law_2664 : decode cL_law 2664 = .ok (.ifCond .eq 5, 3) := dq_op153 (dq_at (j := 24) dk_29i_2 rfl rfl) (dq_at (j := 25) dk_29i_2 rfl rfl) (dq_at (j := 26) dk_29i_2 rfl rfl) (by decide +kernel)
theorem dL_law_2667 : decode cL_law 2667 = .ok (.iconst 0, 1) := dq_op3 (dq_at (j := 27) dk_29i_2 rfl rfl)
theorem dL_law_2668 : decode cL_law 2668 = .ok (.ireturn, 1) := dq_op172 (dq_at (j := 28) dk_29i_2 rfl rfl)
theorem dL_law_2669 : decode cL_law 2669 = .ok (.goto 991, 3) := dq_op167 (dq_at (j := 29) dk_29i_2 rfl rfl) (dq_at (j := 30) dk_29i_2 rfl rfl) (dq_at (j := 31) dk_29i_2 rfl rfl) (by decide +kernel)
theorem dL_law_2672 : decode cL_law 2672 = .ok (.aload_n 1, 1) := dq_op43 (dq_at (j := 32) dk_29i_2 rfl rfl)
theorem dL_law_2673 : decode cL_law 2673 = .ok (.aload_n 0, 1) := dq_op42 (dq_at (j := 33) dk_29i_2 rfl rfl)
theorem dL_law_2674 : decode cL_law 2674 = .ok (.iload 4, 2) := dq_op21 (dq_at (j := 34) dk_29i_2 rfl rfl) (dq_at (j := 35) dk_29i_2 rfl rfl) rfl
theorem dL_law_2676 : decode cL_law 2676 = .ok (.iconst 1, 1) := dq_op4 (dq_at (j := 36) dk_29i_2 rfl rfl)
theorem dL_law_2677 : decode cL_law 2677 = .ok (.iadd, 1) := dq_op96 (dq_at (j := 37) dk_29i_2 rfl rfl)
theorem dL_law_2678 : decode cL_law 2678 = .ok (.iaload, 1) := dq_op46 (dq_at (j := 38) dk_29i_2 rfl rfl)
theorem dL_law_2679 : decode cL_law 2679 = .ok (.aload_n 3, 1) := dq_op45 (dq_at (j := 39) dk_29i_2 rfl rfl)
theorem dL_law_2680 : decode cL_law 2680 = .ok (.invokestatic 293, 3) := dq_op184 (dq_at (j := 40) dk_29i_2 rfl rfl) (dq_at (j := 41) dk_29i_2 rfl rfl) (dq_at (j := 42) dk_29i_2 rfl rfl) rfl
theorem dL_law_2683 : decode cL_law 2683 = .ok (.istore 5, 2) := dq_op54 (dq_at (j := 43) dk_29i_2 rfl rfl) (dq_at (j := 44) dk_29i_2 rfl rfl) rfl
theorem dL_law_2685 : decode cL_law 2685 = .ok (.aload_n 2, 1) := dq_op44 (dq_at (j := 45) dk_29i_2 rfl rfl)
theorem dL_law_2686 : decode cL_law 2686 = .ok (.aload_n 0, 1) := dq_op42 (dq_at (j := 46) dk_29i_2 rfl rfl)
theorem dL_law_2687 : decode cL_law 2687 = .ok (.iload 4, 2) := dq_op21 (dq_at (j := 47) dk_29i_2 rfl rfl) (dq_at (j := 48) dk_29i_2 rfl rfl) rfl
theorem dL_law_2689 : decode cL_law 2689 = .ok (.iconst 1, 1) := dq_op4 (dq_at (j := 49) dk_29i_2 rfl rfl)
theorem dL_law_2690 : decode cL_law 2690 = .ok (.iadd, 1) := dq_op96 (dq_at (j := 50) dk_29i_2 rfl rfl)
theorem dL_law_2691 : decode cL_law 2691 = .ok (.iaload, 1) := dq_op46 (dq_at (j := 51) dk_29i_2 rfl rfl)
theorem dL_law_2692 : decode cL_law 2692 = .ok (.invokevirtual 295, 3) := dq_op182 (dq_at (j := 52) dk_29i_2 rfl rfl) (dq_at (j := 53) dk_29i_2 rfl rfl) (dq_at (j := 54) dk_29i_2 rfl rfl) rfl
theorem dL_law_2695 : decode cL_law 2695 = .ok (.istore 6, 2) := dq_op54 (dq_at (j := 55) dk_29i_2 rfl rfl) (dq_at (j := 56) dk_29i_2 rfl rfl) rfl
theorem dL_law_2697 : decode cL_law 2697 = .ok (.aload_n 2, 1) := dq_op44 (dq_at (j := 57) dk_29i_2 rfl rfl)
theorem dL_law_2698 : decode cL_law 2698 = .ok (.invokevirtual 182, 3) := dq_op182 (dq_at (j := 58) dk_29i_2 rfl rfl) (dq_at (j := 59) dk_29i_2 rfl rfl) (dq_at (j := 60) dk_29i_2 rfl rfl) rfl
theorem dL_law_2701 : decode cL_law 2701 = .ok (.iload 5, 2) := dq_op21 (dq_at (j := 61) dk_29i_2 rfl rfl) (dq_at (j := 62) dk_29i_2 rfl rfl) rfl
theorem dL_law_2703 : decode cL_law 2703 = .ok (.if_icmp .eq 5, 3) := dq_op159 (dq_at (j := 63) dk_29i_2 rfl rfl) (dq_at (j := 64) dk_29i_2 rfl rfl) (dq_at (j := 65) dk_29i_2 rfl rfl) (by decide +kernel)
theorem dL_law_2706 : decode cL_law 2706 = .ok (.iconst 0, 1) := dq_op3 (dq_at (j := 66) dk_29i_2 rfl rfl)
theorem dL_law_2707 : decode cL_law 2707 = .ok (.ireturn, 1) := dq_op172 (dq_at (j := 67) dk_29i_2 rfl rfl)
theorem dL_law_2708 : decode cL_law 2708 = .ok (.iload 5, 2) := dq_op21 (dq_at (j := 68) dk_29i_2 rfl rfl) (dq_at (j := 69) dk_29i_2 rfl rfl) rfl
theorem dL_law_2710 : decode cL_law 2710 = .ok (.ifCond .ne 16, 3) := dq_op154 (dq_at (j := 70) dk_29i_2 rfl rfl) (dq_at (j := 71) dk_29i_2 rfl rfl) (dq_at (j := 72) dk_29i_2 rfl rfl) (by decide +kernel)
theorem dL_law_2713 : decode cL_law 2713 = .ok (.aload_n 3, 1) := dq_op45 (dq_at (j := 73) dk_29i_2 rfl rfl)
theorem dL_law_2714 : decode cL_law 2714 = .ok (.getfield 13, 3) := dq_op180 (dq_at (j := 74) dk_29i_2 rfl rfl) (dq_at (j := 75) dk_29i_2 rfl rfl) (dq_at (j := 76) dk_29i_2 rfl rfl) rfl
theorem dL_law_2717 : decode cL_law 2717 = .ok (.iload 6, 2) := dq_op21 (dq_at (j := 77) dk_29i_2 rfl rfl) (dq_at (j := 78) dk_29i_2 rfl rfl) rfl
theorem dL_law_2719 : decode cL_law 2719 = .ok (.i2l, 1) := dq_op133 (dq_at (j := 79) dk_29i_2 rfl rfl)
theorem dL_law_2720 : decode cL_law 2720 = .ok (.lcmp, 1) := dq_op148 (dq_at (j := 80) dk_29i_2 rfl rfl)
theorem dL_law_2721 : decode cL_law 2721 = .ok (.ifCond .eq 5, 3) := dq_op153 (dq_at (j := 81) dk_29i_2 rfl rfl) (dq_at (j := 82) dk_29i_2 rfl rfl) (dq_at (j := 83) dk_29i_2 rfl rfl) (by decide +kernel)
theorem dL_law_2724 : decode cL_law 2724 = .ok (.iconst 0, 1) := dq_op3 (dq_at (j := 84) dk_29i_2 rfl rfl)
theorem dL_law_2725 : decode cL_law 2725 = .ok (.ireturn, 1) := dq_op172 (dq_at (j := 85) dk_29i_2 rfl rfl)
theorem dL_law_2726 : decode cL_law 2726 = .ok (.goto 934, 3) := dq_op167 (dq_at (j := 86) dk_29i_2 rfl rfl) (dq_at (j := 87) dk_29i_2 rfl rfl) (dq_at (j := 88) dk_29i_2 rfl rfl) (by decide +kernel)
theorem dL_law_2729 : decode cL_law 2729 = .ok (.aload_n 1, 1) := dq_op43 (dq_at (j := 89) dk_29i_2 rfl rfl)
theorem dL_law_2730 : decode cL_law 2730 = .ok (.aload_n 0, 1) := dq_op42 (dq_at (j := 90) dk_29i_2 rfl rfl)
theorem dL_law_2731 : decode cL_law 2731 = .ok (.iload 4, 2) := dq_op21 (dq_at (j := 91) dk_29i_2 rfl rfl) (dq_at (j := 92) dk_29i_2 rfl rfl) rfl
theorem dL_law_2733 : decode cL_law 2733 = .ok (.iconst 1, 1) := dq_op4 (dq_at (j := 93) dk_29i_2 rfl rfl)
theorem dL_law_2734 : decode cL_law 2734 = .ok (.iadd, 1) := dq_op96 (dq_at (j := 94) dk_29i_2 rfl rfl)
theorem dL_law_2735 : decode cL_law 2735 = .ok (.iaload, 1) := dq_op46 (dq_at (j := 95) dk_29i_2 rfl rfl)
theorem dL_law_2736 : decode cL_law 2736 = .ok (.aload_n 3, 1) := dq_op45 (dq_at (j := 96) dk_29i_2 rfl rfl)
theorem dL_law_2737 : decode cL_law 2737 = .ok (.invokestatic 296, 3) := dq_op184 (dq_at (j := 97) dk_29i_2 rfl rfl) (dq_at (j := 98) dk_29i_2 rfl rfl) (dq_at (j := 99) dk_29i_2 rfl rfl) rfl
theorem dL_law_2740 : decode cL_law 2740 = .ok (.istore 5, 2) := dq_op54 (dq_at (j := 100) dk_29i_2 rfl rfl) (dq_at (j := 101) dk_29i_2 rfl rfl) rfl
theorem dL_law_2742 : decode cL_law 2742 = .ok (.aload_n 2, 1) := dq_op44 (dq_at (j := 102) dk_29i_2 rfl rfl)
theorem dL_law_2743 : decode cL_law 2743 = .ok (.aload_n 0, 1) := dq_op42 (dq_at (j := 103) dk_29i_2 rfl rfl)
theorem dL_law_2744 : decode cL_law 2744 = .ok (.iload 4, 2) := dq_op21 (dq_at (j := 104) dk_29i_2 rfl rfl) (dq_at (j := 105) dk_29i_2 rfl rfl) rfl
theorem dL_law_2746 : decode cL_law 2746 = .ok (.iconst 1, 1) := dq_op4 (dq_at (j := 106) dk_29i_2 rfl rfl)
theorem dL_law_2747 : decode cL_law 2747 = .ok (.iadd, 1) := dq_op96 (dq_at (j := 107) dk_29i_2 rfl rfl)
theorem dL_law_2748 : decode cL_law 2748 = .ok (.iaload, 1) := dq_op46 (dq_at (j := 108) dk_29i_2 rfl rfl)
theorem dL_law_2749 : decode cL_law 2749 = .ok (.invokevirtual 298, 3) := dq_op182 (dq_at (j := 109) dk_29i_2 rfl rfl) (dq_at (j := 110) dk_29i_2 rfl rfl) (dq_at (j := 111) dk_29i_2 rfl rfl) rfl
theorem dL_law_2752 : decode cL_law 2752 = .ok (.astore 6, 2) := dq_op58 (dq_at (j := 112) dk_29i_2 rfl rfl) (dq_at (j := 113) dk_29i_2 rfl rfl) rfl
theorem dL_law_2754 : decode cL_law 2754 = .ok (.aload_n 2, 1) := dq_op44 (dq_at (j := 114) dk_29i_2 rfl rfl)
theorem dL_law_2755 : decode cL_law 2755 = .ok (.invokevirtual 182, 3) := dq_op182 (dq_at (j := 115) dk_29i_2 rfl rfl) (dq_at (j := 116) dk_29i_2 rfl rfl) (dq_at (j := 117) dk_29i_2 rfl rfl) rfl
theorem dL_law_2758 : decode cL_law 2758 = .ok (.iload 5, 2) := dq_op21 (dq_at (j := 118) dk_29i_2 rfl rfl) (dq_at (j := 119) dk_29i_2 rfl rfl) rfl
theorem dL_law_2760 : decode cL_law 2760 = .ok (.if_icmp .eq 5, 3) := dq_op159 (dq_at (j := 120) dk_29i_2 rfl rfl) (dq_at (j := 121) dk_29i_2 rfl rfl) (dq_at (j := 122) dk_29i_2 rfl rfl) (by decide +kernel)
theorem dL_law_2763 : decode cL_law 2763 = .ok (.iconst 0, 1) := dq_op3 (dq_at (j := 123) dk_29i_2 rfl rfl)
theorem dL_law_2764 : decode cL_law 2764 = .ok (.ireturn, 1) := dq_op172 (dq_at (j := 124) dk_29i_2 rfl rfl)
theorem dL_law_2765 : decode cL_law 2765 = .ok (.iload 5, 2) := dq_op21 (dq_at (j := 125) dk_29i_2 rfl rfl) (dq_at (j := 126) dk_29i_2 rfl rfl) rfl
theorem dL_law_2767 : decode cL_law 2767 = .ok (.ifCond .ne 17, 3) := dq_op154 (dq_at (j := 127) dk_29i_2 rfl rfl) (dq_at (j := 128) dk_29i_2 rfl rfl) (dq_at (j := 129) dk_29i_2 rfl rfl) (by decide +kernel)
theorem dL_law_2770 : decode cL_law 2770 = .ok (.aload_n 3, 1) := dq_op45 (dq_at (j := 130) dk_29i_2 rfl rfl)
theorem dL_law_2771 : decode cL_law 2771 = .ok (.getfield 63, 3) := dq_op180 (dq_at (j := 131) dk_29i_2 rfl rfl) (dq_at (j := 132) dk_29i_2 rfl rfl) (dq_at (j := 133) dk_29i_2 rfl rfl) rfl
theorem dL_law_2774 : decode cL_law 2774 = .ok (.aload 6, 2) := dq_op25 (dq_at (j := 134) dk_29i_2 rfl rfl) (dq_at (j := 135) dk_29i_2 rfl rfl) rfl
theorem dL_law_2776 : decode cL_law 2776 = .ok (.invokevirtual 225, 3) := dq_op182 (dq_at (j := 136) dk_29i_2 rfl rfl) (dq_at (j := 137) dk_29i_2 rfl rfl) (dq_at (j := 138) dk_29i_2 rfl rfl) rfl
noncomputable def dq_end_29i : Nat := 0
