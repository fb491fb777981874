theorem dk_29b_1 : (cL_law.data.toList.drop 469).take 137 = [96, 46, 42, 21, 4, 5, 96, 46, 42, 21, 4, 6, 96, 46, 45, 184, 0, 195, 54, 5, 44, 42, 21, 4, 4, 96, 46, 42, 21, 4, 5, 96, 46, 42, 21, 4, 6, 96, 46, 182, 0, 197, 54, 6, 167, 6, 219, 43, 42, 21, 4, 4, 96, 46, 42, 21, 4, 5, 96, 46, 42, 21, 4, 6, 96, 46, 45, 184, 0, 198, 54, 5, 44, 42, 21, 4, 4, 96, 46, 42, 21, 4, 5, 96, 46, 42, 21, 4, 6, 96, 46, 182, 0, 200, 54, 6, 167, 6, 167, 43, 42, 21, 4, 4, 96, 46, 42, 21, 4, 5, 96, 46, 42, 21, 4, 6, 96, 46, 45, 184, 0, 201, 54, 5, 44, 42, 21, 4, 4, 96, 46, 42, 21, 4, 5, 96, 46] := by decide +kernel
theorem dL_law_469 : decode cL_law 469 = .ok (.iadd, 1) := dq_op96 (dq_at (j := 0) dk_29b_1 rfl rfl)
theorem dL_law_470 : decode cL_law 470 = .ok (.iaload, 1) := dq_op46 (dq_at (j := 1) dk_29b_1 rfl rfl)
theorem dL_law_471 : decode cL_law 471 = .ok (.aload_n 0, 1) := dq_op42 (dq_at (j := 2) dk_29b_1 rfl rfl)
theorem dL_law_472 : decode cL_law 472 = .ok (.iload 4, 2) := dq_op21 (dq_at (j := 3) dk_29b_1 rfl rfl) (dq_at (j := 4) dk_29b_1 rfl rfl) rfl
theorem dL_law_474 : decode cL_law 474 = .ok (.iconst 2, 1) := dq_op5 (dq_at (j := 5) dk_29b_1 rfl rfl)
theorem dL_law_475 : decode cL_law 475 = .ok (.iadd, 1) := dq_op96 (dq_at (j := 6) dk_29b_1 rfl rfl)
theorem dL_law_476 : decode cL_law 476 = .ok (.iaload, 1) := dq_op46 (dq_at (j := 7) dk_29b_1 rfl rfl)
theorem dL_law_477 : decode cL_law 477 = .ok (.aload_n 0, 1) := dq_op42 (dq_at (j := 8) dk_29b_1 rfl rfl)
theorem dL_law_478 : decode cL_law 478 = .ok (.iload 4, 2) := dq_op21 (dq_at (j := 9) dk_29b_1 rfl rfl) (dq_at (j := 10) dk_29b_1 rfl rfl) rfl
theorem dL_law_480 : decode cL_law 480 = .ok (.iconst 3, 1) := dq_op6 (dq_at (j := 11) dk_29b_1 rfl rfl)
theorem dL_law_481 : decode cL_law 481 = .ok (.iadd, 1) := dq_op96 (dq_at (j := 12) dk_29b_1 rfl rfl)
theorem dL_law_482 : decode cL_law 482 = .ok (.iaload, 1) := dq_op46 (dq_at (j := 13) dk_29b_1 rfl rfl)
theorem dL_law_483 : decode cL_law 483 = .ok (.aload_n 3, 1) := dq_op45 (dq_at (j := 14) dk_29b_1 rfl rfl)
theorem dL_law_484 : decode cL_law 484 = .ok (.invokestatic 195, 3) := dq_op184 (dq_at (j := 15) dk_29b_1 rfl rfl) (dq_at (j := 16) dk_29b_1 rfl rfl) (dq_at (j := 17) dk_29b_1 rfl rfl) rfl
theorem dL_law_487 : decode cL_law 487 = .ok (.istore 5, 2) := dq_op54 (dq_at (j := 18) dk_29b_1 rfl rfl) (dq_at (j := 19) dk_29b_1 rfl rfl) rfl
theorem dL_law_489 : decode cL_law 489 = .ok (.aload_n 2, 1) := dq_op44 (dq_at (j := 20) dk_29b_1 rfl rfl)
theorem dL_law_490 : decode cL_law 490 = .ok (.aload_n 0, 1) := dq_op42 (dq_at (j := 21) dk_29b_1 rfl rfl)
theorem dL_law_491 : decode cL_law 491 = .ok (.iload 4, 2) := dq_op21 (dq_at (j := 22) dk_29b_1 rfl rfl) (dq_at (j := 23) dk_29b_1 rfl rfl) rfl
theorem dL_law_493 : decode cL_law 493 = .ok (.iconst 1, 1) := dq_op4 (dq_at (j := 24) dk_29b_1 rfl rfl)
theorem dL_law_494 : decode cL_law 494 = .ok (.iadd, 1) := dq_op96 (dq_at (j := 25) dk_29b_1 rfl rfl)
theorem dL_law_495 : decode cL_law 495 = .ok (.iaload, 1) := dq_op46 (dq_at (j := 26) dk_29b_1 rfl rfl)
theorem dL_law_496 : decode cL_law 496 = .ok (.aload_n 0, 1) := dq_op42 (dq_at (j := 27) dk_29b_1 rfl rfl)
theorem dL_law_497 : decode cL_law 497 = .ok (.iload 4, 2) := dq_op21 (dq_at (j := 28) dk_29b_1 rfl rfl) (dq_at (j := 29) dk_29b_1 rfl rfl) rfl
theorem dL_law_499 : decode cL_law 499 = .ok (.iconst 2, 1) := dq_op5 (dq_at (j := 30) dk_29b_1 rfl rfl)
theorem dL_law_500 : decode cL_law 500 = .ok (.iadd, 1) := dq_op96 (dq_at (j := 31) dk_29b_1 rfl rfl)
theorem dL_law_501 : decode cL_law 501 = .ok (.iaload, 1) := dq_op46 (dq_at (j := 32) dk_29b_1 rfl rfl)
theorem dL_law_502 : decode cL_law 502 = .ok (.aload_n 0, 1) := dq_op42 (dq_at (j := 33) dk_29b_1 rfl rfl)
theorem dL_law_503 : decode cL_law 503 = .ok (.iload 4, 2) := dq_op21 (dq_at (j := 34) dk_29b_1 rfl rfl) (dq_at (j := 35) dk_29b_1 rfl rfl) rfl
theorem dL_law_505 : decode cL_law 505 = .ok (.iconst 3, 1) := dq_op6 (dq_at (j := 36) dk_29b_1 rfl rfl)
theorem dL_law_506 : decode cL_law 506 = .ok (.iadd, 1) := dq_op96 (dq_at (j := 37) dk_29b_1 rfl rfl)
theorem dL_law_507 : decode cL_law 507 = .ok (.iaload, 1) := dq_op46 (dq_at (j := 38) dk_29b_1 rfl rfl)
theorem dL_law_508 : decode cL_law 508 = .ok (.invokevirtual 197, 3) := dq_op182 (dq_at (j := 39) dk_29b_1 rfl rfl) (dq_at (j := 40) dk_29b_1 rfl rfl) (dq_at (j := 41) dk_29b_1 rfl rfl) rfl
theorem dL_law_511 : decode cL_law 511 = .ok (.istore 6, 2) := dq_op54 (dq_at (j := 42) dk_29b_1 rfl rfl) (dq_at (j := 43) dk_29b_1 rfl rfl) rfl
theorem dL_law_513 : decode cL_law 513 = .ok (.goto 1755, 3) := dq_op167 (dq_at (j := 44) dk_29b_1 rfl rfl) (dq_at (j := 45) dk_29b_1 rfl rfl) (dq_at (j := 46) dk_29b_1 rfl rfl) (by decide +kernel)
theorem dL_law_516 : decode cL_law 516 = .ok (.aload_n 1, 1) := dq_op43 (dq_at (j := 47) dk_29b_1 rfl rfl)
theorem dL_law_517 : decode cL_law 517 = .ok (.aload_n 0, 1) := dq_op42 (dq_at (j := 48) dk_29b_1 rfl rfl)
theorem dL_law_518 : decode cL_law 518 = .ok (.iload 4, 2) := dq_op21 (dq_at (j := 49) dk_29b_1 rfl rfl) (dq_at (j := 50) dk_29b_1 rfl rfl) rfl
theorem dL_law_520 : decode cL_law 520 = .ok (.iconst 1, 1) := dq_op4 (dq_at (j := 51) dk_29b_1 rfl rfl)
theorem dL_law_521 : decode cL_law 521 = .ok (.iadd, 1) := dq_op96 (dq_at (j := 52) dk_29b_1 rfl rfl)
theorem dL_law_522 : decode cL_law 522 = .ok (.iaload, 1) := dq_op46 (dq_at (j := 53) dk_29b_1 rfl rfl)
theorem dL_law_523 : decode cL_law 523 = .ok (.aload_n 0, 1) := dq_op42 (dq_at (j := 54) dk_29b_1 rfl rfl)
theorem dL_law_524 : decode cL_law 524 = .ok (.iload 4, 2) := dq_op21 (dq_at (j := 55) dk_29b_1 rfl rfl) (dq_at (j := 56) dk_29b_1 rfl rfl) rfl
theorem dL_law_526 : decode cL_law 526 = .ok (.iconst 2, 1) := dq_op5 (dq_at (j := 57) dk_29b_1 rfl rfl)
theorem dL_law_527 : decode cL_law 527 = .ok (.iadd, 1) := dq_op96 (dq_at (j := 58) dk_29b_1 rfl rfl)
theorem dL_law_528 : decode cL_law 528 = .ok (.iaload, 1) := dq_op46 (dq_at (j := 59) dk_29b_1 rfl rfl)
theorem dL_law_529 : decode cL_law 529 = .ok (.aload_n 0, 1) := dq_op42 (dq_at (j := 60) dk_29b_1 rfl rfl)
theorem dL_law_530 : decode cL_law 530 = .ok (.iload 4, 2) := dq_op21 (dq_at (j := 61) dk_29b_1 rfl rfl) (dq_at (j := 62) dk_29b_1 rfl rfl) rfl
theorem dL_law_532 : decode cL_law 532 = .ok (.iconst 3, 1) := dq_op6 (dq_at (j := 63) dk_29b_1 rfl rfl)
theorem dL_law_533 : decode cL_law 533 = .ok (.iadd, 1) := dq_op96 (dq_at (j := 64) dk_29b_1 rfl rfl)
theorem dL_law_534 : decode cL_law 534 = .ok (.iaload, 1) := dq_op46 (dq_at (j := 65) dk_29b_1 rfl rfl)
theorem dL_law_535 : decode cL_law 535 = .ok (.aload_n 3, 1) := dq_op45 (dq_at (j := 66) dk_29b_1 rfl rfl)
theorem dL_law_536 : decode cL_law 536 = .ok (.invokestatic 198, 3) := dq_op184 (dq_at (j := 67) dk_29b_1 rfl rfl) (dq_at (j := 68) dk_29b_1 rfl rfl) (dq_at (j := 69) dk_29b_1 rfl rfl) rfl
theorem dL_law_539 : decode cL_law 539 = .ok (.istore 5, 2) := dq_op54 (dq_at (j := 70) dk_29b_1 rfl rfl) (dq_at (j := 71) dk_29b_1 rfl rfl) rfl
theorem dL_law_541 : decode cL_law 541 = .ok (.aload_n 2, 1) := dq_op44 (dq_at (j := 72) dk_29b_1 rfl rfl)
theorem dL_law_542 : decode cL_law 542 = .ok (.aload_n 0, 1) := dq_op42 (dq_at (j := 73) dk_29b_1 rfl rfl)
theorem dL_law_543 : decode cL_law 543 = .ok (.iload 4, 2) := dq_op21 (dq_at (j := 74) dk_29b_1 rfl rfl) (dq_at (j := 75) dk_29b_1 rfl rfl) rfl
theorem dL_law_545 : decode cL_law 545 = .ok (.iconst 1, 1) := dq_op4 (dq_at (j := 76) dk_29b_1 rfl rfl)
theorem dL_law_546 : decode cL_law 546 = .ok (.iadd, 1) := dq_op96 (dq_at (j := 77) dk_29b_1 rfl rfl)
theorem dL_law_547 : decode cL_law 547 = .ok (.iaload, 1) := dq_op46 (dq_at (j := 78) dk_29b_1 rfl rfl)
theorem dL_law_548 : decode cL_law 548 = .ok (.aload_n 0, 1) := dq_op42 (dq_at (j := 79) dk_29b_1 rfl rfl)
theorem dL_law_549 : decode cL_law 549 = .ok (.iload 4, 2) := dq_op21 (dq_at (j := 80) dk_29b_1 rfl rfl) (dq_at (j := 81) dk_29b_1 rfl rfl) rfl
theorem dL_law_551 : decode cL_law 551 = .ok (.iconst 2, 1) := dq_op5 (dq_at (j := 82) dk_29b_1 rfl rfl)
theorem dL_law_552 : decode cL_law 552 = .ok (.iadd, 1) := dq_op96 (dq_at (j := 83) dk_29b_1 rfl rfl)
theorem dL_law_553 : decode cL_law 553 = .ok (.iaload, 1) := dq_op46 (dq_at (j := 84) dk_29b_1 rfl rfl)
theorem dL_law_554 : decode cL_law 554 = .ok (.aload_n 0, 1) := dq_op42 (dq_at (j := 85) dk_29b_1 rfl rfl)
theorem dL_law_555 : decode cL_law 555 = .ok (.iload 4, 2) := dq_op21 (dq_at (j := 86) dk_29b_1 rfl rfl) (dq_at (j := 87) dk_29b_1 rfl rfl) rfl
theorem dL_law_557 : decode cL_law 557 = .ok (.iconst 3, 1) := dq_op6 (dq_at (j := 88) dk_29b_1 rfl rfl)
theorem dL_law_558 : decode cL_law 558 = .ok (.iadd, 1) := dq_op96 (dq_at (j := 89) dk_29b_1 rfl rfl)
theorem dL_law_559 : decode cL_law 559 = .ok (.iaload, 1) := dq_op46 (dq_at (j := 90) dk_29b_1 rfl rfl)
theorem dL_law_560 : decode cL_law 560 = .ok (.invokevirtual 200, 3) := dq_op182 (dq_at (j := 91) dk_29b_1 rfl rfl) (dq_at (j := 92) dk_29b_1 rfl rfl) (dq_at (j := 93) dk_29b_1 rfl rfl) rfl
theorem dL_law_563 : decode cL_law 563 = .ok (.istore 6, 2) := dq_op54 (dq_at (j := 94) dk_29b_1 rfl rfl) (dq_at (j := 95) dk_29b_1 rfl rfl) rfl
theorem dL_law_565 : decode cL_law 565 = .ok (.goto 1703, 3) := dq_op167 (dq_at (j := 96) dk_29b_1 rfl rfl) (dq_at (j := 97) dk_29b_1 rfl rfl) (dq_at (j := 98) dk_29b_1 rfl rfl) (by decide +kernel)
theorem dL_law_568 : decode cL_law 568 = .ok (.aload_n 1, 1) := dq_op43 (dq_at (j := 99) dk_29b_1 rfl rfl)
theorem dL_law_569 : decode cL_law 569 = .ok (.aload_n 0, 1) := dq_op42 (dq_at (j := 100) dk_29b_1 rfl rfl)
theorem dL_law_570 : decode cL_law 570 = .ok (.iload 4, 2) := dq_op21 (dq_at (j := 101) dk_29b_1 rfl rfl) (dq_at (j := 102) dk_29b_1 rfl rfl) rfl
theorem dL_law_572 : decode cL_law 572 = .ok (.iconst 1, 1) := dq_op4 (dq_at (j := 103) dk_29b_1 rfl rfl)
theorem dL_law_573 : decode cL_law 573 = .ok (.iadd, 1) := dq_op96 (dq_at (j := 104) dk_29b_1 rfl rfl)
theorem dL_law_574 : decode cL_law 574 = .ok (.iaload, 1) := dq_op46 (dq_at (j := 105) dk_29b_1 rfl rfl)
theorem dL_law_575 : decode cL_law 575 = .ok (.aload_n 0, 1) := dq_op42 (dq_at (j := 106) dk_29b_1 rfl rfl)
theorem dL_law_576 : decode cL_law 576 = .ok (.iload 4, 2) := dq_op21 (dq_at (j := 107) dk_29b_1 rfl rfl) (dq_at (j := 108) dk_29b_1 rfl rfl) rfl
theorem dL_law_578 : decode cL_law 578 = .ok (.iconst 2, 1) := dq_op5 (dq_at (j := 109) dk_29b_1 rfl rfl)
theorem dL_law_579 : decode cL_law 579 = .ok (.iadd, 1) := dq_op96 (dq_at (j := 110) dk_29b_1 rfl rfl)
theorem dL_law_580 : decode cL_law 580 = .ok (.iaload, 1) := dq_op46 (dq_at (j := 111) dk_29b_1 rfl rfl)
theorem dL_law_581 : decode cL_law 581 = .ok (.aload_n 0, 1) := dq_op42 (dq_at (j := 112) dk_29b_1 rfl rfl)
theorem dL_law_582 : decode cL_law 582 = .ok (.iload 4, 2) := dq_op21 (dq_at (j := 113) dk_29b_1 rfl rfl) (dq_at (j := 114) dk_29b_1 rfl rfl) rfl
theorem dL_law_584 : decode cL_law 584 = .ok (.iconst 3, 1) := dq_op6 (dq_at (j := 115) dk_29b_1 rfl rfl)
theorem dL_law_585 : decode cL_law 585 = .ok (.iadd, 1) := dq_op96 (dq_at (j := 116) dk_29b_1 rfl rfl)
theorem dL_law_586 : decode cL_law 586 = .ok (.iaload, 1) := dq_op46 (dq_at (j := 117) dk_29b_1 rfl rfl)
theorem dL_law_587 : decode cL_law 587 = .ok (.aload_n 3, 1) := dq_op45 (dq_at (j := 118) dk_29b_1 rfl rfl)
theorem dL_law_588 : decode cL_law 588 = .ok (.invokestatic 201, 3) := dq_op184 (dq_at (j := 119) dk_29b_1 rfl rfl) (dq_at (j := 120) dk_29b_1 rfl rfl) (dq_at (j := 121) dk_29b_1 rfl rfl) rfl
theorem dL_law_591 : decode cL_law 591 = .ok (.istore 5, 2) := dq_op54 (dq_at (j := 122) dk_29b_1 rfl rfl) (dq_at (j := 123) dk_29b_1 rfl rfl) rfl
theorem dL_law_593 : decode cL_law 593 = .ok (.aload_n 2, 1) := dq_op44 (dq_at (j := 124) dk_29b_1 rfl rfl)
theorem dL_law_594 : decode cL_law 594 = .ok (.aload_n 0, 1) := dq_op42 (dq_at (j := 125) dk_29b_1 rfl rfl)
theorem dL_law_595 : decode cL_law 595 = .ok (.iload 4, 2) := dq_op21 (dq_at (j := 126) dk_29b_1 rfl rfl) (dq_at (j := 127) dk_29b_1 rfl rfl) rfl
theorem dL_law_597 : decode cL_law 597 = .ok (.iconst 1, 1) := dq_op4 (dq_at (j := 128) dk_29b_1 rfl rfl)
theorem dL_law_598 : decode cL_law 598 = .ok (.iadd, 1) := dq_op96 (dq_at (j := 129) dk_29b_1 rfl rfl)
theorem dL_law_599 : decode cL_law 599 = .ok (.iaload, 1) := dq_op46 (dq_at (j := 130) dk_29b_1 rfl rfl)
theorem dL_law_600 : decode cL_law 600 = .ok (.aload_n 0, 1) := dq_op42 (dq_at (j := 131) dk_29b_1 rfl rfl)
theorem dL_law_601 : decode cL_law 601 = .ok (.iload 4, 2) := dq_op21 (dq_at (j := 132) dk_29b_1 rfl rfl) (dq_at (j := 133) dk_29b_1 rfl rfl) rfl
theorem dL_law_603 : decode cL_law 603 = .ok (.iconst 2, 1) := dq_op5 (dq_at (j := 134) dk_29b_1 rfl rfl)
theorem dk_29b_2 : (cL_law.data.toList.drop 604).take 129 = [96, 46, 42, 21, 4, 6, 96, 46, 182, 0, 203, 54, 6, 167, 6, 115, 43, 42, 21, 4, 4, 96, 46, 45, 184, 0, 204, 54, 5, 44, 42, 21, 4, 4, 96, 46, 182, 0, 207, 54, 6, 167, 6, 87, 43, 42, 21, 4, 4, 96, 46, 153, 0, 7, 4, 167, 0, 4, 3, 42, 21, 4, 5, 96, 46, 45, 184, 0, 208, 54, 5, 44, 42, 21, 4, 4, 96, 46, 153, 0, 7, 4, 167, 0, 4, 3, 42, 21, 4, 5, 96, 46, 182, 0, 211, 54, 6, 44, 182, 0, 212, 21, 5, 159, 0, 5, 3, 172, 21, 5, 154, 0, 16, 45, 180, 0, 13, 21, 6, 133, 148, 153, 0, 5, 3, 172, 167, 6, 2] := by decide +kernel
theorem dL_law_604 : decode cL_law 604 = .ok (.iadd, 1) := dq_op96 (dq_at (j := 0) dk_29b_2 rfl rfl)
theorem dL_law_605 : decode cL_law 605 = .ok (.iaload, 1) := dq_op46 (dq_at (j := 1) dk_29b_2 rfl rfl)
theorem dL_law_606 : decode cL_law 606 = .ok (.aload_n 0, 1) := dq_op42 (dq_at (j := 2) dk_29b_2 rfl rfl)
theorem dL_law_607 : decode cL_law 607 = .ok (.iload 4, 2) := dq_op21 (dq_at (j := 3) dk_29b_2 rfl rfl) (dq_at (j := 4) dk_29b_2 rfl rfl) rfl
theorem dL_law_609 : decode cL_law 609 = .ok (.iconst 3, 1) := dq_op6 (dq_at (j := 5) dk_29b_2 rfl rfl)
theorem dL_law_610 : decode cL_law 610 = .ok (.iadd, 1) := dq_op96 (dq_at (j := 6) dk_29b_2 rfl rfl)
theorem dL_law_611 : decode cL_law 611 = .ok (.iaload, 1) := dq_op46 (dq_at (j := 7) dk_29b_2 rfl rfl)
theorem dL_law_612 : decode cL_law 612 = .ok (.invokevirtual 203, 3) := dq_op182 (dq_at (j := 8) dk_29b_2 rfl rfl) (dq_at (j := 9) dk_29b_2 rfl rfl) (dq_at (j := 10) dk_29b_2 rfl rfl) rfl
theorem dL_law_615 : decode cL_law 615 = .ok (.istore 6, 2) := dq_op54 (dq_at (j := 11) dk_29b_2 rfl rfl) (dq_at (j := 12) dk_29b_2 rfl rfl) rfl
theorem dL_law_617 : decode cL_law 617 = .ok (.goto 1651, 3) := dq_op167 (dq_at (j := 13) dk_29b_2 rfl rfl) (dq_at (j := 14) dk_29b_2 rfl rfl) (dq_at (j := 15) dk_29b_2 rfl rfl) (by decide +kernel)
theorem dL_law_620 : decode cL_law 620 = .ok (.aload_n 1, 1) := dq_op43 (dq_at (j := 16) dk_29b_2 rfl rfl)
theorem dL_law_621 : decode cL_law 621 = .ok (.aload_n 0, 1) := dq_op42 (dq_at (j := 17) dk_29b_2 rfl rfl)
theorem dL_law_622 : decode cL_law 622 = .ok (.iload 4, 2) := dq_op21 (dq_at (j := 18) dk_29b_2 rfl rfl) (dq_at (j := 19) dk_29b_2 rfl rfl) rfl
theorem dL_law_624 : decode cL_law 624 = .ok (.iconst 1, 1) := dq_op4 (dq_at (j := 20) dk_29b_2 rfl rfl)
theorem dL_law_625 : decode cL_law 625 = .ok (.iadd, 1) := dq_op96 (dq_at (j := 21) dk_29b_2 rfl rfl)
theorem dL_law_626 : decode cL_law 626 = .ok (.iaload, 1) := dq_op46 (dq_at (j := 22) dk_29b_2 rfl rfl)
theorem dL_law_627 : decode cL_law 627 = .ok (.aload_n 3, 1) := dq_op45 (dq_at (j := 23) dk_29b_2 rfl rfl)
theorem dL_law_628 : decode cL_law 628 = .ok (.invokestatic 204, 3) := dq_op184 (dq_at (j := 24) dk_29b_2 rfl rfl) (dq_at (j := 25) dk_29b_2 rfl rfl) (dq_at (j := 26) dk_29b_2 rfl rfl) rfl
theorem dL_law_631 : decode cL_law 631 = .ok (.istore 5, 2) := dq_op54 (dq_at (j := 27) dk_29b_2 rfl rfl) (dq_at (j := 28) dk_29b_2 rfl rfl) rfl
theorem dL_law_633 : decode cL_law 633 = .ok (.aload_n 2, 1) := dq_op44 (dq_at (j := 29) dk_29b_2 rfl rfl)
theorem dL_law_634 : decode cL_law 634 = .ok (.aload_n 0, 1) := dq_op42 (dq_at (j := 30) dk_29b_2 rfl rfl)
theorem dL_law_635 : decode cL_law 635 = .ok (.iload 4, 2) := dq_op21 (dq_at (j := 31) dk_29b_2 rfl rfl) (dq_at (j := 32) dk_29b_2 rfl rfl) rfl
theorem dL_law_637 : decode cL_law 637 = .ok (.iconst 1, 1) := dq_op4 (dq_at (j := 33) dk_29b_2 rfl rfl)
theorem dL_law_638 : decode cL_law 638 = .ok (.iadd, 1) := dq_op96 (dq_at (j := 34) dk_29b_2 rfl rfl)
theorem dL_law_639 : decode cL_law 639 = .ok (.iaload, 1) := dq_op46 (dq_at (j := 35) dk_29b_2 rfl rfl)
theorem dL_law_640 : decode cL_law 640 = .ok (.invokevirtual 207, 3) := dq_op182 (dq_at (j := 36) dk_29b_2 rfl rfl) (dq_at (j := 37) dk_29b_2 rfl rfl) (dq_at (j := 38) dk_29b_2 rfl rfl) rfl
theorem dL_law_643 : decode cL_law 643 = .ok (.istore 6, 2) := dq_op54 (dq_at (j := 39) dk_29b_2 rfl rfl) (dq_at (j := 40) dk_29b_2 rfl rfl) rfl
theorem dL_law_645 : decode cL_law 645 = .ok (.goto 1623, 3) := dq_op167 (dq_at (j := 41) dk_29b_2 rfl rfl) (dq_at (j := 42) dk_29b_2 rfl rfl) (dq_at (j := 43) dk_29b_2 rfl rfl) (by decide +kernel)
theorem dL_law_648 : decode cL_law 648 = .ok (.aload_n 1, 1) := dq_op43 (dq_at (j := 44) dk_29b_2 rfl rfl)
theorem dL_law_649 : decode cL_law 649 = .ok (.aload_n 0, 1) := dq_op42 (dq_at (j := 45) dk_29b_2 rfl rfl)
theorem dL_law_650 : decode cL_law 650 = .ok (.iload 4, 2) := dq_op21 (dq_at (j := 46) dk_29b_2 rfl rfl) (dq_at (j := 47) dk_29b_2 rfl rfl) rfl
theorem dL_law_652 : decode cL_law 652 = .ok (.iconst 1, 1) := dq_op4 (dq_at (j := 48) dk_29b_2 rfl rfl)
theorem dL_law_653 : decode cL_law 653 = .ok (.iadd, 1) := dq_op96 (dq_at (j := 49) dk_29b_2 rfl rfl)
theorem dL_law_654 : decode cL_law 654 = .ok (.iaload, 1) := dq_op46 (dq_at (j := 50) dk_29b_2 rfl rfl)
theorem dL_law_655 : decode cL_law 655 = .ok (.ifCond .eq 7, 3) := dq_op153 (dq_at (j := 51) dk_29b_2 rfl rfl) (dq_at (j := 52) dk_29b_2 rfl rfl) (dq_at (j := 53) dk_29b_2 rfl rfl) (by decide +kernel)
theorem dL_law_658 : decode cL_law 658 = .ok (.iconst 1, 1) := dq_op4 (dq_at (j := 54) dk_29b_2 rfl rfl)
theorem dL_law_659 : decode cL_law 659 = .ok (.goto 4, 3) := dq_op167 (dq_at (j := 55) dk_29b_2 rfl rfl) (dq_at (j := 56) dk_29b_2 rfl rfl) (dq_at (j := 57) dk_29b_2 rfl rfl) (by decide +kernel)
theorem dL_law_662 : decode cL_law 662 = .ok (.iconst 0, 1) := dq_op3 (dq_at (j := 58) dk_29b_2 rfl rfl)
theorem dL_law_663 : decode cL_law 663 = .ok (.aload_n 0, 1) := dq_op42 (dq_at (j := 59) dk_29b_2 rfl rfl)
theorem dL_law_664 : decode cL_law 664 = .ok (.iload 4, 2) := dq_op21 (dq_at (j := 60) dk_29b_2 rfl rfl) (dq_at (j := 61) dk_29b_2 rfl rfl) rfl
theorem dL_law_666 : decode cL_law 666 = .ok (.iconst 2, 1) := dq_op5 (dq_at (j := 62) dk_29b_2 rfl rfl)
theorem dL_law_667 : decode cL_law 667 = .ok (.iadd, 1) := dq_op96 (dq_at (j := 63) dk_29b_2 rfl rfl)
theorem dL_law_668 : decode cL_law 668 = .ok (.iaload, 1) := dq_op46 (dq_at (j := 64) dk_29b_2 rfl rfl)
theorem dL_law_669 : decode cL_law 669 = .ok (.aload_n 3, 1) := dq_op45 (dq_at (j := 65) dk_29b_2 rfl rfl)
theorem dL_law_670 : decode cL_law 670 = .ok (.invokestatic 208, 3) := dq_op184 (dq_at (j := 66) dk_29b_2 rfl rfl) (dq_at (j := 67) dk_29b_2 rfl rfl) (dq_at (j := 68) dk_29b_2 rfl rfl) rfl
theorem dL_law_673 : decode cL_law 673 = .ok (.istore 5, 2) := dq_op54 (dq_at (j := 69) dk_29b_2 rfl rfl) (dq_at (j := 70) dk_29b_2 rfl rfl) rfl
theorem dL_law_675 : decode cL_law 675 = .ok (.aload_n 2, 1) := dq_op44 (dq_at (j := 71) dk_29b_2 rfl rfl)
theorem dL_law_676 : decode cL_law 676 = .ok (.aload_n 0, 1) := dq_op42 (dq_at (j := 72) dk_29b_2 rfl rfl)
theorem dL_law_677 : decode cL_law 677 = .ok (.iload 4, 2) := dq_op21 (dq_at (j := 73) dk_29b_2 rfl rfl) (dq_at (j := 74) dk_29b_2 rfl rfl) rfl
theorem dL_law_679 : decode cL_law 679 = .ok (.iconst 1, 1) := dq_op4 (dq_at (j := 75) dk_29b_2 rfl rfl)
theorem dL_law_680 : decode cL_law 680 = .ok (.iadd, 1) := dq_op96 (dq_at (j := 76) dk_29b_2 rfl rfl)
theorem dL_law_681 : decode cL_law 681 = .ok (.iaload, 1) := dq_op46 (dq_at (j := 77) dk_29b_2 rfl rfl)
theorem dL_law_682 : decode cL_law 682 = .ok (.ifCond .eq 7, 3) := dq_op153 (dq_at (j := 78) dk_29b_2 rfl rfl) (dq_at (j := 79) dk_29b_2 rfl rfl) (dq_at (j := 80) dk_29b_2 rfl rfl) (by decide +kernel)
theorem dL_law_685 : decode cL_law 685 = .ok (.iconst 1, 1) := dq_op4 (dq_at (j := 81) dk_29b_2 rfl rfl)
theorem dL_law_686 : decode cL_law 686 = .ok (.goto 4, 3) := dq_op167 (dq_at (j := 82) dk_29b_2 rfl rfl) (dq_at (j := 83) dk_29b_2 rfl rfl) (dq_at (j := 84) dk_29b_2 rfl rfl) (by decide +kernel)
theorem dL_law_689 : decode cL_law 689 = .ok (.iconst 0, 1) := dq_op3 (dq_at (j := 85) dk_29b_2 rfl rfl)
theorem dL_law_690 : decode cL_law 690 = .ok (.aload_n 0, 1) := dq_op42 (dq_at (j := 86) dk_29b_2 rfl rfl)
theorem dL_law_691 : decode cL_law 691 = .ok (.iload 4, 2) := dq_op21 (dq_at (j := 87) dk_29b_2 rfl rfl) (dq_at (j := 88) dk_29b_2 rfl rfl) rfl
theorem dL_law_693 : decode cL_law 693 = .ok (.iconst 2, 1) := dq_op5 (dq_at (j := 89) dk_29b_2 rfl rfl)
theorem dL_law_694 : decode cL_law 694 = .ok (.iadd, 1) := dq_op96 (dq_at (j := 90) dk_29b_2 rfl rfl)
theorem dL_law_695 : decode cL_law 695 = .ok (.iaload, 1) := dq_op46 (dq_at (j := 91) dk_29b_2 rfl rfl)
theorem dL_law_696 : decode cL_law 696 = .ok (.invokevirtual 211, 3) := dq_op182 (dq_at (j := 92) dk_29b_2 rfl rfl) (dq_at (j := 93) dk_29b_2 rfl rfl) (dq_at (j := 94) dk_29b_2 rfl rfl) rfl
theorem dL_law_699 : decode cL_law 699 = .ok (.istore 6, 2) := dq_op54 (dq_at (j := 95) dk_29b_2 rfl rfl) (dq_at (j := 96) dk_29b_2 rfl rfl) rfl
theorem dL_law_701 : decode cL_law 701 = .ok (.aload_n 2, 1) := dq_op44 (dq_at (j := 97) dk_29b_2 rfl rfl)
theorem dL_law_702 : decode cL_law 702 = .ok (.invokevirtual 212, 3) := dq_op182 (dq_at (j := 98) dk_29b_2 rfl rfl) (dq_at (j := 99) dk_29b_2 rfl rfl) (dq_at (j := 100) dk_29b_2 rfl rfl) rfl
theorem dL_law_705 : decode cL_law 705 = .ok (.iload 5, 2) := dq_op21 (dq_at (j := 101) dk_29b_2 rfl rfl) (dq_at (j := 102) dk_29b_2 rfl rfl) rfl
theorem dL_law_707 : decode cL_law 707 = .ok (.if_icmp .eq 5, 3) := dq_op159 (dq_at (j := 103) dk_29b_2 rfl rfl) (dq_at (j := 104) dk_29b_2 rfl rfl) (dq_at (j := 105) dk_29b_2 rfl rfl) (by decide +kernel)
theorem dL_law_710 : decode cL_law 710 = .ok (.iconst 0, 1) := dq_op3 (dq_at (j := 106) dk_29b_2 rfl rfl)
theorem dL_law_711 : decode cL_law 711 = .ok (.ireturn, 1) := dq_op172 (dq_at (j := 107) dk_29b_2 rfl rfl)
theorem dL_law_712 : decode cL_law 712 = .ok (.iload 5, 2) := dq_op21 (dq_at (j := 108) dk_29b_2 rfl rfl) (dq_at (j := 109) dk_29b_2 rfl rfl) rfl
theorem dL_law_714 : decode cL_law 714 = .ok (.ifCond .ne 16, 3) := dq_op154 (dq_at (j := 110) dk_29b_2 rfl rfl) (dq_at (j := 111) dk_29b_2 rfl rfl) (dq_at (j := 112) dk_29b_2 rfl rfl) (by decide +kernel)
theorem dL_law_717 : decode cL_law 717 = .ok (.aload_n 3, 1) := dq_op45 (dq_at (j := 113) dk_29b_2 rfl rfl)
theorem dL_law_718 : decode cL_law 718 = .ok (.getfield 13, 3) := dq_op180 (dq_at (j := 114) dk_29b_2 rfl rfl) (dq_at (j := 115) dk_29b_2 rfl rfl) (dq_at (j := 116) dk_29b_2 rfl rfl) rfl
theorem dL_law_721 : decode cL_law 721 = .ok (.iload 6, 2) := dq_op21 (dq_at (j := 117) dk_29b_2 rfl rfl) (dq_at (j := 118) dk_29b_2 rfl rfl) rfl
theorem dL_law_723 : decode cL_law 723 = .ok (.i2l, 1) := dq_op133 (dq_at (j := 119) dk_29b_2 rfl rfl)
theorem dL_law_724 : decode cL_law 724 = .ok (.lcmp, 1) := dq_op148 (dq_at (j := 120) dk_29b_2 rfl rfl)
theorem dL_law_725 : decode cL_law 725 = .ok (.ifCond .eq 5, 3) := dq_op153 (dq_at (j := 121) dk_29b_2 rfl rfl) (dq_at (j := 122) dk_29b_2 rfl rfl) (dq_at (j := 123) dk_29b_2 rfl rfl) (by decide +kernel)
theorem dL_law_728 : decode cL_law 728 = .ok (.iconst 0, 1) := dq_op3 (dq_at (j := 124) dk_29b_2 rfl rfl)
theorem dL_law_729 : decode cL_law 729 = .ok (.ireturn, 1) := dq_op172 (dq_at (j := 125) dk_29b_2 rfl rfl)
theorem dL_law_730 : decode cL_law 730 = .ok (.goto 1538, 3) := dq_op167 (dq_at (j := 126) dk_29b_2 rfl rfl) (dq_at (j := 127) dk_29b_2 rfl rfl) (dq_at (j := 128) dk_29b_2 rfl rfl) (by decide +kernel)
noncomputable def dq_end_29b : Nat := 0
