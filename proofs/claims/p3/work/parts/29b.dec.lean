noncomputable def dz_p29b_1 : List (Nat × Instr × Nat) := [(474, (.iload 4, 2)), (476, (.iconst 1, 1)), (477, (.iadd, 1)), (478, (.iaload, 1)), (479, (.aload_n 0, 1)), (480, (.iload 4, 2)), (482, (.iconst 2, 1)), (483, (.iadd, 1)), (484, (.iaload, 1)), (485, (.invokevirtual 198, 3)), (488, (.istore 6, 2)), (490, (.goto 1778, 3)), (493, (.aload_n 1, 1)), (494, (.aload_n 0, 1)), (495, (.iload 4, 2)), (497, (.iconst 1, 1)), (498, (.iadd, 1)), (499, (.iaload, 1)), (500, (.aload_n 0, 1)), (501, (.iload 4, 2)), (503, (.iconst 2, 1)), (504, (.iadd, 1)), (505, (.iaload, 1)), (506, (.aload_n 0, 1)), (507, (.iload 4, 2)), (509, (.iconst 3, 1)), (510, (.iadd, 1)), (511, (.iaload, 1)), (512, (.aload_n 3, 1)), (513, (.invokestatic 199, 3)), (516, (.istore 5, 2)), (518, (.aload_n 2, 1)), (519, (.aload_n 0, 1)), (520, (.iload 4, 2)), (522, (.iconst 1, 1)), (523, (.iadd, 1)), (524, (.iaload, 1)), (525, (.aload_n 0, 1)), (526, (.iload 4, 2)), (528, (.iconst 2, 1))]
theorem dy_p29b_1 : dz_ok cL_law dz_p29b_1 = true := by decide +kernel
theorem dL_law_474 : decode cL_law 474 = .ok (.iload 4, 2) := dz_at (i := 0) dy_p29b_1 rfl
theorem dL_law_476 : decode cL_law 476 = .ok (.iconst 1, 1) := dz_at (i := 1) dy_p29b_1 rfl
theorem dL_law_477 : decode cL_law 477 = .ok (.iadd, 1) := dz_at (i := 2) dy_p29b_1 rfl
theorem dL_law_478 : decode cL_law 478 = .ok (.iaload, 1) := dz_at (i := 3) dy_p29b_1 rfl
theorem dL_law_479 : decode cL_law 479 = .ok (.aload_n 0, 1) := dz_at (i := 4) dy_p29b_1 rfl
theorem dL_law_480 : decode cL_law 480 = .ok (.iload 4, 2) := dz_at (i := 5) dy_p29b_1 rfl
theorem dL_law_482 : decode cL_law 482 = .ok (.iconst 2, 1) := dz_at (i := 6) dy_p29b_1 rfl
theorem dL_law_483 : decode cL_law 483 = .ok (.iadd, 1) := dz_at (i := 7) dy_p29b_1 rfl
theorem dL_law_484 : decode cL_law 484 = .ok (.iaload, 1) := dz_at (i := 8) dy_p29b_1 rfl
theorem dL_law_485 : decode cL_law 485 = .ok (.invokevirtual 198, 3) := dz_at (i := 9) dy_p29b_1 rfl
theorem dL_law_488 : decode cL_law 488 = .ok (.istore 6, 2) := dz_at (i := 10) dy_p29b_1 rfl
theorem dL_law_490 : decode cL_law 490 = .ok (.goto 1778, 3) := dz_at (i := 11) dy_p29b_1 rfl
theorem dL_law_493 : decode cL_law 493 = .ok (.aload_n 1, 1) := dz_at (i := 12) dy_p29b_1 rfl
theorem dL_law_494 : decode cL_law 494 = .ok (.aload_n 0, 1) := dz_at (i := 13) dy_p29b_1 rfl
theorem dL_law_495 : decode cL_law 495 = .ok (.iload 4, 2) := dz_at (i := 14) dy_p29b_1 rfl
theorem dL_law_497 : decode cL_law 497 = .ok (.iconst 1, 1) := dz_at (i := 15) dy_p29b_1 rfl
theorem dL_law_498 : decode cL_law 498 = .ok (.iadd, 1) := dz_at (i := 16) dy_p29b_1 rfl
theorem dL_law_499 : decode cL_law 499 = .ok (.iaload, 1) := dz_at (i := 17) dy_p29b_1 rfl
theorem dL_law_500 : decode cL_law 500 = .ok (.aload_n 0, 1) := dz_at (i := 18) dy_p29b_1 rfl
theorem dL_law_501 : decode cL_law 501 = .ok (.iload 4, 2) := dz_at (i := 19) dy_p29b_1 rfl
theorem dL_law_503 : decode cL_law 503 = .ok (.iconst 2, 1) := dz_at (i := 20) dy_p29b_1 rfl
theorem dL_law_504 : decode cL_law 504 = .ok (.iadd, 1) := dz_at (i := 21) dy_p29b_1 rfl
theorem dL_law_505 : decode cL_law 505 = .ok (.iaload, 1) := dz_at (i := 22) dy_p29b_1 rfl
theorem dL_law_506 : decode cL_law 506 = .ok (.aload_n 0, 1) := dz_at (i := 23) dy_p29b_1 rfl
theorem dL_law_507 : decode cL_law 507 = .ok (.iload 4, 2) := dz_at (i := 24) dy_p29b_1 rfl
theorem dL_law_509 : decode cL_law 509 = .ok (.iconst 3, 1) := dz_at (i := 25) dy_p29b_1 rfl
theorem dL_law_510 : decode cL_law 510 = .ok (.iadd, 1) := dz_at (i := 26) dy_p29b_1 rfl
theorem dL_law_511 : decode cL_law 511 = .ok (.iaload, 1) := dz_at (i := 27) dy_p29b_1 rfl
theorem dL_law_512 : decode cL_law 512 = .ok (.aload_n 3, 1) := dz_at (i := 28) dy_p29b_1 rfl
theorem dL_law_513 : decode cL_law 513 = .ok (.invokestatic 199, 3) := dz_at (i := 29) dy_p29b_1 rfl
theorem dL_law_516 : decode cL_law 516 = .ok (.istore 5, 2) := dz_at (i := 30) dy_p29b_1 rfl
theorem dL_law_518 : decode cL_law 518 = .ok (.aload_n 2, 1) := dz_at (i := 31) dy_p29b_1 rfl
theorem dL_law_519 : decode cL_law 519 = .ok (.aload_n 0, 1) := dz_at (i := 32) dy_p29b_1 rfl
theorem dL_law_520 : decode cL_law 520 = .ok (.iload 4, 2) := dz_at (i := 33) dy_p29b_1 rfl
theorem dL_law_522 : decode cL_law 522 = .ok (.iconst 1, 1) := dz_at (i := 34) dy_p29b_1 rfl
theorem dL_law_523 : decode cL_law 523 = .ok (.iadd, 1) := dz_at (i := 35) dy_p29b_1 rfl
theorem dL_law_524 : decode cL_law 524 = .ok (.iaload, 1) := dz_at (i := 36) dy_p29b_1 rfl
theorem dL_law_525 : decode cL_law 525 = .ok (.aload_n 0, 1) := dz_at (i := 37) dy_p29b_1 rfl
theorem dL_law_526 : decode cL_law 526 = .ok (.iload 4, 2) := dz_at (i := 38) dy_p29b_1 rfl
theorem dL_law_528 : decode cL_law 528 = .ok (.iconst 2, 1) := dz_at (i := 39) dy_p29b_1 rfl
noncomputable def dz_p29b_2 : List (Nat × Instr × Nat) := [(529, (.iadd, 1)), (530, (.iaload, 1)), (531, (.aload_n 0, 1)), (532, (.iload 4, 2)), (534, (.iconst 3, 1)), (535, (.iadd, 1)), (536, (.iaload, 1)), (537, (.invokevirtual 201, 3)), (540, (.istore 6, 2)), (542, (.goto 1726, 3)), (545, (.aload_n 1, 1)), (546, (.aload_n 0, 1)), (547, (.iload 4, 2)), (549, (.iconst 1, 1)), (550, (.iadd, 1)), (551, (.iaload, 1)), (552, (.aload_n 0, 1)), (553, (.iload 4, 2)), (555, (.iconst 2, 1)), (556, (.iadd, 1)), (557, (.iaload, 1)), (558, (.aload_n 0, 1)), (559, (.iload 4, 2)), (561, (.iconst 3, 1)), (562, (.iadd, 1)), (563, (.iaload, 1)), (564, (.aload_n 3, 1)), (565, (.invokestatic 202, 3)), (568, (.istore 5, 2)), (570, (.aload_n 2, 1)), (571, (.aload_n 0, 1)), (572, (.iload 4, 2)), (574, (.iconst 1, 1)), (575, (.iadd, 1)), (576, (.iaload, 1)), (577, (.aload_n 0, 1)), (578, (.iload 4, 2)), (580, (.iconst 2, 1)), (581, (.iadd, 1)), (582, (.iaload, 1))]
theorem dy_p29b_2 : dz_ok cL_law dz_p29b_2 = true := by decide +kernel
theorem dL_law_529 : decode cL_law 529 = .ok (.iadd, 1) := dz_at (i := 0) dy_p29b_2 rfl
theorem dL_law_530 : decode cL_law 530 = .ok (.iaload, 1) := dz_at (i := 1) dy_p29b_2 rfl
theorem dL_law_531 : decode cL_law 531 = .ok (.aload_n 0, 1) := dz_at (i := 2) dy_p29b_2 rfl
theorem dL_law_532 : decode cL_law 532 = .ok (.iload 4, 2) := dz_at (i := 3) dy_p29b_2 rfl
theorem dL_law_534 : decode cL_law 534 = .ok (.iconst 3, 1) := dz_at (i := 4) dy_p29b_2 rfl
theorem dL_law_535 : decode cL_law 535 = .ok (.iadd, 1) := dz_at (i := 5) dy_p29b_2 rfl
theorem dL_law_536 : decode cL_law 536 = .ok (.iaload, 1) := dz_at (i := 6) dy_p29b_2 rfl
theorem dL_law_537 : decode cL_law 537 = .ok (.invokevirtual 201, 3) := dz_at (i := 7) dy_p29b_2 rfl
theorem dL_law_540 : decode cL_law 540 = .ok (.istore 6, 2) := dz_at (i := 8) dy_p29b_2 rfl
theorem dL_law_542 : decode cL_law 542 = .ok (.goto 1726, 3) := dz_at (i := 9) dy_p29b_2 rfl
theorem dL_law_545 : decode cL_law 545 = .ok (.aload_n 1, 1) := dz_at (i := 10) dy_p29b_2 rfl
theorem dL_law_546 : decode cL_law 546 = .ok (.aload_n 0, 1) := dz_at (i := 11) dy_p29b_2 rfl
theorem dL_law_547 : decode cL_law 547 = .ok (.iload 4, 2) := dz_at (i := 12) dy_p29b_2 rfl
theorem dL_law_549 : decode cL_law 549 = .ok (.iconst 1, 1) := dz_at (i := 13) dy_p29b_2 rfl
theorem dL_law_550 : decode cL_law 550 = .ok (.iadd, 1) := dz_at (i := 14) dy_p29b_2 rfl
theorem dL_law_551 : decode cL_law 551 = .ok (.iaload, 1) := dz_at (i := 15) dy_p29b_2 rfl
theorem dL_law_552 : decode cL_law 552 = .ok (.aload_n 0, 1) := dz_at (i := 16) dy_p29b_2 rfl
theorem dL_law_553 : decode cL_law 553 = .ok (.iload 4, 2) := dz_at (i := 17) dy_p29b_2 rfl
theorem dL_law_555 : decode cL_law 555 = .ok (.iconst 2, 1) := dz_at (i := 18) dy_p29b_2 rfl
theorem dL_law_556 : decode cL_law 556 = .ok (.iadd, 1) := dz_at (i := 19) dy_p29b_2 rfl
theorem dL_law_557 : decode cL_law 557 = .ok (.iaload, 1) := dz_at (i := 20) dy_p29b_2 rfl
theorem dL_law_558 : decode cL_law 558 = .ok (.aload_n 0, 1) := dz_at (i := 21) dy_p29b_2 rfl
theorem dL_law_559 : decode cL_law 559 = .ok (.iload 4, 2) := dz_at (i := 22) dy_p29b_2 rfl
theorem dL_law_561 : decode cL_law 561 = .ok (.iconst 3, 1) := dz_at (i := 23) dy_p29b_2 rfl
theorem dL_law_562 : decode cL_law 562 = .ok (.iadd, 1) := dz_at (i := 24) dy_p29b_2 rfl
theorem dL_law_563 : decode cL_law 563 = .ok (.iaload, 1) := dz_at (i := 25) dy_p29b_2 rfl
theorem dL_law_564 : decode cL_law 564 = .ok (.aload_n 3, 1) := dz_at (i := 26) dy_p29b_2 rfl
theorem dL_law_565 : decode cL_law 565 = .ok (.invokestatic 202, 3) := dz_at (i := 27) dy_p29b_2 rfl
theorem dL_law_568 : decode cL_law 568 = .ok (.istore 5, 2) := dz_at (i := 28) dy_p29b_2 rfl
theorem dL_law_570 : decode cL_law 570 = .ok (.aload_n 2, 1) := dz_at (i := 29) dy_p29b_2 rfl
theorem dL_law_571 : decode cL_law 571 = .ok (.aload_n 0, 1) := dz_at (i := 30) dy_p29b_2 rfl
theorem dL_law_572 : decode cL_law 572 = .ok (.iload 4, 2) := dz_at (i := 31) dy_p29b_2 rfl
theorem dL_law_574 : decode cL_law 574 = .ok (.iconst 1, 1) := dz_at (i := 32) dy_p29b_2 rfl
theorem dL_law_575 : decode cL_law 575 = .ok (.iadd, 1) := dz_at (i := 33) dy_p29b_2 rfl
theorem dL_law_576 : decode cL_law 576 = .ok (.iaload, 1) := dz_at (i := 34) dy_p29b_2 rfl
theorem dL_law_577 : decode cL_law 577 = .ok (.aload_n 0, 1) := dz_at (i := 35) dy_p29b_2 rfl
theorem dL_law_578 : decode cL_law 578 = .ok (.iload 4, 2) := dz_at (i := 36) dy_p29b_2 rfl
theorem dL_law_580 : decode cL_law 580 = .ok (.iconst 2, 1) := dz_at (i := 37) dy_p29b_2 rfl
theorem dL_law_581 : decode cL_law 581 = .ok (.iadd, 1) := dz_at (i := 38) dy_p29b_2 rfl
theorem dL_law_582 : decode cL_law 582 = .ok (.iaload, 1) := dz_at (i := 39) dy_p29b_2 rfl
noncomputable def dz_p29b_3 : List (Nat × Instr × Nat) := [(583, (.aload_n 0, 1)), (584, (.iload 4, 2)), (586, (.iconst 3, 1)), (587, (.iadd, 1)), (588, (.iaload, 1)), (589, (.invokevirtual 204, 3)), (592, (.istore 6, 2)), (594, (.goto 1674, 3)), (597, (.aload_n 1, 1)), (598, (.aload_n 0, 1)), (599, (.iload 4, 2)), (601, (.iconst 1, 1)), (602, (.iadd, 1)), (603, (.iaload, 1)), (604, (.aload_n 0, 1)), (605, (.iload 4, 2)), (607, (.iconst 2, 1)), (608, (.iadd, 1)), (609, (.iaload, 1)), (610, (.aload_n 0, 1)), (611, (.iload 4, 2)), (613, (.iconst 3, 1)), (614, (.iadd, 1)), (615, (.iaload, 1)), (616, (.aload_n 3, 1)), (617, (.invokestatic 205, 3)), (620, (.istore 5, 2)), (622, (.aload_n 2, 1)), (623, (.aload_n 0, 1)), (624, (.iload 4, 2)), (626, (.iconst 1, 1)), (627, (.iadd, 1)), (628, (.iaload, 1)), (629, (.aload_n 0, 1)), (630, (.iload 4, 2)), (632, (.iconst 2, 1)), (633, (.iadd, 1)), (634, (.iaload, 1)), (635, (.aload_n 0, 1)), (636, (.iload 4, 2))]
theorem dy_p29b_3 : dz_ok cL_law dz_p29b_3 = true := by decide +kernel
theorem dL_law_583 : decode cL_law 583 = .ok (.aload_n 0, 1) := dz_at (i := 0) dy_p29b_3 rfl
theorem dL_law_584 : decode cL_law 584 = .ok (.iload 4, 2) := dz_at (i := 1) dy_p29b_3 rfl
theorem dL_law_586 : decode cL_law 586 = .ok (.iconst 3, 1) := dz_at (i := 2) dy_p29b_3 rfl
theorem dL_law_587 : decode cL_law 587 = .ok (.iadd, 1) := dz_at (i := 3) dy_p29b_3 rfl
theorem dL_law_588 : decode cL_law 588 = .ok (.iaload, 1) := dz_at (i := 4) dy_p29b_3 rfl
theorem dL_law_589 : decode cL_law 589 = .ok (.invokevirtual 204, 3) := dz_at (i := 5) dy_p29b_3 rfl
theorem dL_law_592 : decode cL_law 592 = .ok (.istore 6, 2) := dz_at (i := 6) dy_p29b_3 rfl
theorem dL_law_594 : decode cL_law 594 = .ok (.goto 1674, 3) := dz_at (i := 7) dy_p29b_3 rfl
theorem dL_law_597 : decode cL_law 597 = .ok (.aload_n 1, 1) := dz_at (i := 8) dy_p29b_3 rfl
theorem dL_law_598 : decode cL_law 598 = .ok (.aload_n 0, 1) := dz_at (i := 9) dy_p29b_3 rfl
theorem dL_law_599 : decode cL_law 599 = .ok (.iload 4, 2) := dz_at (i := 10) dy_p29b_3 rfl
theorem dL_law_601 : decode cL_law 601 = .ok (.iconst 1, 1) := dz_at (i := 11) dy_p29b_3 rfl
theorem dL_law_602 : decode cL_law 602 = .ok (.iadd, 1) := dz_at (i := 12) dy_p29b_3 rfl
theorem dL_law_603 : decode cL_law 603 = .ok (.iaload, 1) := dz_at (i := 13) dy_p29b_3 rfl
theorem dL_law_604 : decode cL_law 604 = .ok (.aload_n 0, 1) := dz_at (i := 14) dy_p29b_3 rfl
theorem dL_law_605 : decode cL_law 605 = .ok (.iload 4, 2) := dz_at (i := 15) dy_p29b_3 rfl
theorem dL_law_607 : decode cL_law 607 = .ok (.iconst 2, 1) := dz_at (i := 16) dy_p29b_3 rfl
theorem dL_law_608 : decode cL_law 608 = .ok (.iadd, 1) := dz_at (i := 17) dy_p29b_3 rfl
theorem dL_law_609 : decode cL_law 609 = .ok (.iaload, 1) := dz_at (i := 18) dy_p29b_3 rfl
theorem dL_law_610 : decode cL_law 610 = .ok (.aload_n 0, 1) := dz_at (i := 19) dy_p29b_3 rfl
theorem dL_law_611 : decode cL_law 611 = .ok (.iload 4, 2) := dz_at (i := 20) dy_p29b_3 rfl
theorem dL_law_613 : decode cL_law 613 = .ok (.iconst 3, 1) := dz_at (i := 21) dy_p29b_3 rfl
theorem dL_law_614 : decode cL_law 614 = .ok (.iadd, 1) := dz_at (i := 22) dy_p29b_3 rfl
theorem dL_law_615 : decode cL_law 615 = .ok (.iaload, 1) := dz_at (i := 23) dy_p29b_3 rfl
theorem dL_law_616 : decode cL_law 616 = .ok (.aload_n 3, 1) := dz_at (i := 24) dy_p29b_3 rfl
theorem dL_law_617 : decode cL_law 617 = .ok (.invokestatic 205, 3) := dz_at (i := 25) dy_p29b_3 rfl
theorem dL_law_620 : decode cL_law 620 = .ok (.istore 5, 2) := dz_at (i := 26) dy_p29b_3 rfl
theorem dL_law_622 : decode cL_law 622 = .ok (.aload_n 2, 1) := dz_at (i := 27) dy_p29b_3 rfl
theorem dL_law_623 : decode cL_law 623 = .ok (.aload_n 0, 1) := dz_at (i := 28) dy_p29b_3 rfl
theorem dL_law_624 : decode cL_law 624 = .ok (.iload 4, 2) := dz_at (i := 29) dy_p29b_3 rfl
theorem dL_law_626 : decode cL_law 626 = .ok (.iconst 1, 1) := dz_at (i := 30) dy_p29b_3 rfl
theorem dL_law_627 : decode cL_law 627 = .ok (.iadd, 1) := dz_at (i := 31) dy_p29b_3 rfl
theorem dL_law_628 : decode cL_law 628 = .ok (.iaload, 1) := dz_at (i := 32) dy_p29b_3 rfl
theorem dL_law_629 : decode cL_law 629 = .ok (.aload_n 0, 1) := dz_at (i := 33) dy_p29b_3 rfl
theorem dL_law_630 : decode cL_law 630 = .ok (.iload 4, 2) := dz_at (i := 34) dy_p29b_3 rfl
theorem dL_law_632 : decode cL_law 632 = .ok (.iconst 2, 1) := dz_at (i := 35) dy_p29b_3 rfl
theorem dL_law_633 : decode cL_law 633 = .ok (.iadd, 1) := dz_at (i := 36) dy_p29b_3 rfl
theorem dL_law_634 : decode cL_law 634 = .ok (.iaload, 1) := dz_at (i := 37) dy_p29b_3 rfl
theorem dL_law_635 : decode cL_law 635 = .ok (.aload_n 0, 1) := dz_at (i := 38) dy_p29b_3 rfl
theorem dL_law_636 : decode cL_law 636 = .ok (.iload 4, 2) := dz_at (i := 39) dy_p29b_3 rfl
noncomputable def dz_p29b_4 : List (Nat × Instr × Nat) := [(638, (.iconst 3, 1)), (639, (.iadd, 1)), (640, (.iaload, 1)), (641, (.invokevirtual 207, 3)), (644, (.istore 6, 2)), (646, (.goto 1622, 3)), (649, (.aload_n 1, 1)), (650, (.aload_n 0, 1)), (651, (.iload 4, 2)), (653, (.iconst 1, 1)), (654, (.iadd, 1)), (655, (.iaload, 1)), (656, (.aload_n 3, 1)), (657, (.invokestatic 208, 3)), (660, (.istore 5, 2)), (662, (.aload_n 2, 1)), (663, (.aload_n 0, 1)), (664, (.iload 4, 2)), (666, (.iconst 1, 1)), (667, (.iadd, 1)), (668, (.iaload, 1)), (669, (.invokevirtual 211, 3)), (672, (.istore 6, 2)), (674, (.goto 1594, 3)), (677, (.aload_n 1, 1)), (678, (.aload_n 0, 1)), (679, (.iload 4, 2)), (681, (.iconst 1, 1)), (682, (.iadd, 1)), (683, (.iaload, 1)), (684, (.ifCond .eq 7, 3)), (687, (.iconst 1, 1)), (688, (.goto 4, 3)), (691, (.iconst 0, 1)), (692, (.aload_n 0, 1)), (693, (.iload 4, 2)), (695, (.iconst 2, 1)), (696, (.iadd, 1)), (697, (.iaload, 1)), (698, (.aload_n 3, 1))]
theorem dy_p29b_4 : dz_ok cL_law dz_p29b_4 = true := by decide +kernel
theorem dL_law_638 : decode cL_law 638 = .ok (.iconst 3, 1) := dz_at (i := 0) dy_p29b_4 rfl
theorem dL_law_639 : decode cL_law 639 = .ok (.iadd, 1) := dz_at (i := 1) dy_p29b_4 rfl
theorem dL_law_640 : decode cL_law 640 = .ok (.iaload, 1) := dz_at (i := 2) dy_p29b_4 rfl
theorem dL_law_641 : decode cL_law 641 = .ok (.invokevirtual 207, 3) := dz_at (i := 3) dy_p29b_4 rfl
theorem dL_law_644 : decode cL_law 644 = .ok (.istore 6, 2) := dz_at (i := 4) dy_p29b_4 rfl
theorem dL_law_646 : decode cL_law 646 = .ok (.goto 1622, 3) := dz_at (i := 5) dy_p29b_4 rfl
theorem dL_law_649 : decode cL_law 649 = .ok (.aload_n 1, 1) := dz_at (i := 6) dy_p29b_4 rfl
theorem dL_law_650 : decode cL_law 650 = .ok (.aload_n 0, 1) := dz_at (i := 7) dy_p29b_4 rfl
theorem dL_law_651 : decode cL_law 651 = .ok (.iload 4, 2) := dz_at (i := 8) dy_p29b_4 rfl
theorem dL_law_653 : decode cL_law 653 = .ok (.iconst 1, 1) := dz_at (i := 9) dy_p29b_4 rfl
theorem dL_law_654 : decode cL_law 654 = .ok (.iadd, 1) := dz_at (i := 10) dy_p29b_4 rfl
theorem dL_law_655 : decode cL_law 655 = .ok (.iaload, 1) := dz_at (i := 11) dy_p29b_4 rfl
theorem dL_law_656 : decode cL_law 656 = .ok (.aload_n 3, 1) := dz_at (i := 12) dy_p29b_4 rfl
theorem dL_law_657 : decode cL_law 657 = .ok (.invokestatic 208, 3) := dz_at (i := 13) dy_p29b_4 rfl
theorem dL_law_660 : decode cL_law 660 = .ok (.istore 5, 2) := dz_at (i := 14) dy_p29b_4 rfl
theorem dL_law_662 : decode cL_law 662 = .ok (.aload_n 2, 1) := dz_at (i := 15) dy_p29b_4 rfl
theorem dL_law_663 : decode cL_law 663 = .ok (.aload_n 0, 1) := dz_at (i := 16) dy_p29b_4 rfl
theorem dL_law_664 : decode cL_law 664 = .ok (.iload 4, 2) := dz_at (i := 17) dy_p29b_4 rfl
theorem dL_law_666 : decode cL_law 666 = .ok (.iconst 1, 1) := dz_at (i := 18) dy_p29b_4 rfl
theorem dL_law_667 : decode cL_law 667 = .ok (.iadd, 1) := dz_at (i := 19) dy_p29b_4 rfl
theorem dL_law_668 : decode cL_law 668 = .ok (.iaload, 1) := dz_at (i := 20) dy_p29b_4 rfl
theorem dL_law_669 : decode cL_law 669 = .ok (.invokevirtual 211, 3) := dz_at (i := 21) dy_p29b_4 rfl
theorem dL_law_672 : decode cL_law 672 = .ok (.istore 6, 2) := dz_at (i := 22) dy_p29b_4 rfl
theorem dL_law_674 : decode cL_law 674 = .ok (.goto 1594, 3) := dz_at (i := 23) dy_p29b_4 rfl
theorem dL_law_677 : decode cL_law 677 = .ok (.aload_n 1, 1) := dz_at (i := 24) dy_p29b_4 rfl
theorem dL_law_678 : decode cL_law 678 = .ok (.aload_n 0, 1) := dz_at (i := 25) dy_p29b_4 rfl
theorem dL_law_679 : decode cL_law 679 = .ok (.iload 4, 2) := dz_at (i := 26) dy_p29b_4 rfl
theorem dL_law_681 : decode cL_law 681 = .ok (.iconst 1, 1) := dz_at (i := 27) dy_p29b_4 rfl
theorem dL_law_682 : decode cL_law 682 = .ok (.iadd, 1) := dz_at (i := 28) dy_p29b_4 rfl
theorem dL_law_683 : decode cL_law 683 = .ok (.iaload, 1) := dz_at (i := 29) dy_p29b_4 rfl
theorem dL_law_684 : decode cL_law 684 = .ok (.ifCond .eq 7, 3) := dz_at (i := 30) dy_p29b_4 rfl
theorem dL_law_687 : decode cL_law 687 = .ok (.iconst 1, 1) := dz_at (i := 31) dy_p29b_4 rfl
theorem dL_law_688 : decode cL_law 688 = .ok (.goto 4, 3) := dz_at (i := 32) dy_p29b_4 rfl
theorem dL_law_691 : decode cL_law 691 = .ok (.iconst 0, 1) := dz_at (i := 33) dy_p29b_4 rfl
theorem dL_law_692 : decode cL_law 692 = .ok (.aload_n 0, 1) := dz_at (i := 34) dy_p29b_4 rfl
theorem dL_law_693 : decode cL_law 693 = .ok (.iload 4, 2) := dz_at (i := 35) dy_p29b_4 rfl
theorem dL_law_695 : decode cL_law 695 = .ok (.iconst 2, 1) := dz_at (i := 36) dy_p29b_4 rfl
theorem dL_law_696 : decode cL_law 696 = .ok (.iadd, 1) := dz_at (i := 37) dy_p29b_4 rfl
theorem dL_law_697 : decode cL_law 697 = .ok (.iaload, 1) := dz_at (i := 38) dy_p29b_4 rfl
theorem dL_law_698 : decode cL_law 698 = .ok (.aload_n 3, 1) := dz_at (i := 39) dy_p29b_4 rfl
noncomputable def dz_p29b_5 : List (Nat × Instr × Nat) := [(699, (.invokestatic 212, 3)), (702, (.istore 5, 2)), (704, (.aload_n 2, 1)), (705, (.aload_n 0, 1)), (706, (.iload 4, 2)), (708, (.iconst 1, 1)), (709, (.iadd, 1)), (710, (.iaload, 1)), (711, (.ifCond .eq 7, 3)), (714, (.iconst 1, 1)), (715, (.goto 4, 3)), (718, (.iconst 0, 1)), (719, (.aload_n 0, 1)), (720, (.iload 4, 2)), (722, (.iconst 2, 1)), (723, (.iadd, 1)), (724, (.iaload, 1)), (725, (.invokevirtual 215, 3)), (728, (.istore 6, 2)), (730, (.goto 1538, 3))]
theorem dy_p29b_5 : dz_ok cL_law dz_p29b_5 = true := by decide +kernel
theorem dL_law_699 : decode cL_law 699 = .ok (.invokestatic 212, 3) := dz_at (i := 0) dy_p29b_5 rfl
theorem dL_law_702 : decode cL_law 702 = .ok (.istore 5, 2) := dz_at (i := 1) dy_p29b_5 rfl
theorem dL_law_704 : decode cL_law 704 = .ok (.aload_n 2, 1) := dz_at (i := 2) dy_p29b_5 rfl
theorem dL_law_705 : decode cL_law 705 = .ok (.aload_n 0, 1) := dz_at (i := 3) dy_p29b_5 rfl
theorem dL_law_706 : decode cL_law 706 = .ok (.iload 4, 2) := dz_at (i := 4) dy_p29b_5 rfl
theorem dL_law_708 : decode cL_law 708 = .ok (.iconst 1, 1) := dz_at (i := 5) dy_p29b_5 rfl
theorem dL_law_709 : decode cL_law 709 = .ok (.iadd, 1) := dz_at (i := 6) dy_p29b_5 rfl
theorem dL_law_710 : decode cL_law 710 = .ok (.iaload, 1) := dz_at (i := 7) dy_p29b_5 rfl
theorem dL_law_711 : decode cL_law 711 = .ok (.ifCond .eq 7, 3) := dz_at (i := 8) dy_p29b_5 rfl
theorem dL_law_714 : decode cL_law 714 = .ok (.iconst 1, 1) := dz_at (i := 9) dy_p29b_5 rfl
theorem dL_law_715 : decode cL_law 715 = .ok (.goto 4, 3) := dz_at (i := 10) dy_p29b_5 rfl
theorem dL_law_718 : decode cL_law 718 = .ok (.iconst 0, 1) := dz_at (i := 11) dy_p29b_5 rfl
theorem dL_law_719 : decode cL_law 719 = .ok (.aload_n 0, 1) := dz_at (i := 12) dy_p29b_5 rfl
theorem dL_law_720 : decode cL_law 720 = .ok (.iload 4, 2) := dz_at (i := 13) dy_p29b_5 rfl
theorem dL_law_722 : decode cL_law 722 = .ok (.iconst 2, 1) := dz_at (i := 14) dy_p29b_5 rfl
theorem dL_law_723 : decode cL_law 723 = .ok (.iadd, 1) := dz_at (i := 15) dy_p29b_5 rfl
theorem dL_law_724 : decode cL_law 724 = .ok (.iaload, 1) := dz_at (i := 16) dy_p29b_5 rfl
theorem dL_law_725 : decode cL_law 725 = .ok (.invokevirtual 215, 3) := dz_at (i := 17) dy_p29b_5 rfl
theorem dL_law_728 : decode cL_law 728 = .ok (.istore 6, 2) := dz_at (i := 18) dy_p29b_5 rfl
theorem dL_law_730 : decode cL_law 730 = .ok (.goto 1538, 3) := dz_at (i := 19) dy_p29b_5 rfl
