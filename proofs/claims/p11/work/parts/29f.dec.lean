theorem dk_29f_1 : (cL_law.data.toList.drop 1515).take 143 = [21, 4, 4, 96, 46, 42, 21, 4, 5, 96, 46, 42, 21, 4, 6, 96, 46, 45, 184, 1, 19, 54, 5, 44, 42, 21, 4, 4, 96, 46, 42, 21, 4, 5, 96, 46, 42, 21, 4, 6, 96, 46, 182, 1, 21, 54, 6, 167, 2, 194, 43, 42, 21, 4, 4, 96, 46, 42, 21, 4, 5, 96, 46, 42, 21, 4, 6, 96, 46, 45, 184, 1, 22, 54, 5, 44, 42, 21, 4, 4, 96, 46, 42, 21, 4, 5, 96, 46, 42, 21, 4, 6, 96, 46, 182, 1, 24, 54, 6, 167, 2, 142, 43, 42, 21, 4, 4, 96, 46, 45, 184, 1, 25, 54, 5, 44, 42, 21, 4, 4, 96, 46, 182, 1, 27, 54, 6, 167, 2, 114, 43, 42, 21, 4, 4, 96, 46, 153, 0, 7, 4, 167, 0] := by decide +kernel
theorem dL_law_1515 : decode cL_law 1515 = .ok (.iload 4, 2) := dq_op21 (dq_at (j := 0) dk_29f_1 rfl rfl) (dq_at (j := 1) dk_29f_1 rfl rfl) rfl
theorem dL_law_1517 : decode cL_law 1517 = .ok (.iconst 1, 1) := dq_op4 (dq_at (j := 2) dk_29f_1 rfl rfl)
theorem dL_law_1518 : decode cL_law 1518 = .ok (.iadd, 1) := dq_op96 (dq_at (j := 3) dk_29f_1 rfl rfl)
theorem dL_law_1519 : decode cL_law 1519 = .ok (.iaload, 1) := dq_op46 (dq_at (j := 4) dk_29f_1 rfl rfl)
theorem dL_law_1520 : decode cL_law 1520 = .ok (.aload_n 0, 1) := dq_op42 (dq_at (j := 5) dk_29f_1 rfl rfl)
theorem dL_law_1521 : decode cL_law 1521 = .ok (.iload 4, 2) := dq_op21 (dq_at (j := 6) dk_29f_1 rfl rfl) (dq_at (j := 7) dk_29f_1 rfl rfl) rfl
theorem dL_law_1523 : decode cL_law 1523 = .ok (.iconst 2, 1) := dq_op5 (dq_at (j := 8) dk_29f_1 rfl rfl)
theorem dL_law_1524 : decode cL_law 1524 = .ok (.iadd, 1) := dq_op96 (dq_at (j := 9) dk_29f_1 rfl rfl)
theorem dL_law_1525 : decode cL_law 1525 = .ok (.iaload, 1) := dq_op46 (dq_at (j := 10) dk_29f_1 rfl rfl)
theorem dL_law_1526 : decode cL_law 1526 = .ok (.aload_n 0, 1) := dq_op42 (dq_at (j := 11) dk_29f_1 rfl rfl)
theorem dL_law_1527 : decode cL_law 1527 = .ok (.iload 4, 2) := dq_op21 (dq_at (j := 12) dk_29f_1 rfl rfl) (dq_at (j := 13) dk_29f_1 rfl rfl) rfl
theorem dL_law_1529 : decode cL_law 1529 = .ok (.iconst 3, 1) := dq_op6 (dq_at (j := 14) dk_29f_1 rfl rfl)
theorem dL_law_1530 : decode cL_law 1530 = .ok (.iadd, 1) := dq_op96 (dq_at (j := 15) dk_29f_1 rfl rfl)
theorem dL_law_1531 : decode cL_law 1531 = .ok (.iaload, 1) := dq_op46 (dq_at (j := 16) dk_29f_1 rfl rfl)
theorem dL_law_1532 : decode cL_law 1532 = .ok (.aload_n 3, 1) := dq_op45 (dq_at (j := 17) dk_29f_1 rfl rfl)
theorem dL_law_1533 : decode cL_law 1533 = .ok (.invokestatic 275, 3) := dq_op184 (dq_at (j := 18) dk_29f_1 rfl rfl) (dq_at (j := 19) dk_29f_1 rfl rfl) (dq_at (j := 20) dk_29f_1 rfl rfl) rfl
theorem dL_law_1536 : decode cL_law 1536 = .ok (.istore 5, 2) := dq_op54 (dq_at (j := 21) dk_29f_1 rfl rfl) (dq_at (j := 22) dk_29f_1 rfl rfl) rfl
theorem dL_law_1538 : decode cL_law 1538 = .ok (.aload_n 2, 1) := dq_op44 (dq_at (j := 23) dk_29f_1 rfl rfl)
theorem dL_law_1539 : decode cL_law 1539 = .ok (.aload_n 0, 1) := dq_op42 (dq_at (j := 24) dk_29f_1 rfl rfl)
theorem dL_law_1540 : decode cL_law 1540 = .ok (.iload 4, 2) := dq_op21 (dq_at (j := 25) dk_29f_1 rfl rfl) (dq_at (j := 26) dk_29f_1 rfl rfl) rfl
theorem dL_law_1542 : decode cL_law 1542 = .ok (.iconst 1, 1) := dq_op4 (dq_at (j := 27) dk_29f_1 rfl rfl)
theorem dL_law_1543 : decode cL_law 1543 = .ok (.iadd, 1) := dq_op96 (dq_at (j := 28) dk_29f_1 rfl rfl)
theorem dL_law_1544 : decode cL_law 1544 = .ok (.iaload, 1) := dq_op46 (dq_at (j := 29) dk_29f_1 rfl rfl)
theorem dL_law_1545 : decode cL_law 1545 = .ok (.aload_n 0, 1) := dq_op42 (dq_at (j := 30) dk_29f_1 rfl rfl)
theorem dL_law_1546 : decode cL_law 1546 = .ok (.iload 4, 2) := dq_op21 (dq_at (j := 31) dk_29f_1 rfl rfl) (dq_at (j := 32) dk_29f_1 rfl rfl) rfl
theorem dL_law_1548 : decode cL_law 1548 = .ok (.iconst 2, 1) := dq_op5 (dq_at (j := 33) dk_29f_1 rfl rfl)
theorem dL_law_1549 : decode cL_law 1549 = .ok (.iadd, 1) := dq_op96 (dq_at (j := 34) dk_29f_1 rfl rfl)
theorem dL_law_1550 : decode cL_law 1550 = .ok (.iaload, 1) := dq_op46 (dq_at (j := 35) dk_29f_1 rfl rfl)
theorem dL_law_1551 : decode cL_law 1551 = .ok (.aload_n 0, 1) := dq_op42 (dq_at (j := 36) dk_29f_1 rfl rfl)
theorem dL_law_1552 : decode cL_law 1552 = .ok (.iload 4, 2) := dq_op21 (dq_at (j := 37) dk_29f_1 rfl rfl) (dq_at (j := 38) dk_29f_1 rfl rfl) rfl
theorem dL_law_1554 : decode cL_law 1554 = .ok (.iconst 3, 1) := dq_op6 (dq_at (j := 39) dk_29f_1 rfl rfl)
theorem dL_law_1555 : decode cL_law 1555 = .ok (.iadd, 1) := dq_op96 (dq_at (j := 40) dk_29f_1 rfl rfl)
theorem dL_law_1556 : decode cL_law 1556 = .ok (.iaload, 1) := dq_op46 (dq_at (j := 41) dk_29f_1 rfl rfl)
theorem dL_law_1557 : decode cL_law 1557 = .ok (.invokevirtual 277, 3) := dq_op182 (dq_at (j := 42) dk_29f_1 rfl rfl) (dq_at (j := 43) dk_29f_1 rfl rfl) (dq_at (j := 44) dk_29f_1 rfl rfl) rfl
theorem dL_law_1560 : decode cL_law 1560 = .ok (.istore 6, 2) := dq_op54 (dq_at (j := 45) dk_29f_1 rfl rfl) (dq_at (j := 46) dk_29f_1 rfl rfl) rfl
theorem dL_law_1562 : decode cL_law 1562 = .ok (.goto 706, 3) := dq_op167 (dq_at (j := 47) dk_29f_1 rfl rfl) (dq_at (j := 48) dk_29f_1 rfl rfl) (dq_at (j := 49) dk_29f_1 rfl rfl) (by decide +kernel)
theorem dL_law_1565 : decode cL_law 1565 = .ok (.aload_n 1, 1) := dq_op43 (dq_at (j := 50) dk_29f_1 rfl rfl)
theorem dL_law_1566 : decode cL_law 1566 = .ok (.aload_n 0, 1) := dq_op42 (dq_at (j := 51) dk_29f_1 rfl rfl)
theorem dL_law_1567 : decode cL_law 1567 = .ok (.iload 4, 2) := dq_op21 (dq_at (j := 52) dk_29f_1 rfl rfl) (dq_at (j := 53) dk_29f_1 rfl rfl) rfl
theorem dL_law_1569 : decode cL_law 1569 = .ok (.iconst 1, 1) := dq_op4 (dq_at (j := 54) dk_29f_1 rfl rfl)
theorem dL_law_1570 : decode cL_law 1570 = .ok (.iadd, 1) := dq_op96 (dq_at (j := 55) dk_29f_1 rfl rfl)
theorem dL_law_1571 : decode cL_law 1571 = .ok (.iaload, 1) := dq_op46 (dq_at (j := 56) dk_29f_1 rfl rfl)
theorem dL_law_1572 : decode cL_law 1572 = .ok (.aload_n 0, 1) := dq_op42 (dq_at (j := 57) dk_29f_1 rfl rfl)
theorem dL_law_1573 : decode cL_law 1573 = .ok (.iload 4, 2) := dq_op21 (dq_at (j := 58) dk_29f_1 rfl rfl) (dq_at (j := 59) dk_29f_1 rfl rfl) rfl
theorem dL_law_1575 : decode cL_law 1575 = .ok (.iconst 2, 1) := dq_op5 (dq_at (j := 60) dk_29f_1 rfl rfl)
theorem dL_law_1576 : decode cL_law 1576 = .ok (.iadd, 1) := dq_op96 (dq_at (j := 61) dk_29f_1 rfl rfl)
theorem dL_law_1577 : decode cL_law 1577 = .ok (.iaload, 1) := dq_op46 (dq_at (j := 62) dk_29f_1 rfl rfl)
theorem dL_law_1578 : decode cL_law 1578 = .ok (.aload_n 0, 1) := dq_op42 (dq_at (j := 63) dk_29f_1 rfl rfl)
theorem dL_law_1579 : decode cL_law 1579 = .ok (.iload 4, 2) := dq_op21 (dq_at (j := 64) dk_29f_1 rfl rfl) (dq_at (j := 65) dk_29f_1 rfl rfl) rfl
theorem dL_law_1581 : decode cL_law 1581 = .ok (.iconst 3, 1) := dq_op6 (dq_at (j := 66) dk_29f_1 rfl rfl)
theorem dL_law_1582 : decode cL_law 1582 = .ok (.iadd, 1) := dq_op96 (dq_at (j := 67) dk_29f_1 rfl rfl)
theorem dL_law_1583 : decode cL_law 1583 = .ok (.iaload, 1) := dq_op46 (dq_at (j := 68) dk_29f_1 rfl rfl)
theorem dL_law_1584 : decode cL_law 1584 = .ok (.aload_n 3, 1) := dq_op45 (dq_at (j := 69) dk_29f_1 rfl rfl)
theorem dL_law_1585 : decode cL_law 1585 = .ok (.invokestatic 278, 3) := dq_op184 (dq_at (j := 70) dk_29f_1 rfl rfl) (dq_at (j := 71) dk_29f_1 rfl rfl) (dq_at (j := 72) dk_29f_1 rfl rfl) rfl
theorem dL_law_1588 : decode cL_law 1588 = .ok (.istore 5, 2) := dq_op54 (dq_at (j := 73) dk_29f_1 rfl rfl) (dq_at (j := 74) dk_29f_1 rfl rfl) rfl
theorem dL_law_1590 : decode cL_law 1590 = .ok (.aload_n 2, 1) := dq_op44 (dq_at (j := 75) dk_29f_1 rfl rfl)
theorem dL_law_1591 : decode cL_law 1591 = .ok (.aload_n 0, 1) := dq_op42 (dq_at (j := 76) dk_29f_1 rfl rfl)
theorem dL_law_1592 : decode cL_law 1592 = .ok (.iload 4, 2) := dq_op21 (dq_at (j := 77) dk_29f_1 rfl rfl) (dq_at (j := 78) dk_29f_1 rfl rfl) rfl
theorem dL_law_1594 : decode cL_law 1594 = .ok (.iconst 1, 1) := dq_op4 (dq_at (j := 79) dk_29f_1 rfl rfl)
theorem dL_law_1595 : decode cL_law 1595 = .ok (.iadd, 1) := dq_op96 (dq_at (j := 80) dk_29f_1 rfl rfl)
theorem dL_law_1596 : decode cL_law 1596 = .ok (.iaload, 1) := dq_op46 (dq_at (j := 81) dk_29f_1 rfl rfl)
theorem dL_law_1597 : decode cL_law 1597 = .ok (.aload_n 0, 1) := dq_op42 (dq_at (j := 82) dk_29f_1 rfl rfl)
theorem dL_law_1598 : decode cL_law 1598 = .ok (.iload 4, 2) := dq_op21 (dq_at (j := 83) dk_29f_1 rfl rfl) (dq_at (j := 84) dk_29f_1 rfl rfl) rfl
theorem dL_law_1600 : decode cL_law 1600 = .ok (.iconst 2, 1) := dq_op5 (dq_at (j := 85) dk_29f_1 rfl rfl)
theorem dL_law_1601 : decode cL_law 1601 = .ok (.iadd, 1) := dq_op96 (dq_at (j := 86) dk_29f_1 rfl rfl)
theorem dL_law_1602 : decode cL_law 1602 = .ok (.iaload, 1) := dq_op46 (dq_at (j := 87) dk_29f_1 rfl rfl)
theorem dL_law_1603 : decode cL_law 1603 = .ok (.aload_n 0, 1) := dq_op42 (dq_at (j := 88) dk_29f_1 rfl rfl)
theorem dL_law_1604 : decode cL_law 1604 = .ok (.iload 4, 2) := dq_op21 (dq_at (j := 89) dk_29f_1 rfl rfl) (dq_at (j := 90) dk_29f_1 rfl rfl) rfl
theorem dL_law_1606 : decode cL_law 1606 = .ok (.iconst 3, 1) := dq_op6 (dq_at (j := 91) dk_29f_1 rfl rfl)
theorem dL_law_1607 : decode cL_law 1607 = .ok (.iadd, 1) := dq_op96 (dq_at (j := 92) dk_29f_1 rfl rfl)
theorem dL_law_1608 : decode cL_law 1608 = .ok (.iaload, 1) := dq_op46 (dq_at (j := 93) dk_29f_1 rfl rfl)
theorem dL_law_1609 : decode cL_law 1609 = .ok (.invokevirtual 280, 3) := dq_op182 (dq_at (j := 94) dk_29f_1 rfl rfl) (dq_at (j := 95) dk_29f_1 rfl rfl) (dq_at (j := 96) dk_29f_1 rfl rfl) rfl
theorem dL_law_1612 : decode cL_law 1612 = .ok (.istore 6, 2) := dq_op54 (dq_at (j := 97) dk_29f_1 rfl rfl) (dq_at (j := 98) dk_29f_1 rfl rfl) rfl
theorem dL_law_1614 : decode cL_law 1614 = .ok (.goto 654, 3) := dq_op167 (dq_at (j := 99) dk_29f_1 rfl rfl) (dq_at (j := 100) dk_29f_1 rfl rfl) (dq_at (j := 101) dk_29f_1 rfl rfl) (by decide +kernel)
theorem dL_law_1617 : decode cL_law 1617 = .ok (.aload_n 1, 1) := dq_op43 (dq_at (j := 102) dk_29f_1 rfl rfl)
theorem dL_law_1618 : decode cL_law 1618 = .ok (.aload_n 0, 1) := dq_op42 (dq_at (j := 103) dk_29f_1 rfl rfl)
theorem dL_law_1619 : decode cL_law 1619 = .ok (.iload 4, 2) := dq_op21 (dq_at (j := 104) dk_29f_1 rfl rfl) (dq_at (j := 105) dk_29f_1 rfl rfl) rfl
theorem dL_law_1621 : decode cL_law 1621 = .ok (.iconst 1, 1) := dq_op4 (dq_at (j := 106) dk_29f_1 rfl rfl)
theorem dL_law_1622 : decode cL_law 1622 = .ok (.iadd, 1) := dq_op96 (dq_at (j := 107) dk_29f_1 rfl rfl)
theorem dL_law_1623 : decode cL_law 1623 = .ok (.iaload, 1) := dq_op46 (dq_at (j := 108) dk_29f_1 rfl rfl)
theorem dL_law_1624 : decode cL_law 1624 = .ok (.aload_n 3, 1) := dq_op45 (dq_at (j := 109) dk_29f_1 rfl rfl)
theorem dL_law_1625 : decode cL_law 1625 = .ok (.invokestatic 281, 3) := dq_op184 (dq_at (j := 110) dk_29f_1 rfl rfl) (dq_at (j := 111) dk_29f_1 rfl rfl) (dq_at (j := 112) dk_29f_1 rfl rfl) rfl
theorem dL_law_1628 : decode cL_law 1628 = .ok (.istore 5, 2) := dq_op54 (dq_at (j := 113) dk_29f_1 rfl rfl) (dq_at (j := 114) dk_29f_1 rfl rfl) rfl
theorem dL_law_1630 : decode cL_law 1630 = .ok (.aload_n 2, 1) := dq_op44 (dq_at (j := 115) dk_29f_1 rfl rfl)
theorem dL_law_1631 : decode cL_law 1631 = .ok (.aload_n 0, 1) := dq_op42 (dq_at (j := 116) dk_29f_1 rfl rfl)
theorem dL_law_1632 : decode cL_law 1632 = .ok (.iload 4, 2) := dq_op21 (dq_at (j := 117) dk_29f_1 rfl rfl) (dq_at (j := 118) dk_29f_1 rfl rfl) rfl
theorem dL_law_1634 : decode cL_law 1634 = .ok (.iconst 1, 1) := dq_op4 (dq_at (j := 119) dk_29f_1 rfl rfl)
theorem dL_law_1635 : decode cL_law 1635 = .ok (.iadd, 1) := dq_op96 (dq_at (j := 120) dk_29f_1 rfl rfl)
theorem dL_law_1636 : decode cL_law 1636 = .ok (.iaload, 1) := dq_op46 (dq_at (j := 121) dk_29f_1 rfl rfl)
theorem dL_law_1637 : decode cL_law 1637 = .ok (.invokevirtual 283, 3) := dq_op182 (dq_at (j := 122) dk_29f_1 rfl rfl) (dq_at (j := 123) dk_29f_1 rfl rfl) (dq_at (j := 124) dk_29f_1 rfl rfl) rfl
theorem dL_law_1640 : decode cL_law 1640 = .ok (.istore 6, 2) := dq_op54 (dq_at (j := 125) dk_29f_1 rfl rfl) (dq_at (j := 126) dk_29f_1 rfl rfl) rfl
theorem dL_law_1642 : decode cL_law 1642 = .ok (.goto 626, 3) := dq_op167 (dq_at (j := 127) dk_29f_1 rfl rfl) (dq_at (j := 128) dk_29f_1 rfl rfl) (dq_at (j := 129) dk_29f_1 rfl rfl) (by decide +kernel)
theorem dL_law_1645 : decode cL_law 1645 = .ok (.aload_n 1, 1) := dq_op43 (dq_at (j := 130) dk_29f_1 rfl rfl)
theorem dL_law_1646 : decode cL_law 1646 = .ok (.aload_n 0, 1) := dq_op42 (dq_at (j := 131) dk_29f_1 rfl rfl)
theorem dL_law_1647 : decode cL_law 1647 = .ok (.iload 4, 2) := dq_op21 (dq_at (j := 132) dk_29f_1 rfl rfl) (dq_at (j := 133) dk_29f_1 rfl rfl) rfl
theorem dL_law_1649 : decode cL_law 1649 = .ok (.iconst 1, 1) := dq_op4 (dq_at (j := 134) dk_29f_1 rfl rfl)
theorem dL_law_1650 : decode cL_law 1650 = .ok (.iadd, 1) := dq_op96 (dq_at (j := 135) dk_29f_1 rfl rfl)
theorem dL_law_1651 : decode cL_law 1651 = .ok (.iaload, 1) := dq_op46 (dq_at (j := 136) dk_29f_1 rfl rfl)
theorem dL_law_1652 : decode cL_law 1652 = .ok (.ifCond .eq 7, 3) := dq_op153 (dq_at (j := 137) dk_29f_1 rfl rfl) (dq_at (j := 138) dk_29f_1 rfl rfl) (dq_at (j := 139) dk_29f_1 rfl rfl) (by decide +kernel)
theorem dL_law_1655 : decode cL_law 1655 = .ok (.iconst 1, 1) := dq_op4 (dq_at (j := 140) dk_29f_1 rfl rfl)
theorem dk_29f_2 : (cL_law.data.toList.drop 1656).take 122 = [167, 0, 4, 3, 42, 21, 4, 5, 96, 46, 45, 184, 1, 28, 54, 5, 44, 42, 21, 4, 4, 96, 46, 153, 0, 7, 4, 167, 0, 4, 3, 42, 21, 4, 5, 96, 46, 182, 1, 30, 54, 6, 167, 2, 58, 43, 42, 21, 4, 4, 96, 46, 45, 184, 1, 31, 54, 5, 44, 42, 21, 4, 4, 96, 46, 182, 1, 33, 54, 6, 167, 2, 30, 43, 42, 21, 4, 4, 96, 46, 45, 184, 1, 34, 54, 5, 44, 42, 21, 4, 4, 96, 46, 182, 1, 36, 58, 6, 167, 2, 2, 43, 42, 21, 4, 4, 96, 46, 42, 21, 4, 5, 96, 46, 42, 21, 4, 6, 96, 46, 45, 184] := by decide +kernel
theorem dL_law_1656 : decode cL_law 1656 = .ok (.goto 4, 3) := dq_op167 (dq_at (j := 0) dk_29f_2 rfl rfl) (dq_at (j := 1) dk_29f_2 rfl rfl) (dq_at (j := 2) dk_29f_2 rfl rfl) (by decide +kernel)
theorem dL_law_1659 : decode cL_law 1659 = .ok (.iconst 0, 1) := dq_op3 (dq_at (j := 3) dk_29f_2 rfl rfl)
theorem dL_law_1660 : decode cL_law 1660 = .ok (.aload_n 0, 1) := dq_op42 (dq_at (j := 4) dk_29f_2 rfl rfl)
theorem dL_law_1661 : decode cL_law 1661 = .ok (.iload 4, 2) := dq_op21 (dq_at (j := 5) dk_29f_2 rfl rfl) (dq_at (j := 6) dk_29f_2 rfl rfl) rfl
theorem dL_law_1663 : decode cL_law 1663 = .ok (.iconst 2, 1) := dq_op5 (dq_at (j := 7) dk_29f_2 rfl rfl)
theorem dL_law_1664 : decode cL_law 1664 = .ok (.iadd, 1) := dq_op96 (dq_at (j := 8) dk_29f_2 rfl rfl)
theorem dL_law_1665 : decode cL_law 1665 = .ok (.iaload, 1) := dq_op46 (dq_at (j := 9) dk_29f_2 rfl rfl)
theorem dL_law_1666 : decode cL_law 1666 = .ok (.aload_n 3, 1) := dq_op45 (dq_at (j := 10) dk_29f_2 rfl rfl)
theorem dL_law_1667 : decode cL_law 1667 = .ok (.invokestatic 284, 3) := dq_op184 (dq_at (j := 11) dk_29f_2 rfl rfl) (dq_at (j := 12) dk_29f_2 rfl rfl) (dq_at (j := 13) dk_29f_2 rfl rfl) rfl
theorem dL_law_1670 : decode cL_law 1670 = .ok (.istore 5, 2) := dq_op54 (dq_at (j := 14) dk_29f_2 rfl rfl) (dq_at (j := 15) dk_29f_2 rfl rfl) rfl
theorem dL_law_1672 : decode cL_law 1672 = .ok (.aload_n 2, 1) := dq_op44 (dq_at (j := 16) dk_29f_2 rfl rfl)
theorem dL_law_1673 : decode cL_law 1673 = .ok (.aload_n 0, 1) := dq_op42 (dq_at (j := 17) dk_29f_2 rfl rfl)
theorem dL_law_1674 : decode cL_law 1674 = .ok (.iload 4, 2) := dq_op21 (dq_at (j := 18) dk_29f_2 rfl rfl) (dq_at (j := 19) dk_29f_2 rfl rfl) rfl
theorem dL_law_1676 : decode cL_law 1676 = .ok (.iconst 1, 1) := dq_op4 (dq_at (j := 20) dk_29f_2 rfl rfl)
theorem dL_law_1677 : decode cL_law 1677 = .ok (.iadd, 1) := dq_op96 (dq_at (j := 21) dk_29f_2 rfl rfl)
theorem dL_law_1678 : decode cL_law 1678 = .ok (.iaload, 1) := dq_op46 (dq_at (j := 22) dk_29f_2 rfl rfl)
theorem dL_law_1679 : decode cL_law 1679 = .ok (.ifCond .eq 7, 3) := dq_op153 (dq_at (j := 23) dk_29f_2 rfl rfl) (dq_at (j := 24) dk_29f_2 rfl rfl) (dq_at (j := 25) dk_29f_2 rfl rfl) (by decide +kernel)
theorem dL_law_1682 : decode cL_law 1682 = .ok (.iconst 1, 1) := dq_op4 (dq_at (j := 26) dk_29f_2 rfl rfl)
theorem dL_law_1683 : decode cL_law 1683 = .ok (.goto 4, 3) := dq_op167 (dq_at (j := 27) dk_29f_2 rfl rfl) (dq_at (j := 28) dk_29f_2 rfl rfl) (dq_at (j := 29) dk_29f_2 rfl rfl) (by decide +kernel)
theorem dL_law_1686 : decode cL_law 1686 = .ok (.iconst 0, 1) := dq_op3 (dq_at (j := 30) dk_29f_2 rfl rfl)
theorem dL_law_1687 : decode cL_law 1687 = .ok (.aload_n 0, 1) := dq_op42 (dq_at (j := 31) dk_29f_2 rfl rfl)
theorem dL_law_1688 : decode cL_law 1688 = .ok (.iload 4, 2) := dq_op21 (dq_at (j := 32) dk_29f_2 rfl rfl) (dq_at (j := 33) dk_29f_2 rfl rfl) rfl
theorem dL_law_1690 : decode cL_law 1690 = .ok (.iconst 2, 1) := dq_op5 (dq_at (j := 34) dk_29f_2 rfl rfl)
theorem dL_law_1691 : decode cL_law 1691 = .ok (.iadd, 1) := dq_op96 (dq_at (j := 35) dk_29f_2 rfl rfl)
theorem dL_law_1692 : decode cL_law 1692 = .ok (.iaload, 1) := dq_op46 (dq_at (j := 36) dk_29f_2 rfl rfl)
theorem dL_law_1693 : decode cL_law 1693 = .ok (.invokevirtual 286, 3) := dq_op182 (dq_at (j := 37) dk_29f_2 rfl rfl) (dq_at (j := 38) dk_29f_2 rfl rfl) (dq_at (j := 39) dk_29f_2 rfl rfl) rfl
theorem dL_law_1696 : decode cL_law 1696 = .ok (.istore 6, 2) := dq_op54 (dq_at (j := 40) dk_29f_2 rfl rfl) (dq_at (j := 41) dk_29f_2 rfl rfl) rfl
theorem dL_law_1698 : decode cL_law 1698 = .ok (.goto 570, 3) := dq_op167 (dq_at (j := 42) dk_29f_2 rfl rfl) (dq_at (j := 43) dk_29f_2 rfl rfl) (dq_at (j := 44) dk_29f_2 rfl rfl) (by decide +kernel)
theorem dL_law_1701 : decode cL_law 1701 = .ok (.aload_n 1, 1) := dq_op43 (dq_at (j := 45) dk_29f_2 rfl rfl)
theorem dL_law_1702 : decode cL_law 1702 = .ok (.aload_n 0, 1) := dq_op42 (dq_at (j := 46) dk_29f_2 rfl rfl)
theorem dL_law_1703 : decode cL_law 1703 = .ok (.iload 4, 2) := dq_op21 (dq_at (j := 47) dk_29f_2 rfl rfl) (dq_at (j := 48) dk_29f_2 rfl rfl) rfl
theorem dL_law_1705 : decode cL_law 1705 = .ok (.iconst 1, 1) := dq_op4 (dq_at (j := 49) dk_29f_2 rfl rfl)
theorem dL_law_1706 : decode cL_law 1706 = .ok (.iadd, 1) := dq_op96 (dq_at (j := 50) dk_29f_2 rfl rfl)
theorem dL_law_1707 : decode cL_law 1707 = .ok (.iaload, 1) := dq_op46 (dq_at (j := 51) dk_29f_2 rfl rfl)
theorem dL_law_1708 : decode cL_law 1708 = .ok (.aload_n 3, 1) := dq_op45 (dq_at (j := 52) dk_29f_2 rfl rfl)
theorem dL_law_1709 : decode cL_law 1709 = .ok (.invokestatic 287, 3) := dq_op184 (dq_at (j := 53) dk_29f_2 rfl rfl) (dq_at (j := 54) dk_29f_2 rfl rfl) (dq_at (j := 55) dk_29f_2 rfl rfl) rfl
theorem dL_law_1712 : decode cL_law 1712 = .ok (.istore 5, 2) := dq_op54 (dq_at (j := 56) dk_29f_2 rfl rfl) (dq_at (j := 57) dk_29f_2 rfl rfl) rfl
theorem dL_law_1714 : decode cL_law 1714 = .ok (.aload_n 2, 1) := dq_op44 (dq_at (j := 58) dk_29f_2 rfl rfl)
theorem dL_law_1715 : decode cL_law 1715 = .ok (.aload_n 0, 1) := dq_op42 (dq_at (j := 59) dk_29f_2 rfl rfl)
theorem dL_law_1716 : decode cL_law 1716 = .ok (.iload 4, 2) := dq_op21 (dq_at (j := 60) dk_29f_2 rfl rfl) (dq_at (j := 61) dk_29f_2 rfl rfl) rfl
theorem dL_law_1718 : decode cL_law 1718 = .ok (.iconst 1, 1) := dq_op4 (dq_at (j := 62) dk_29f_2 rfl rfl)
theorem dL_law_1719 : decode cL_law 1719 = .ok (.iadd, 1) := dq_op96 (dq_at (j := 63) dk_29f_2 rfl rfl)
theorem dL_law_1720 : decode cL_law 1720 = .ok (.iaload, 1) := dq_op46 (dq_at (j := 64) dk_29f_2 rfl rfl)
theorem dL_law_1721 : decode cL_law 1721 = .ok (.invokevirtual 289, 3) := dq_op182 (dq_at (j := 65) dk_29f_2 rfl rfl) (dq_at (j := 66) dk_29f_2 rfl rfl) (dq_at (j := 67) dk_29f_2 rfl rfl) rfl
theorem dL_law_1724 : decode cL_law 1724 = .ok (.istore 6, 2) := dq_op54 (dq_at (j := 68) dk_29f_2 rfl rfl) (dq_at (j := 69) dk_29f_2 rfl rfl) rfl
theorem dL_law_1726 : decode cL_law 1726 = .ok (.goto 542, 3) := dq_op167 (dq_at (j := 70) dk_29f_2 rfl rfl) (dq_at (j := 71) dk_29f_2 rfl rfl) (dq_at (j := 72) dk_29f_2 rfl rfl) (by decide +kernel)
theorem dL_law_1729 : decode cL_law 1729 = .ok (.aload_n 1, 1) := dq_op43 (dq_at (j := 73) dk_29f_2 rfl rfl)
theorem dL_law_1730 : decode cL_law 1730 = .ok (.aload_n 0, 1) := dq_op42 (dq_at (j := 74) dk_29f_2 rfl rfl)
theorem dL_law_1731 : decode cL_law 1731 = .ok (.iload 4, 2) := dq_op21 (dq_at (j := 75) dk_29f_2 rfl rfl) (dq_at (j := 76) dk_29f_2 rfl rfl) rfl
theorem dL_law_1733 : decode cL_law 1733 = .ok (.iconst 1, 1) := dq_op4 (dq_at (j := 77) dk_29f_2 rfl rfl)
theorem dL_law_1734 : decode cL_law 1734 = .ok (.iadd, 1) := dq_op96 (dq_at (j := 78) dk_29f_2 rfl rfl)
theorem dL_law_1735 : decode cL_law 1735 = .ok (.iaload, 1) := dq_op46 (dq_at (j := 79) dk_29f_2 rfl rfl)
theorem dL_law_1736 : decode cL_law 1736 = .ok (.aload_n 3, 1) := dq_op45 (dq_at (j := 80) dk_29f_2 rfl rfl)
theorem dL_law_1737 : decode cL_law 1737 = .ok (.invokestatic 290, 3) := dq_op184 (dq_at (j := 81) dk_29f_2 rfl rfl) (dq_at (j := 82) dk_29f_2 rfl rfl) (dq_at (j := 83) dk_29f_2 rfl rfl) rfl
theorem dL_law_1740 : decode cL_law 1740 = .ok (.istore 5, 2) := dq_op54 (dq_at (j := 84) dk_29f_2 rfl rfl) (dq_at (j := 85) dk_29f_2 rfl rfl) rfl
theorem dL_law_1742 : decode cL_law 1742 = .ok (.aload_n 2, 1) := dq_op44 (dq_at (j := 86) dk_29f_2 rfl rfl)
theorem dL_law_1743 : decode cL_law 1743 = .ok (.aload_n 0, 1) := dq_op42 (dq_at (j := 87) dk_29f_2 rfl rfl)
theorem dL_law_1744 : decode cL_law 1744 = .ok (.iload 4, 2) := dq_op21 (dq_at (j := 88) dk_29f_2 rfl rfl) (dq_at (j := 89) dk_29f_2 rfl rfl) rfl
theorem dL_law_1746 : decode cL_law 1746 = .ok (.iconst 1, 1) := dq_op4 (dq_at (j := 90) dk_29f_2 rfl rfl)
theorem dL_law_1747 : decode cL_law 1747 = .ok (.iadd, 1) := dq_op96 (dq_at (j := 91) dk_29f_2 rfl rfl)
theorem dL_law_1748 : decode cL_law 1748 = .ok (.iaload, 1) := dq_op46 (dq_at (j := 92) dk_29f_2 rfl rfl)
theorem dL_law_1749 : decode cL_law 1749 = .ok (.invokevirtual 292, 3) := dq_op182 (dq_at (j := 93) dk_29f_2 rfl rfl) (dq_at (j := 94) dk_29f_2 rfl rfl) (dq_at (j := 95) dk_29f_2 rfl rfl) rfl
theorem dL_law_1752 : decode cL_law 1752 = .ok (.astore 6, 2) := dq_op58 (dq_at (j := 96) dk_29f_2 rfl rfl) (dq_at (j := 97) dk_29f_2 rfl rfl) rfl
theorem dL_law_1754 : decode cL_law 1754 = .ok (.goto 514, 3) := dq_op167 (dq_at (j := 98) dk_29f_2 rfl rfl) (dq_at (j := 99) dk_29f_2 rfl rfl) (dq_at (j := 100) dk_29f_2 rfl rfl) (by decide +kernel)
theorem dL_law_1757 : decode cL_law 1757 = .ok (.aload_n 1, 1) := dq_op43 (dq_at (j := 101) dk_29f_2 rfl rfl)
theorem dL_law_1758 : decode cL_law 1758 = .ok (.aload_n 0, 1) := dq_op42 (dq_at (j := 102) dk_29f_2 rfl rfl)
theorem dL_law_1759 : decode cL_law 1759 = .ok (.iload 4, 2) := dq_op21 (dq_at (j := 103) dk_29f_2 rfl rfl) (dq_at (j := 104) dk_29f_2 rfl rfl) rfl
theorem dL_law_1761 : decode cL_law 1761 = .ok (.iconst 1, 1) := dq_op4 (dq_at (j := 105) dk_29f_2 rfl rfl)
theorem dL_law_1762 : decode cL_law 1762 = .ok (.iadd, 1) := dq_op96 (dq_at (j := 106) dk_29f_2 rfl rfl)
theorem dL_law_1763 : decode cL_law 1763 = .ok (.iaload, 1) := dq_op46 (dq_at (j := 107) dk_29f_2 rfl rfl)
theorem dL_law_1764 : decode cL_law 1764 = .ok (.aload_n 0, 1) := dq_op42 (dq_at (j := 108) dk_29f_2 rfl rfl)
theorem dL_law_1765 : decode cL_law 1765 = .ok (.iload 4, 2) := dq_op21 (dq_at (j := 109) dk_29f_2 rfl rfl) (dq_at (j := 110) dk_29f_2 rfl rfl) rfl
theorem dL_law_1767 : decode cL_law 1767 = .ok (.iconst 2, 1) := dq_op5 (dq_at (j := 111) dk_29f_2 rfl rfl)
theorem dL_law_1768 : decode cL_law 1768 = .ok (.iadd, 1) := dq_op96 (dq_at (j := 112) dk_29f_2 rfl rfl)
theorem dL_law_1769 : decode cL_law 1769 = .ok (.iaload, 1) := dq_op46 (dq_at (j := 113) dk_29f_2 rfl rfl)
theorem dL_law_1770 : decode cL_law 1770 = .ok (.aload_n 0, 1) := dq_op42 (dq_at (j := 114) dk_29f_2 rfl rfl)
theorem dL_law_1771 : decode cL_law 1771 = .ok (.iload 4, 2) := dq_op21 (dq_at (j := 115) dk_29f_2 rfl rfl) (dq_at (j := 116) dk_29f_2 rfl rfl) rfl
theorem dL_law_1773 : decode cL_law 1773 = .ok (.iconst 3, 1) := dq_op6 (dq_at (j := 117) dk_29f_2 rfl rfl)
theorem dL_law_1774 : decode cL_law 1774 = .ok (.iadd, 1) := dq_op96 (dq_at (j := 118) dk_29f_2 rfl rfl)
theorem dL_law_1775 : decode cL_law 1775 = .ok (.iaload, 1) := dq_op46 (dq_at (j := 119) dk_29f_2 rfl rfl)
noncomputable def dq_end_29f : Nat := 0
