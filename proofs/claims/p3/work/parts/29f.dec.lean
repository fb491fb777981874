noncomputable def dz_p29f_1 : List (Nat × Instr × Nat) := [(1515, (.iload 4, 2)), (1517, (.iconst 1, 1)), (1518, (.iadd, 1)), (1519, (.iaload, 1)), (1520, (.aload_n 0, 1)), (1521, (.iload 4, 2)), (1523, (.iconst 2, 1)), (1524, (.iadd, 1)), (1525, (.iaload, 1)), (1526, (.aload_n 0, 1)), (1527, (.iload 4, 2)), (1529, (.iconst 3, 1)), (1530, (.iadd, 1)), (1531, (.iaload, 1)), (1532, (.aload_n 3, 1)), (1533, (.invokestatic 275, 3)), (1536, (.istore 5, 2)), (1538, (.aload_n 2, 1)), (1539, (.aload_n 0, 1)), (1540, (.iload 4, 2)), (1542, (.iconst 1, 1)), (1543, (.iadd, 1)), (1544, (.iaload, 1)), (1545, (.aload_n 0, 1)), (1546, (.iload 4, 2)), (1548, (.iconst 2, 1)), (1549, (.iadd, 1)), (1550, (.iaload, 1)), (1551, (.aload_n 0, 1)), (1552, (.iload 4, 2)), (1554, (.iconst 3, 1)), (1555, (.iadd, 1)), (1556, (.iaload, 1)), (1557, (.invokevirtual 277, 3)), (1560, (.istore 6, 2)), (1562, (.goto 706, 3)), (1565, (.aload_n 1, 1)), (1566, (.aload_n 0, 1)), (1567, (.iload 4, 2)), (1569, (.iconst 1, 1))]
theorem dy_p29f_1 : dz_ok cL_law dz_p29f_1 = true := by decide +kernel
theorem dL_law_1515 : decode cL_law 1515 = .ok (.iload 4, 2) := dz_at (i := 0) dy_p29f_1 rfl
theorem dL_law_1517 : decode cL_law 1517 = .ok (.iconst 1, 1) := dz_at (i := 1) dy_p29f_1 rfl
theorem dL_law_1518 : decode cL_law 1518 = .ok (.iadd, 1) := dz_at (i := 2) dy_p29f_1 rfl
theorem dL_law_1519 : decode cL_law 1519 = .ok (.iaload, 1) := dz_at (i := 3) dy_p29f_1 rfl
theorem dL_law_1520 : decode cL_law 1520 = .ok (.aload_n 0, 1) := dz_at (i := 4) dy_p29f_1 rfl
theorem dL_law_1521 : decode cL_law 1521 = .ok (.iload 4, 2) := dz_at (i := 5) dy_p29f_1 rfl
theorem dL_law_1523 : decode cL_law 1523 = .ok (.iconst 2, 1) := dz_at (i := 6) dy_p29f_1 rfl
theorem dL_law_1524 : decode cL_law 1524 = .ok (.iadd, 1) := dz_at (i := 7) dy_p29f_1 rfl
theorem dL_law_1525 : decode cL_law 1525 = .ok (.iaload, 1) := dz_at (i := 8) dy_p29f_1 rfl
theorem dL_law_1526 : decode cL_law 1526 = .ok (.aload_n 0, 1) := dz_at (i := 9) dy_p29f_1 rfl
theorem dL_law_1527 : decode cL_law 1527 = .ok (.iload 4, 2) := dz_at (i := 10) dy_p29f_1 rfl
theorem dL_law_1529 : decode cL_law 1529 = .ok (.iconst 3, 1) := dz_at (i := 11) dy_p29f_1 rfl
theorem dL_law_1530 : decode cL_law 1530 = .ok (.iadd, 1) := dz_at (i := 12) dy_p29f_1 rfl
theorem dL_law_1531 : decode cL_law 1531 = .ok (.iaload, 1) := dz_at (i := 13) dy_p29f_1 rfl
theorem dL_law_1532 : decode cL_law 1532 = .ok (.aload_n 3, 1) := dz_at (i := 14) dy_p29f_1 rfl
theorem dL_law_1533 : decode cL_law 1533 = .ok (.invokestatic 275, 3) := dz_at (i := 15) dy_p29f_1 rfl
theorem dL_law_1536 : decode cL_law 1536 = .ok (.istore 5, 2) := dz_at (i := 16) dy_p29f_1 rfl
theorem dL_law_1538 : decode cL_law 1538 = .ok (.aload_n 2, 1) := dz_at (i := 17) dy_p29f_1 rfl
theorem dL_law_1539 : decode cL_law 1539 = .ok (.aload_n 0, 1) := dz_at (i := 18) dy_p29f_1 rfl
theorem dL_law_1540 : decode cL_law 1540 = .ok (.iload 4, 2) := dz_at (i := 19) dy_p29f_1 rfl
theorem dL_law_1542 : decode cL_law 1542 = .ok (.iconst 1, 1) := dz_at (i := 20) dy_p29f_1 rfl
theorem dL_law_1543 : decode cL_law 1543 = .ok (.iadd, 1) := dz_at (i := 21) dy_p29f_1 rfl
theorem dL_law_1544 : decode cL_law 1544 = .ok (.iaload, 1) := dz_at (i := 22) dy_p29f_1 rfl
theorem dL_law_1545 : decode cL_law 1545 = .ok (.aload_n 0, 1) := dz_at (i := 23) dy_p29f_1 rfl
theorem dL_law_1546 : decode cL_law 1546 = .ok (.iload 4, 2) := dz_at (i := 24) dy_p29f_1 rfl
theorem dL_law_1548 : decode cL_law 1548 = .ok (.iconst 2, 1) := dz_at (i := 25) dy_p29f_1 rfl
theorem dL_law_1549 : decode cL_law 1549 = .ok (.iadd, 1) := dz_at (i := 26) dy_p29f_1 rfl
theorem dL_law_1550 : decode cL_law 1550 = .ok (.iaload, 1) := dz_at (i := 27) dy_p29f_1 rfl
theorem dL_law_1551 : decode cL_law 1551 = .ok (.aload_n 0, 1) := dz_at (i := 28) dy_p29f_1 rfl
theorem dL_law_1552 : decode cL_law 1552 = .ok (.iload 4, 2) := dz_at (i := 29) dy_p29f_1 rfl
theorem dL_law_1554 : decode cL_law 1554 = .ok (.iconst 3, 1) := dz_at (i := 30) dy_p29f_1 rfl
theorem dL_law_1555 : decode cL_law 1555 = .ok (.iadd, 1) := dz_at (i := 31) dy_p29f_1 rfl
theorem dL_law_1556 : decode cL_law 1556 = .ok (.iaload, 1) := dz_at (i := 32) dy_p29f_1 rfl
theorem dL_law_1557 : decode cL_law 1557 = .ok (.invokevirtual 277, 3) := dz_at (i := 33) dy_p29f_1 rfl
theorem dL_law_1560 : decode cL_law 1560 = .ok (.istore 6, 2) := dz_at (i := 34) dy_p29f_1 rfl
theorem dL_law_1562 : decode cL_law 1562 = .ok (.goto 706, 3) := dz_at (i := 35) dy_p29f_1 rfl
theorem dL_law_1565 : decode cL_law 1565 = .ok (.aload_n 1, 1) := dz_at (i := 36) dy_p29f_1 rfl
theorem dL_law_1566 : decode cL_law 1566 = .ok (.aload_n 0, 1) := dz_at (i := 37) dy_p29f_1 rfl
theorem dL_law_1567 : decode cL_law 1567 = .ok (.iload 4, 2) := dz_at (i := 38) dy_p29f_1 rfl
theorem dL_law_1569 : decode cL_law 1569 = .ok (.iconst 1, 1) := dz_at (i := 39) dy_p29f_1 rfl
noncomputable def dz_p29f_2 : List (Nat × Instr × Nat) := [(1570, (.iadd, 1)), (1571, (.iaload, 1)), (1572, (.aload_n 0, 1)), (1573, (.iload 4, 2)), (1575, (.iconst 2, 1)), (1576, (.iadd, 1)), (1577, (.iaload, 1)), (1578, (.aload_n 0, 1)), (1579, (.iload 4, 2)), (1581, (.iconst 3, 1)), (1582, (.iadd, 1)), (1583, (.iaload, 1)), (1584, (.aload_n 3, 1)), (1585, (.invokestatic 278, 3)), (1588, (.istore 5, 2)), (1590, (.aload_n 2, 1)), (1591, (.aload_n 0, 1)), (1592, (.iload 4, 2)), (1594, (.iconst 1, 1)), (1595, (.iadd, 1)), (1596, (.iaload, 1)), (1597, (.aload_n 0, 1)), (1598, (.iload 4, 2)), (1600, (.iconst 2, 1)), (1601, (.iadd, 1)), (1602, (.iaload, 1)), (1603, (.aload_n 0, 1)), (1604, (.iload 4, 2)), (1606, (.iconst 3, 1)), (1607, (.iadd, 1)), (1608, (.iaload, 1)), (1609, (.invokevirtual 280, 3)), (1612, (.istore 6, 2)), (1614, (.goto 654, 3)), (1617, (.aload_n 1, 1)), (1618, (.aload_n 0, 1)), (1619, (.iload 4, 2)), (1621, (.iconst 1, 1)), (1622, (.iadd, 1)), (1623, (.iaload, 1))]
theorem dy_p29f_2 : dz_ok cL_law dz_p29f_2 = true := by decide +kernel
theorem dL_law_1570 : decode cL_law 1570 = .ok (.iadd, 1) := dz_at (i := 0) dy_p29f_2 rfl
theorem dL_law_1571 : decode cL_law 1571 = .ok (.iaload, 1) := dz_at (i := 1) dy_p29f_2 rfl
theorem dL_law_1572 : decode cL_law 1572 = .ok (.aload_n 0, 1) := dz_at (i := 2) dy_p29f_2 rfl
theorem dL_law_1573 : decode cL_law 1573 = .ok (.iload 4, 2) := dz_at (i := 3) dy_p29f_2 rfl
theorem dL_law_1575 : decode cL_law 1575 = .ok (.iconst 2, 1) := dz_at (i := 4) dy_p29f_2 rfl
theorem dL_law_1576 : decode cL_law 1576 = .ok (.iadd, 1) := dz_at (i := 5) dy_p29f_2 rfl
theorem dL_law_1577 : decode cL_law 1577 = .ok (.iaload, 1) := dz_at (i := 6) dy_p29f_2 rfl
theorem dL_law_1578 : decode cL_law 1578 = .ok (.aload_n 0, 1) := dz_at (i := 7) dy_p29f_2 rfl
theorem dL_law_1579 : decode cL_law 1579 = .ok (.iload 4, 2) := dz_at (i := 8) dy_p29f_2 rfl
theorem dL_law_1581 : decode cL_law 1581 = .ok (.iconst 3, 1) := dz_at (i := 9) dy_p29f_2 rfl
theorem dL_law_1582 : decode cL_law 1582 = .ok (.iadd, 1) := dz_at (i := 10) dy_p29f_2 rfl
theorem dL_law_1583 : decode cL_law 1583 = .ok (.iaload, 1) := dz_at (i := 11) dy_p29f_2 rfl
theorem dL_law_1584 : decode cL_law 1584 = .ok (.aload_n 3, 1) := dz_at (i := 12) dy_p29f_2 rfl
theorem dL_law_1585 : decode cL_law 1585 = .ok (.invokestatic 278, 3) := dz_at (i := 13) dy_p29f_2 rfl
theorem dL_law_1588 : decode cL_law 1588 = .ok (.istore 5, 2) := dz_at (i := 14) dy_p29f_2 rfl
theorem dL_law_1590 : decode cL_law 1590 = .ok (.aload_n 2, 1) := dz_at (i := 15) dy_p29f_2 rfl
theorem dL_law_1591 : decode cL_law 1591 = .ok (.aload_n 0, 1) := dz_at (i := 16) dy_p29f_2 rfl
theorem dL_law_1592 : decode cL_law 1592 = .ok (.iload 4, 2) := dz_at (i := 17) dy_p29f_2 rfl
theorem dL_law_1594 : decode cL_law 1594 = .ok (.iconst 1, 1) := dz_at (i := 18) dy_p29f_2 rfl
theorem dL_law_1595 : decode cL_law 1595 = .ok (.iadd, 1) := dz_at (i := 19) dy_p29f_2 rfl
theorem dL_law_1596 : decode cL_law 1596 = .ok (.iaload, 1) := dz_at (i := 20) dy_p29f_2 rfl
theorem dL_law_1597 : decode cL_law 1597 = .ok (.aload_n 0, 1) := dz_at (i := 21) dy_p29f_2 rfl
theorem dL_law_1598 : decode cL_law 1598 = .ok (.iload 4, 2) := dz_at (i := 22) dy_p29f_2 rfl
theorem dL_law_1600 : decode cL_law 1600 = .ok (.iconst 2, 1) := dz_at (i := 23) dy_p29f_2 rfl
theorem dL_law_1601 : decode cL_law 1601 = .ok (.iadd, 1) := dz_at (i := 24) dy_p29f_2 rfl
theorem dL_law_1602 : decode cL_law 1602 = .ok (.iaload, 1) := dz_at (i := 25) dy_p29f_2 rfl
theorem dL_law_1603 : decode cL_law 1603 = .ok (.aload_n 0, 1) := dz_at (i := 26) dy_p29f_2 rfl
theorem dL_law_1604 : decode cL_law 1604 = .ok (.iload 4, 2) := dz_at (i := 27) dy_p29f_2 rfl
theorem dL_law_1606 : decode cL_law 1606 = .ok (.iconst 3, 1) := dz_at (i := 28) dy_p29f_2 rfl
theorem dL_law_1607 : decode cL_law 1607 = .ok (.iadd, 1) := dz_at (i := 29) dy_p29f_2 rfl
theorem dL_law_1608 : decode cL_law 1608 = .ok (.iaload, 1) := dz_at (i := 30) dy_p29f_2 rfl
theorem dL_law_1609 : decode cL_law 1609 = .ok (.invokevirtual 280, 3) := dz_at (i := 31) dy_p29f_2 rfl
theorem dL_law_1612 : decode cL_law 1612 = .ok (.istore 6, 2) := dz_at (i := 32) dy_p29f_2 rfl
theorem dL_law_1614 : decode cL_law 1614 = .ok (.goto 654, 3) := dz_at (i := 33) dy_p29f_2 rfl
theorem dL_law_1617 : decode cL_law 1617 = .ok (.aload_n 1, 1) := dz_at (i := 34) dy_p29f_2 rfl
theorem dL_law_1618 : decode cL_law 1618 = .ok (.aload_n 0, 1) := dz_at (i := 35) dy_p29f_2 rfl
theorem dL_law_1619 : decode cL_law 1619 = .ok (.iload 4, 2) := dz_at (i := 36) dy_p29f_2 rfl
theorem dL_law_1621 : decode cL_law 1621 = .ok (.iconst 1, 1) := dz_at (i := 37) dy_p29f_2 rfl
theorem dL_law_1622 : decode cL_law 1622 = .ok (.iadd, 1) := dz_at (i := 38) dy_p29f_2 rfl
theorem dL_law_1623 : decode cL_law 1623 = .ok (.iaload, 1) := dz_at (i := 39) dy_p29f_2 rfl
noncomputable def dz_p29f_3 : List (Nat × Instr × Nat) := [(1624, (.aload_n 3, 1)), (1625, (.invokestatic 281, 3)), (1628, (.istore 5, 2)), (1630, (.aload_n 2, 1)), (1631, (.aload_n 0, 1)), (1632, (.iload 4, 2)), (1634, (.iconst 1, 1)), (1635, (.iadd, 1)), (1636, (.iaload, 1)), (1637, (.invokevirtual 283, 3)), (1640, (.istore 6, 2)), (1642, (.goto 626, 3)), (1645, (.aload_n 1, 1)), (1646, (.aload_n 0, 1)), (1647, (.iload 4, 2)), (1649, (.iconst 1, 1)), (1650, (.iadd, 1)), (1651, (.iaload, 1)), (1652, (.ifCond .eq 7, 3)), (1655, (.iconst 1, 1)), (1656, (.goto 4, 3)), (1659, (.iconst 0, 1)), (1660, (.aload_n 0, 1)), (1661, (.iload 4, 2)), (1663, (.iconst 2, 1)), (1664, (.iadd, 1)), (1665, (.iaload, 1)), (1666, (.aload_n 3, 1)), (1667, (.invokestatic 284, 3)), (1670, (.istore 5, 2)), (1672, (.aload_n 2, 1)), (1673, (.aload_n 0, 1)), (1674, (.iload 4, 2)), (1676, (.iconst 1, 1)), (1677, (.iadd, 1)), (1678, (.iaload, 1)), (1679, (.ifCond .eq 7, 3)), (1682, (.iconst 1, 1)), (1683, (.goto 4, 3)), (1686, (.iconst 0, 1))]
theorem dy_p29f_3 : dz_ok cL_law dz_p29f_3 = true := by decide +kernel
theorem dL_law_1624 : decode cL_law 1624 = .ok (.aload_n 3, 1) := dz_at (i := 0) dy_p29f_3 rfl
theorem dL_law_1625 : decode cL_law 1625 = .ok (.invokestatic 281, 3) := dz_at (i := 1) dy_p29f_3 rfl
theorem dL_law_1628 : decode cL_law 1628 = .ok (.istore 5, 2) := dz_at (i := 2) dy_p29f_3 rfl
theorem dL_law_1630 : decode cL_law 1630 = .ok (.aload_n 2, 1) := dz_at (i := 3) dy_p29f_3 rfl
theorem dL_law_1631 : decode cL_law 1631 = .ok (.aload_n 0, 1) := dz_at (i := 4) dy_p29f_3 rfl
theorem dL_law_1632 : decode cL_law 1632 = .ok (.iload 4, 2) := dz_at (i := 5) dy_p29f_3 rfl
theorem dL_law_1634 : decode cL_law 1634 = .ok (.iconst 1, 1) := dz_at (i := 6) dy_p29f_3 rfl
theorem dL_law_1635 : decode cL_law 1635 = .ok (.iadd, 1) := dz_at (i := 7) dy_p29f_3 rfl
theorem dL_law_1636 : decode cL_law 1636 = .ok (.iaload, 1) := dz_at (i := 8) dy_p29f_3 rfl
theorem dL_law_1637 : decode cL_law 1637 = .ok (.invokevirtual 283, 3) := dz_at (i := 9) dy_p29f_3 rfl
theorem dL_law_1640 : decode cL_law 1640 = .ok (.istore 6, 2) := dz_at (i := 10) dy_p29f_3 rfl
theorem dL_law_1642 : decode cL_law 1642 = .ok (.goto 626, 3) := dz_at (i := 11) dy_p29f_3 rfl
theorem dL_law_1645 : decode cL_law 1645 = .ok (.aload_n 1, 1) := dz_at (i := 12) dy_p29f_3 rfl
theorem dL_law_1646 : decode cL_law 1646 = .ok (.aload_n 0, 1) := dz_at (i := 13) dy_p29f_3 rfl
theorem dL_law_1647 : decode cL_law 1647 = .ok (.iload 4, 2) := dz_at (i := 14) dy_p29f_3 rfl
theorem dL_law_1649 : decode cL_law 1649 = .ok (.iconst 1, 1) := dz_at (i := 15) dy_p29f_3 rfl
theorem dL_law_1650 : decode cL_law 1650 = .ok (.iadd, 1) := dz_at (i := 16) dy_p29f_3 rfl
theorem dL_law_1651 : decode cL_law 1651 = .ok (.iaload, 1) := dz_at (i := 17) dy_p29f_3 rfl
theorem dL_law_1652 : decode cL_law 1652 = .ok (.ifCond .eq 7, 3) := dz_at (i := 18) dy_p29f_3 rfl
theorem dL_law_1655 : decode cL_law 1655 = .ok (.iconst 1, 1) := dz_at (i := 19) dy_p29f_3 rfl
theorem dL_law_1656 : decode cL_law 1656 = .ok (.goto 4, 3) := dz_at (i := 20) dy_p29f_3 rfl
theorem dL_law_1659 : decode cL_law 1659 = .ok (.iconst 0, 1) := dz_at (i := 21) dy_p29f_3 rfl
theorem dL_law_1660 : decode cL_law 1660 = .ok (.aload_n 0, 1) := dz_at (i := 22) dy_p29f_3 rfl
theorem dL_law_1661 : decode cL_law 1661 = .ok (.iload 4, 2) := dz_at (i := 23) dy_p29f_3 rfl
theorem dL_law_1663 : decode cL_law 1663 = .ok (.iconst 2, 1) := dz_at (i := 24) dy_p29f_3 rfl
theorem dL_law_1664 : decode cL_law 1664 = .ok (.iadd, 1) := dz_at (i := 25) dy_p29f_3 rfl
theorem dL_law_1665 : decode cL_law 1665 = .ok (.iaload, 1) := dz_at (i := 26) dy_p29f_3 rfl
theorem dL_law_1666 : decode cL_law 1666 = .ok (.aload_n 3, 1) := dz_at (i := 27) dy_p29f_3 rfl
theorem dL_law_1667 : decode cL_law 1667 = .ok (.invokestatic 284, 3) := dz_at (i := 28) dy_p29f_3 rfl
theorem dL_law_1670 : decode cL_law 1670 = .ok (.istore 5, 2) := dz_at (i := 29) dy_p29f_3 rfl
theorem dL_law_1672 : decode cL_law 1672 = .ok (.aload_n 2, 1) := dz_at (i := 30) dy_p29f_3 rfl
theorem dL_law_1673 : decode cL_law 1673 = .ok (.aload_n 0, 1) := dz_at (i := 31) dy_p29f_3 rfl
theorem dL_law_1674 : decode cL_law 1674 = .ok (.iload 4, 2) := dz_at (i := 32) dy_p29f_3 rfl
theorem dL_law_1676 : decode cL_law 1676 = .ok (.iconst 1, 1) := dz_at (i := 33) dy_p29f_3 rfl
theorem dL_law_1677 : decode cL_law 1677 = .ok (.iadd, 1) := dz_at (i := 34) dy_p29f_3 rfl
theorem dL_law_1678 : decode cL_law 1678 = .ok (.iaload, 1) := dz_at (i := 35) dy_p29f_3 rfl
theorem dL_law_1679 : decode cL_law 1679 = .ok (.ifCond .eq 7, 3) := dz_at (i := 36) dy_p29f_3 rfl
theorem dL_law_1682 : decode cL_law 1682 = .ok (.iconst 1, 1) := dz_at (i := 37) dy_p29f_3 rfl
theorem dL_law_1683 : decode cL_law 1683 = .ok (.goto 4, 3) := dz_at (i := 38) dy_p29f_3 rfl
theorem dL_law_1686 : decode cL_law 1686 = .ok (.iconst 0, 1) := dz_at (i := 39) dy_p29f_3 rfl
noncomputable def dz_p29f_4 : List (Nat × Instr × Nat) := [(1687, (.aload_n 0, 1)), (1688, (.iload 4, 2)), (1690, (.iconst 2, 1)), (1691, (.iadd, 1)), (1692, (.iaload, 1)), (1693, (.invokevirtual 286, 3)), (1696, (.istore 6, 2)), (1698, (.goto 570, 3)), (1701, (.aload_n 1, 1)), (1702, (.aload_n 0, 1)), (1703, (.iload 4, 2)), (1705, (.iconst 1, 1)), (1706, (.iadd, 1)), (1707, (.iaload, 1)), (1708, (.aload_n 3, 1)), (1709, (.invokestatic 287, 3)), (1712, (.istore 5, 2)), (1714, (.aload_n 2, 1)), (1715, (.aload_n 0, 1)), (1716, (.iload 4, 2)), (1718, (.iconst 1, 1)), (1719, (.iadd, 1)), (1720, (.iaload, 1)), (1721, (.invokevirtual 289, 3)), (1724, (.istore 6, 2)), (1726, (.goto 542, 3)), (1729, (.aload_n 1, 1)), (1730, (.aload_n 0, 1)), (1731, (.iload 4, 2)), (1733, (.iconst 1, 1)), (1734, (.iadd, 1)), (1735, (.iaload, 1)), (1736, (.aload_n 3, 1)), (1737, (.invokestatic 290, 3)), (1740, (.istore 5, 2)), (1742, (.aload_n 2, 1)), (1743, (.aload_n 0, 1)), (1744, (.iload 4, 2)), (1746, (.iconst 1, 1)), (1747, (.iadd, 1))]
theorem dy_p29f_4 : dz_ok cL_law dz_p29f_4 = true := by decide +kernel
theorem dL_law_1687 : decode cL_law 1687 = .ok (.aload_n 0, 1) := dz_at (i := 0) dy_p29f_4 rfl
theorem dL_law_1688 : decode cL_law 1688 = .ok (.iload 4, 2) := dz_at (i := 1) dy_p29f_4 rfl
theorem dL_law_1690 : decode cL_law 1690 = .ok (.iconst 2, 1) := dz_at (i := 2) dy_p29f_4 rfl
theorem dL_law_1691 : decode cL_law 1691 = .ok (.iadd, 1) := dz_at (i := 3) dy_p29f_4 rfl
theorem dL_law_1692 : decode cL_law 1692 = .ok (.iaload, 1) := dz_at (i := 4) dy_p29f_4 rfl
theorem dL_law_1693 : decode cL_law 1693 = .ok (.invokevirtual 286, 3) := dz_at (i := 5) dy_p29f_4 rfl
theorem dL_law_1696 : decode cL_law 1696 = .ok (.istore 6, 2) := dz_at (i := 6) dy_p29f_4 rfl
theorem dL_law_1698 : decode cL_law 1698 = .ok (.goto 570, 3) := dz_at (i := 7) dy_p29f_4 rfl
theorem dL_law_1701 : decode cL_law 1701 = .ok (.aload_n 1, 1) := dz_at (i := 8) dy_p29f_4 rfl
theorem dL_law_1702 : decode cL_law 1702 = .ok (.aload_n 0, 1) := dz_at (i := 9) dy_p29f_4 rfl
theorem dL_law_1703 : decode cL_law 1703 = .ok (.iload 4, 2) := dz_at (i := 10) dy_p29f_4 rfl
theorem dL_law_1705 : decode cL_law 1705 = .ok (.iconst 1, 1) := dz_at (i := 11) dy_p29f_4 rfl
theorem dL_law_1706 : decode cL_law 1706 = .ok (.iadd, 1) := dz_at (i := 12) dy_p29f_4 rfl
theorem dL_law_1707 : decode cL_law 1707 = .ok (.iaload, 1) := dz_at (i := 13) dy_p29f_4 rfl
theorem dL_law_1708 : decode cL_law 1708 = .ok (.aload_n 3, 1) := dz_at (i := 14) dy_p29f_4 rfl
theorem dL_law_1709 : decode cL_law 1709 = .ok (.invokestatic 287, 3) := dz_at (i := 15) dy_p29f_4 rfl
theorem dL_law_1712 : decode cL_law 1712 = .ok (.istore 5, 2) := dz_at (i := 16) dy_p29f_4 rfl
theorem dL_law_1714 : decode cL_law 1714 = .ok (.aload_n 2, 1) := dz_at (i := 17) dy_p29f_4 rfl
theorem dL_law_1715 : decode cL_law 1715 = .ok (.aload_n 0, 1) := dz_at (i := 18) dy_p29f_4 rfl
theorem dL_law_1716 : decode cL_law 1716 = .ok (.iload 4, 2) := dz_at (i := 19) dy_p29f_4 rfl
theorem dL_law_1718 : decode cL_law 1718 = .ok (.iconst 1, 1) := dz_at (i := 20) dy_p29f_4 rfl
theorem dL_law_1719 : decode cL_law 1719 = .ok (.iadd, 1) := dz_at (i := 21) dy_p29f_4 rfl
theorem dL_law_1720 : decode cL_law 1720 = .ok (.iaload, 1) := dz_at (i := 22) dy_p29f_4 rfl
theorem dL_law_1721 : decode cL_law 1721 = .ok (.invokevirtual 289, 3) := dz_at (i := 23) dy_p29f_4 rfl
theorem dL_law_1724 : decode cL_law 1724 = .ok (.istore 6, 2) := dz_at (i := 24) dy_p29f_4 rfl
theorem dL_law_1726 : decode cL_law 1726 = .ok (.goto 542, 3) := dz_at (i := 25) dy_p29f_4 rfl
theorem dL_law_1729 : decode cL_law 1729 = .ok (.aload_n 1, 1) := dz_at (i := 26) dy_p29f_4 rfl
theorem dL_law_1730 : decode cL_law 1730 = .ok (.aload_n 0, 1) := dz_at (i := 27) dy_p29f_4 rfl
theorem dL_law_1731 : decode cL_law 1731 = .ok (.iload 4, 2) := dz_at (i := 28) dy_p29f_4 rfl
theorem dL_law_1733 : decode cL_law 1733 = .ok (.iconst 1, 1) := dz_at (i := 29) dy_p29f_4 rfl
theorem dL_law_1734 : decode cL_law 1734 = .ok (.iadd, 1) := dz_at (i := 30) dy_p29f_4 rfl
theorem dL_law_1735 : decode cL_law 1735 = .ok (.iaload, 1) := dz_at (i := 31) dy_p29f_4 rfl
theorem dL_law_1736 : decode cL_law 1736 = .ok (.aload_n 3, 1) := dz_at (i := 32) dy_p29f_4 rfl
theorem dL_law_1737 : decode cL_law 1737 = .ok (.invokestatic 290, 3) := dz_at (i := 33) dy_p29f_4 rfl
theorem dL_law_1740 : decode cL_law 1740 = .ok (.istore 5, 2) := dz_at (i := 34) dy_p29f_4 rfl
theorem dL_law_1742 : decode cL_law 1742 = .ok (.aload_n 2, 1) := dz_at (i := 35) dy_p29f_4 rfl
theorem dL_law_1743 : decode cL_law 1743 = .ok (.aload_n 0, 1) := dz_at (i := 36) dy_p29f_4 rfl
theorem dL_law_1744 : decode cL_law 1744 = .ok (.iload 4, 2) := dz_at (i := 37) dy_p29f_4 rfl
theorem dL_law_1746 : decode cL_law 1746 = .ok (.iconst 1, 1) := dz_at (i := 38) dy_p29f_4 rfl
theorem dL_law_1747 : decode cL_law 1747 = .ok (.iadd, 1) := dz_at (i := 39) dy_p29f_4 rfl
noncomputable def dz_p29f_5 : List (Nat × Instr × Nat) := [(1748, (.iaload, 1)), (1749, (.invokevirtual 292, 3)), (1752, (.astore 6, 2)), (1754, (.goto 514, 3)), (1757, (.aload_n 1, 1)), (1758, (.aload_n 0, 1)), (1759, (.iload 4, 2)), (1761, (.iconst 1, 1)), (1762, (.iadd, 1)), (1763, (.iaload, 1)), (1764, (.aload_n 0, 1)), (1765, (.iload 4, 2)), (1767, (.iconst 2, 1)), (1768, (.iadd, 1)), (1769, (.iaload, 1)), (1770, (.aload_n 0, 1)), (1771, (.iload 4, 2)), (1773, (.iconst 3, 1)), (1774, (.iadd, 1)), (1775, (.iaload, 1))]
theorem dy_p29f_5 : dz_ok cL_law dz_p29f_5 = true := by decide +kernel
theorem dL_law_1748 : decode cL_law 1748 = .ok (.iaload, 1) := dz_at (i := 0) dy_p29f_5 rfl
theorem dL_law_1749 : decode cL_law 1749 = .ok (.invokevirtual 292, 3) := dz_at (i := 1) dy_p29f_5 rfl
theorem dL_law_1752 : decode cL_law 1752 = .ok (.astore 6, 2) := dz_at (i := 2) dy_p29f_5 rfl
theorem dL_law_1754 : decode cL_law 1754 = .ok (.goto 514, 3) := dz_at (i := 3) dy_p29f_5 rfl
theorem dL_law_1757 : decode cL_law 1757 = .ok (.aload_n 1, 1) := dz_at (i := 4) dy_p29f_5 rfl
theorem dL_law_1758 : decode cL_law 1758 = .ok (.aload_n 0, 1) := dz_at (i := 5) dy_p29f_5 rfl
theorem dL_law_1759 : decode cL_law 1759 = .ok (.iload 4, 2) := dz_at (i := 6) dy_p29f_5 rfl
theorem dL_law_1761 : decode cL_law 1761 = .ok (.iconst 1, 1) := dz_at (i := 7) dy_p29f_5 rfl
theorem dL_law_1762 : decode cL_law 1762 = .ok (.iadd, 1) := dz_at (i := 8) dy_p29f_5 rfl
theorem dL_law_1763 : decode cL_law 1763 = .ok (.iaload, 1) := dz_at (i := 9) dy_p29f_5 rfl
theorem dL_law_1764 : decode cL_law 1764 = .ok (.aload_n 0, 1) := dz_at (i := 10) dy_p29f_5 rfl
theorem dL_law_1765 : decode cL_law 1765 = .ok (.iload 4, 2) := dz_at (i := 11) dy_p29f_5 rfl
theorem dL_law_1767 : decode cL_law 1767 = .ok (.iconst 2, 1) := dz_at (i := 12) dy_p29f_5 rfl
theorem dL_law_1768 : decode cL_law 1768 = .ok (.iadd, 1) := dz_at (i := 13) dy_p29f_5 rfl
theorem dL_law_1769 : decode cL_law 1769 = .ok (.iaload, 1) := dz_at (i := 14) dy_p29f_5 rfl
theorem dL_law_1770 : decode cL_law 1770 = .ok (.aload_n 0, 1) := dz_at (i := 15) dy_p29f_5 rfl
theorem dL_law_1771 : decode cL_law 1771 = .ok (.iload 4, 2) := dz_at (i := 16) dy_p29f_5 rfl
theorem dL_law_1773 : decode cL_law 1773 = .ok (.iconst 3, 1) := dz_at (i := 17) dy_p29f_5 rfl
theorem dL_law_1774 : decode cL_law 1774 = .ok (.iadd, 1) := dz_at (i := 18) dy_p29f_5 rfl
theorem dL_law_1775 : decode cL_law 1775 = .ok (.iaload, 1) := dz_at (i := 19) dy_p29f_5 rfl
