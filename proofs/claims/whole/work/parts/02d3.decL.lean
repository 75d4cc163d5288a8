theorem d_L_law_1533 : decode code 1533 = .ok (.iconst 2, 1) := by decide +kernel
theorem d_L_law_1534 : decode code 1534 = .ok (.iadd, 1) := by decide +kernel
theorem d_L_law_1535 : decode code 1535 = .ok (.iaload, 1) := by decide +kernel
theorem d_L_law_1536 : decode code 1536 = .ok (.aload_n 3, 1) := by decide +kernel
theorem d_L_law_1537 : decode code 1537 = .ok (.invokestatic 154, 3) := by decide +kernel
theorem d_L_law_1540 : decode code 1540 = .ok (.istore 5, 2) := by decide +kernel
theorem d_L_law_1542 : decode code 1542 = .ok (.aload_n 2, 1) := by decide +kernel
theorem d_L_law_1543 : decode code 1543 = .ok (.aload_n 0, 1) := by decide +kernel
theorem d_L_law_1544 : decode code 1544 = .ok (.iload 4, 2) := by decide +kernel
theorem d_L_law_1546 : decode code 1546 = .ok (.iconst 1, 1) := by decide +kernel
theorem d_L_law_1547 : decode code 1547 = .ok (.iadd, 1) := by decide +kernel
theorem d_L_law_1548 : decode code 1548 = .ok (.iaload, 1) := by decide +kernel
theorem d_L_law_1549 : decode code 1549 = .ok (.aload_n 0, 1) := by decide +kernel
theorem d_L_law_1550 : decode code 1550 = .ok (.iload 4, 2) := by decide +kernel
theorem d_L_law_1552 : decode code 1552 = .ok (.iconst 2, 1) := by decide +kernel
theorem d_L_law_1553 : decode code 1553 = .ok (.iadd, 1) := by decide +kernel
theorem d_L_law_1554 : decode code 1554 = .ok (.iaload, 1) := by decide +kernel
theorem d_L_law_1555 : decode code 1555 = .ok (.invokevirtual 156, 3) := by decide +kernel
theorem d_L_law_1558 : decode code 1558 = .ok (.istore 6, 2) := by decide +kernel
theorem d_L_law_1560 : decode code 1560 = .ok (.aload_n 2, 1) := by decide +kernel
theorem d_L_law_1561 : decode code 1561 = .ok (.invokevirtual 91, 3) := by decide +kernel
theorem d_L_law_1564 : decode code 1564 = .ok (.iload 5, 2) := by decide +kernel
theorem d_L_law_1566 : decode code 1566 = .ok (.if_icmp .eq 5, 3) := by decide +kernel
theorem d_L_law_1569 : decode code 1569 = .ok (.iconst 0, 1) := by decide +kernel
theorem d_L_law_1570 : decode code 1570 = .ok (.ireturn, 1) := by decide +kernel
theorem d_L_law_1571 : decode code 1571 = .ok (.iload 5, 2) := by decide +kernel
theorem d_L_law_1573 : decode code 1573 = .ok (.ifCond .ne 15, 3) := by decide +kernel
theorem d_L_law_1576 : decode code 1576 = .ok (.aload_n 3, 1) := by decide +kernel
theorem d_L_law_1577 : decode code 1577 = .ok (.iconst 0, 1) := by decide +kernel
theorem d_L_law_1578 : decode code 1578 = .ok (.laload, 1) := by decide +kernel
theorem d_L_law_1579 : decode code 1579 = .ok (.iload 6, 2) := by decide +kernel
theorem d_L_law_1581 : decode code 1581 = .ok (.i2l, 1) := by decide +kernel
theorem d_L_law_1582 : decode code 1582 = .ok (.lcmp, 1) := by decide +kernel
theorem d_L_law_1583 : decode code 1583 = .ok (.ifCond .eq 5, 3) := by decide +kernel
theorem d_L_law_1586 : decode code 1586 = .ok (.iconst 0, 1) := by decide +kernel
theorem d_L_law_1587 : decode code 1587 = .ok (.ireturn, 1) := by decide +kernel
theorem d_L_law_1588 : decode code 1588 = .ok (.goto 3, 3) := by decide +kernel
theorem d_L_law_1591 : decode code 1591 = .ok (.iinc 4 4, 3) := by decide +kernel
theorem d_L_law_1594 : decode code 1594 = .ok (.goto (-1571), 3) := by decide +kernel
theorem d_L_law_1597 : decode code 1597 = .ok (.iconst 1, 1) := by decide +kernel
theorem d_L_law_1598 : decode code 1598 = .ok (.ireturn, 1) := by decide +kernel
