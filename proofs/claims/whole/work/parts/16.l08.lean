theorem dL_1518 : decode code 1518 = .ok (.iadd, 1) := by decide +kernel
theorem dL_1519 : decode code 1519 = .ok (.iaload, 1) := by decide +kernel
theorem dL_1520 : decode code 1520 = .ok (.invokevirtual 164, 3) := by decide +kernel
theorem dL_1523 : decode code 1523 = .ok (.if_icmp .eq 107, 3) := by decide +kernel
theorem dL_1526 : decode code 1526 = .ok (.iconst 0, 1) := by decide +kernel
theorem dL_1527 : decode code 1527 = .ok (.ireturn, 1) := by decide +kernel
theorem dL_1528 : decode code 1528 = .ok (.aload_n 1, 1) := by decide +kernel
theorem dL_1529 : decode code 1529 = .ok (.aload_n 0, 1) := by decide +kernel
theorem dL_1530 : decode code 1530 = .ok (.iload_n 3, 1) := by decide +kernel
theorem dL_1531 : decode code 1531 = .ok (.iconst 1, 1) := by decide +kernel
theorem dL_1532 : decode code 1532 = .ok (.iadd, 1) := by decide +kernel
theorem dL_1533 : decode code 1533 = .ok (.iaload, 1) := by decide +kernel
theorem dL_1534 : decode code 1534 = .ok (.aload_n 0, 1) := by decide +kernel
theorem dL_1535 : decode code 1535 = .ok (.iload_n 3, 1) := by decide +kernel
theorem dL_1536 : decode code 1536 = .ok (.iconst 2, 1) := by decide +kernel
theorem dL_1537 : decode code 1537 = .ok (.iadd, 1) := by decide +kernel
theorem dL_1538 : decode code 1538 = .ok (.iaload, 1) := by decide +kernel
theorem dL_1539 : decode code 1539 = .ok (.aload_n 0, 1) := by decide +kernel
theorem dL_1540 : decode code 1540 = .ok (.iload_n 3, 1) := by decide +kernel
theorem dL_1541 : decode code 1541 = .ok (.iconst 3, 1) := by decide +kernel
theorem dL_1542 : decode code 1542 = .ok (.iadd, 1) := by decide +kernel
theorem dL_1543 : decode code 1543 = .ok (.iaload, 1) := by decide +kernel
theorem dL_1544 : decode code 1544 = .ok (.aload_n 0, 1) := by decide +kernel
theorem dL_1545 : decode code 1545 = .ok (.iload_n 3, 1) := by decide +kernel
theorem dL_1546 : decode code 1546 = .ok (.iconst 4, 1) := by decide +kernel
theorem dL_1547 : decode code 1547 = .ok (.iadd, 1) := by decide +kernel
theorem dL_1548 : decode code 1548 = .ok (.iaload, 1) := by decide +kernel
theorem dL_1549 : decode code 1549 = .ok (.invokevirtual 165, 3) := by decide +kernel
theorem dL_1552 : decode code 1552 = .ok (.aload_n 2, 1) := by decide +kernel
theorem dL_1553 : decode code 1553 = .ok (.aload_n 0, 1) := by decide +kernel
theorem dL_1554 : decode code 1554 = .ok (.iload_n 3, 1) := by decide +kernel
theorem dL_1555 : decode code 1555 = .ok (.iconst 1, 1) := by decide +kernel
theorem dL_1556 : decode code 1556 = .ok (.iadd, 1) := by decide +kernel
theorem dL_1557 : decode code 1557 = .ok (.iaload, 1) := by decide +kernel
theorem dL_1558 : decode code 1558 = .ok (.aload_n 0, 1) := by decide +kernel
theorem dL_1559 : decode code 1559 = .ok (.iload_n 3, 1) := by decide +kernel
theorem dL_1560 : decode code 1560 = .ok (.iconst 2, 1) := by decide +kernel
theorem dL_1561 : decode code 1561 = .ok (.iadd, 1) := by decide +kernel
theorem dL_1562 : decode code 1562 = .ok (.iaload, 1) := by decide +kernel
theorem dL_1563 : decode code 1563 = .ok (.aload_n 0, 1) := by decide +kernel
theorem dL_1564 : decode code 1564 = .ok (.iload_n 3, 1) := by decide +kernel
theorem dL_1565 : decode code 1565 = .ok (.iconst 3, 1) := by decide +kernel
theorem dL_1566 : decode code 1566 = .ok (.iadd, 1) := by decide +kernel
theorem dL_1567 : decode code 1567 = .ok (.iaload, 1) := by decide +kernel
theorem dL_1568 : decode code 1568 = .ok (.aload_n 0, 1) := by decide +kernel
theorem dL_1569 : decode code 1569 = .ok (.iload_n 3, 1) := by decide +kernel
theorem dL_1570 : decode code 1570 = .ok (.iconst 4, 1) := by decide +kernel
theorem dL_1571 : decode code 1571 = .ok (.iadd, 1) := by decide +kernel
theorem dL_1572 : decode code 1572 = .ok (.iaload, 1) := by decide +kernel
theorem dL_1573 : decode code 1573 = .ok (.invokevirtual 168, 3) := by decide +kernel
theorem dL_1576 : decode code 1576 = .ok (.if_icmp .eq 54, 3) := by decide +kernel
theorem dL_1579 : decode code 1579 = .ok (.iconst 0, 1) := by decide +kernel
theorem dL_1580 : decode code 1580 = .ok (.ireturn, 1) := by decide +kernel
theorem dL_1581 : decode code 1581 = .ok (.aload_n 1, 1) := by decide +kernel
theorem dL_1582 : decode code 1582 = .ok (.invokevirtual 169, 3) := by decide +kernel
theorem dL_1585 : decode code 1585 = .ok (.aload_n 2, 1) := by decide +kernel
theorem dL_1586 : decode code 1586 = .ok (.invokevirtual 172, 3) := by decide +kernel
theorem dL_1589 : decode code 1589 = .ok (.if_icmp .eq 41, 3) := by decide +kernel
theorem dL_1592 : decode code 1592 = .ok (.iconst 0, 1) := by decide +kernel
theorem dL_1593 : decode code 1593 = .ok (.ireturn, 1) := by decide +kernel
theorem dL_1594 : decode code 1594 = .ok (.aload_n 1, 1) := by decide +kernel
theorem dL_1595 : decode code 1595 = .ok (.invokevirtual 173, 3) := by decide +kernel
theorem dL_1598 : decode code 1598 = .ok (.aload_n 2, 1) := by decide +kernel
theorem dL_1599 : decode code 1599 = .ok (.invokevirtual 176, 3) := by decide +kernel
theorem dL_1602 : decode code 1602 = .ok (.if_icmp .eq 28, 3) := by decide +kernel
theorem dL_1605 : decode code 1605 = .ok (.iconst 0, 1) := by decide +kernel
theorem dL_1606 : decode code 1606 = .ok (.ireturn, 1) := by decide +kernel
theorem dL_1607 : decode code 1607 = .ok (.aload_n 1, 1) := by decide +kernel
theorem dL_1608 : decode code 1608 = .ok (.aload_n 0, 1) := by decide +kernel
theorem dL_1609 : decode code 1609 = .ok (.iload_n 3, 1) := by decide +kernel
theorem dL_1610 : decode code 1610 = .ok (.iconst 1, 1) := by decide +kernel
theorem dL_1611 : decode code 1611 = .ok (.iadd, 1) := by decide +kernel
theorem dL_1612 : decode code 1612 = .ok (.iaload, 1) := by decide +kernel
theorem dL_1613 : decode code 1613 = .ok (.invokevirtual 177, 3) := by decide +kernel
theorem dL_1616 : decode code 1616 = .ok (.aload_n 2, 1) := by decide +kernel
theorem dL_1617 : decode code 1617 = .ok (.aload_n 0, 1) := by decide +kernel
theorem dL_1618 : decode code 1618 = .ok (.iload_n 3, 1) := by decide +kernel
theorem dL_1619 : decode code 1619 = .ok (.iconst 1, 1) := by decide +kernel
theorem dL_1620 : decode code 1620 = .ok (.iadd, 1) := by decide +kernel
theorem dL_1621 : decode code 1621 = .ok (.iaload, 1) := by decide +kernel
theorem dL_1622 : decode code 1622 = .ok (.invokevirtual 180, 3) := by decide +kernel
theorem dL_1625 : decode code 1625 = .ok (.if_icmp .eq 5, 3) := by decide +kernel
theorem dL_1628 : decode code 1628 = .ok (.iconst 0, 1) := by decide +kernel
theorem dL_1629 : decode code 1629 = .ok (.ireturn, 1) := by decide +kernel
theorem dL_1630 : decode code 1630 = .ok (.iinc 3 6, 3) := by decide +kernel
theorem dL_1633 : decode code 1633 = .ok (.goto (-1615), 3) := by decide +kernel
theorem dL_1636 : decode code 1636 = .ok (.iconst 1, 1) := by decide +kernel
theorem dL_1637 : decode code 1637 = .ok (.ireturn, 1) := by decide +kernel
