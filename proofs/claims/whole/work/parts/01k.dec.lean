theorem dn_d_Law_law_1500 : decode dn_c_Law_law 1500 = .ok (.ldc2_w 67, 3) := by decide +kernel
theorem dn_d_Law_law_1503 : decode dn_c_Law_law 1503 = .ok (.land, 1) := by decide +kernel
theorem dn_d_Law_law_1504 : decode dn_c_Law_law 1504 = .ok (.lor, 1) := by decide +kernel
theorem dn_d_Law_law_1505 : decode dn_c_Law_law 1505 = .ok (.invokevirtual 136, 3) := by decide +kernel
theorem dn_d_Law_law_1508 : decode dn_c_Law_law 1508 = .ok (.istore 6, 2) := by decide +kernel
theorem dn_d_Law_law_1510 : decode dn_c_Law_law 1510 = .ok (.aload_n 2, 1) := by decide +kernel
theorem dn_d_Law_law_1511 : decode dn_c_Law_law 1511 = .ok (.invokevirtual 82, 3) := by decide +kernel
theorem dn_d_Law_law_1514 : decode dn_c_Law_law 1514 = .ok (.iload 5, 2) := by decide +kernel
theorem dn_d_Law_law_1516 : decode dn_c_Law_law 1516 = .ok (.if_icmp .eq 5, 3) := by decide +kernel
theorem dn_d_Law_law_1519 : decode dn_c_Law_law 1519 = .ok (.iconst 0, 1) := by decide +kernel
theorem dn_d_Law_law_1520 : decode dn_c_Law_law 1520 = .ok (.ireturn, 1) := by decide +kernel
theorem dn_d_Law_law_1521 : decode dn_c_Law_law 1521 = .ok (.iload 5, 2) := by decide +kernel
theorem dn_d_Law_law_1523 : decode dn_c_Law_law 1523 = .ok (.ifCond .ne 15, 3) := by decide +kernel
theorem dn_d_Law_law_1526 : decode dn_c_Law_law 1526 = .ok (.aload_n 3, 1) := by decide +kernel
theorem dn_d_Law_law_1527 : decode dn_c_Law_law 1527 = .ok (.iconst 0, 1) := by decide +kernel
theorem dn_d_Law_law_1528 : decode dn_c_Law_law 1528 = .ok (.laload, 1) := by decide +kernel
theorem dn_d_Law_law_1529 : decode dn_c_Law_law 1529 = .ok (.iload 6, 2) := by decide +kernel
theorem dn_d_Law_law_1531 : decode dn_c_Law_law 1531 = .ok (.i2l, 1) := by decide +kernel
theorem dn_d_Law_law_1532 : decode dn_c_Law_law 1532 = .ok (.lcmp, 1) := by decide +kernel
theorem dn_d_Law_law_1533 : decode dn_c_Law_law 1533 = .ok (.ifCond .eq 5, 3) := by decide +kernel
theorem dn_d_Law_law_1536 : decode dn_c_Law_law 1536 = .ok (.iconst 0, 1) := by decide +kernel
theorem dn_d_Law_law_1537 : decode dn_c_Law_law 1537 = .ok (.ireturn, 1) := by decide +kernel
theorem dn_d_Law_law_1538 : decode dn_c_Law_law 1538 = .ok (.goto 240, 3) := by decide +kernel
theorem dn_d_Law_law_1541 : decode dn_c_Law_law 1541 = .ok (.aload_n 1, 1) := by decide +kernel
theorem dn_d_Law_law_1542 : decode dn_c_Law_law 1542 = .ok (.aload_n 0, 1) := by decide +kernel
theorem dn_d_Law_law_1543 : decode dn_c_Law_law 1543 = .ok (.iload 4, 2) := by decide +kernel
theorem dn_d_Law_law_1545 : decode dn_c_Law_law 1545 = .ok (.iconst 1, 1) := by decide +kernel
theorem dn_d_Law_law_1546 : decode dn_c_Law_law 1546 = .ok (.iadd, 1) := by decide +kernel
theorem dn_d_Law_law_1547 : decode dn_c_Law_law 1547 = .ok (.iaload, 1) := by decide +kernel
theorem dn_d_Law_law_1548 : decode dn_c_Law_law 1548 = .ok (.invokevirtual 137, 3) := by decide +kernel
theorem dn_d_Law_law_1551 : decode dn_c_Law_law 1551 = .ok (.aload_n 2, 1) := by decide +kernel
theorem dn_d_Law_law_1552 : decode dn_c_Law_law 1552 = .ok (.aload_n 0, 1) := by decide +kernel
theorem dn_d_Law_law_1553 : decode dn_c_Law_law 1553 = .ok (.iload 4, 2) := by decide +kernel
theorem dn_d_Law_law_1555 : decode dn_c_Law_law 1555 = .ok (.iconst 1, 1) := by decide +kernel
theorem dn_d_Law_law_1556 : decode dn_c_Law_law 1556 = .ok (.iadd, 1) := by decide +kernel
theorem dn_d_Law_law_1557 : decode dn_c_Law_law 1557 = .ok (.iaload, 1) := by decide +kernel
theorem dn_d_Law_law_1558 : decode dn_c_Law_law 1558 = .ok (.invokevirtual 141, 3) := by decide +kernel
theorem dn_d_Law_law_1561 : decode dn_c_Law_law 1561 = .ok (.lcmp, 1) := by decide +kernel
theorem dn_d_Law_law_1562 : decode dn_c_Law_law 1562 = .ok (.ifCond .eq 216, 3) := by decide +kernel
theorem dn_d_Law_law_1565 : decode dn_c_Law_law 1565 = .ok (.iconst 0, 1) := by decide +kernel
theorem dn_d_Law_law_1566 : decode dn_c_Law_law 1566 = .ok (.ireturn, 1) := by decide +kernel
theorem dn_d_Law_law_1567 : decode dn_c_Law_law 1567 = .ok (.aload_n 1, 1) := by decide +kernel
theorem dn_d_Law_law_1568 : decode dn_c_Law_law 1568 = .ok (.aload_n 0, 1) := by decide +kernel
theorem dn_d_Law_law_1569 : decode dn_c_Law_law 1569 = .ok (.iload 4, 2) := by decide +kernel
theorem dn_d_Law_law_1571 : decode dn_c_Law_law 1571 = .ok (.iconst 1, 1) := by decide +kernel
theorem dn_d_Law_law_1572 : decode dn_c_Law_law 1572 = .ok (.iadd, 1) := by decide +kernel
theorem dn_d_Law_law_1573 : decode dn_c_Law_law 1573 = .ok (.iaload, 1) := by decide +kernel
theorem dn_d_Law_law_1574 : decode dn_c_Law_law 1574 = .ok (.aload_n 0, 1) := by decide +kernel
theorem dn_d_Law_law_1575 : decode dn_c_Law_law 1575 = .ok (.iload 4, 2) := by decide +kernel
theorem dn_d_Law_law_1577 : decode dn_c_Law_law 1577 = .ok (.iconst 2, 1) := by decide +kernel
theorem dn_d_Law_law_1578 : decode dn_c_Law_law 1578 = .ok (.iadd, 1) := by decide +kernel
theorem dn_d_Law_law_1579 : decode dn_c_Law_law 1579 = .ok (.iaload, 1) := by decide +kernel
theorem dn_d_Law_law_1580 : decode dn_c_Law_law 1580 = .ok (.i2l, 1) := by decide +kernel
theorem dn_d_Law_law_1581 : decode dn_c_Law_law 1581 = .ok (.bipush 32, 2) := by decide +kernel
theorem dn_d_Law_law_1583 : decode dn_c_Law_law 1583 = .ok (.lshl, 1) := by decide +kernel
theorem dn_d_Law_law_1584 : decode dn_c_Law_law 1584 = .ok (.aload_n 0, 1) := by decide +kernel
theorem dn_d_Law_law_1585 : decode dn_c_Law_law 1585 = .ok (.iload 4, 2) := by decide +kernel
theorem dn_d_Law_law_1587 : decode dn_c_Law_law 1587 = .ok (.iconst 3, 1) := by decide +kernel
theorem dn_d_Law_law_1588 : decode dn_c_Law_law 1588 = .ok (.iadd, 1) := by decide +kernel
theorem dn_d_Law_law_1589 : decode dn_c_Law_law 1589 = .ok (.iaload, 1) := by decide +kernel
theorem dn_d_Law_law_1590 : decode dn_c_Law_law 1590 = .ok (.i2l, 1) := by decide +kernel
theorem dn_d_Law_law_1591 : decode dn_c_Law_law 1591 = .ok (.ldc2_w 67, 3) := by decide +kernel
theorem dn_d_Law_law_1594 : decode dn_c_Law_law 1594 = .ok (.land, 1) := by decide +kernel
theorem dn_d_Law_law_1595 : decode dn_c_Law_law 1595 = .ok (.lor, 1) := by decide +kernel
theorem dn_d_Law_law_1596 : decode dn_c_Law_law 1596 = .ok (.aload_n 3, 1) := by decide +kernel
theorem dn_d_Law_law_1597 : decode dn_c_Law_law 1597 = .ok (.invokestatic 142, 3) := by decide +kernel
theorem dn_d_Law_law_1600 : decode dn_c_Law_law 1600 = .ok (.istore 5, 2) := by decide +kernel
theorem dn_d_Law_law_1602 : decode dn_c_Law_law 1602 = .ok (.aload_n 2, 1) := by decide +kernel
theorem dn_d_Law_law_1603 : decode dn_c_Law_law 1603 = .ok (.aload_n 0, 1) := by decide +kernel
theorem dn_d_Law_law_1604 : decode dn_c_Law_law 1604 = .ok (.iload 4, 2) := by decide +kernel
theorem dn_d_Law_law_1606 : decode dn_c_Law_law 1606 = .ok (.iconst 1, 1) := by decide +kernel
theorem dn_d_Law_law_1607 : decode dn_c_Law_law 1607 = .ok (.iadd, 1) := by decide +kernel
theorem dn_d_Law_law_1608 : decode dn_c_Law_law 1608 = .ok (.iaload, 1) := by decide +kernel
theorem dn_d_Law_law_1609 : decode dn_c_Law_law 1609 = .ok (.aload_n 0, 1) := by decide +kernel
theorem dn_d_Law_law_1610 : decode dn_c_Law_law 1610 = .ok (.iload 4, 2) := by decide +kernel
theorem dn_d_Law_law_1612 : decode dn_c_Law_law 1612 = .ok (.iconst 2, 1) := by decide +kernel
theorem dn_d_Law_law_1613 : decode dn_c_Law_law 1613 = .ok (.iadd, 1) := by decide +kernel
theorem dn_d_Law_law_1614 : decode dn_c_Law_law 1614 = .ok (.iaload, 1) := by decide +kernel
theorem dn_d_Law_law_1615 : decode dn_c_Law_law 1615 = .ok (.i2l, 1) := by decide +kernel
theorem dn_d_Law_law_1616 : decode dn_c_Law_law 1616 = .ok (.bipush 32, 2) := by decide +kernel
theorem dn_d_Law_law_1618 : decode dn_c_Law_law 1618 = .ok (.lshl, 1) := by decide +kernel
theorem dn_d_Law_law_1619 : decode dn_c_Law_law 1619 = .ok (.aload_n 0, 1) := by decide +kernel
theorem dn_d_Law_law_1620 : decode dn_c_Law_law 1620 = .ok (.iload 4, 2) := by decide +kernel
theorem dn_d_Law_law_1622 : decode dn_c_Law_law 1622 = .ok (.iconst 3, 1) := by decide +kernel
theorem dn_d_Law_law_1623 : decode dn_c_Law_law 1623 = .ok (.iadd, 1) := by decide +kernel
theorem dn_d_Law_law_1624 : decode dn_c_Law_law 1624 = .ok (.iaload, 1) := by decide +kernel
theorem dn_d_Law_law_1625 : decode dn_c_Law_law 1625 = .ok (.i2l, 1) := by decide +kernel
theorem dn_d_Law_law_1626 : decode dn_c_Law_law 1626 = .ok (.ldc2_w 67, 3) := by decide +kernel
theorem dn_d_Law_law_1629 : decode dn_c_Law_law 1629 = .ok (.land, 1) := by decide +kernel
theorem dn_d_Law_law_1630 : decode dn_c_Law_law 1630 = .ok (.lor, 1) := by decide +kernel
theorem dn_d_Law_law_1631 : decode dn_c_Law_law 1631 = .ok (.invokevirtual 144, 3) := by decide +kernel
theorem dn_d_Law_law_1634 : decode dn_c_Law_law 1634 = .ok (.lstore 6, 2) := by decide +kernel
theorem dn_d_Law_law_1636 : decode dn_c_Law_law 1636 = .ok (.aload_n 2, 1) := by decide +kernel
theorem dn_d_Law_law_1637 : decode dn_c_Law_law 1637 = .ok (.invokevirtual 82, 3) := by decide +kernel
theorem dn_d_Law_law_1640 : decode dn_c_Law_law 1640 = .ok (.iload 5, 2) := by decide +kernel
theorem dn_d_Law_law_1642 : decode dn_c_Law_law 1642 = .ok (.if_icmp .eq 5, 3) := by decide +kernel
theorem dn_d_Law_law_1645 : decode dn_c_Law_law 1645 = .ok (.iconst 0, 1) := by decide +kernel
theorem dn_d_Law_law_1646 : decode dn_c_Law_law 1646 = .ok (.ireturn, 1) := by decide +kernel
theorem dn_d_Law_law_1647 : decode dn_c_Law_law 1647 = .ok (.iload 5, 2) := by decide +kernel
theorem dn_d_Law_law_1649 : decode dn_c_Law_law 1649 = .ok (.ifCond .ne 14, 3) := by decide +kernel
theorem dn_d_Law_law_1652 : decode dn_c_Law_law 1652 = .ok (.aload_n 3, 1) := by decide +kernel
theorem dn_d_Law_law_1653 : decode dn_c_Law_law 1653 = .ok (.iconst 0, 1) := by decide +kernel
theorem dn_d_Law_law_1654 : decode dn_c_Law_law 1654 = .ok (.laload, 1) := by decide +kernel
theorem dn_d_Law_law_1655 : decode dn_c_Law_law 1655 = .ok (.lload 6, 2) := by decide +kernel
theorem dn_d_Law_law_1657 : decode dn_c_Law_law 1657 = .ok (.lcmp, 1) := by decide +kernel
theorem dn_d_Law_law_1658 : decode dn_c_Law_law 1658 = .ok (.ifCond .eq 5, 3) := by decide +kernel
theorem dn_d_Law_law_1661 : decode dn_c_Law_law 1661 = .ok (.iconst 0, 1) := by decide +kernel
theorem dn_d_Law_law_1662 : decode dn_c_Law_law 1662 = .ok (.ireturn, 1) := by decide +kernel
theorem dn_d_Law_law_1663 : decode dn_c_Law_law 1663 = .ok (.goto 115, 3) := by decide +kernel
theorem dn_d_Law_law_1666 : decode dn_c_Law_law 1666 = .ok (.aload_n 1, 1) := by decide +kernel
theorem dn_d_Law_law_1667 : decode dn_c_Law_law 1667 = .ok (.aload_n 0, 1) := by decide +kernel
theorem dn_d_Law_law_1668 : decode dn_c_Law_law 1668 = .ok (.iload 4, 2) := by decide +kernel
theorem dn_d_Law_law_1670 : decode dn_c_Law_law 1670 = .ok (.iconst 1, 1) := by decide +kernel
theorem dn_d_Law_law_1671 : decode dn_c_Law_law 1671 = .ok (.iadd, 1) := by decide +kernel
theorem dn_d_Law_law_1672 : decode dn_c_Law_law 1672 = .ok (.iaload, 1) := by decide +kernel
theorem dn_d_Law_law_1673 : decode dn_c_Law_law 1673 = .ok (.i2l, 1) := by decide +kernel
theorem dn_d_Law_law_1674 : decode dn_c_Law_law 1674 = .ok (.bipush 32, 2) := by decide +kernel
theorem dn_d_Law_law_1676 : decode dn_c_Law_law 1676 = .ok (.lshl, 1) := by decide +kernel
theorem dn_d_Law_law_1677 : decode dn_c_Law_law 1677 = .ok (.aload_n 0, 1) := by decide +kernel
theorem dn_d_Law_law_1678 : decode dn_c_Law_law 1678 = .ok (.iload 4, 2) := by decide +kernel
theorem dn_d_Law_law_1680 : decode dn_c_Law_law 1680 = .ok (.iconst 2, 1) := by decide +kernel
theorem dn_d_Law_law_1681 : decode dn_c_Law_law 1681 = .ok (.iadd, 1) := by decide +kernel
theorem dn_d_Law_law_1682 : decode dn_c_Law_law 1682 = .ok (.iaload, 1) := by decide +kernel
theorem dn_d_Law_law_1683 : decode dn_c_Law_law 1683 = .ok (.i2l, 1) := by decide +kernel
theorem dn_d_Law_law_1684 : decode dn_c_Law_law 1684 = .ok (.ldc2_w 67, 3) := by decide +kernel
theorem dn_d_Law_law_1687 : decode dn_c_Law_law 1687 = .ok (.land, 1) := by decide +kernel
theorem dn_d_Law_law_1688 : decode dn_c_Law_law 1688 = .ok (.lor, 1) := by decide +kernel
theorem dn_d_Law_law_1689 : decode dn_c_Law_law 1689 = .ok (.aload_n 3, 1) := by decide +kernel
theorem dn_d_Law_law_1690 : decode dn_c_Law_law 1690 = .ok (.invokestatic 145, 3) := by decide +kernel
theorem dn_d_Law_law_1693 : decode dn_c_Law_law 1693 = .ok (.istore 5, 2) := by decide +kernel
theorem dn_d_Law_law_1695 : decode dn_c_Law_law 1695 = .ok (.aload_n 2, 1) := by decide +kernel
theorem dn_d_Law_law_1696 : decode dn_c_Law_law 1696 = .ok (.aload_n 0, 1) := by decide +kernel
theorem dn_d_Law_law_1697 : decode dn_c_Law_law 1697 = .ok (.iload 4, 2) := by decide +kernel
theorem dn_d_Law_law_1699 : decode dn_c_Law_law 1699 = .ok (.iconst 1, 1) := by decide +kernel
theorem dn_d_Law_law_1700 : decode dn_c_Law_law 1700 = .ok (.iadd, 1) := by decide +kernel
theorem dn_d_Law_law_1701 : decode dn_c_Law_law 1701 = .ok (.iaload, 1) := by decide +kernel
theorem dn_d_Law_law_1702 : decode dn_c_Law_law 1702 = .ok (.i2l, 1) := by decide +kernel
theorem dn_d_Law_law_1703 : decode dn_c_Law_law 1703 = .ok (.bipush 32, 2) := by decide +kernel
theorem dn_d_Law_law_1705 : decode dn_c_Law_law 1705 = .ok (.lshl, 1) := by decide +kernel
theorem dn_d_Law_law_1706 : decode dn_c_Law_law 1706 = .ok (.aload_n 0, 1) := by decide +kernel
theorem dn_d_Law_law_1707 : decode dn_c_Law_law 1707 = .ok (.iload 4, 2) := by decide +kernel
theorem dn_d_Law_law_1709 : decode dn_c_Law_law 1709 = .ok (.iconst 2, 1) := by decide +kernel
theorem dn_d_Law_law_1710 : decode dn_c_Law_law 1710 = .ok (.iadd, 1) := by decide +kernel
theorem dn_d_Law_law_1711 : decode dn_c_Law_law 1711 = .ok (.iaload, 1) := by decide +kernel
theorem dn_d_Law_law_1712 : decode dn_c_Law_law 1712 = .ok (.i2l, 1) := by decide +kernel
theorem dn_d_Law_law_1713 : decode dn_c_Law_law 1713 = .ok (.ldc2_w 67, 3) := by decide +kernel
theorem dn_d_Law_law_1716 : decode dn_c_Law_law 1716 = .ok (.land, 1) := by decide +kernel
theorem dn_d_Law_law_1717 : decode dn_c_Law_law 1717 = .ok (.lor, 1) := by decide +kernel
theorem dn_d_Law_law_1718 : decode dn_c_Law_law 1718 = .ok (.invokevirtual 148, 3) := by decide +kernel
theorem dn_d_Law_law_1721 : decode dn_c_Law_law 1721 = .ok (.lstore 6, 2) := by decide +kernel
theorem dn_d_Law_law_1723 : decode dn_c_Law_law 1723 = .ok (.aload_n 2, 1) := by decide +kernel
theorem dn_d_Law_law_1724 : decode dn_c_Law_law 1724 = .ok (.invokevirtual 82, 3) := by decide +kernel
theorem dn_d_Law_law_1727 : decode dn_c_Law_law 1727 = .ok (.iload 5, 2) := by decide +kernel
theorem dn_d_Law_law_1729 : decode dn_c_Law_law 1729 = .ok (.if_icmp .eq 5, 3) := by decide +kernel
theorem dn_d_Law_law_1732 : decode dn_c_Law_law 1732 = .ok (.iconst 0, 1) := by decide +kernel
theorem dn_d_Law_law_1733 : decode dn_c_Law_law 1733 = .ok (.ireturn, 1) := by decide +kernel
theorem dn_d_Law_law_1734 : decode dn_c_Law_law 1734 = .ok (.iload 5, 2) := by decide +kernel
theorem dn_d_Law_law_1736 : decode dn_c_Law_law 1736 = .ok (.ifCond .ne 14, 3) := by decide +kernel
theorem dn_d_Law_law_1739 : decode dn_c_Law_law 1739 = .ok (.aload_n 3, 1) := by decide +kernel
theorem dn_d_Law_law_1740 : decode dn_c_Law_law 1740 = .ok (.iconst 0, 1) := by decide +kernel
theorem dn_d_Law_law_1741 : decode dn_c_Law_law 1741 = .ok (.laload, 1) := by decide +kernel
theorem dn_d_Law_law_1742 : decode dn_c_Law_law 1742 = .ok (.lload 6, 2) := by decide +kernel
theorem dn_d_Law_law_1744 : decode dn_c_Law_law 1744 = .ok (.lcmp, 1) := by decide +kernel
theorem dn_d_Law_law_1745 : decode dn_c_Law_law 1745 = .ok (.ifCond .eq 5, 3) := by decide +kernel
theorem dn_d_Law_law_1748 : decode dn_c_Law_law 1748 = .ok (.iconst 0, 1) := by decide +kernel
theorem dn_d_Law_law_1749 : decode dn_c_Law_law 1749 = .ok (.ireturn, 1) := by decide +kernel
theorem dn_d_Law_law_1750 : decode dn_c_Law_law 1750 = .ok (.goto 28, 3) := by decide +kernel
theorem dn_d_Law_law_1753 : decode dn_c_Law_law 1753 = .ok (.aload_n 1, 1) := by decide +kernel
theorem dn_d_Law_law_1754 : decode dn_c_Law_law 1754 = .ok (.aload_n 0, 1) := by decide +kernel
theorem dn_d_Law_law_1755 : decode dn_c_Law_law 1755 = .ok (.iload 4, 2) := by decide +kernel
theorem dn_d_Law_law_1757 : decode dn_c_Law_law 1757 = .ok (.iconst 1, 1) := by decide +kernel
theorem dn_d_Law_law_1758 : decode dn_c_Law_law 1758 = .ok (.iadd, 1) := by decide +kernel
theorem dn_d_Law_law_1759 : decode dn_c_Law_law 1759 = .ok (.iaload, 1) := by decide +kernel
theorem dn_d_Law_law_1760 : decode dn_c_Law_law 1760 = .ok (.invokevirtual 149, 3) := by decide +kernel
theorem dn_d_Law_law_1763 : decode dn_c_Law_law 1763 = .ok (.aload_n 2, 1) := by decide +kernel
theorem dn_d_Law_law_1764 : decode dn_c_Law_law 1764 = .ok (.aload_n 0, 1) := by decide +kernel
theorem dn_d_Law_law_1765 : decode dn_c_Law_law 1765 = .ok (.iload 4, 2) := by decide +kernel
theorem dn_d_Law_law_1767 : decode dn_c_Law_law 1767 = .ok (.iconst 1, 1) := by decide +kernel
theorem dn_d_Law_law_1768 : decode dn_c_Law_law 1768 = .ok (.iadd, 1) := by decide +kernel
theorem dn_d_Law_law_1769 : decode dn_c_Law_law 1769 = .ok (.iaload, 1) := by decide +kernel
theorem dn_d_Law_law_1770 : decode dn_c_Law_law 1770 = .ok (.invokevirtual 153, 3) := by decide +kernel
theorem dn_d_Law_law_1773 : decode dn_c_Law_law 1773 = .ok (.if_icmp .eq 5, 3) := by decide +kernel
theorem dn_d_Law_law_1776 : decode dn_c_Law_law 1776 = .ok (.iconst 0, 1) := by decide +kernel
theorem dn_d_Law_law_1777 : decode dn_c_Law_law 1777 = .ok (.ireturn, 1) := by decide +kernel
theorem dn_d_Law_law_1778 : decode dn_c_Law_law 1778 = .ok (.iinc 4 9, 3) := by decide +kernel
theorem dn_d_Law_law_1781 : decode dn_c_Law_law 1781 = .ok (.goto (-1728), 3) := by decide +kernel
theorem dn_d_Law_law_1784 : decode dn_c_Law_law 1784 = .ok (.iconst 1, 1) := by decide +kernel
theorem dn_d_Law_law_1785 : decode dn_c_Law_law 1785 = .ok (.ireturn, 1) := by decide +kernel
