theorem dL_law__1543 : decode cL_law_ 1543 = .ok (.iaload, 1) := by decide +kernel
theorem dL_law__1544 : decode cL_law_ 1544 = .ok (.aload_n 0, 1) := by decide +kernel
theorem dL_law__1545 : decode cL_law_ 1545 = .ok (.iload 4, 2) := by decide +kernel
theorem dL_law__1547 : decode cL_law_ 1547 = .ok (.iconst 2, 1) := by decide +kernel
theorem dL_law__1548 : decode cL_law_ 1548 = .ok (.iadd, 1) := by decide +kernel
theorem dL_law__1549 : decode cL_law_ 1549 = .ok (.iaload, 1) := by decide +kernel
theorem dL_law__1550 : decode cL_law_ 1550 = .ok (.aload_n 0, 1) := by decide +kernel
theorem dL_law__1551 : decode cL_law_ 1551 = .ok (.iload 4, 2) := by decide +kernel
theorem dL_law__1553 : decode cL_law_ 1553 = .ok (.iconst 3, 1) := by decide +kernel
theorem dL_law__1554 : decode cL_law_ 1554 = .ok (.iadd, 1) := by decide +kernel
theorem dL_law__1555 : decode cL_law_ 1555 = .ok (.iaload, 1) := by decide +kernel
theorem dL_law__1556 : decode cL_law_ 1556 = .ok (.invokevirtual 187, 3) := by decide +kernel
theorem dL_law__1559 : decode cL_law_ 1559 = .ok (.istore 6, 2) := by decide +kernel
theorem dL_law__1561 : decode cL_law_ 1561 = .ok (.aload_n 2, 1) := by decide +kernel
theorem dL_law__1562 : decode cL_law_ 1562 = .ok (.invokevirtual 102, 3) := by decide +kernel
theorem dL_law__1565 : decode cL_law_ 1565 = .ok (.iload 5, 2) := by decide +kernel
theorem dL_law__1567 : decode cL_law_ 1567 = .ok (.if_icmp .eq 5, 3) := by decide +kernel
theorem dL_law__1570 : decode cL_law_ 1570 = .ok (.iconst 0, 1) := by decide +kernel
theorem dL_law__1571 : decode cL_law_ 1571 = .ok (.ireturn, 1) := by decide +kernel
theorem dL_law__1572 : decode cL_law_ 1572 = .ok (.iload 5, 2) := by decide +kernel
theorem dL_law__1574 : decode cL_law_ 1574 = .ok (.ifCond .ne 15, 3) := by decide +kernel
theorem dL_law__1577 : decode cL_law_ 1577 = .ok (.aload_n 3, 1) := by decide +kernel
theorem dL_law__1578 : decode cL_law_ 1578 = .ok (.iconst 0, 1) := by decide +kernel
theorem dL_law__1579 : decode cL_law_ 1579 = .ok (.laload, 1) := by decide +kernel
theorem dL_law__1580 : decode cL_law_ 1580 = .ok (.iload 6, 2) := by decide +kernel
theorem dL_law__1582 : decode cL_law_ 1582 = .ok (.i2l, 1) := by decide +kernel
theorem dL_law__1583 : decode cL_law_ 1583 = .ok (.lcmp, 1) := by decide +kernel
theorem dL_law__1584 : decode cL_law_ 1584 = .ok (.ifCond .eq 5, 3) := by decide +kernel
theorem dL_law__1587 : decode cL_law_ 1587 = .ok (.iconst 0, 1) := by decide +kernel
theorem dL_law__1588 : decode cL_law_ 1588 = .ok (.ireturn, 1) := by decide +kernel
theorem dL_law__1589 : decode cL_law_ 1589 = .ok (.goto 182, 3) := by decide +kernel
theorem dL_law__1592 : decode cL_law_ 1592 = .ok (.aload_n 1, 1) := by decide +kernel
theorem dL_law__1593 : decode cL_law_ 1593 = .ok (.aload_n 0, 1) := by decide +kernel
theorem dL_law__1594 : decode cL_law_ 1594 = .ok (.iload 4, 2) := by decide +kernel
theorem dL_law__1596 : decode cL_law_ 1596 = .ok (.iconst 1, 1) := by decide +kernel
theorem dL_law__1597 : decode cL_law_ 1597 = .ok (.iadd, 1) := by decide +kernel
theorem dL_law__1598 : decode cL_law_ 1598 = .ok (.iaload, 1) := by decide +kernel
theorem dL_law__1599 : decode cL_law_ 1599 = .ok (.aload_n 3, 1) := by decide +kernel
theorem dL_law__1600 : decode cL_law_ 1600 = .ok (.invokestatic 188, 3) := by decide +kernel
theorem dL_law__1603 : decode cL_law_ 1603 = .ok (.istore 5, 2) := by decide +kernel
theorem dL_law__1605 : decode cL_law_ 1605 = .ok (.aload_n 2, 1) := by decide +kernel
theorem dL_law__1606 : decode cL_law_ 1606 = .ok (.aload_n 0, 1) := by decide +kernel
theorem dL_law__1607 : decode cL_law_ 1607 = .ok (.iload 4, 2) := by decide +kernel
theorem dL_law__1609 : decode cL_law_ 1609 = .ok (.iconst 1, 1) := by decide +kernel
theorem dL_law__1610 : decode cL_law_ 1610 = .ok (.iadd, 1) := by decide +kernel
theorem dL_law__1611 : decode cL_law_ 1611 = .ok (.iaload, 1) := by decide +kernel
theorem dL_law__1612 : decode cL_law_ 1612 = .ok (.invokevirtual 190, 3) := by decide +kernel
theorem dL_law__1615 : decode cL_law_ 1615 = .ok (.istore 6, 2) := by decide +kernel
theorem dL_law__1617 : decode cL_law_ 1617 = .ok (.aload_n 2, 1) := by decide +kernel
theorem dL_law__1618 : decode cL_law_ 1618 = .ok (.invokevirtual 102, 3) := by decide +kernel
theorem dL_law__1621 : decode cL_law_ 1621 = .ok (.iload 5, 2) := by decide +kernel
theorem dL_law__1623 : decode cL_law_ 1623 = .ok (.if_icmp .eq 5, 3) := by decide +kernel
theorem dL_law__1626 : decode cL_law_ 1626 = .ok (.iconst 0, 1) := by decide +kernel
theorem dL_law__1627 : decode cL_law_ 1627 = .ok (.ireturn, 1) := by decide +kernel
theorem dL_law__1628 : decode cL_law_ 1628 = .ok (.iload 5, 2) := by decide +kernel
theorem dL_law__1630 : decode cL_law_ 1630 = .ok (.ifCond .ne 15, 3) := by decide +kernel
theorem dL_law__1633 : decode cL_law_ 1633 = .ok (.aload_n 3, 1) := by decide +kernel
theorem dL_law__1634 : decode cL_law_ 1634 = .ok (.iconst 0, 1) := by decide +kernel
theorem dL_law__1635 : decode cL_law_ 1635 = .ok (.laload, 1) := by decide +kernel
theorem dL_law__1636 : decode cL_law_ 1636 = .ok (.iload 6, 2) := by decide +kernel
theorem dL_law__1638 : decode cL_law_ 1638 = .ok (.i2l, 1) := by decide +kernel
theorem dL_law__1639 : decode cL_law_ 1639 = .ok (.lcmp, 1) := by decide +kernel
theorem dL_law__1640 : decode cL_law_ 1640 = .ok (.ifCond .eq 5, 3) := by decide +kernel
theorem dL_law__1643 : decode cL_law_ 1643 = .ok (.iconst 0, 1) := by decide +kernel
theorem dL_law__1644 : decode cL_law_ 1644 = .ok (.ireturn, 1) := by decide +kernel
theorem dL_law__1645 : decode cL_law_ 1645 = .ok (.goto 126, 3) := by decide +kernel
theorem dL_law__1648 : decode cL_law_ 1648 = .ok (.aload_n 1, 1) := by decide +kernel
theorem dL_law__1649 : decode cL_law_ 1649 = .ok (.aload_n 0, 1) := by decide +kernel
theorem dL_law__1650 : decode cL_law_ 1650 = .ok (.iload 4, 2) := by decide +kernel
theorem dL_law__1652 : decode cL_law_ 1652 = .ok (.iconst 1, 1) := by decide +kernel
theorem dL_law__1653 : decode cL_law_ 1653 = .ok (.iadd, 1) := by decide +kernel
theorem dL_law__1654 : decode cL_law_ 1654 = .ok (.iaload, 1) := by decide +kernel
theorem dL_law__1655 : decode cL_law_ 1655 = .ok (.aload_n 0, 1) := by decide +kernel
theorem dL_law__1656 : decode cL_law_ 1656 = .ok (.iload 4, 2) := by decide +kernel
theorem dL_law__1658 : decode cL_law_ 1658 = .ok (.iconst 2, 1) := by decide +kernel
theorem dL_law__1659 : decode cL_law_ 1659 = .ok (.iadd, 1) := by decide +kernel
theorem dL_law__1660 : decode cL_law_ 1660 = .ok (.iaload, 1) := by decide +kernel
theorem dL_law__1661 : decode cL_law_ 1661 = .ok (.aload_n 3, 1) := by decide +kernel
theorem dL_law__1662 : decode cL_law_ 1662 = .ok (.invokestatic 191, 3) := by decide +kernel
theorem dL_law__1665 : decode cL_law_ 1665 = .ok (.istore 5, 2) := by decide +kernel
theorem dL_law__1667 : decode cL_law_ 1667 = .ok (.aload_n 2, 1) := by decide +kernel
theorem dL_law__1668 : decode cL_law_ 1668 = .ok (.aload_n 0, 1) := by decide +kernel
theorem dL_law__1669 : decode cL_law_ 1669 = .ok (.iload 4, 2) := by decide +kernel
theorem dL_law__1671 : decode cL_law_ 1671 = .ok (.iconst 1, 1) := by decide +kernel
theorem dL_law__1672 : decode cL_law_ 1672 = .ok (.iadd, 1) := by decide +kernel
theorem dL_law__1673 : decode cL_law_ 1673 = .ok (.iaload, 1) := by decide +kernel
theorem dL_law__1674 : decode cL_law_ 1674 = .ok (.aload_n 0, 1) := by decide +kernel
theorem dL_law__1675 : decode cL_law_ 1675 = .ok (.iload 4, 2) := by decide +kernel
theorem dL_law__1677 : decode cL_law_ 1677 = .ok (.iconst 2, 1) := by decide +kernel
theorem dL_law__1678 : decode cL_law_ 1678 = .ok (.iadd, 1) := by decide +kernel
theorem dL_law__1679 : decode cL_law_ 1679 = .ok (.iaload, 1) := by decide +kernel
theorem dL_law__1680 : decode cL_law_ 1680 = .ok (.invokevirtual 193, 3) := by decide +kernel
theorem dL_law__1683 : decode cL_law_ 1683 = .ok (.istore 6, 2) := by decide +kernel
theorem dL_law__1685 : decode cL_law_ 1685 = .ok (.aload_n 2, 1) := by decide +kernel
theorem dL_law__1686 : decode cL_law_ 1686 = .ok (.invokevirtual 102, 3) := by decide +kernel
theorem dL_law__1689 : decode cL_law_ 1689 = .ok (.iload 5, 2) := by decide +kernel
theorem dL_law__1691 : decode cL_law_ 1691 = .ok (.if_icmp .eq 5, 3) := by decide +kernel
theorem dL_law__1694 : decode cL_law_ 1694 = .ok (.iconst 0, 1) := by decide +kernel
theorem dL_law__1695 : decode cL_law_ 1695 = .ok (.ireturn, 1) := by decide +kernel
theorem dL_law__1696 : decode cL_law_ 1696 = .ok (.iload 5, 2) := by decide +kernel
theorem dL_law__1698 : decode cL_law_ 1698 = .ok (.ifCond .ne 15, 3) := by decide +kernel
theorem dL_law__1701 : decode cL_law_ 1701 = .ok (.aload_n 3, 1) := by decide +kernel
theorem dL_law__1702 : decode cL_law_ 1702 = .ok (.iconst 0, 1) := by decide +kernel
theorem dL_law__1703 : decode cL_law_ 1703 = .ok (.laload, 1) := by decide +kernel
theorem dL_law__1704 : decode cL_law_ 1704 = .ok (.iload 6, 2) := by decide +kernel
theorem dL_law__1706 : decode cL_law_ 1706 = .ok (.i2l, 1) := by decide +kernel
theorem dL_law__1707 : decode cL_law_ 1707 = .ok (.lcmp, 1) := by decide +kernel
theorem dL_law__1708 : decode cL_law_ 1708 = .ok (.ifCond .eq 5, 3) := by decide +kernel
theorem dL_law__1711 : decode cL_law_ 1711 = .ok (.iconst 0, 1) := by decide +kernel
theorem dL_law__1712 : decode cL_law_ 1712 = .ok (.ireturn, 1) := by decide +kernel
theorem dL_law__1713 : decode cL_law_ 1713 = .ok (.goto 58, 3) := by decide +kernel
theorem dL_law__1716 : decode cL_law_ 1716 = .ok (.aload_n 1, 1) := by decide +kernel
theorem dL_law__1717 : decode cL_law_ 1717 = .ok (.invokevirtual 194, 3) := by decide +kernel
theorem dL_law__1720 : decode cL_law_ 1720 = .ok (.dstore 5, 2) := by decide +kernel
theorem dL_law__1722 : decode cL_law_ 1722 = .ok (.aload_n 2, 1) := by decide +kernel
theorem dL_law__1723 : decode cL_law_ 1723 = .ok (.invokevirtual 198, 3) := by decide +kernel
theorem dL_law__1726 : decode cL_law_ 1726 = .ok (.dstore 7, 2) := by decide +kernel
theorem dL_law__1728 : decode cL_law_ 1728 = .ok (.dload 5, 2) := by decide +kernel
theorem dL_law__1730 : decode cL_law_ 1730 = .ok (.dload 7, 2) := by decide +kernel
theorem dL_law__1732 : decode cL_law_ 1732 = .ok (.dcmp .l, 1) := by decide +kernel
theorem dL_law__1733 : decode cL_law_ 1733 = .ok (.ifCond .eq 21, 3) := by decide +kernel
theorem dL_law__1736 : decode cL_law_ 1736 = .ok (.dload 5, 2) := by decide +kernel
theorem dL_law__1738 : decode cL_law_ 1738 = .ok (.dload 5, 2) := by decide +kernel
theorem dL_law__1740 : decode cL_law_ 1740 = .ok (.dcmp .l, 1) := by decide +kernel
theorem dL_law__1741 : decode cL_law_ 1741 = .ok (.ifCond .eq 11, 3) := by decide +kernel
theorem dL_law__1744 : decode cL_law_ 1744 = .ok (.dload 7, 2) := by decide +kernel
theorem dL_law__1746 : decode cL_law_ 1746 = .ok (.dload 7, 2) := by decide +kernel
theorem dL_law__1748 : decode cL_law_ 1748 = .ok (.dcmp .l, 1) := by decide +kernel
theorem dL_law__1749 : decode cL_law_ 1749 = .ok (.ifCond .ne 5, 3) := by decide +kernel
theorem dL_law__1752 : decode cL_law_ 1752 = .ok (.iconst 0, 1) := by decide +kernel
theorem dL_law__1753 : decode cL_law_ 1753 = .ok (.ireturn, 1) := by decide +kernel
theorem dL_law__1754 : decode cL_law_ 1754 = .ok (.goto 17, 3) := by decide +kernel
theorem dL_law__1757 : decode cL_law_ 1757 = .ok (.aload_n 1, 1) := by decide +kernel
theorem dL_law__1758 : decode cL_law_ 1758 = .ok (.invokevirtual 199, 3) := by decide +kernel
theorem dL_law__1761 : decode cL_law_ 1761 = .ok (.aload_n 2, 1) := by decide +kernel
theorem dL_law__1762 : decode cL_law_ 1762 = .ok (.invokevirtual 203, 3) := by decide +kernel
theorem dL_law__1765 : decode cL_law_ 1765 = .ok (.lcmp, 1) := by decide +kernel
theorem dL_law__1766 : decode cL_law_ 1766 = .ok (.ifCond .eq 5, 3) := by decide +kernel
theorem dL_law__1769 : decode cL_law_ 1769 = .ok (.iconst 0, 1) := by decide +kernel
theorem dL_law__1770 : decode cL_law_ 1770 = .ok (.ireturn, 1) := by decide +kernel
theorem dL_law__1771 : decode cL_law_ 1771 = .ok (.iinc 4 4, 3) := by decide +kernel
theorem dL_law__1774 : decode cL_law_ 1774 = .ok (.goto (-1751), 3) := by decide +kernel
theorem dL_law__1777 : decode cL_law_ 1777 = .ok (.iconst 1, 1) := by decide +kernel
theorem dL_law__1778 : decode cL_law_ 1778 = .ok (.ireturn, 1) := by decide +kernel
