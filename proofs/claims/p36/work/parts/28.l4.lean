theorem dL_law_1463 : decode cL_law 1463 = .ok (.aload 10, 2) := by decide +kernel
theorem dL_law_1465 : decode cL_law 1465 = .ok (.iconst 3, 1) := by decide +kernel
theorem dL_law_1466 : decode cL_law 1466 = .ok (.iload 23, 2) := by decide +kernel
theorem dL_law_1468 : decode cL_law 1468 = .ok (.imul, 1) := by decide +kernel
theorem dL_law_1469 : decode cL_law 1469 = .ok (.iload 25, 2) := by decide +kernel
theorem dL_law_1471 : decode cL_law 1471 = .ok (.iadd, 1) := by decide +kernel
theorem dL_law_1472 : decode cL_law 1472 = .ok (.iaload, 1) := by decide +kernel
theorem dL_law_1473 : decode cL_law 1473 = .ok (.iconst 1, 1) := by decide +kernel
theorem dL_law_1474 : decode cL_law 1474 = .ok (.if_icmp .eq 55, 3) := by decide +kernel
theorem dL_law_1477 : decode cL_law 1477 = .ok (.bipush 10, 2) := by decide +kernel
theorem dL_law_1479 : decode cL_law 1479 = .ok (.iload 21, 2) := by decide +kernel
theorem dL_law_1481 : decode cL_law 1481 = .ok (.iconst 5, 1) := by decide +kernel
theorem dL_law_1482 : decode cL_law 1482 = .ok (.ishr, 1) := by decide +kernel
theorem dL_law_1483 : decode cL_law 1483 = .ok (.sipush 200, 3) := by decide +kernel
theorem dL_law_1486 : decode cL_law 1486 = .ok (.invokestatic 68, 3) := by decide +kernel
theorem dL_law_1489 : decode cL_law 1489 = .ok (.iadd, 1) := by decide +kernel
theorem dL_law_1490 : decode cL_law 1490 = .ok (.istore 28, 2) := by decide +kernel
theorem dL_law_1492 : decode cL_law 1492 = .ok (.aload_n 1, 1) := by decide +kernel
theorem dL_law_1493 : decode cL_law 1493 = .ok (.iload 23, 2) := by decide +kernel
theorem dL_law_1495 : decode cL_law 1495 = .ok (.iload 25, 2) := by decide +kernel
theorem dL_law_1497 : decode cL_law 1497 = .ok (.iload 28, 2) := by decide +kernel
theorem dL_law_1499 : decode cL_law 1499 = .ok (.invokevirtual 114, 3) := by decide +kernel
theorem dL_law_1502 : decode cL_law 1502 = .ok (.aload 4, 2) := by decide +kernel
theorem dL_law_1504 : decode cL_law 1504 = .ok (.iconst 3, 1) := by decide +kernel
theorem dL_law_1505 : decode cL_law 1505 = .ok (.iload 23, 2) := by decide +kernel
theorem dL_law_1507 : decode cL_law 1507 = .ok (.imul, 1) := by decide +kernel
theorem dL_law_1508 : decode cL_law 1508 = .ok (.iload 25, 2) := by decide +kernel
theorem dL_law_1510 : decode cL_law 1510 = .ok (.iadd, 1) := by decide +kernel
theorem dL_law_1511 : decode cL_law 1511 = .ok (.iaload, 1) := by decide +kernel
theorem dL_law_1512 : decode cL_law 1512 = .ok (.if_icmp .eq 5, 3) := by decide +kernel
theorem dL_law_1515 : decode cL_law 1515 = .ok (.iconst 0, 1) := by decide +kernel
theorem dL_law_1516 : decode cL_law 1516 = .ok (.ireturn, 1) := by decide +kernel
theorem dL_law_1517 : decode cL_law 1517 = .ok (.aload 4, 2) := by decide +kernel
theorem dL_law_1519 : decode cL_law 1519 = .ok (.iconst 3, 1) := by decide +kernel
theorem dL_law_1520 : decode cL_law 1520 = .ok (.iload 23, 2) := by decide +kernel
theorem dL_law_1522 : decode cL_law 1522 = .ok (.imul, 1) := by decide +kernel
theorem dL_law_1523 : decode cL_law 1523 = .ok (.iload 25, 2) := by decide +kernel
theorem dL_law_1525 : decode cL_law 1525 = .ok (.iadd, 1) := by decide +kernel
theorem dL_law_1526 : decode cL_law 1526 = .ok (.iload 28, 2) := by decide +kernel
theorem dL_law_1528 : decode cL_law 1528 = .ok (.iastore, 1) := by decide +kernel
theorem dL_law_1529 : decode cL_law 1529 = .ok (.goto 1031, 3) := by decide +kernel
theorem dL_law_1532 : decode cL_law 1532 = .ok (.iload 22, 2) := by decide +kernel
theorem dL_law_1534 : decode cL_law 1534 = .ok (.bipush 9, 2) := by decide +kernel
theorem dL_law_1536 : decode cL_law 1536 = .ok (.if_icmp .ne 483, 3) := by decide +kernel
theorem dL_law_1539 : decode cL_law 1539 = .ok (.aload 11, 2) := by decide +kernel
theorem dL_law_1541 : decode cL_law 1541 = .ok (.iload 23, 2) := by decide +kernel
theorem dL_law_1543 : decode cL_law 1543 = .ok (.laload, 1) := by decide +kernel
theorem dL_law_1544 : decode cL_law 1544 = .ok (.lneg, 1) := by decide +kernel
theorem dL_law_1545 : decode cL_law 1545 = .ok (.lstore 26, 2) := by decide +kernel
theorem dL_law_1547 : decode cL_law 1547 = .ok (.iconst 0, 1) := by decide +kernel
theorem dL_law_1548 : decode cL_law 1548 = .ok (.istore 28, 2) := by decide +kernel
theorem dL_law_1550 : decode cL_law 1550 = .ok (.iload 28, 2) := by decide +kernel
theorem dL_law_1552 : decode cL_law 1552 = .ok (.iconst 3, 1) := by decide +kernel
theorem dL_law_1553 : decode cL_law 1553 = .ok (.if_icmp .ge 33, 3) := by decide +kernel
theorem dL_law_1556 : decode cL_law 1556 = .ok (.lload 26, 2) := by decide +kernel
theorem dL_law_1558 : decode cL_law 1558 = .ok (.aload_n 2, 1) := by decide +kernel
theorem dL_law_1559 : decode cL_law 1559 = .ok (.iload 14, 2) := by decide +kernel
theorem dL_law_1561 : decode cL_law 1561 = .ok (.aload_n 3, 1) := by decide +kernel
theorem dL_law_1562 : decode cL_law 1562 = .ok (.aload 4, 2) := by decide +kernel
theorem dL_law_1564 : decode cL_law 1564 = .ok (.aload 8, 2) := by decide +kernel
theorem dL_law_1566 : decode cL_law 1566 = .ok (.aload 9, 2) := by decide +kernel
theorem dL_law_1568 : decode cL_law 1568 = .ok (.aload 10, 2) := by decide +kernel
theorem dL_law_1570 : decode cL_law 1570 = .ok (.iload 23, 2) := by decide +kernel
theorem dL_law_1572 : decode cL_law 1572 = .ok (.iload 28, 2) := by decide +kernel
theorem dL_law_1574 : decode cL_law 1574 = .ok (.invokestatic 118, 3) := by decide +kernel
theorem dL_law_1577 : decode cL_law 1577 = .ok (.ladd, 1) := by decide +kernel
theorem dL_law_1578 : decode cL_law 1578 = .ok (.lstore 26, 2) := by decide +kernel
theorem dL_law_1580 : decode cL_law 1580 = .ok (.iinc 28 1, 3) := by decide +kernel
theorem dL_law_1583 : decode cL_law 1583 = .ok (.goto (-33), 3) := by decide +kernel
theorem dL_law_1586 : decode cL_law 1586 = .ok (.iload 21, 2) := by decide +kernel
theorem dL_law_1588 : decode cL_law 1588 = .ok (.iconst 3, 1) := by decide +kernel
theorem dL_law_1589 : decode cL_law 1589 = .ok (.invokestatic 68, 3) := by decide +kernel
theorem dL_law_1592 : decode cL_law 1592 = .ok (.ifCond .ne 285, 3) := by decide +kernel
theorem dL_law_1595 : decode cL_law 1595 = .ok (.iconst 0, 1) := by decide +kernel
theorem dL_law_1596 : decode cL_law 1596 = .ok (.istore 28, 2) := by decide +kernel
theorem dL_law_1598 : decode cL_law 1598 = .ok (.iconst 0, 1) := by decide +kernel
theorem dL_law_1599 : decode cL_law 1599 = .ok (.istore 29, 2) := by decide +kernel
theorem dL_law_1601 : decode cL_law 1601 = .ok (.iload 29, 2) := by decide +kernel
theorem dL_law_1603 : decode cL_law 1603 = .ok (.iload 14, 2) := by decide +kernel
theorem dL_law_1605 : decode cL_law 1605 = .ok (.if_icmp .ge 39, 3) := by decide +kernel
theorem dL_law_1608 : decode cL_law 1608 = .ok (.aload_n 3, 1) := by decide +kernel
theorem dL_law_1609 : decode cL_law 1609 = .ok (.aload_n 2, 1) := by decide +kernel
theorem dL_law_1610 : decode cL_law 1610 = .ok (.iconst 3, 1) := by decide +kernel
theorem dL_law_1611 : decode cL_law 1611 = .ok (.iload 29, 2) := by decide +kernel
theorem dL_law_1613 : decode cL_law 1613 = .ok (.imul, 1) := by decide +kernel
theorem dL_law_1614 : decode cL_law 1614 = .ok (.iaload, 1) := by decide +kernel
theorem dL_law_1615 : decode cL_law 1615 = .ok (.iaload, 1) := by decide +kernel
theorem dL_law_1616 : decode cL_law 1616 = .ok (.iload 23, 2) := by decide +kernel
theorem dL_law_1618 : decode cL_law 1618 = .ok (.if_icmp .ne 20, 3) := by decide +kernel
theorem dL_law_1621 : decode cL_law 1621 = .ok (.aload_n 2, 1) := by decide +kernel
theorem dL_law_1622 : decode cL_law 1622 = .ok (.iconst 3, 1) := by decide +kernel
theorem dL_law_1623 : decode cL_law 1623 = .ok (.iload 29, 2) := by decide +kernel
theorem dL_law_1625 : decode cL_law 1625 = .ok (.imul, 1) := by decide +kernel
theorem dL_law_1626 : decode cL_law 1626 = .ok (.iconst 2, 1) := by decide +kernel
theorem dL_law_1627 : decode cL_law 1627 = .ok (.iadd, 1) := by decide +kernel
theorem dL_law_1628 : decode cL_law 1628 = .ok (.iaload, 1) := by decide +kernel
theorem dL_law_1629 : decode cL_law 1629 = .ok (.sipush 9999, 3) := by decide +kernel
theorem dL_law_1632 : decode cL_law 1632 = .ok (.if_icmp .ne 6, 3) := by decide +kernel
theorem dL_law_1635 : decode cL_law 1635 = .ok (.iconst 1, 1) := by decide +kernel
theorem dL_law_1636 : decode cL_law 1636 = .ok (.istore 28, 2) := by decide +kernel
theorem dL_law_1638 : decode cL_law 1638 = .ok (.iinc 29 1, 3) := by decide +kernel
theorem dL_law_1641 : decode cL_law 1641 = .ok (.goto (-40), 3) := by decide +kernel
theorem dL_law_1644 : decode cL_law 1644 = .ok (.iconst 0, 1) := by decide +kernel
theorem dL_law_1645 : decode cL_law 1645 = .ok (.istore 29, 2) := by decide +kernel
theorem dL_law_1647 : decode cL_law 1647 = .ok (.aload 10, 2) := by decide +kernel
theorem dL_law_1649 : decode cL_law 1649 = .ok (.bipush 12, 2) := by decide +kernel
theorem dL_law_1651 : decode cL_law 1651 = .ok (.iaload, 1) := by decide +kernel
theorem dL_law_1652 : decode cL_law 1652 = .ok (.istore 30, 2) := by decide +kernel
theorem dL_law_1654 : decode cL_law 1654 = .ok (.iload 30, 2) := by decide +kernel
theorem dL_law_1656 : decode cL_law 1656 = .ok (.iconst 3, 1) := by decide +kernel
theorem dL_law_1657 : decode cL_law 1657 = .ok (.if_icmp .ge 43, 3) := by decide +kernel
theorem dL_law_1660 : decode cL_law 1660 = .ok (.aload 10, 2) := by decide +kernel
theorem dL_law_1662 : decode cL_law 1662 = .ok (.iconst 3, 1) := by decide +kernel
theorem dL_law_1663 : decode cL_law 1663 = .ok (.iload 23, 2) := by decide +kernel
theorem dL_law_1665 : decode cL_law 1665 = .ok (.imul, 1) := by decide +kernel
theorem dL_law_1666 : decode cL_law 1666 = .ok (.iload 30, 2) := by decide +kernel
theorem dL_law_1668 : decode cL_law 1668 = .ok (.iadd, 1) := by decide +kernel
theorem dL_law_1669 : decode cL_law 1669 = .ok (.iaload, 1) := by decide +kernel
theorem dL_law_1670 : decode cL_law 1670 = .ok (.ifCond .ne 24, 3) := by decide +kernel
theorem dL_law_1673 : decode cL_law 1673 = .ok (.aload_n 2, 1) := by decide +kernel
theorem dL_law_1674 : decode cL_law 1674 = .ok (.iload 14, 2) := by decide +kernel
theorem dL_law_1676 : decode cL_law 1676 = .ok (.aload_n 3, 1) := by decide +kernel
theorem dL_law_1677 : decode cL_law 1677 = .ok (.aload 4, 2) := by decide +kernel
theorem dL_law_1679 : decode cL_law 1679 = .ok (.iload 23, 2) := by decide +kernel
theorem dL_law_1681 : decode cL_law 1681 = .ok (.iload 30, 2) := by decide +kernel
theorem dL_law_1683 : decode cL_law 1683 = .ok (.invokestatic 24, 3) := by decide +kernel
theorem dL_law_1686 : decode cL_law 1686 = .ok (.lconst 0, 1) := by decide +kernel
theorem dL_law_1687 : decode cL_law 1687 = .ok (.lcmp, 1) := by decide +kernel
theorem dL_law_1688 : decode cL_law 1688 = .ok (.ifCond .le 6, 3) := by decide +kernel
theorem dL_law_1691 : decode cL_law 1691 = .ok (.iinc 29 1, 3) := by decide +kernel
theorem dL_law_1694 : decode cL_law 1694 = .ok (.iinc 30 1, 3) := by decide +kernel
theorem dL_law_1697 : decode cL_law 1697 = .ok (.goto (-43), 3) := by decide +kernel
theorem dL_law_1700 : decode cL_law 1700 = .ok (.iload 21, 2) := by decide +kernel
theorem dL_law_1702 : decode cL_law 1702 = .ok (.iconst 2, 1) := by decide +kernel
theorem dL_law_1703 : decode cL_law 1703 = .ok (.ishr, 1) := by decide +kernel
theorem dL_law_1704 : decode cL_law 1704 = .ok (.sipush 201, 3) := by decide +kernel
theorem dL_law_1707 : decode cL_law 1707 = .ok (.invokestatic 68, 3) := by decide +kernel
theorem dL_law_1710 : decode cL_law 1710 = .ok (.istore 30, 2) := by decide +kernel
theorem dL_law_1712 : decode cL_law 1712 = .ok (.aload_n 1, 1) := by decide +kernel
theorem dL_law_1713 : decode cL_law 1713 = .ok (.iconst 0, 1) := by decide +kernel
theorem dL_law_1714 : decode cL_law 1714 = .ok (.iload 23, 2) := by decide +kernel
theorem dL_law_1716 : decode cL_law 1716 = .ok (.iload 30, 2) := by decide +kernel
theorem dL_law_1718 : decode cL_law 1718 = .ok (.invokestatic 74, 3) := by decide +kernel
theorem dL_law_1721 : decode cL_law 1721 = .ok (.iload 28, 2) := by decide +kernel
theorem dL_law_1723 : decode cL_law 1723 = .ok (.ifCond .ne 8, 3) := by decide +kernel
theorem dL_law_1726 : decode cL_law 1726 = .ok (.iload 29, 2) := by decide +kernel
theorem dL_law_1728 : decode cL_law 1728 = .ok (.ifCond .ne 8, 3) := by decide +kernel
theorem dL_law_1731 : decode cL_law 1731 = .ok (.bipush (-9), 2) := by decide +kernel
theorem dL_law_1733 : decode cL_law 1733 = .ok (.goto 5, 3) := by decide +kernel
theorem dL_law_1736 : decode cL_law 1736 = .ok (.iload 29, 2) := by decide +kernel
theorem dL_law_1738 : decode cL_law 1738 = .ok (.if_icmp .eq 5, 3) := by decide +kernel
theorem dL_law_1741 : decode cL_law 1741 = .ok (.iconst 0, 1) := by decide +kernel
theorem dL_law_1742 : decode cL_law 1742 = .ok (.ireturn, 1) := by decide +kernel
theorem dL_law_1743 : decode cL_law 1743 = .ok (.aload 10, 2) := by decide +kernel
theorem dL_law_1745 : decode cL_law 1745 = .ok (.bipush 12, 2) := by decide +kernel
theorem dL_law_1747 : decode cL_law 1747 = .ok (.iaload, 1) := by decide +kernel
theorem dL_law_1748 : decode cL_law 1748 = .ok (.istore 31, 2) := by decide +kernel
theorem dL_law_1750 : decode cL_law 1750 = .ok (.iload 31, 2) := by decide +kernel
theorem dL_law_1752 : decode cL_law 1752 = .ok (.iconst 3, 1) := by decide +kernel
theorem dL_law_1753 : decode cL_law 1753 = .ok (.if_icmp .ge 121, 3) := by decide +kernel
theorem dL_law_1756 : decode cL_law 1756 = .ok (.iload 28, 2) := by decide +kernel
theorem dL_law_1758 : decode cL_law 1758 = .ok (.ifCond .ne 116, 3) := by decide +kernel
theorem dL_law_1761 : decode cL_law 1761 = .ok (.aload 10, 2) := by decide +kernel
theorem dL_law_1763 : decode cL_law 1763 = .ok (.iconst 3, 1) := by decide +kernel
theorem dL_law_1764 : decode cL_law 1764 = .ok (.iload 23, 2) := by decide +kernel
theorem dL_law_1766 : decode cL_law 1766 = .ok (.imul, 1) := by decide +kernel
theorem dL_law_1767 : decode cL_law 1767 = .ok (.iload 31, 2) := by decide +kernel
theorem dL_law_1769 : decode cL_law 1769 = .ok (.iadd, 1) := by decide +kernel
theorem dL_law_1770 : decode cL_law 1770 = .ok (.iaload, 1) := by decide +kernel
theorem dL_law_1771 : decode cL_law 1771 = .ok (.ifCond .gt 97, 3) := by decide +kernel
theorem dL_law_1774 : decode cL_law 1774 = .ok (.aload_n 2, 1) := by decide +kernel
theorem dL_law_1775 : decode cL_law 1775 = .ok (.iload 14, 2) := by decide +kernel
theorem dL_law_1777 : decode cL_law 1777 = .ok (.aload_n 3, 1) := by decide +kernel
theorem dL_law_1778 : decode cL_law 1778 = .ok (.aload 4, 2) := by decide +kernel
theorem dL_law_1780 : decode cL_law 1780 = .ok (.iload 23, 2) := by decide +kernel
theorem dL_law_1782 : decode cL_law 1782 = .ok (.iload 31, 2) := by decide +kernel
theorem dL_law_1784 : decode cL_law 1784 = .ok (.invokestatic 24, 3) := by decide +kernel
theorem dL_law_1787 : decode cL_law 1787 = .ok (.lconst 0, 1) := by decide +kernel
theorem dL_law_1788 : decode cL_law 1788 = .ok (.lcmp, 1) := by decide +kernel
theorem dL_law_1789 : decode cL_law 1789 = .ok (.ifCond .ne 6, 3) := by decide +kernel
theorem dL_law_1792 : decode cL_law 1792 = .ok (.goto 76, 3) := by decide +kernel
theorem dL_law_1795 : decode cL_law 1795 = .ok (.aload 9, 2) := by decide +kernel
theorem dL_law_1797 : decode cL_law 1797 = .ok (.iconst 3, 1) := by decide +kernel
theorem dL_law_1798 : decode cL_law 1798 = .ok (.iload 23, 2) := by decide +kernel
theorem dL_law_1800 : decode cL_law 1800 = .ok (.imul, 1) := by decide +kernel
theorem dL_law_1801 : decode cL_law 1801 = .ok (.iload 31, 2) := by decide +kernel
theorem dL_law_1803 : decode cL_law 1803 = .ok (.iadd, 1) := by decide +kernel
theorem dL_law_1804 : decode cL_law 1804 = .ok (.aload_n 2, 1) := by decide +kernel
theorem dL_law_1805 : decode cL_law 1805 = .ok (.iload 14, 2) := by decide +kernel
theorem dL_law_1807 : decode cL_law 1807 = .ok (.aload_n 3, 1) := by decide +kernel
theorem dL_law_1808 : decode cL_law 1808 = .ok (.aload 4, 2) := by decide +kernel
theorem dL_law_1810 : decode cL_law 1810 = .ok (.aload 8, 2) := by decide +kernel
theorem dL_law_1812 : decode cL_law 1812 = .ok (.aload 9, 2) := by decide +kernel
theorem dL_law_1814 : decode cL_law 1814 = .ok (.aload 10, 2) := by decide +kernel
theorem dL_law_1816 : decode cL_law 1816 = .ok (.iload 23, 2) := by decide +kernel
theorem dL_law_1818 : decode cL_law 1818 = .ok (.iload 31, 2) := by decide +kernel
theorem dL_law_1820 : decode cL_law 1820 = .ok (.invokestatic 118, 3) := by decide +kernel
theorem dL_law_1823 : decode cL_law 1823 = .ok (.aload_n 2, 1) := by decide +kernel
theorem dL_law_1824 : decode cL_law 1824 = .ok (.iload 14, 2) := by decide +kernel
theorem dL_law_1826 : decode cL_law 1826 = .ok (.aload_n 3, 1) := by decide +kernel
theorem dL_law_1827 : decode cL_law 1827 = .ok (.aload 4, 2) := by decide +kernel
theorem dL_law_1829 : decode cL_law 1829 = .ok (.iload 23, 2) := by decide +kernel
theorem dL_law_1831 : decode cL_law 1831 = .ok (.iload 31, 2) := by decide +kernel
theorem dL_law_1833 : decode cL_law 1833 = .ok (.invokestatic 24, 3) := by decide +kernel
theorem dL_law_1836 : decode cL_law 1836 = .ok (.aload 8, 2) := by decide +kernel
theorem dL_law_1838 : decode cL_law 1838 = .ok (.iload 31, 2) := by decide +kernel
theorem dL_law_1840 : decode cL_law 1840 = .ok (.iaload, 1) := by decide +kernel
theorem dL_law_1841 : decode cL_law 1841 = .ok (.i2l, 1) := by decide +kernel
theorem dL_law_1842 : decode cL_law 1842 = .ok (.lmul, 1) := by decide +kernel
theorem dL_law_1843 : decode cL_law 1843 = .ok (.ldc2_w 28, 3) := by decide +kernel
theorem dL_law_1846 : decode cL_law 1846 = .ok (.ldiv, 1) := by decide +kernel
theorem dL_law_1847 : decode cL_law 1847 = .ok (.iload 30, 2) := by decide +kernel
theorem dL_law_1849 : decode cL_law 1849 = .ok (.i2l, 1) := by decide +kernel
theorem dL_law_1850 : decode cL_law 1850 = .ok (.lmul, 1) := by decide +kernel
theorem dL_law_1851 : decode cL_law 1851 = .ok (.ldc2_w 10, 3) := by decide +kernel
theorem dL_law_1854 : decode cL_law 1854 = .ok (.ldiv, 1) := by decide +kernel
theorem dL_law_1855 : decode cL_law 1855 = .ok (.ladd, 1) := by decide +kernel
theorem dL_law_1856 : decode cL_law 1856 = .ok (.lastore, 1) := by decide +kernel
theorem dL_law_1857 : decode cL_law 1857 = .ok (.aload 10, 2) := by decide +kernel
theorem dL_law_1859 : decode cL_law 1859 = .ok (.iconst 3, 1) := by decide +kernel
theorem dL_law_1860 : decode cL_law 1860 = .ok (.iload 23, 2) := by decide +kernel
theorem dL_law_1862 : decode cL_law 1862 = .ok (.imul, 1) := by decide +kernel
theorem dL_law_1863 : decode cL_law 1863 = .ok (.iload 31, 2) := by decide +kernel
theorem dL_law_1865 : decode cL_law 1865 = .ok (.iadd, 1) := by decide +kernel
theorem dL_law_1866 : decode cL_law 1866 = .ok (.iconst 1, 1) := by decide +kernel
theorem dL_law_1867 : decode cL_law 1867 = .ok (.iastore, 1) := by decide +kernel
theorem dL_law_1868 : decode cL_law 1868 = .ok (.iinc 31 1, 3) := by decide +kernel
theorem dL_law_1871 : decode cL_law 1871 = .ok (.goto (-121), 3) := by decide +kernel
theorem dL_law_1874 : decode cL_law 1874 = .ok (.goto 142, 3) := by decide +kernel
theorem dL_law_1877 : decode cL_law 1877 = .ok (.iload 21, 2) := by decide +kernel
theorem dL_law_1879 : decode cL_law 1879 = .ok (.iconst 3, 1) := by decide +kernel
theorem dL_law_1880 : decode cL_law 1880 = .ok (.invokestatic 68, 3) := by decide +kernel
theorem dL_law_1883 : decode cL_law 1883 = .ok (.iconst 1, 1) := by decide +kernel
theorem dL_law_1884 : decode cL_law 1884 = .ok (.if_icmp .ne 70, 3) := by decide +kernel
theorem dL_law_1887 : decode cL_law 1887 = .ok (.iload 21, 2) := by decide +kernel
theorem dL_law_1889 : decode cL_law 1889 = .ok (.iconst 2, 1) := by decide +kernel
theorem dL_law_1890 : decode cL_law 1890 = .ok (.ishr, 1) := by decide +kernel
theorem dL_law_1891 : decode cL_law 1891 = .ok (.iload 17, 2) := by decide +kernel
theorem dL_law_1893 : decode cL_law 1893 = .ok (.iconst 1, 1) := by decide +kernel
theorem dL_law_1894 : decode cL_law 1894 = .ok (.iadd, 1) := by decide +kernel
theorem dL_law_1895 : decode cL_law 1895 = .ok (.invokestatic 68, 3) := by decide +kernel
theorem dL_law_1898 : decode cL_law 1898 = .ok (.istore 28, 2) := by decide +kernel
theorem dL_law_1900 : decode cL_law 1900 = .ok (.aload_n 1, 1) := by decide +kernel
theorem dL_law_1901 : decode cL_law 1901 = .ok (.iconst 1, 1) := by decide +kernel
theorem dL_law_1902 : decode cL_law 1902 = .ok (.iload 23, 2) := by decide +kernel
theorem dL_law_1904 : decode cL_law 1904 = .ok (.iload 28, 2) := by decide +kernel
theorem dL_law_1906 : decode cL_law 1906 = .ok (.invokestatic 74, 3) := by decide +kernel
theorem dL_law_1909 : decode cL_law 1909 = .ok (.lload 26, 2) := by decide +kernel
theorem dL_law_1911 : decode cL_law 1911 = .ok (.lconst 0, 1) := by decide +kernel
theorem dL_law_1912 : decode cL_law 1912 = .ok (.lcmp, 1) := by decide +kernel
theorem dL_law_1913 : decode cL_law 1913 = .ok (.ifCond .le 14, 3) := by decide +kernel
theorem dL_law_1916 : decode cL_law 1916 = .ok (.aload 10, 2) := by decide +kernel
theorem dL_law_1918 : decode cL_law 1918 = .ok (.bipush 9, 2) := by decide +kernel
theorem dL_law_1920 : decode cL_law 1920 = .ok (.iload 23, 2) := by decide +kernel
theorem dL_law_1922 : decode cL_law 1922 = .ok (.iadd, 1) := by decide +kernel
theorem dL_law_1923 : decode cL_law 1923 = .ok (.iaload, 1) := by decide +kernel
theorem dL_law_1924 : decode cL_law 1924 = .ok (.goto 5, 3) := by decide +kernel
theorem dL_law_1927 : decode cL_law 1927 = .ok (.bipush (-9), 2) := by decide +kernel
theorem dL_law_1929 : decode cL_law 1929 = .ok (.if_icmp .eq 5, 3) := by decide +kernel
theorem dL_law_1932 : decode cL_law 1932 = .ok (.iconst 0, 1) := by decide +kernel
theorem dL_law_1933 : decode cL_law 1933 = .ok (.ireturn, 1) := by decide +kernel
theorem dL_law_1934 : decode cL_law 1934 = .ok (.lload 26, 2) := by decide +kernel
theorem dL_law_1936 : decode cL_law 1936 = .ok (.lconst 0, 1) := by decide +kernel
theorem dL_law_1937 : decode cL_law 1937 = .ok (.lcmp, 1) := by decide +kernel
theorem dL_law_1938 : decode cL_law 1938 = .ok (.ifCond .le 13, 3) := by decide +kernel
theorem dL_law_1941 : decode cL_law 1941 = .ok (.aload 10, 2) := by decide +kernel
theorem dL_law_1943 : decode cL_law 1943 = .ok (.bipush 9, 2) := by decide +kernel
theorem dL_law_1945 : decode cL_law 1945 = .ok (.iload 23, 2) := by decide +kernel
theorem dL_law_1947 : decode cL_law 1947 = .ok (.iadd, 1) := by decide +kernel
theorem dL_law_1948 : decode cL_law 1948 = .ok (.iload 28, 2) := by decide +kernel
theorem dL_law_1950 : decode cL_law 1950 = .ok (.iastore, 1) := by decide +kernel
theorem dL_law_1951 : decode cL_law 1951 = .ok (.goto 65, 3) := by decide +kernel
theorem dL_law_1954 : decode cL_law 1954 = .ok (.iconst 1, 1) := by decide +kernel
theorem dL_law_1955 : decode cL_law 1955 = .ok (.iload 21, 2) := by decide +kernel
theorem dL_law_1957 : decode cL_law 1957 = .ok (.iconst 2, 1) := by decide +kernel
