/-! The law's instructions, 4. -/
theorem dL_law_1392 : decode cL_law 1392 = .ok (.iload 22, 2) := by decide +kernel
theorem dL_law_1394 : decode cL_law 1394 = .ok (.if_icmp .ne 7, 3) := by decide +kernel
theorem dL_law_1397 : decode cL_law 1397 = .ok (.iconst 1, 1) := by decide +kernel
theorem dL_law_1398 : decode cL_law 1398 = .ok (.goto 4, 3) := by decide +kernel
theorem dL_law_1401 : decode cL_law 1401 = .ok (.iconst 0, 1) := by decide +kernel
theorem dL_law_1402 : decode cL_law 1402 = .ok (.iand, 1) := by decide +kernel
theorem dL_law_1403 : decode cL_law 1403 = .ok (.istore 14, 2) := by decide +kernel
theorem dL_law_1405 : decode cL_law 1405 = .ok (.goto 153, 3) := by decide +kernel
theorem dL_law_1408 : decode cL_law 1408 = .ok (.iload 18, 2) := by decide +kernel
theorem dL_law_1410 : decode cL_law 1410 = .ok (.bipush 9, 2) := by decide +kernel
theorem dL_law_1412 : decode cL_law 1412 = .ok (.if_icmp .ne 70, 3) := by decide +kernel
theorem dL_law_1415 : decode cL_law 1415 = .ok (.iinc 16 1, 3) := by decide +kernel
theorem dL_law_1418 : decode cL_law 1418 = .ok (.iconst 0, 1) := by decide +kernel
theorem dL_law_1419 : decode cL_law 1419 = .ok (.istore 22, 2) := by decide +kernel
theorem dL_law_1421 : decode cL_law 1421 = .ok (.iload 22, 2) := by decide +kernel
theorem dL_law_1423 : decode cL_law 1423 = .ok (.iload_n 2, 1) := by decide +kernel
theorem dL_law_1424 : decode cL_law 1424 = .ok (.if_icmp .ge 36, 3) := by decide +kernel
theorem dL_law_1427 : decode cL_law 1427 = .ok (.aload 6, 2) := by decide +kernel
theorem dL_law_1429 : decode cL_law 1429 = .ok (.iload 22, 2) := by decide +kernel
theorem dL_law_1431 : decode cL_law 1431 = .ok (.aload 6, 2) := by decide +kernel
theorem dL_law_1433 : decode cL_law 1433 = .ok (.iload 22, 2) := by decide +kernel
theorem dL_law_1435 : decode cL_law 1435 = .ok (.iaload, 1) := by decide +kernel
theorem dL_law_1436 : decode cL_law 1436 = .ok (.bipush 30, 2) := by decide +kernel
theorem dL_law_1438 : decode cL_law 1438 = .ok (.if_icmp .ge 7, 3) := by decide +kernel
theorem dL_law_1441 : decode cL_law 1441 = .ok (.iconst 0, 1) := by decide +kernel
theorem dL_law_1442 : decode cL_law 1442 = .ok (.goto 11, 3) := by decide +kernel
theorem dL_law_1445 : decode cL_law 1445 = .ok (.aload 6, 2) := by decide +kernel
theorem dL_law_1447 : decode cL_law 1447 = .ok (.iload 22, 2) := by decide +kernel
theorem dL_law_1449 : decode cL_law 1449 = .ok (.iaload, 1) := by decide +kernel
theorem dL_law_1450 : decode cL_law 1450 = .ok (.bipush 30, 2) := by decide +kernel
theorem dL_law_1452 : decode cL_law 1452 = .ok (.isub, 1) := by decide +kernel
theorem dL_law_1453 : decode cL_law 1453 = .ok (.iastore, 1) := by decide +kernel
theorem dL_law_1454 : decode cL_law 1454 = .ok (.iinc 22 1, 3) := by decide +kernel
theorem dL_law_1457 : decode cL_law 1457 = .ok (.goto (-36), 3) := by decide +kernel
theorem dL_law_1460 : decode cL_law 1460 = .ok (.iload 14, 2) := by decide +kernel
theorem dL_law_1462 : decode cL_law 1462 = .ok (.aload_n 1, 1) := by decide +kernel
theorem dL_law_1463 : decode cL_law 1463 = .ok (.invokestatic 174, 3) := by decide +kernel
theorem dL_law_1466 : decode cL_law 1466 = .ok (.iload 16, 2) := by decide +kernel
theorem dL_law_1468 : decode cL_law 1468 = .ok (.if_icmp .ne 7, 3) := by decide +kernel
theorem dL_law_1471 : decode cL_law 1471 = .ok (.iconst 1, 1) := by decide +kernel
theorem dL_law_1472 : decode cL_law 1472 = .ok (.goto 4, 3) := by decide +kernel
theorem dL_law_1475 : decode cL_law 1475 = .ok (.iconst 0, 1) := by decide +kernel
theorem dL_law_1476 : decode cL_law 1476 = .ok (.iand, 1) := by decide +kernel
theorem dL_law_1477 : decode cL_law 1477 = .ok (.istore 14, 2) := by decide +kernel
theorem dL_law_1479 : decode cL_law 1479 = .ok (.goto 79, 3) := by decide +kernel
theorem dL_law_1482 : decode cL_law 1482 = .ok (.iload 14, 2) := by decide +kernel
theorem dL_law_1484 : decode cL_law 1484 = .ok (.aload_n 1, 1) := by decide +kernel
theorem dL_law_1485 : decode cL_law 1485 = .ok (.ldc 177, 2) := by decide +kernel
theorem dL_law_1487 : decode cL_law 1487 = .ok (.invokestatic 165, 3) := by decide +kernel
theorem dL_law_1490 : decode cL_law 1490 = .ok (.ifCond .eq 64, 3) := by decide +kernel
theorem dL_law_1493 : decode cL_law 1493 = .ok (.aload_n 1, 1) := by decide +kernel
theorem dL_law_1494 : decode cL_law 1494 = .ok (.iload 19, 2) := by decide +kernel
theorem dL_law_1496 : decode cL_law 1496 = .ok (.invokestatic 169, 3) := by decide +kernel
theorem dL_law_1499 : decode cL_law 1499 = .ok (.ldc 20, 2) := by decide +kernel
theorem dL_law_1501 : decode cL_law 1501 = .ok (.if_icmp .ne 53, 3) := by decide +kernel
theorem dL_law_1504 : decode cL_law 1504 = .ok (.aload_n 1, 1) := by decide +kernel
theorem dL_law_1505 : decode cL_law 1505 = .ok (.iconst 1, 1) := by decide +kernel
theorem dL_law_1506 : decode cL_law 1506 = .ok (.invokestatic 141, 3) := by decide +kernel
theorem dL_law_1509 : decode cL_law 1509 = .ok (.ldc 17, 2) := by decide +kernel
theorem dL_law_1511 : decode cL_law 1511 = .ok (.if_icmp .ne 43, 3) := by decide +kernel
theorem dL_law_1514 : decode cL_law 1514 = .ok (.aload_n 1, 1) := by decide +kernel
theorem dL_law_1515 : decode cL_law 1515 = .ok (.iload 19, 2) := by decide +kernel
theorem dL_law_1517 : decode cL_law 1517 = .ok (.iconst 1, 1) := by decide +kernel
theorem dL_law_1518 : decode cL_law 1518 = .ok (.iload 20, 2) := by decide +kernel
theorem dL_law_1520 : decode cL_law 1520 = .ok (.bipush 9, 2) := by decide +kernel
theorem dL_law_1522 : decode cL_law 1522 = .ok (.irem, 1) := by decide +kernel
theorem dL_law_1523 : decode cL_law 1523 = .ok (.iadd, 1) := by decide +kernel
theorem dL_law_1524 : decode cL_law 1524 = .ok (.iload 21, 2) := by decide +kernel
theorem dL_law_1526 : decode cL_law 1526 = .ok (.bipush 10, 2) := by decide +kernel
theorem dL_law_1528 : decode cL_law 1528 = .ok (.irem, 1) := by decide +kernel
theorem dL_law_1529 : decode cL_law 1529 = .ok (.invokestatic 179, 3) := by decide +kernel
theorem dL_law_1532 : decode cL_law 1532 = .ok (.iconst 1, 1) := by decide +kernel
theorem dL_law_1533 : decode cL_law 1533 = .ok (.if_icmp .lt 21, 3) := by decide +kernel
theorem dL_law_1536 : decode cL_law 1536 = .ok (.aload_n 1, 1) := by decide +kernel
theorem dL_law_1537 : decode cL_law 1537 = .ok (.iload 19, 2) := by decide +kernel
theorem dL_law_1539 : decode cL_law 1539 = .ok (.bipush 10, 2) := by decide +kernel
theorem dL_law_1541 : decode cL_law 1541 = .ok (.iconst 0, 1) := by decide +kernel
theorem dL_law_1542 : decode cL_law 1542 = .ok (.invokestatic 179, 3) := by decide +kernel
theorem dL_law_1545 : decode cL_law 1545 = .ok (.ldc 20, 2) := by decide +kernel
theorem dL_law_1547 : decode cL_law 1547 = .ok (.if_icmp .ne 7, 3) := by decide +kernel
theorem dL_law_1550 : decode cL_law 1550 = .ok (.iconst 1, 1) := by decide +kernel
theorem dL_law_1551 : decode cL_law 1551 = .ok (.goto 4, 3) := by decide +kernel
theorem dL_law_1554 : decode cL_law 1554 = .ok (.iconst 0, 1) := by decide +kernel
theorem dL_law_1555 : decode cL_law 1555 = .ok (.iand, 1) := by decide +kernel
theorem dL_law_1556 : decode cL_law 1556 = .ok (.istore 14, 2) := by decide +kernel
theorem dL_law_1558 : decode cL_law 1558 = .ok (.iconst 0, 1) := by decide +kernel
theorem dL_law_1559 : decode cL_law 1559 = .ok (.istore 22, 2) := by decide +kernel
theorem dL_law_1561 : decode cL_law 1561 = .ok (.iload 22, 2) := by decide +kernel
theorem dL_law_1563 : decode cL_law 1563 = .ok (.iload_n 2, 1) := by decide +kernel
theorem dL_law_1564 : decode cL_law 1564 = .ok (.if_icmp .ge 224, 3) := by decide +kernel
theorem dL_law_1567 : decode cL_law 1567 = .ok (.iconst 0, 1) := by decide +kernel
theorem dL_law_1568 : decode cL_law 1568 = .ok (.istore 23, 2) := by decide +kernel
theorem dL_law_1570 : decode cL_law 1570 = .ok (.iconst 0, 1) := by decide +kernel
theorem dL_law_1571 : decode cL_law 1571 = .ok (.istore 24, 2) := by decide +kernel
theorem dL_law_1573 : decode cL_law 1573 = .ok (.iload 24, 2) := by decide +kernel
theorem dL_law_1575 : decode cL_law 1575 = .ok (.aload 4, 2) := by decide +kernel
theorem dL_law_1577 : decode cL_law 1577 = .ok (.iload 22, 2) := by decide +kernel
theorem dL_law_1579 : decode cL_law 1579 = .ok (.iaload, 1) := by decide +kernel
theorem dL_law_1580 : decode cL_law 1580 = .ok (.if_icmp .ge 33, 3) := by decide +kernel
theorem dL_law_1583 : decode cL_law 1583 = .ok (.iload 23, 2) := by decide +kernel
theorem dL_law_1585 : decode cL_law 1585 = .ok (.aload 11, 2) := by decide +kernel
theorem dL_law_1587 : decode cL_law 1587 = .ok (.iload 22, 2) := by decide +kernel
theorem dL_law_1589 : decode cL_law 1589 = .ok (.aaload, 1) := by decide +kernel
theorem dL_law_1590 : decode cL_law 1590 = .ok (.iload 24, 2) := by decide +kernel
theorem dL_law_1592 : decode cL_law 1592 = .ok (.bipush 40, 2) := by decide +kernel
theorem dL_law_1594 : decode cL_law 1594 = .ok (.idiv, 1) := by decide +kernel
theorem dL_law_1595 : decode cL_law 1595 = .ok (.baload, 1) := by decide +kernel
theorem dL_law_1596 : decode cL_law 1596 = .ok (.ifCond .eq 7, 3) := by decide +kernel
theorem dL_law_1599 : decode cL_law 1599 = .ok (.iconst 0, 1) := by decide +kernel
theorem dL_law_1600 : decode cL_law 1600 = .ok (.goto 4, 3) := by decide +kernel
theorem dL_law_1603 : decode cL_law 1603 = .ok (.iconst 1, 1) := by decide +kernel
theorem dL_law_1604 : decode cL_law 1604 = .ok (.iadd, 1) := by decide +kernel
theorem dL_law_1605 : decode cL_law 1605 = .ok (.istore 23, 2) := by decide +kernel
theorem dL_law_1607 : decode cL_law 1607 = .ok (.iinc 24 1, 3) := by decide +kernel
theorem dL_law_1610 : decode cL_law 1610 = .ok (.goto (-37), 3) := by decide +kernel
theorem dL_law_1613 : decode cL_law 1613 = .ok (.iload 14, 2) := by decide +kernel
theorem dL_law_1615 : decode cL_law 1615 = .ok (.aload_n 1, 1) := by decide +kernel
theorem dL_law_1616 : decode cL_law 1616 = .ok (.iload 22, 2) := by decide +kernel
theorem dL_law_1618 : decode cL_law 1618 = .ok (.bipush 109, 2) := by decide +kernel
theorem dL_law_1620 : decode cL_law 1620 = .ok (.invokestatic 181, 3) := by decide +kernel
theorem dL_law_1623 : decode cL_law 1623 = .ok (.aload_n 3, 1) := by decide +kernel
theorem dL_law_1624 : decode cL_law 1624 = .ok (.iload 22, 2) := by decide +kernel
theorem dL_law_1626 : decode cL_law 1626 = .ok (.iaload, 1) := by decide +kernel
theorem dL_law_1627 : decode cL_law 1627 = .ok (.if_icmp .ne 151, 3) := by decide +kernel
theorem dL_law_1630 : decode cL_law 1630 = .ok (.aload_n 1, 1) := by decide +kernel
theorem dL_law_1631 : decode cL_law 1631 = .ok (.iload 22, 2) := by decide +kernel
theorem dL_law_1633 : decode cL_law 1633 = .ok (.bipush 108, 2) := by decide +kernel
theorem dL_law_1635 : decode cL_law 1635 = .ok (.invokestatic 181, 3) := by decide +kernel
theorem dL_law_1638 : decode cL_law 1638 = .ok (.aload 4, 2) := by decide +kernel
theorem dL_law_1640 : decode cL_law 1640 = .ok (.iload 22, 2) := by decide +kernel
theorem dL_law_1642 : decode cL_law 1642 = .ok (.iaload, 1) := by decide +kernel
theorem dL_law_1643 : decode cL_law 1643 = .ok (.aload 5, 2) := by decide +kernel
theorem dL_law_1645 : decode cL_law 1645 = .ok (.iload 22, 2) := by decide +kernel
theorem dL_law_1647 : decode cL_law 1647 = .ok (.iaload, 1) := by decide +kernel
theorem dL_law_1648 : decode cL_law 1648 = .ok (.iadd, 1) := by decide +kernel
theorem dL_law_1649 : decode cL_law 1649 = .ok (.if_icmp .ne 129, 3) := by decide +kernel
theorem dL_law_1652 : decode cL_law 1652 = .ok (.aload_n 1, 1) := by decide +kernel
theorem dL_law_1653 : decode cL_law 1653 = .ok (.iload 22, 2) := by decide +kernel
theorem dL_law_1655 : decode cL_law 1655 = .ok (.bipush 112, 2) := by decide +kernel
theorem dL_law_1657 : decode cL_law 1657 = .ok (.invokestatic 181, 3) := by decide +kernel
theorem dL_law_1660 : decode cL_law 1660 = .ok (.aload 8, 2) := by decide +kernel
theorem dL_law_1662 : decode cL_law 1662 = .ok (.iload 22, 2) := by decide +kernel
theorem dL_law_1664 : decode cL_law 1664 = .ok (.iaload, 1) := by decide +kernel
theorem dL_law_1665 : decode cL_law 1665 = .ok (.if_icmp .ne 113, 3) := by decide +kernel
theorem dL_law_1668 : decode cL_law 1668 = .ok (.aload_n 1, 1) := by decide +kernel
theorem dL_law_1669 : decode cL_law 1669 = .ok (.iload 22, 2) := by decide +kernel
theorem dL_law_1671 : decode cL_law 1671 = .ok (.bipush 101, 2) := by decide +kernel
theorem dL_law_1673 : decode cL_law 1673 = .ok (.invokestatic 181, 3) := by decide +kernel
theorem dL_law_1676 : decode cL_law 1676 = .ok (.aload 6, 2) := by decide +kernel
theorem dL_law_1678 : decode cL_law 1678 = .ok (.iload 22, 2) := by decide +kernel
theorem dL_law_1680 : decode cL_law 1680 = .ok (.iaload, 1) := by decide +kernel
theorem dL_law_1681 : decode cL_law 1681 = .ok (.if_icmp .ne 97, 3) := by decide +kernel
theorem dL_law_1684 : decode cL_law 1684 = .ok (.aload_n 1, 1) := by decide +kernel
theorem dL_law_1685 : decode cL_law 1685 = .ok (.iload 22, 2) := by decide +kernel
theorem dL_law_1687 : decode cL_law 1687 = .ok (.bipush 119, 2) := by decide +kernel
theorem dL_law_1689 : decode cL_law 1689 = .ok (.invokestatic 181, 3) := by decide +kernel
theorem dL_law_1692 : decode cL_law 1692 = .ok (.aload 7, 2) := by decide +kernel
theorem dL_law_1694 : decode cL_law 1694 = .ok (.iload 22, 2) := by decide +kernel
theorem dL_law_1696 : decode cL_law 1696 = .ok (.iaload, 1) := by decide +kernel
theorem dL_law_1697 : decode cL_law 1697 = .ok (.if_icmp .ne 81, 3) := by decide +kernel
theorem dL_law_1700 : decode cL_law 1700 = .ok (.aload_n 1, 1) := by decide +kernel
theorem dL_law_1701 : decode cL_law 1701 = .ok (.iload 22, 2) := by decide +kernel
theorem dL_law_1703 : decode cL_law 1703 = .ok (.bipush 102, 2) := by decide +kernel
theorem dL_law_1705 : decode cL_law 1705 = .ok (.invokestatic 181, 3) := by decide +kernel
theorem dL_law_1708 : decode cL_law 1708 = .ok (.ifCond .ne 70, 3) := by decide +kernel
theorem dL_law_1711 : decode cL_law 1711 = .ok (.aload_n 1, 1) := by decide +kernel
theorem dL_law_1712 : decode cL_law 1712 = .ok (.iload 22, 2) := by decide +kernel
theorem dL_law_1714 : decode cL_law 1714 = .ok (.bipush 97, 2) := by decide +kernel
theorem dL_law_1716 : decode cL_law 1716 = .ok (.invokestatic 181, 3) := by decide +kernel
theorem dL_law_1719 : decode cL_law 1719 = .ok (.aload 5, 2) := by decide +kernel
theorem dL_law_1721 : decode cL_law 1721 = .ok (.iload 22, 2) := by decide +kernel
theorem dL_law_1723 : decode cL_law 1723 = .ok (.iaload, 1) := by decide +kernel
theorem dL_law_1724 : decode cL_law 1724 = .ok (.if_icmp .ne 54, 3) := by decide +kernel
theorem dL_law_1727 : decode cL_law 1727 = .ok (.aload_n 1, 1) := by decide +kernel
theorem dL_law_1728 : decode cL_law 1728 = .ok (.iload 22, 2) := by decide +kernel
theorem dL_law_1730 : decode cL_law 1730 = .ok (.invokestatic 184, 3) := by decide +kernel
theorem dL_law_1733 : decode cL_law 1733 = .ok (.iload 23, 2) := by decide +kernel
theorem dL_law_1735 : decode cL_law 1735 = .ok (.if_icmp .ne 43, 3) := by decide +kernel
theorem dL_law_1738 : decode cL_law 1738 = .ok (.aload_n 1, 1) := by decide +kernel
theorem dL_law_1739 : decode cL_law 1739 = .ok (.iload 22, 2) := by decide +kernel
theorem dL_law_1741 : decode cL_law 1741 = .ok (.invokestatic 138, 3) := by decide +kernel
theorem dL_law_1744 : decode cL_law 1744 = .ok (.aload 10, 2) := by decide +kernel
theorem dL_law_1746 : decode cL_law 1746 = .ok (.iload 22, 2) := by decide +kernel
theorem dL_law_1748 : decode cL_law 1748 = .ok (.baload, 1) := by decide +kernel
theorem dL_law_1749 : decode cL_law 1749 = .ok (.ifCond .eq 7, 3) := by decide +kernel
theorem dL_law_1752 : decode cL_law 1752 = .ok (.iconst 1, 1) := by decide +kernel
theorem dL_law_1753 : decode cL_law 1753 = .ok (.goto 4, 3) := by decide +kernel
theorem dL_law_1756 : decode cL_law 1756 = .ok (.iconst 0, 1) := by decide +kernel
theorem dL_law_1757 : decode cL_law 1757 = .ok (.if_icmp .ne 21, 3) := by decide +kernel
theorem dL_law_1760 : decode cL_law 1760 = .ok (.aload_n 1, 1) := by decide +kernel
theorem dL_law_1761 : decode cL_law 1761 = .ok (.aload 13, 2) := by decide +kernel
theorem dL_law_1763 : decode cL_law 1763 = .ok (.iload 22, 2) := by decide +kernel
theorem dL_law_1765 : decode cL_law 1765 = .ok (.iaload, 1) := by decide +kernel
theorem dL_law_1766 : decode cL_law 1766 = .ok (.invokestatic 186, 3) := by decide +kernel
theorem dL_law_1769 : decode cL_law 1769 = .ok (.iload 22, 2) := by decide +kernel
theorem dL_law_1771 : decode cL_law 1771 = .ok (.if_icmp .ne 7, 3) := by decide +kernel
theorem dL_law_1774 : decode cL_law 1774 = .ok (.iconst 1, 1) := by decide +kernel
theorem dL_law_1775 : decode cL_law 1775 = .ok (.goto 4, 3) := by decide +kernel
theorem dL_law_1778 : decode cL_law 1778 = .ok (.iconst 0, 1) := by decide +kernel
theorem dL_law_1779 : decode cL_law 1779 = .ok (.iand, 1) := by decide +kernel
theorem dL_law_1780 : decode cL_law 1780 = .ok (.istore 14, 2) := by decide +kernel
theorem dL_law_1782 : decode cL_law 1782 = .ok (.iinc 22 1, 3) := by decide +kernel
theorem dL_law_1785 : decode cL_law 1785 = .ok (.goto (-224), 3) := by decide +kernel
theorem dL_law_1788 : decode cL_law 1788 = .ok (.iinc 17 1, 3) := by decide +kernel
theorem dL_law_1791 : decode cL_law 1791 = .ok (.goto (-1476), 3) := by decide +kernel
theorem dL_law_1794 : decode cL_law 1794 = .ok (.iload 14, 2) := by decide +kernel
theorem dL_law_1796 : decode cL_law 1796 = .ok (.ifCond .eq 74, 3) := by decide +kernel
theorem dL_law_1799 : decode cL_law 1799 = .ok (.aload_n 1, 1) := by decide +kernel
theorem dL_law_1800 : decode cL_law 1800 = .ok (.invokevirtual 188, 3) := by decide +kernel
theorem dL_law_1803 : decode cL_law 1803 = .ok (.iload 15, 2) := by decide +kernel
theorem dL_law_1805 : decode cL_law 1805 = .ok (.if_icmp .ne 65, 3) := by decide +kernel
theorem dL_law_1808 : decode cL_law 1808 = .ok (.aload_n 1, 1) := by decide +kernel
theorem dL_law_1809 : decode cL_law 1809 = .ok (.iconst 0, 1) := by decide +kernel
theorem dL_law_1810 : decode cL_law 1810 = .ok (.bipush 120, 2) := by decide +kernel
theorem dL_law_1812 : decode cL_law 1812 = .ok (.invokestatic 181, 3) := by decide +kernel
theorem dL_law_1815 : decode cL_law 1815 = .ok (.ldc 20, 2) := by decide +kernel
theorem dL_law_1817 : decode cL_law 1817 = .ok (.if_icmp .ne 53, 3) := by decide +kernel
theorem dL_law_1820 : decode cL_law 1820 = .ok (.aload_n 1, 1) := by decide +kernel
theorem dL_law_1821 : decode cL_law 1821 = .ok (.iload_n 2, 1) := by decide +kernel
theorem dL_law_1822 : decode cL_law 1822 = .ok (.bipush 109, 2) := by decide +kernel
theorem dL_law_1824 : decode cL_law 1824 = .ok (.invokestatic 181, 3) := by decide +kernel
theorem dL_law_1827 : decode cL_law 1827 = .ok (.ldc 17, 2) := by decide +kernel
theorem dL_law_1829 : decode cL_law 1829 = .ok (.if_icmp .ne 41, 3) := by decide +kernel
theorem dL_law_1832 : decode cL_law 1832 = .ok (.aload_n 1, 1) := by decide +kernel
theorem dL_law_1833 : decode cL_law 1833 = .ok (.invokestatic 191, 3) := by decide +kernel
theorem dL_law_1836 : decode cL_law 1836 = .ok (.ldc 17, 2) := by decide +kernel
theorem dL_law_1838 : decode cL_law 1838 = .ok (.if_icmp .ne 32, 3) := by decide +kernel
theorem dL_law_1841 : decode cL_law 1841 = .ok (.aload_n 1, 1) := by decide +kernel
theorem dL_law_1842 : decode cL_law 1842 = .ok (.invokestatic 193, 3) := by decide +kernel
theorem dL_law_1845 : decode cL_law 1845 = .ok (.ldc 17, 2) := by decide +kernel
theorem dL_law_1847 : decode cL_law 1847 = .ok (.if_icmp .ne 23, 3) := by decide +kernel
theorem dL_law_1850 : decode cL_law 1850 = .ok (.aload_n 1, 1) := by decide +kernel
theorem dL_law_1851 : decode cL_law 1851 = .ok (.invokestatic 195, 3) := by decide +kernel
theorem dL_law_1854 : decode cL_law 1854 = .ok (.ldc 17, 2) := by decide +kernel
theorem dL_law_1856 : decode cL_law 1856 = .ok (.if_icmp .ne 14, 3) := by decide +kernel
theorem dL_law_1859 : decode cL_law 1859 = .ok (.aload_n 1, 1) := by decide +kernel
theorem dL_law_1860 : decode cL_law 1860 = .ok (.invokevirtual 197, 3) := by decide +kernel
theorem dL_law_1863 : decode cL_law 1863 = .ok (.ifCond .eq 7, 3) := by decide +kernel
theorem dL_law_1866 : decode cL_law 1866 = .ok (.iconst 1, 1) := by decide +kernel
theorem dL_law_1867 : decode cL_law 1867 = .ok (.goto 4, 3) := by decide +kernel
theorem dL_law_1870 : decode cL_law 1870 = .ok (.iconst 0, 1) := by decide +kernel
theorem dL_law_1871 : decode cL_law 1871 = .ok (.ireturn, 1) := by decide +kernel
