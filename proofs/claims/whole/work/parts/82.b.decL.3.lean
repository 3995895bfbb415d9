theorem dL_law_1452 : decode cL_law 1452 = .ok (.ifCond .ne 22, 3) := by decide +kernel
theorem dL_law_1455 : decode cL_law 1455 = .ok (.aload_n 3, 1) := by decide +kernel
theorem dL_law_1456 : decode cL_law 1456 = .ok (.iconst 0, 1) := by decide +kernel
theorem dL_law_1457 : decode cL_law 1457 = .ok (.laload, 1) := by decide +kernel
theorem dL_law_1458 : decode cL_law 1458 = .ok (.iload 6, 2) := by decide +kernel
theorem dL_law_1460 : decode cL_law 1460 = .ok (.ifCond .eq 7, 3) := by decide +kernel
theorem dL_law_1463 : decode cL_law 1463 = .ok (.lconst 1, 1) := by decide +kernel
theorem dL_law_1464 : decode cL_law 1464 = .ok (.goto 4, 3) := by decide +kernel
theorem dL_law_1467 : decode cL_law 1467 = .ok (.lconst 0, 1) := by decide +kernel
theorem dL_law_1468 : decode cL_law 1468 = .ok (.lcmp, 1) := by decide +kernel
theorem dL_law_1469 : decode cL_law 1469 = .ok (.ifCond .eq 5, 3) := by decide +kernel
theorem dL_law_1472 : decode cL_law 1472 = .ok (.iconst 0, 1) := by decide +kernel
theorem dL_law_1473 : decode cL_law 1473 = .ok (.ireturn, 1) := by decide +kernel
theorem dL_law_1474 : decode cL_law 1474 = .ok (.goto 450, 3) := by decide +kernel
theorem dL_law_1477 : decode cL_law 1477 = .ok (.aload_n 1, 1) := by decide +kernel
theorem dL_law_1478 : decode cL_law 1478 = .ok (.aload_n 0, 1) := by decide +kernel
theorem dL_law_1479 : decode cL_law 1479 = .ok (.iload 4, 2) := by decide +kernel
theorem dL_law_1481 : decode cL_law 1481 = .ok (.iconst 1, 1) := by decide +kernel
theorem dL_law_1482 : decode cL_law 1482 = .ok (.iadd, 1) := by decide +kernel
theorem dL_law_1483 : decode cL_law 1483 = .ok (.iaload, 1) := by decide +kernel
theorem dL_law_1484 : decode cL_law 1484 = .ok (.i2l, 1) := by decide +kernel
theorem dL_law_1485 : decode cL_law 1485 = .ok (.bipush 32, 2) := by decide +kernel
theorem dL_law_1487 : decode cL_law 1487 = .ok (.lshl, 1) := by decide +kernel
theorem dL_law_1488 : decode cL_law 1488 = .ok (.aload_n 0, 1) := by decide +kernel
theorem dL_law_1489 : decode cL_law 1489 = .ok (.iload 4, 2) := by decide +kernel
theorem dL_law_1491 : decode cL_law 1491 = .ok (.iconst 2, 1) := by decide +kernel
theorem dL_law_1492 : decode cL_law 1492 = .ok (.iadd, 1) := by decide +kernel
theorem dL_law_1493 : decode cL_law 1493 = .ok (.iaload, 1) := by decide +kernel
theorem dL_law_1494 : decode cL_law 1494 = .ok (.i2l, 1) := by decide +kernel
theorem dL_law_1495 : decode cL_law 1495 = .ok (.ldc2_w 68, 3) := by decide +kernel
theorem dL_law_1498 : decode cL_law 1498 = .ok (.land, 1) := by decide +kernel
theorem dL_law_1499 : decode cL_law 1499 = .ok (.lor, 1) := by decide +kernel
theorem dL_law_1500 : decode cL_law 1500 = .ok (.aload_n 0, 1) := by decide +kernel
theorem dL_law_1501 : decode cL_law 1501 = .ok (.iload 4, 2) := by decide +kernel
theorem dL_law_1503 : decode cL_law 1503 = .ok (.iconst 3, 1) := by decide +kernel
theorem dL_law_1504 : decode cL_law 1504 = .ok (.iadd, 1) := by decide +kernel
theorem dL_law_1505 : decode cL_law 1505 = .ok (.iaload, 1) := by decide +kernel
theorem dL_law_1506 : decode cL_law 1506 = .ok (.i2l, 1) := by decide +kernel
theorem dL_law_1507 : decode cL_law 1507 = .ok (.bipush 32, 2) := by decide +kernel
theorem dL_law_1509 : decode cL_law 1509 = .ok (.lshl, 1) := by decide +kernel
theorem dL_law_1510 : decode cL_law 1510 = .ok (.aload_n 0, 1) := by decide +kernel
theorem dL_law_1511 : decode cL_law 1511 = .ok (.iload 4, 2) := by decide +kernel
theorem dL_law_1513 : decode cL_law 1513 = .ok (.iconst 4, 1) := by decide +kernel
theorem dL_law_1514 : decode cL_law 1514 = .ok (.iadd, 1) := by decide +kernel
theorem dL_law_1515 : decode cL_law 1515 = .ok (.iaload, 1) := by decide +kernel
theorem dL_law_1516 : decode cL_law 1516 = .ok (.i2l, 1) := by decide +kernel
theorem dL_law_1517 : decode cL_law 1517 = .ok (.ldc2_w 68, 3) := by decide +kernel
theorem dL_law_1520 : decode cL_law 1520 = .ok (.land, 1) := by decide +kernel
theorem dL_law_1521 : decode cL_law 1521 = .ok (.lor, 1) := by decide +kernel
theorem dL_law_1522 : decode cL_law 1522 = .ok (.aload_n 0, 1) := by decide +kernel
theorem dL_law_1523 : decode cL_law 1523 = .ok (.iload 4, 2) := by decide +kernel
theorem dL_law_1525 : decode cL_law 1525 = .ok (.iconst 5, 1) := by decide +kernel
theorem dL_law_1526 : decode cL_law 1526 = .ok (.iadd, 1) := by decide +kernel
theorem dL_law_1527 : decode cL_law 1527 = .ok (.iaload, 1) := by decide +kernel
theorem dL_law_1528 : decode cL_law 1528 = .ok (.aload_n 3, 1) := by decide +kernel
theorem dL_law_1529 : decode cL_law 1529 = .ok (.invokestatic 107, 3) := by decide +kernel
theorem dL_law_1532 : decode cL_law 1532 = .ok (.istore 5, 2) := by decide +kernel
theorem dL_law_1534 : decode cL_law 1534 = .ok (.aload_n 2, 1) := by decide +kernel
theorem dL_law_1535 : decode cL_law 1535 = .ok (.aload_n 0, 1) := by decide +kernel
theorem dL_law_1536 : decode cL_law 1536 = .ok (.iload 4, 2) := by decide +kernel
theorem dL_law_1538 : decode cL_law 1538 = .ok (.iconst 1, 1) := by decide +kernel
theorem dL_law_1539 : decode cL_law 1539 = .ok (.iadd, 1) := by decide +kernel
theorem dL_law_1540 : decode cL_law 1540 = .ok (.iaload, 1) := by decide +kernel
theorem dL_law_1541 : decode cL_law 1541 = .ok (.i2l, 1) := by decide +kernel
theorem dL_law_1542 : decode cL_law 1542 = .ok (.bipush 32, 2) := by decide +kernel
theorem dL_law_1544 : decode cL_law 1544 = .ok (.lshl, 1) := by decide +kernel
theorem dL_law_1545 : decode cL_law 1545 = .ok (.aload_n 0, 1) := by decide +kernel
theorem dL_law_1546 : decode cL_law 1546 = .ok (.iload 4, 2) := by decide +kernel
theorem dL_law_1548 : decode cL_law 1548 = .ok (.iconst 2, 1) := by decide +kernel
theorem dL_law_1549 : decode cL_law 1549 = .ok (.iadd, 1) := by decide +kernel
theorem dL_law_1550 : decode cL_law 1550 = .ok (.iaload, 1) := by decide +kernel
theorem dL_law_1551 : decode cL_law 1551 = .ok (.i2l, 1) := by decide +kernel
theorem dL_law_1552 : decode cL_law 1552 = .ok (.ldc2_w 68, 3) := by decide +kernel
theorem dL_law_1555 : decode cL_law 1555 = .ok (.land, 1) := by decide +kernel
theorem dL_law_1556 : decode cL_law 1556 = .ok (.lor, 1) := by decide +kernel
theorem dL_law_1557 : decode cL_law 1557 = .ok (.aload_n 0, 1) := by decide +kernel
theorem dL_law_1558 : decode cL_law 1558 = .ok (.iload 4, 2) := by decide +kernel
theorem dL_law_1560 : decode cL_law 1560 = .ok (.iconst 3, 1) := by decide +kernel
theorem dL_law_1561 : decode cL_law 1561 = .ok (.iadd, 1) := by decide +kernel
theorem dL_law_1562 : decode cL_law 1562 = .ok (.iaload, 1) := by decide +kernel
theorem dL_law_1563 : decode cL_law 1563 = .ok (.i2l, 1) := by decide +kernel
theorem dL_law_1564 : decode cL_law 1564 = .ok (.bipush 32, 2) := by decide +kernel
theorem dL_law_1566 : decode cL_law 1566 = .ok (.lshl, 1) := by decide +kernel
theorem dL_law_1567 : decode cL_law 1567 = .ok (.aload_n 0, 1) := by decide +kernel
theorem dL_law_1568 : decode cL_law 1568 = .ok (.iload 4, 2) := by decide +kernel
theorem dL_law_1570 : decode cL_law 1570 = .ok (.iconst 4, 1) := by decide +kernel
theorem dL_law_1571 : decode cL_law 1571 = .ok (.iadd, 1) := by decide +kernel
theorem dL_law_1572 : decode cL_law 1572 = .ok (.iaload, 1) := by decide +kernel
theorem dL_law_1573 : decode cL_law 1573 = .ok (.i2l, 1) := by decide +kernel
theorem dL_law_1574 : decode cL_law 1574 = .ok (.ldc2_w 68, 3) := by decide +kernel
theorem dL_law_1577 : decode cL_law 1577 = .ok (.land, 1) := by decide +kernel
theorem dL_law_1578 : decode cL_law 1578 = .ok (.lor, 1) := by decide +kernel
theorem dL_law_1579 : decode cL_law 1579 = .ok (.aload_n 0, 1) := by decide +kernel
theorem dL_law_1580 : decode cL_law 1580 = .ok (.iload 4, 2) := by decide +kernel
theorem dL_law_1582 : decode cL_law 1582 = .ok (.iconst 5, 1) := by decide +kernel
theorem dL_law_1583 : decode cL_law 1583 = .ok (.iadd, 1) := by decide +kernel
theorem dL_law_1584 : decode cL_law 1584 = .ok (.iaload, 1) := by decide +kernel
theorem dL_law_1585 : decode cL_law 1585 = .ok (.invokevirtual 110, 3) := by decide +kernel
theorem dL_law_1588 : decode cL_law 1588 = .ok (.lstore 6, 2) := by decide +kernel
theorem dL_law_1590 : decode cL_law 1590 = .ok (.aload_n 2, 1) := by decide +kernel
theorem dL_law_1591 : decode cL_law 1591 = .ok (.invokevirtual 76, 3) := by decide +kernel
theorem dL_law_1594 : decode cL_law 1594 = .ok (.iload 5, 2) := by decide +kernel
theorem dL_law_1596 : decode cL_law 1596 = .ok (.if_icmp .eq 5, 3) := by decide +kernel
theorem dL_law_1599 : decode cL_law 1599 = .ok (.iconst 0, 1) := by decide +kernel
theorem dL_law_1600 : decode cL_law 1600 = .ok (.ireturn, 1) := by decide +kernel
theorem dL_law_1601 : decode cL_law 1601 = .ok (.iload 5, 2) := by decide +kernel
theorem dL_law_1603 : decode cL_law 1603 = .ok (.ifCond .ne 14, 3) := by decide +kernel
theorem dL_law_1606 : decode cL_law 1606 = .ok (.aload_n 3, 1) := by decide +kernel
theorem dL_law_1607 : decode cL_law 1607 = .ok (.iconst 0, 1) := by decide +kernel
theorem dL_law_1608 : decode cL_law 1608 = .ok (.laload, 1) := by decide +kernel
theorem dL_law_1609 : decode cL_law 1609 = .ok (.lload 6, 2) := by decide +kernel
theorem dL_law_1611 : decode cL_law 1611 = .ok (.lcmp, 1) := by decide +kernel
theorem dL_law_1612 : decode cL_law 1612 = .ok (.ifCond .eq 5, 3) := by decide +kernel
theorem dL_law_1615 : decode cL_law 1615 = .ok (.iconst 0, 1) := by decide +kernel
theorem dL_law_1616 : decode cL_law 1616 = .ok (.ireturn, 1) := by decide +kernel
theorem dL_law_1617 : decode cL_law 1617 = .ok (.goto 307, 3) := by decide +kernel
theorem dL_law_1620 : decode cL_law 1620 = .ok (.aload_n 1, 1) := by decide +kernel
theorem dL_law_1621 : decode cL_law 1621 = .ok (.aload_n 0, 1) := by decide +kernel
theorem dL_law_1622 : decode cL_law 1622 = .ok (.iload 4, 2) := by decide +kernel
theorem dL_law_1624 : decode cL_law 1624 = .ok (.iconst 1, 1) := by decide +kernel
theorem dL_law_1625 : decode cL_law 1625 = .ok (.iadd, 1) := by decide +kernel
theorem dL_law_1626 : decode cL_law 1626 = .ok (.iaload, 1) := by decide +kernel
theorem dL_law_1627 : decode cL_law 1627 = .ok (.i2l, 1) := by decide +kernel
theorem dL_law_1628 : decode cL_law 1628 = .ok (.bipush 32, 2) := by decide +kernel
theorem dL_law_1630 : decode cL_law 1630 = .ok (.lshl, 1) := by decide +kernel
theorem dL_law_1631 : decode cL_law 1631 = .ok (.aload_n 0, 1) := by decide +kernel
theorem dL_law_1632 : decode cL_law 1632 = .ok (.iload 4, 2) := by decide +kernel
theorem dL_law_1634 : decode cL_law 1634 = .ok (.iconst 2, 1) := by decide +kernel
theorem dL_law_1635 : decode cL_law 1635 = .ok (.iadd, 1) := by decide +kernel
theorem dL_law_1636 : decode cL_law 1636 = .ok (.iaload, 1) := by decide +kernel
theorem dL_law_1637 : decode cL_law 1637 = .ok (.i2l, 1) := by decide +kernel
theorem dL_law_1638 : decode cL_law 1638 = .ok (.ldc2_w 68, 3) := by decide +kernel
theorem dL_law_1641 : decode cL_law 1641 = .ok (.land, 1) := by decide +kernel
theorem dL_law_1642 : decode cL_law 1642 = .ok (.lor, 1) := by decide +kernel
theorem dL_law_1643 : decode cL_law 1643 = .ok (.aload_n 0, 1) := by decide +kernel
theorem dL_law_1644 : decode cL_law 1644 = .ok (.iload 4, 2) := by decide +kernel
theorem dL_law_1646 : decode cL_law 1646 = .ok (.iconst 3, 1) := by decide +kernel
theorem dL_law_1647 : decode cL_law 1647 = .ok (.iadd, 1) := by decide +kernel
theorem dL_law_1648 : decode cL_law 1648 = .ok (.iaload, 1) := by decide +kernel
theorem dL_law_1649 : decode cL_law 1649 = .ok (.aload_n 3, 1) := by decide +kernel
theorem dL_law_1650 : decode cL_law 1650 = .ok (.invokestatic 111, 3) := by decide +kernel
theorem dL_law_1653 : decode cL_law 1653 = .ok (.istore 5, 2) := by decide +kernel
theorem dL_law_1655 : decode cL_law 1655 = .ok (.aload_n 2, 1) := by decide +kernel
theorem dL_law_1656 : decode cL_law 1656 = .ok (.aload_n 0, 1) := by decide +kernel
theorem dL_law_1657 : decode cL_law 1657 = .ok (.iload 4, 2) := by decide +kernel
theorem dL_law_1659 : decode cL_law 1659 = .ok (.iconst 1, 1) := by decide +kernel
theorem dL_law_1660 : decode cL_law 1660 = .ok (.iadd, 1) := by decide +kernel
theorem dL_law_1661 : decode cL_law 1661 = .ok (.iaload, 1) := by decide +kernel
theorem dL_law_1662 : decode cL_law 1662 = .ok (.i2l, 1) := by decide +kernel
theorem dL_law_1663 : decode cL_law 1663 = .ok (.bipush 32, 2) := by decide +kernel
theorem dL_law_1665 : decode cL_law 1665 = .ok (.lshl, 1) := by decide +kernel
theorem dL_law_1666 : decode cL_law 1666 = .ok (.aload_n 0, 1) := by decide +kernel
theorem dL_law_1667 : decode cL_law 1667 = .ok (.iload 4, 2) := by decide +kernel
theorem dL_law_1669 : decode cL_law 1669 = .ok (.iconst 2, 1) := by decide +kernel
theorem dL_law_1670 : decode cL_law 1670 = .ok (.iadd, 1) := by decide +kernel
theorem dL_law_1671 : decode cL_law 1671 = .ok (.iaload, 1) := by decide +kernel
theorem dL_law_1672 : decode cL_law 1672 = .ok (.i2l, 1) := by decide +kernel
theorem dL_law_1673 : decode cL_law 1673 = .ok (.ldc2_w 68, 3) := by decide +kernel
theorem dL_law_1676 : decode cL_law 1676 = .ok (.land, 1) := by decide +kernel
theorem dL_law_1677 : decode cL_law 1677 = .ok (.lor, 1) := by decide +kernel
theorem dL_law_1678 : decode cL_law 1678 = .ok (.aload_n 0, 1) := by decide +kernel
theorem dL_law_1679 : decode cL_law 1679 = .ok (.iload 4, 2) := by decide +kernel
theorem dL_law_1681 : decode cL_law 1681 = .ok (.iconst 3, 1) := by decide +kernel
theorem dL_law_1682 : decode cL_law 1682 = .ok (.iadd, 1) := by decide +kernel
theorem dL_law_1683 : decode cL_law 1683 = .ok (.iaload, 1) := by decide +kernel
theorem dL_law_1684 : decode cL_law 1684 = .ok (.invokevirtual 114, 3) := by decide +kernel
theorem dL_law_1687 : decode cL_law 1687 = .ok (.lstore 6, 2) := by decide +kernel
theorem dL_law_1689 : decode cL_law 1689 = .ok (.aload_n 2, 1) := by decide +kernel
theorem dL_law_1690 : decode cL_law 1690 = .ok (.invokevirtual 76, 3) := by decide +kernel
theorem dL_law_1693 : decode cL_law 1693 = .ok (.iload 5, 2) := by decide +kernel
theorem dL_law_1695 : decode cL_law 1695 = .ok (.if_icmp .eq 5, 3) := by decide +kernel
theorem dL_law_1698 : decode cL_law 1698 = .ok (.iconst 0, 1) := by decide +kernel
theorem dL_law_1699 : decode cL_law 1699 = .ok (.ireturn, 1) := by decide +kernel
theorem dL_law_1700 : decode cL_law 1700 = .ok (.iload 5, 2) := by decide +kernel
theorem dL_law_1702 : decode cL_law 1702 = .ok (.ifCond .ne 14, 3) := by decide +kernel
theorem dL_law_1705 : decode cL_law 1705 = .ok (.aload_n 3, 1) := by decide +kernel
theorem dL_law_1706 : decode cL_law 1706 = .ok (.iconst 0, 1) := by decide +kernel
theorem dL_law_1707 : decode cL_law 1707 = .ok (.laload, 1) := by decide +kernel
theorem dL_law_1708 : decode cL_law 1708 = .ok (.lload 6, 2) := by decide +kernel
theorem dL_law_1710 : decode cL_law 1710 = .ok (.lcmp, 1) := by decide +kernel
theorem dL_law_1711 : decode cL_law 1711 = .ok (.ifCond .eq 5, 3) := by decide +kernel
theorem dL_law_1714 : decode cL_law 1714 = .ok (.iconst 0, 1) := by decide +kernel
theorem dL_law_1715 : decode cL_law 1715 = .ok (.ireturn, 1) := by decide +kernel
theorem dL_law_1716 : decode cL_law 1716 = .ok (.goto 208, 3) := by decide +kernel
theorem dL_law_1719 : decode cL_law 1719 = .ok (.aload_n 1, 1) := by decide +kernel
theorem dL_law_1720 : decode cL_law 1720 = .ok (.aload_n 0, 1) := by decide +kernel
theorem dL_law_1721 : decode cL_law 1721 = .ok (.iload 4, 2) := by decide +kernel
theorem dL_law_1723 : decode cL_law 1723 = .ok (.iconst 1, 1) := by decide +kernel
theorem dL_law_1724 : decode cL_law 1724 = .ok (.iadd, 1) := by decide +kernel
theorem dL_law_1725 : decode cL_law 1725 = .ok (.iaload, 1) := by decide +kernel
theorem dL_law_1726 : decode cL_law 1726 = .ok (.i2l, 1) := by decide +kernel
theorem dL_law_1727 : decode cL_law 1727 = .ok (.bipush 32, 2) := by decide +kernel
theorem dL_law_1729 : decode cL_law 1729 = .ok (.lshl, 1) := by decide +kernel
theorem dL_law_1730 : decode cL_law 1730 = .ok (.aload_n 0, 1) := by decide +kernel
theorem dL_law_1731 : decode cL_law 1731 = .ok (.iload 4, 2) := by decide +kernel
theorem dL_law_1733 : decode cL_law 1733 = .ok (.iconst 2, 1) := by decide +kernel
theorem dL_law_1734 : decode cL_law 1734 = .ok (.iadd, 1) := by decide +kernel
theorem dL_law_1735 : decode cL_law 1735 = .ok (.iaload, 1) := by decide +kernel
theorem dL_law_1736 : decode cL_law 1736 = .ok (.i2l, 1) := by decide +kernel
theorem dL_law_1737 : decode cL_law 1737 = .ok (.ldc2_w 68, 3) := by decide +kernel
theorem dL_law_1740 : decode cL_law 1740 = .ok (.land, 1) := by decide +kernel
theorem dL_law_1741 : decode cL_law 1741 = .ok (.lor, 1) := by decide +kernel
theorem dL_law_1742 : decode cL_law 1742 = .ok (.aload_n 0, 1) := by decide +kernel
theorem dL_law_1743 : decode cL_law 1743 = .ok (.iload 4, 2) := by decide +kernel
theorem dL_law_1745 : decode cL_law 1745 = .ok (.iconst 3, 1) := by decide +kernel
theorem dL_law_1746 : decode cL_law 1746 = .ok (.iadd, 1) := by decide +kernel
theorem dL_law_1747 : decode cL_law 1747 = .ok (.iaload, 1) := by decide +kernel
theorem dL_law_1748 : decode cL_law 1748 = .ok (.i2l, 1) := by decide +kernel
theorem dL_law_1749 : decode cL_law 1749 = .ok (.bipush 32, 2) := by decide +kernel
theorem dL_law_1751 : decode cL_law 1751 = .ok (.lshl, 1) := by decide +kernel
theorem dL_law_1752 : decode cL_law 1752 = .ok (.aload_n 0, 1) := by decide +kernel
theorem dL_law_1753 : decode cL_law 1753 = .ok (.iload 4, 2) := by decide +kernel
theorem dL_law_1755 : decode cL_law 1755 = .ok (.iconst 4, 1) := by decide +kernel
theorem dL_law_1756 : decode cL_law 1756 = .ok (.iadd, 1) := by decide +kernel
theorem dL_law_1757 : decode cL_law 1757 = .ok (.iaload, 1) := by decide +kernel
theorem dL_law_1758 : decode cL_law 1758 = .ok (.i2l, 1) := by decide +kernel
theorem dL_law_1759 : decode cL_law 1759 = .ok (.ldc2_w 68, 3) := by decide +kernel
theorem dL_law_1762 : decode cL_law 1762 = .ok (.land, 1) := by decide +kernel
theorem dL_law_1763 : decode cL_law 1763 = .ok (.lor, 1) := by decide +kernel
theorem dL_law_1764 : decode cL_law 1764 = .ok (.aload_n 3, 1) := by decide +kernel
theorem dL_law_1765 : decode cL_law 1765 = .ok (.invokestatic 115, 3) := by decide +kernel
theorem dL_law_1768 : decode cL_law 1768 = .ok (.istore 5, 2) := by decide +kernel
theorem dL_law_1770 : decode cL_law 1770 = .ok (.aload_n 2, 1) := by decide +kernel
theorem dL_law_1771 : decode cL_law 1771 = .ok (.aload_n 0, 1) := by decide +kernel
theorem dL_law_1772 : decode cL_law 1772 = .ok (.iload 4, 2) := by decide +kernel
theorem dL_law_1774 : decode cL_law 1774 = .ok (.iconst 1, 1) := by decide +kernel
theorem dL_law_1775 : decode cL_law 1775 = .ok (.iadd, 1) := by decide +kernel
theorem dL_law_1776 : decode cL_law 1776 = .ok (.iaload, 1) := by decide +kernel
theorem dL_law_1777 : decode cL_law 1777 = .ok (.i2l, 1) := by decide +kernel
theorem dL_law_1778 : decode cL_law 1778 = .ok (.bipush 32, 2) := by decide +kernel
theorem dL_law_1780 : decode cL_law 1780 = .ok (.lshl, 1) := by decide +kernel
theorem dL_law_1781 : decode cL_law 1781 = .ok (.aload_n 0, 1) := by decide +kernel
theorem dL_law_1782 : decode cL_law 1782 = .ok (.iload 4, 2) := by decide +kernel
theorem dL_law_1784 : decode cL_law 1784 = .ok (.iconst 2, 1) := by decide +kernel
theorem dL_law_1785 : decode cL_law 1785 = .ok (.iadd, 1) := by decide +kernel
theorem dL_law_1786 : decode cL_law 1786 = .ok (.iaload, 1) := by decide +kernel
theorem dL_law_1787 : decode cL_law 1787 = .ok (.i2l, 1) := by decide +kernel
theorem dL_law_1788 : decode cL_law 1788 = .ok (.ldc2_w 68, 3) := by decide +kernel
theorem dL_law_1791 : decode cL_law 1791 = .ok (.land, 1) := by decide +kernel
theorem dL_law_1792 : decode cL_law 1792 = .ok (.lor, 1) := by decide +kernel
theorem dL_law_1793 : decode cL_law 1793 = .ok (.aload_n 0, 1) := by decide +kernel
theorem dL_law_1794 : decode cL_law 1794 = .ok (.iload 4, 2) := by decide +kernel
theorem dL_law_1796 : decode cL_law 1796 = .ok (.iconst 3, 1) := by decide +kernel
theorem dL_law_1797 : decode cL_law 1797 = .ok (.iadd, 1) := by decide +kernel
theorem dL_law_1798 : decode cL_law 1798 = .ok (.iaload, 1) := by decide +kernel
theorem dL_law_1799 : decode cL_law 1799 = .ok (.i2l, 1) := by decide +kernel
theorem dL_law_1800 : decode cL_law 1800 = .ok (.bipush 32, 2) := by decide +kernel
theorem dL_law_1802 : decode cL_law 1802 = .ok (.lshl, 1) := by decide +kernel
theorem dL_law_1803 : decode cL_law 1803 = .ok (.aload_n 0, 1) := by decide +kernel
theorem dL_law_1804 : decode cL_law 1804 = .ok (.iload 4, 2) := by decide +kernel
theorem dL_law_1806 : decode cL_law 1806 = .ok (.iconst 4, 1) := by decide +kernel
theorem dL_law_1807 : decode cL_law 1807 = .ok (.iadd, 1) := by decide +kernel
theorem dL_law_1808 : decode cL_law 1808 = .ok (.iaload, 1) := by decide +kernel
theorem dL_law_1809 : decode cL_law 1809 = .ok (.i2l, 1) := by decide +kernel
theorem dL_law_1810 : decode cL_law 1810 = .ok (.ldc2_w 68, 3) := by decide +kernel
theorem dL_law_1813 : decode cL_law 1813 = .ok (.land, 1) := by decide +kernel
theorem dL_law_1814 : decode cL_law 1814 = .ok (.lor, 1) := by decide +kernel
theorem dL_law_1815 : decode cL_law 1815 = .ok (.invokevirtual 118, 3) := by decide +kernel
theorem dL_law_1818 : decode cL_law 1818 = .ok (.istore 6, 2) := by decide +kernel
theorem dL_law_1820 : decode cL_law 1820 = .ok (.aload_n 2, 1) := by decide +kernel
theorem dL_law_1821 : decode cL_law 1821 = .ok (.invokevirtual 76, 3) := by decide +kernel
theorem dL_law_1824 : decode cL_law 1824 = .ok (.iload 5, 2) := by decide +kernel
theorem dL_law_1826 : decode cL_law 1826 = .ok (.if_icmp .eq 5, 3) := by decide +kernel
theorem dL_law_1829 : decode cL_law 1829 = .ok (.iconst 0, 1) := by decide +kernel
theorem dL_law_1830 : decode cL_law 1830 = .ok (.ireturn, 1) := by decide +kernel
theorem dL_law_1831 : decode cL_law 1831 = .ok (.iload 5, 2) := by decide +kernel
theorem dL_law_1833 : decode cL_law 1833 = .ok (.ifCond .ne 22, 3) := by decide +kernel
theorem dL_law_1836 : decode cL_law 1836 = .ok (.aload_n 3, 1) := by decide +kernel
theorem dL_law_1837 : decode cL_law 1837 = .ok (.iconst 0, 1) := by decide +kernel
theorem dL_law_1838 : decode cL_law 1838 = .ok (.laload, 1) := by decide +kernel
theorem dL_law_1839 : decode cL_law 1839 = .ok (.iload 6, 2) := by decide +kernel
theorem dL_law_1841 : decode cL_law 1841 = .ok (.ifCond .eq 7, 3) := by decide +kernel
theorem dL_law_1844 : decode cL_law 1844 = .ok (.lconst 1, 1) := by decide +kernel
theorem dL_law_1845 : decode cL_law 1845 = .ok (.goto 4, 3) := by decide +kernel
theorem dL_law_1848 : decode cL_law 1848 = .ok (.lconst 0, 1) := by decide +kernel
theorem dL_law_1849 : decode cL_law 1849 = .ok (.lcmp, 1) := by decide +kernel
theorem dL_law_1850 : decode cL_law 1850 = .ok (.ifCond .eq 5, 3) := by decide +kernel
theorem dL_law_1853 : decode cL_law 1853 = .ok (.iconst 0, 1) := by decide +kernel
theorem dL_law_1854 : decode cL_law 1854 = .ok (.ireturn, 1) := by decide +kernel
theorem dL_law_1855 : decode cL_law 1855 = .ok (.goto 69, 3) := by decide +kernel
theorem dL_law_1858 : decode cL_law 1858 = .ok (.aload_n 1, 1) := by decide +kernel
theorem dL_law_1859 : decode cL_law 1859 = .ok (.aload_n 0, 1) := by decide +kernel
theorem dL_law_1860 : decode cL_law 1860 = .ok (.iload 4, 2) := by decide +kernel
theorem dL_law_1862 : decode cL_law 1862 = .ok (.iconst 1, 1) := by decide +kernel
theorem dL_law_1863 : decode cL_law 1863 = .ok (.iadd, 1) := by decide +kernel
theorem dL_law_1864 : decode cL_law 1864 = .ok (.iaload, 1) := by decide +kernel
theorem dL_law_1865 : decode cL_law 1865 = .ok (.aload_n 3, 1) := by decide +kernel
theorem dL_law_1866 : decode cL_law 1866 = .ok (.invokestatic 119, 3) := by decide +kernel
theorem dL_law_1869 : decode cL_law 1869 = .ok (.istore 5, 2) := by decide +kernel
theorem dL_law_1871 : decode cL_law 1871 = .ok (.aload_n 2, 1) := by decide +kernel
theorem dL_law_1872 : decode cL_law 1872 = .ok (.aload_n 0, 1) := by decide +kernel
theorem dL_law_1873 : decode cL_law 1873 = .ok (.iload 4, 2) := by decide +kernel
theorem dL_law_1875 : decode cL_law 1875 = .ok (.iconst 1, 1) := by decide +kernel
theorem dL_law_1876 : decode cL_law 1876 = .ok (.iadd, 1) := by decide +kernel
theorem dL_law_1877 : decode cL_law 1877 = .ok (.iaload, 1) := by decide +kernel
theorem dL_law_1878 : decode cL_law 1878 = .ok (.invokevirtual 122, 3) := by decide +kernel
theorem dL_law_1881 : decode cL_law 1881 = .ok (.lstore 6, 2) := by decide +kernel
theorem dL_law_1883 : decode cL_law 1883 = .ok (.aload_n 2, 1) := by decide +kernel
theorem dL_law_1884 : decode cL_law 1884 = .ok (.invokevirtual 76, 3) := by decide +kernel
theorem dL_law_1887 : decode cL_law 1887 = .ok (.iload 5, 2) := by decide +kernel
theorem dL_law_1889 : decode cL_law 1889 = .ok (.if_icmp .eq 5, 3) := by decide +kernel
theorem dL_law_1892 : decode cL_law 1892 = .ok (.iconst 0, 1) := by decide +kernel
theorem dL_law_1893 : decode cL_law 1893 = .ok (.ireturn, 1) := by decide +kernel
theorem dL_law_1894 : decode cL_law 1894 = .ok (.iload 5, 2) := by decide +kernel
theorem dL_law_1896 : decode cL_law 1896 = .ok (.ifCond .ne 14, 3) := by decide +kernel
theorem dL_law_1899 : decode cL_law 1899 = .ok (.aload_n 3, 1) := by decide +kernel
theorem dL_law_1900 : decode cL_law 1900 = .ok (.iconst 0, 1) := by decide +kernel
theorem dL_law_1901 : decode cL_law 1901 = .ok (.laload, 1) := by decide +kernel
theorem dL_law_1902 : decode cL_law 1902 = .ok (.lload 6, 2) := by decide +kernel
theorem dL_law_1904 : decode cL_law 1904 = .ok (.lcmp, 1) := by decide +kernel
theorem dL_law_1905 : decode cL_law 1905 = .ok (.ifCond .eq 5, 3) := by decide +kernel
theorem dL_law_1908 : decode cL_law 1908 = .ok (.iconst 0, 1) := by decide +kernel
theorem dL_law_1909 : decode cL_law 1909 = .ok (.ireturn, 1) := by decide +kernel
theorem dL_law_1910 : decode cL_law 1910 = .ok (.goto 14, 3) := by decide +kernel
theorem dL_law_1913 : decode cL_law 1913 = .ok (.aload_n 1, 1) := by decide +kernel
theorem dL_law_1914 : decode cL_law 1914 = .ok (.invokevirtual 123, 3) := by decide +kernel
theorem dL_law_1917 : decode cL_law 1917 = .ok (.aload_n 2, 1) := by decide +kernel
theorem dL_law_1918 : decode cL_law 1918 = .ok (.invokevirtual 126, 3) := by decide +kernel
theorem dL_law_1921 : decode cL_law 1921 = .ok (.goto 3, 3) := by decide +kernel
theorem dL_law_1924 : decode cL_law 1924 = .ok (.iinc 4 13, 3) := by decide +kernel
theorem dL_law_1927 : decode cL_law 1927 = .ok (.goto (-1904), 3) := by decide +kernel
theorem dL_law_1930 : decode cL_law 1930 = .ok (.iconst 1, 1) := by decide +kernel
theorem dL_law_1931 : decode cL_law 1931 = .ok (.ireturn, 1) := by decide +kernel
