theorem dL_law_1362 : decode cL_law 1362 = .ok (.iload 17, 2) := by decide +kernel
theorem dL_law_1364 : decode cL_law 1364 = .ok (.iload 29, 2) := by decide +kernel
theorem dL_law_1366 : decode cL_law 1366 = .ok (.invokestatic 202, 3) := by decide +kernel
theorem dL_law_1369 : decode cL_law 1369 = .ok (.aload 10, 2) := by decide +kernel
theorem dL_law_1371 : decode cL_law 1371 = .ok (.iload 17, 2) := by decide +kernel
theorem dL_law_1373 : decode cL_law 1373 = .ok (.iaload, 1) := by decide +kernel
theorem dL_law_1374 : decode cL_law 1374 = .ok (.bipush 63, 2) := by decide +kernel
theorem dL_law_1376 : decode cL_law 1376 = .ok (.iand, 1) := by decide +kernel
theorem dL_law_1377 : decode cL_law 1377 = .ok (.if_icmp .ne 7, 3) := by decide +kernel
theorem dL_law_1380 : decode cL_law 1380 = .ok (.iconst 1, 1) := by decide +kernel
theorem dL_law_1381 : decode cL_law 1381 = .ok (.goto 4, 3) := by decide +kernel
theorem dL_law_1384 : decode cL_law 1384 = .ok (.iconst 0, 1) := by decide +kernel
theorem dL_law_1385 : decode cL_law 1385 = .ok (.istore 18, 2) := by decide +kernel
theorem dL_law_1387 : decode cL_law 1387 = .ok (.aload 10, 2) := by decide +kernel
theorem dL_law_1389 : decode cL_law 1389 = .ok (.iload 17, 2) := by decide +kernel
theorem dL_law_1391 : decode cL_law 1391 = .ok (.aload 10, 2) := by decide +kernel
theorem dL_law_1393 : decode cL_law 1393 = .ok (.iload 17, 2) := by decide +kernel
theorem dL_law_1395 : decode cL_law 1395 = .ok (.iaload, 1) := by decide +kernel
theorem dL_law_1396 : decode cL_law 1396 = .ok (.bipush (-64), 2) := by decide +kernel
theorem dL_law_1398 : decode cL_law 1398 = .ok (.iand, 1) := by decide +kernel
theorem dL_law_1399 : decode cL_law 1399 = .ok (.iload 29, 2) := by decide +kernel
theorem dL_law_1401 : decode cL_law 1401 = .ok (.ior, 1) := by decide +kernel
theorem dL_law_1402 : decode cL_law 1402 = .ok (.iastore, 1) := by decide +kernel
theorem dL_law_1403 : decode cL_law 1403 = .ok (.goto 1599, 3) := by decide +kernel
theorem dL_law_1406 : decode cL_law 1406 = .ok (.iload 14, 2) := by decide +kernel
theorem dL_law_1408 : decode cL_law 1408 = .ok (.bipush 6, 2) := by decide +kernel
theorem dL_law_1410 : decode cL_law 1410 = .ok (.iand, 1) := by decide +kernel
theorem dL_law_1411 : decode cL_law 1411 = .ok (.ifCond .ne 7, 3) := by decide +kernel
theorem dL_law_1414 : decode cL_law 1414 = .ok (.iconst 1, 1) := by decide +kernel
theorem dL_law_1415 : decode cL_law 1415 = .ok (.goto 4, 3) := by decide +kernel
theorem dL_law_1418 : decode cL_law 1418 = .ok (.iconst 0, 1) := by decide +kernel
theorem dL_law_1419 : decode cL_law 1419 = .ok (.istore 30, 2) := by decide +kernel
theorem dL_law_1421 : decode cL_law 1421 = .ok (.aload_n 1, 1) := by decide +kernel
theorem dL_law_1422 : decode cL_law 1422 = .ok (.iload 17, 2) := by decide +kernel
theorem dL_law_1424 : decode cL_law 1424 = .ok (.iload 30, 2) := by decide +kernel
theorem dL_law_1426 : decode cL_law 1426 = .ok (.invokestatic 204, 3) := by decide +kernel
theorem dL_law_1429 : decode cL_law 1429 = .ok (.aload 10, 2) := by decide +kernel
theorem dL_law_1431 : decode cL_law 1431 = .ok (.iload 17, 2) := by decide +kernel
theorem dL_law_1433 : decode cL_law 1433 = .ok (.iaload, 1) := by decide +kernel
theorem dL_law_1434 : decode cL_law 1434 = .ok (.invokestatic 104, 3) := by decide +kernel
theorem dL_law_1437 : decode cL_law 1437 = .ok (.ifCond .eq 7, 3) := by decide +kernel
theorem dL_law_1440 : decode cL_law 1440 = .ok (.iconst 1, 1) := by decide +kernel
theorem dL_law_1441 : decode cL_law 1441 = .ok (.goto 4, 3) := by decide +kernel
theorem dL_law_1444 : decode cL_law 1444 = .ok (.iconst 0, 1) := by decide +kernel
theorem dL_law_1445 : decode cL_law 1445 = .ok (.if_icmp .ne 7, 3) := by decide +kernel
theorem dL_law_1448 : decode cL_law 1448 = .ok (.iconst 1, 1) := by decide +kernel
theorem dL_law_1449 : decode cL_law 1449 = .ok (.goto 4, 3) := by decide +kernel
theorem dL_law_1452 : decode cL_law 1452 = .ok (.iconst 0, 1) := by decide +kernel
theorem dL_law_1453 : decode cL_law 1453 = .ok (.istore 18, 2) := by decide +kernel
theorem dL_law_1455 : decode cL_law 1455 = .ok (.aload 10, 2) := by decide +kernel
theorem dL_law_1457 : decode cL_law 1457 = .ok (.iload 17, 2) := by decide +kernel
theorem dL_law_1459 : decode cL_law 1459 = .ok (.iload 30, 2) := by decide +kernel
theorem dL_law_1461 : decode cL_law 1461 = .ok (.ifCond .eq 14, 3) := by decide +kernel
theorem dL_law_1464 : decode cL_law 1464 = .ok (.aload 10, 2) := by decide +kernel
theorem dL_law_1466 : decode cL_law 1466 = .ok (.iload 17, 2) := by decide +kernel
theorem dL_law_1468 : decode cL_law 1468 = .ok (.iaload, 1) := by decide +kernel
theorem dL_law_1469 : decode cL_law 1469 = .ok (.bipush 64, 2) := by decide +kernel
theorem dL_law_1471 : decode cL_law 1471 = .ok (.ior, 1) := by decide +kernel
theorem dL_law_1472 : decode cL_law 1472 = .ok (.goto 11, 3) := by decide +kernel
theorem dL_law_1475 : decode cL_law 1475 = .ok (.aload 10, 2) := by decide +kernel
theorem dL_law_1477 : decode cL_law 1477 = .ok (.iload 17, 2) := by decide +kernel
theorem dL_law_1479 : decode cL_law 1479 = .ok (.iaload, 1) := by decide +kernel
theorem dL_law_1480 : decode cL_law 1480 = .ok (.bipush (-65), 2) := by decide +kernel
theorem dL_law_1482 : decode cL_law 1482 = .ok (.iand, 1) := by decide +kernel
theorem dL_law_1483 : decode cL_law 1483 = .ok (.iastore, 1) := by decide +kernel
theorem dL_law_1484 : decode cL_law 1484 = .ok (.goto 1518, 3) := by decide +kernel
theorem dL_law_1487 : decode cL_law 1487 = .ok (.iload 14, 2) := by decide +kernel
theorem dL_law_1489 : decode cL_law 1489 = .ok (.bipush 6, 2) := by decide +kernel
theorem dL_law_1491 : decode cL_law 1491 = .ok (.iand, 1) := by decide +kernel
theorem dL_law_1492 : decode cL_law 1492 = .ok (.ifCond .ne 1510, 3) := by decide +kernel
theorem dL_law_1495 : decode cL_law 1495 = .ok (.aload_n 1, 1) := by decide +kernel
theorem dL_law_1496 : decode cL_law 1496 = .ok (.iload 17, 2) := by decide +kernel
theorem dL_law_1498 : decode cL_law 1498 = .ok (.invokestatic 207, 3) := by decide +kernel
theorem dL_law_1501 : decode cL_law 1501 = .ok (.iload 17, 2) := by decide +kernel
theorem dL_law_1503 : decode cL_law 1503 = .ok (.iconst 1, 1) := by decide +kernel
theorem dL_law_1504 : decode cL_law 1504 = .ok (.aload 7, 2) := by decide +kernel
theorem dL_law_1506 : decode cL_law 1506 = .ok (.aload 8, 2) := by decide +kernel
theorem dL_law_1508 : decode cL_law 1508 = .ok (.aload 9, 2) := by decide +kernel
theorem dL_law_1510 : decode cL_law 1510 = .ok (.aload 10, 2) := by decide +kernel
theorem dL_law_1512 : decode cL_law 1512 = .ok (.aload 11, 2) := by decide +kernel
theorem dL_law_1514 : decode cL_law 1514 = .ok (.invokestatic 209, 3) := by decide +kernel
theorem dL_law_1517 : decode cL_law 1517 = .ok (.if_icmp .ne 7, 3) := by decide +kernel
theorem dL_law_1520 : decode cL_law 1520 = .ok (.iconst 1, 1) := by decide +kernel
theorem dL_law_1521 : decode cL_law 1521 = .ok (.goto 4, 3) := by decide +kernel
theorem dL_law_1524 : decode cL_law 1524 = .ok (.iconst 0, 1) := by decide +kernel
theorem dL_law_1525 : decode cL_law 1525 = .ok (.istore 18, 2) := by decide +kernel
theorem dL_law_1527 : decode cL_law 1527 = .ok (.goto 1475, 3) := by decide +kernel
theorem dL_law_1530 : decode cL_law 1530 = .ok (.aload 11, 2) := by decide +kernel
theorem dL_law_1532 : decode cL_law 1532 = .ok (.iconst 1, 1) := by decide +kernel
theorem dL_law_1533 : decode cL_law 1533 = .ok (.iaload, 1) := by decide +kernel
theorem dL_law_1534 : decode cL_law 1534 = .ok (.bipush 50, 2) := by decide +kernel
theorem dL_law_1536 : decode cL_law 1536 = .ok (.if_icmp .ne 6, 3) := by decide +kernel
theorem dL_law_1539 : decode cL_law 1539 = .ok (.goto 1463, 3) := by decide +kernel
theorem dL_law_1542 : decode cL_law 1542 = .ok (.iload 14, 2) := by decide +kernel
theorem dL_law_1544 : decode cL_law 1544 = .ok (.bipush 6, 2) := by decide +kernel
theorem dL_law_1546 : decode cL_law 1546 = .ok (.iand, 1) := by decide +kernel
theorem dL_law_1547 : decode cL_law 1547 = .ok (.ifCond .le 13, 3) := by decide +kernel
theorem dL_law_1550 : decode cL_law 1550 = .ok (.aload_n 3, 1) := by decide +kernel
theorem dL_law_1551 : decode cL_law 1551 = .ok (.bipush 12, 2) := by decide +kernel
theorem dL_law_1553 : decode cL_law 1553 = .ok (.iload 15, 2) := by decide +kernel
theorem dL_law_1555 : decode cL_law 1555 = .ok (.iadd, 1) := by decide +kernel
theorem dL_law_1556 : decode cL_law 1556 = .ok (.iaload, 1) := by decide +kernel
theorem dL_law_1557 : decode cL_law 1557 = .ok (.goto 11, 3) := by decide +kernel
theorem dL_law_1560 : decode cL_law 1560 = .ok (.iload 14, 2) := by decide +kernel
theorem dL_law_1562 : decode cL_law 1562 = .ok (.iconst 3, 1) := by decide +kernel
theorem dL_law_1563 : decode cL_law 1563 = .ok (.ishr, 1) := by decide +kernel
theorem dL_law_1564 : decode cL_law 1564 = .ok (.iconst 2, 1) := by decide +kernel
theorem dL_law_1565 : decode cL_law 1565 = .ok (.invokestatic 125, 3) := by decide +kernel
theorem dL_law_1568 : decode cL_law 1568 = .ok (.istore 31, 2) := by decide +kernel
theorem dL_law_1570 : decode cL_law 1570 = .ok (.iload 14, 2) := by decide +kernel
theorem dL_law_1572 : decode cL_law 1572 = .ok (.bipush 24, 2) := by decide +kernel
theorem dL_law_1574 : decode cL_law 1574 = .ok (.iand, 1) := by decide +kernel
theorem dL_law_1575 : decode cL_law 1575 = .ok (.ifCond .ne 24, 3) := by decide +kernel
theorem dL_law_1578 : decode cL_law 1578 = .ok (.aload 11, 2) := by decide +kernel
theorem dL_law_1580 : decode cL_law 1580 = .ok (.iconst 0, 1) := by decide +kernel
theorem dL_law_1581 : decode cL_law 1581 = .ok (.iaload, 1) := by decide +kernel
theorem dL_law_1582 : decode cL_law 1582 = .ok (.iconst 1, 1) := by decide +kernel
theorem dL_law_1583 : decode cL_law 1583 = .ok (.iadd, 1) := by decide +kernel
theorem dL_law_1584 : decode cL_law 1584 = .ok (.iload 14, 2) := by decide +kernel
theorem dL_law_1586 : decode cL_law 1586 = .ok (.bipush 6, 2) := by decide +kernel
theorem dL_law_1588 : decode cL_law 1588 = .ok (.ishr, 1) := by decide +kernel
theorem dL_law_1589 : decode cL_law 1589 = .ok (.sipush 500, 3) := by decide +kernel
theorem dL_law_1592 : decode cL_law 1592 = .ok (.invokestatic 125, 3) := by decide +kernel
theorem dL_law_1595 : decode cL_law 1595 = .ok (.iadd, 1) := by decide +kernel
theorem dL_law_1596 : decode cL_law 1596 = .ok (.goto 35, 3) := by decide +kernel
theorem dL_law_1599 : decode cL_law 1599 = .ok (.aload 11, 2) := by decide +kernel
theorem dL_law_1601 : decode cL_law 1601 = .ok (.iconst 0, 1) := by decide +kernel
theorem dL_law_1602 : decode cL_law 1602 = .ok (.iaload, 1) := by decide +kernel
theorem dL_law_1603 : decode cL_law 1603 = .ok (.bipush 100, 2) := by decide +kernel
theorem dL_law_1605 : decode cL_law 1605 = .ok (.idiv, 1) := by decide +kernel
theorem dL_law_1606 : decode cL_law 1606 = .ok (.iconst 1, 1) := by decide +kernel
theorem dL_law_1607 : decode cL_law 1607 = .ok (.iadd, 1) := by decide +kernel
theorem dL_law_1608 : decode cL_law 1608 = .ok (.iload 14, 2) := by decide +kernel
theorem dL_law_1610 : decode cL_law 1610 = .ok (.bipush 6, 2) := by decide +kernel
theorem dL_law_1612 : decode cL_law 1612 = .ok (.ishr, 1) := by decide +kernel
theorem dL_law_1613 : decode cL_law 1613 = .ok (.iconst 2, 1) := by decide +kernel
theorem dL_law_1614 : decode cL_law 1614 = .ok (.invokestatic 125, 3) := by decide +kernel
theorem dL_law_1617 : decode cL_law 1617 = .ok (.iadd, 1) := by decide +kernel
theorem dL_law_1618 : decode cL_law 1618 = .ok (.bipush 100, 2) := by decide +kernel
theorem dL_law_1620 : decode cL_law 1620 = .ok (.imul, 1) := by decide +kernel
theorem dL_law_1621 : decode cL_law 1621 = .ok (.iload 14, 2) := by decide +kernel
theorem dL_law_1623 : decode cL_law 1623 = .ok (.bipush 9, 2) := by decide +kernel
theorem dL_law_1625 : decode cL_law 1625 = .ok (.ishr, 1) := by decide +kernel
theorem dL_law_1626 : decode cL_law 1626 = .ok (.iconst 4, 1) := by decide +kernel
theorem dL_law_1627 : decode cL_law 1627 = .ok (.invokestatic 125, 3) := by decide +kernel
theorem dL_law_1630 : decode cL_law 1630 = .ok (.iadd, 1) := by decide +kernel
theorem dL_law_1631 : decode cL_law 1631 = .ok (.istore 32, 2) := by decide +kernel
theorem dL_law_1633 : decode cL_law 1633 = .ok (.aload 10, 2) := by decide +kernel
theorem dL_law_1635 : decode cL_law 1635 = .ok (.iload 17, 2) := by decide +kernel
theorem dL_law_1637 : decode cL_law 1637 = .ok (.iaload, 1) := by decide +kernel
theorem dL_law_1638 : decode cL_law 1638 = .ok (.invokestatic 114, 3) := by decide +kernel
theorem dL_law_1641 : decode cL_law 1641 = .ok (.ifCond .eq 31, 3) := by decide +kernel
theorem dL_law_1644 : decode cL_law 1644 = .ok (.aload_n 1, 1) := by decide +kernel
theorem dL_law_1645 : decode cL_law 1645 = .ok (.iload 17, 2) := by decide +kernel
theorem dL_law_1647 : decode cL_law 1647 = .ok (.iload 16, 2) := by decide +kernel
theorem dL_law_1649 : decode cL_law 1649 = .ok (.iload 31, 2) := by decide +kernel
theorem dL_law_1651 : decode cL_law 1651 = .ok (.iload 32, 2) := by decide +kernel
theorem dL_law_1653 : decode cL_law 1653 = .ok (.invokestatic 213, 3) := by decide +kernel
theorem dL_law_1656 : decode cL_law 1656 = .ok (.sipush (-7300), 3) := by decide +kernel
theorem dL_law_1659 : decode cL_law 1659 = .ok (.if_icmp .ne 7, 3) := by decide +kernel
theorem dL_law_1662 : decode cL_law 1662 = .ok (.iconst 1, 1) := by decide +kernel
theorem dL_law_1663 : decode cL_law 1663 = .ok (.goto 4, 3) := by decide +kernel
theorem dL_law_1666 : decode cL_law 1666 = .ok (.iconst 0, 1) := by decide +kernel
theorem dL_law_1667 : decode cL_law 1667 = .ok (.istore 18, 2) := by decide +kernel
theorem dL_law_1669 : decode cL_law 1669 = .ok (.goto 1333, 3) := by decide +kernel
theorem dL_law_1672 : decode cL_law 1672 = .ok (.aload_n 3, 1) := by decide +kernel
theorem dL_law_1673 : decode cL_law 1673 = .ok (.iload 15, 2) := by decide +kernel
theorem dL_law_1675 : decode cL_law 1675 = .ok (.iaload, 1) := by decide +kernel
theorem dL_law_1676 : decode cL_law 1676 = .ok (.iconst (-1), 1) := by decide +kernel
theorem dL_law_1677 : decode cL_law 1677 = .ok (.if_icmp .ne 7, 3) := by decide +kernel
theorem dL_law_1680 : decode cL_law 1680 = .ok (.iconst 1, 1) := by decide +kernel
theorem dL_law_1681 : decode cL_law 1681 = .ok (.goto 101, 3) := by decide +kernel
theorem dL_law_1684 : decode cL_law 1684 = .ok (.aload_n 3, 1) := by decide +kernel
theorem dL_law_1685 : decode cL_law 1685 = .ok (.iload 15, 2) := by decide +kernel
theorem dL_law_1687 : decode cL_law 1687 = .ok (.iaload, 1) := by decide +kernel
theorem dL_law_1688 : decode cL_law 1688 = .ok (.iload 17, 2) := by decide +kernel
theorem dL_law_1690 : decode cL_law 1690 = .ok (.if_icmp .ne 7, 3) := by decide +kernel
theorem dL_law_1693 : decode cL_law 1693 = .ok (.iconst 2, 1) := by decide +kernel
theorem dL_law_1694 : decode cL_law 1694 = .ok (.goto 88, 3) := by decide +kernel
theorem dL_law_1697 : decode cL_law 1697 = .ok (.aload_n 3, 1) := by decide +kernel
theorem dL_law_1698 : decode cL_law 1698 = .ok (.bipush 12, 2) := by decide +kernel
theorem dL_law_1700 : decode cL_law 1700 = .ok (.iload 15, 2) := by decide +kernel
theorem dL_law_1702 : decode cL_law 1702 = .ok (.iadd, 1) := by decide +kernel
theorem dL_law_1703 : decode cL_law 1703 = .ok (.iaload, 1) := by decide +kernel
theorem dL_law_1704 : decode cL_law 1704 = .ok (.iload 31, 2) := by decide +kernel
theorem dL_law_1706 : decode cL_law 1706 = .ok (.if_icmp .eq 7, 3) := by decide +kernel
theorem dL_law_1709 : decode cL_law 1709 = .ok (.iconst 3, 1) := by decide +kernel
theorem dL_law_1710 : decode cL_law 1710 = .ok (.goto 72, 3) := by decide +kernel
theorem dL_law_1713 : decode cL_law 1713 = .ok (.iload 15, 2) := by decide +kernel
theorem dL_law_1715 : decode cL_law 1715 = .ok (.aload 5, 2) := by decide +kernel
theorem dL_law_1717 : decode cL_law 1717 = .ok (.aload 11, 2) := by decide +kernel
theorem dL_law_1719 : decode cL_law 1719 = .ok (.invokestatic 142, 3) := by decide +kernel
theorem dL_law_1722 : decode cL_law 1722 = .ok (.iconst (-1), 1) := by decide +kernel
theorem dL_law_1723 : decode cL_law 1723 = .ok (.if_icmp .eq 7, 3) := by decide +kernel
theorem dL_law_1726 : decode cL_law 1726 = .ok (.iconst 4, 1) := by decide +kernel
theorem dL_law_1727 : decode cL_law 1727 = .ok (.goto 55, 3) := by decide +kernel
theorem dL_law_1730 : decode cL_law 1730 = .ok (.aload_n 3, 1) := by decide +kernel
theorem dL_law_1731 : decode cL_law 1731 = .ok (.bipush 36, 2) := by decide +kernel
theorem dL_law_1733 : decode cL_law 1733 = .ok (.iload 15, 2) := by decide +kernel
theorem dL_law_1735 : decode cL_law 1735 = .ok (.iadd, 1) := by decide +kernel
theorem dL_law_1736 : decode cL_law 1736 = .ok (.iaload, 1) := by decide +kernel
theorem dL_law_1737 : decode cL_law 1737 = .ok (.aload 11, 2) := by decide +kernel
theorem dL_law_1739 : decode cL_law 1739 = .ok (.iconst 0, 1) := by decide +kernel
theorem dL_law_1740 : decode cL_law 1740 = .ok (.iaload, 1) := by decide +kernel
theorem dL_law_1741 : decode cL_law 1741 = .ok (.if_icmp .lt 7, 3) := by decide +kernel
theorem dL_law_1744 : decode cL_law 1744 = .ok (.iconst 5, 1) := by decide +kernel
theorem dL_law_1745 : decode cL_law 1745 = .ok (.goto 37, 3) := by decide +kernel
theorem dL_law_1748 : decode cL_law 1748 = .ok (.iload 32, 2) := by decide +kernel
theorem dL_law_1750 : decode cL_law 1750 = .ok (.bipush 100, 2) := by decide +kernel
theorem dL_law_1752 : decode cL_law 1752 = .ok (.irem, 1) := by decide +kernel
theorem dL_law_1753 : decode cL_law 1753 = .ok (.bipush 19, 2) := by decide +kernel
theorem dL_law_1755 : decode cL_law 1755 = .ok (.if_icmp .le 8, 3) := by decide +kernel
theorem dL_law_1758 : decode cL_law 1758 = .ok (.bipush 6, 2) := by decide +kernel
theorem dL_law_1760 : decode cL_law 1760 = .ok (.goto 22, 3) := by decide +kernel
theorem dL_law_1763 : decode cL_law 1763 = .ok (.iload 32, 2) := by decide +kernel
theorem dL_law_1765 : decode cL_law 1765 = .ok (.aload 5, 2) := by decide +kernel
theorem dL_law_1767 : decode cL_law 1767 = .ok (.aload 11, 2) := by decide +kernel
theorem dL_law_1769 : decode cL_law 1769 = .ok (.invokestatic 162, 3) := by decide +kernel
theorem dL_law_1772 : decode cL_law 1772 = .ok (.iconst 2, 1) := by decide +kernel
theorem dL_law_1773 : decode cL_law 1773 = .ok (.if_icmp .le 8, 3) := by decide +kernel
theorem dL_law_1776 : decode cL_law 1776 = .ok (.bipush 7, 2) := by decide +kernel
theorem dL_law_1778 : decode cL_law 1778 = .ok (.goto 4, 3) := by decide +kernel
theorem dL_law_1781 : decode cL_law 1781 = .ok (.iconst 0, 1) := by decide +kernel
theorem dL_law_1782 : decode cL_law 1782 = .ok (.istore 33, 2) := by decide +kernel
theorem dL_law_1784 : decode cL_law 1784 = .ok (.aload_n 1, 1) := by decide +kernel
theorem dL_law_1785 : decode cL_law 1785 = .ok (.iload 17, 2) := by decide +kernel
theorem dL_law_1787 : decode cL_law 1787 = .ok (.iload 16, 2) := by decide +kernel
theorem dL_law_1789 : decode cL_law 1789 = .ok (.iload 31, 2) := by decide +kernel
theorem dL_law_1791 : decode cL_law 1791 = .ok (.iload 32, 2) := by decide +kernel
theorem dL_law_1793 : decode cL_law 1793 = .ok (.invokestatic 213, 3) := by decide +kernel
theorem dL_law_1796 : decode cL_law 1796 = .ok (.aload 11, 2) := by decide +kernel
theorem dL_law_1798 : decode cL_law 1798 = .ok (.iconst 1, 1) := by decide +kernel
theorem dL_law_1799 : decode cL_law 1799 = .ok (.iaload, 1) := by decide +kernel
theorem dL_law_1800 : decode cL_law 1800 = .ok (.if_icmp .ne 7, 3) := by decide +kernel
theorem dL_law_1803 : decode cL_law 1803 = .ok (.iconst 1, 1) := by decide +kernel
theorem dL_law_1804 : decode cL_law 1804 = .ok (.goto 4, 3) := by decide +kernel
