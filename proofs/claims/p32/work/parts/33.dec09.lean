theorem dL_law_1372 : decode cL_law 1372 = .ok (.ifCond .ge 6, 3) := by decide +kernel
theorem dL_law_1375 : decode cL_law 1375 = .ok (.goto 228, 3) := by decide +kernel
theorem dL_law_1378 : decode cL_law 1378 = .ok (.aload_n 1, 1) := by decide +kernel
theorem dL_law_1379 : decode cL_law 1379 = .ok (.iload 16, 2) := by decide +kernel
theorem dL_law_1381 : decode cL_law 1381 = .ok (.invokevirtual 98, 3) := by decide +kernel
theorem dL_law_1384 : decode cL_law 1384 = .ok (.aload_n 1, 1) := by decide +kernel
theorem dL_law_1385 : decode cL_law 1385 = .ok (.invokevirtual 101, 3) := by decide +kernel
theorem dL_law_1388 : decode cL_law 1388 = .ok (.if_icmp .ne 27, 3) := by decide +kernel
theorem dL_law_1391 : decode cL_law 1391 = .ok (.aload_n 1, 1) := by decide +kernel
theorem dL_law_1392 : decode cL_law 1392 = .ok (.bipush 9, 2) := by decide +kernel
theorem dL_law_1394 : decode cL_law 1394 = .ok (.invokevirtual 30, 3) := by decide +kernel
theorem dL_law_1397 : decode cL_law 1397 = .ok (.iload 16, 2) := by decide +kernel
theorem dL_law_1399 : decode cL_law 1399 = .ok (.if_icmp .eq 16, 3) := by decide +kernel
theorem dL_law_1402 : decode cL_law 1402 = .ok (.aload_n 1, 1) := by decide +kernel
theorem dL_law_1403 : decode cL_law 1403 = .ok (.bipush 11, 2) := by decide +kernel
theorem dL_law_1405 : decode cL_law 1405 = .ok (.invokevirtual 30, 3) := by decide +kernel
theorem dL_law_1408 : decode cL_law 1408 = .ok (.iload 17, 2) := by decide +kernel
theorem dL_law_1410 : decode cL_law 1410 = .ok (.iconst 1, 1) := by decide +kernel
theorem dL_law_1411 : decode cL_law 1411 = .ok (.iadd, 1) := by decide +kernel
theorem dL_law_1412 : decode cL_law 1412 = .ok (.if_icmp .eq 191, 3) := by decide +kernel
theorem dL_law_1415 : decode cL_law 1415 = .ok (.iconst 0, 1) := by decide +kernel
theorem dL_law_1416 : decode cL_law 1416 = .ok (.ireturn, 1) := by decide +kernel
theorem dL_law_1417 : decode cL_law 1417 = .ok (.iconst 1, 1) := by decide +kernel
theorem dL_law_1418 : decode cL_law 1418 = .ok (.iload 8, 2) := by decide +kernel
theorem dL_law_1420 : decode cL_law 1420 = .ok (.iconst 3, 1) := by decide +kernel
theorem dL_law_1421 : decode cL_law 1421 = .ok (.ishr, 1) := by decide +kernel
theorem dL_law_1422 : decode cL_law 1422 = .ok (.bipush 6, 2) := by decide +kernel
theorem dL_law_1424 : decode cL_law 1424 = .ok (.invokestatic 18, 3) := by decide +kernel
theorem dL_law_1427 : decode cL_law 1427 = .ok (.iadd, 1) := by decide +kernel
theorem dL_law_1428 : decode cL_law 1428 = .ok (.istore 16, 2) := by decide +kernel
theorem dL_law_1430 : decode cL_law 1430 = .ok (.aload_n 1, 1) := by decide +kernel
theorem dL_law_1431 : decode cL_law 1431 = .ok (.invokevirtual 71, 3) := by decide +kernel
theorem dL_law_1434 : decode cL_law 1434 = .ok (.istore 17, 2) := by decide +kernel
theorem dL_law_1436 : decode cL_law 1436 = .ok (.aload_n 1, 1) := by decide +kernel
theorem dL_law_1437 : decode cL_law 1437 = .ok (.bipush 13, 2) := by decide +kernel
theorem dL_law_1439 : decode cL_law 1439 = .ok (.invokevirtual 30, 3) := by decide +kernel
theorem dL_law_1442 : decode cL_law 1442 = .ok (.istore 18, 2) := by decide +kernel
theorem dL_law_1444 : decode cL_law 1444 = .ok (.aload_n 1, 1) := by decide +kernel
theorem dL_law_1445 : decode cL_law 1445 = .ok (.iload 16, 2) := by decide +kernel
theorem dL_law_1447 : decode cL_law 1447 = .ok (.invokevirtual 104, 3) := by decide +kernel
theorem dL_law_1450 : decode cL_law 1450 = .ok (.istore 19, 2) := by decide +kernel
theorem dL_law_1452 : decode cL_law 1452 = .ok (.iload_n 3, 1) := by decide +kernel
theorem dL_law_1453 : decode cL_law 1453 = .ok (.newarray .int, 2) := by decide +kernel
theorem dL_law_1455 : decode cL_law 1455 = .ok (.astore 20, 2) := by decide +kernel
theorem dL_law_1457 : decode cL_law 1457 = .ok (.iconst 0, 1) := by decide +kernel
theorem dL_law_1458 : decode cL_law 1458 = .ok (.istore 21, 2) := by decide +kernel
theorem dL_law_1460 : decode cL_law 1460 = .ok (.iload 21, 2) := by decide +kernel
theorem dL_law_1462 : decode cL_law 1462 = .ok (.iload_n 3, 1) := by decide +kernel
theorem dL_law_1463 : decode cL_law 1463 = .ok (.if_icmp .ge 21, 3) := by decide +kernel
theorem dL_law_1466 : decode cL_law 1466 = .ok (.aload 20, 2) := by decide +kernel
theorem dL_law_1468 : decode cL_law 1468 = .ok (.iload 21, 2) := by decide +kernel
theorem dL_law_1470 : decode cL_law 1470 = .ok (.aload_n 1, 1) := by decide +kernel
theorem dL_law_1471 : decode cL_law 1471 = .ok (.iload 21, 2) := by decide +kernel
theorem dL_law_1473 : decode cL_law 1473 = .ok (.iconst 5, 1) := by decide +kernel
theorem dL_law_1474 : decode cL_law 1474 = .ok (.invokevirtual 44, 3) := by decide +kernel
theorem dL_law_1477 : decode cL_law 1477 = .ok (.iastore, 1) := by decide +kernel
theorem dL_law_1478 : decode cL_law 1478 = .ok (.iinc 21 1, 3) := by decide +kernel
theorem dL_law_1481 : decode cL_law 1481 = .ok (.goto (-21), 3) := by decide +kernel
theorem dL_law_1484 : decode cL_law 1484 = .ok (.aload_n 1, 1) := by decide +kernel
theorem dL_law_1485 : decode cL_law 1485 = .ok (.iload 16, 2) := by decide +kernel
theorem dL_law_1487 : decode cL_law 1487 = .ok (.invokevirtual 107, 3) := by decide +kernel
theorem dL_law_1490 : decode cL_law 1490 = .ok (.istore 21, 2) := by decide +kernel
theorem dL_law_1492 : decode cL_law 1492 = .ok (.aload_n 1, 1) := by decide +kernel
theorem dL_law_1493 : decode cL_law 1493 = .ok (.bipush 13, 2) := by decide +kernel
theorem dL_law_1495 : decode cL_law 1495 = .ok (.invokevirtual 30, 3) := by decide +kernel
theorem dL_law_1498 : decode cL_law 1498 = .ok (.iload 18, 2) := by decide +kernel
theorem dL_law_1500 : decode cL_law 1500 = .ok (.iload 19, 2) := by decide +kernel
theorem dL_law_1502 : decode cL_law 1502 = .ok (.iadd, 1) := by decide +kernel
theorem dL_law_1503 : decode cL_law 1503 = .ok (.if_icmp .ne 40, 3) := by decide +kernel
theorem dL_law_1506 : decode cL_law 1506 = .ok (.iload 12, 2) := by decide +kernel
theorem dL_law_1508 : decode cL_law 1508 = .ok (.iconst 1, 1) := by decide +kernel
theorem dL_law_1509 : decode cL_law 1509 = .ok (.if_icmp .eq 8, 3) := by decide +kernel
theorem dL_law_1512 : decode cL_law 1512 = .ok (.iload 21, 2) := by decide +kernel
theorem dL_law_1514 : decode cL_law 1514 = .ok (.ifCond .ne 29, 3) := by decide +kernel
theorem dL_law_1517 : decode cL_law 1517 = .ok (.aload_n 1, 1) := by decide +kernel
theorem dL_law_1518 : decode cL_law 1518 = .ok (.invokevirtual 71, 3) := by decide +kernel
theorem dL_law_1521 : decode cL_law 1521 = .ok (.iload 12, 2) := by decide +kernel
theorem dL_law_1523 : decode cL_law 1523 = .ok (.iconst 1, 1) := by decide +kernel
theorem dL_law_1524 : decode cL_law 1524 = .ok (.if_icmp .ne 15, 3) := by decide +kernel
theorem dL_law_1527 : decode cL_law 1527 = .ok (.iconst 0, 1) := by decide +kernel
theorem dL_law_1528 : decode cL_law 1528 = .ok (.iload 17, 2) := by decide +kernel
theorem dL_law_1530 : decode cL_law 1530 = .ok (.iload 16, 2) := by decide +kernel
theorem dL_law_1532 : decode cL_law 1532 = .ok (.isub, 1) := by decide +kernel
theorem dL_law_1533 : decode cL_law 1533 = .ok (.invokestatic 110, 3) := by decide +kernel
theorem dL_law_1536 : decode cL_law 1536 = .ok (.goto 4, 3) := by decide +kernel
theorem dL_law_1539 : decode cL_law 1539 = .ok (.iconst (-1), 1) := by decide +kernel
theorem dL_law_1540 : decode cL_law 1540 = .ok (.if_icmp .eq 5, 3) := by decide +kernel
theorem dL_law_1543 : decode cL_law 1543 = .ok (.iconst 0, 1) := by decide +kernel
theorem dL_law_1544 : decode cL_law 1544 = .ok (.ireturn, 1) := by decide +kernel
theorem dL_law_1545 : decode cL_law 1545 = .ok (.iconst 0, 1) := by decide +kernel
theorem dL_law_1546 : decode cL_law 1546 = .ok (.istore 22, 2) := by decide +kernel
theorem dL_law_1548 : decode cL_law 1548 = .ok (.iload 22, 2) := by decide +kernel
theorem dL_law_1550 : decode cL_law 1550 = .ok (.iload_n 3, 1) := by decide +kernel
theorem dL_law_1551 : decode cL_law 1551 = .ok (.if_icmp .ge 52, 3) := by decide +kernel
theorem dL_law_1554 : decode cL_law 1554 = .ok (.aload_n 1, 1) := by decide +kernel
theorem dL_law_1555 : decode cL_law 1555 = .ok (.iload 22, 2) := by decide +kernel
theorem dL_law_1557 : decode cL_law 1557 = .ok (.iconst 5, 1) := by decide +kernel
theorem dL_law_1558 : decode cL_law 1558 = .ok (.invokevirtual 44, 3) := by decide +kernel
theorem dL_law_1561 : decode cL_law 1561 = .ok (.aload 20, 2) := by decide +kernel
theorem dL_law_1563 : decode cL_law 1563 = .ok (.iload 22, 2) := by decide +kernel
theorem dL_law_1565 : decode cL_law 1565 = .ok (.iaload, 1) := by decide +kernel
theorem dL_law_1566 : decode cL_law 1566 = .ok (.if_icmp .lt 29, 3) := by decide +kernel
theorem dL_law_1569 : decode cL_law 1569 = .ok (.aload_n 1, 1) := by decide +kernel
theorem dL_law_1570 : decode cL_law 1570 = .ok (.iload 22, 2) := by decide +kernel
theorem dL_law_1572 : decode cL_law 1572 = .ok (.iconst 5, 1) := by decide +kernel
theorem dL_law_1573 : decode cL_law 1573 = .ok (.invokevirtual 44, 3) := by decide +kernel
theorem dL_law_1576 : decode cL_law 1576 = .ok (.aload 20, 2) := by decide +kernel
theorem dL_law_1578 : decode cL_law 1578 = .ok (.iload 22, 2) := by decide +kernel
theorem dL_law_1580 : decode cL_law 1580 = .ok (.iaload, 1) := by decide +kernel
theorem dL_law_1581 : decode cL_law 1581 = .ok (.iload 16, 2) := by decide +kernel
theorem dL_law_1583 : decode cL_law 1583 = .ok (.aload_n 1, 1) := by decide +kernel
theorem dL_law_1584 : decode cL_law 1584 = .ok (.iload 22, 2) := by decide +kernel
theorem dL_law_1586 : decode cL_law 1586 = .ok (.iconst 0, 1) := by decide +kernel
theorem dL_law_1587 : decode cL_law 1587 = .ok (.invokevirtual 44, 3) := by decide +kernel
theorem dL_law_1590 : decode cL_law 1590 = .ok (.imul, 1) := by decide +kernel
theorem dL_law_1591 : decode cL_law 1591 = .ok (.iadd, 1) := by decide +kernel
theorem dL_law_1592 : decode cL_law 1592 = .ok (.if_icmp .le 5, 3) := by decide +kernel
theorem dL_law_1595 : decode cL_law 1595 = .ok (.iconst 0, 1) := by decide +kernel
theorem dL_law_1596 : decode cL_law 1596 = .ok (.ireturn, 1) := by decide +kernel
theorem dL_law_1597 : decode cL_law 1597 = .ok (.iinc 22 1, 3) := by decide +kernel
theorem dL_law_1600 : decode cL_law 1600 = .ok (.goto (-52), 3) := by decide +kernel
theorem dL_law_1603 : decode cL_law 1603 = .ok (.iconst 0, 1) := by decide +kernel
theorem dL_law_1604 : decode cL_law 1604 = .ok (.istore 16, 2) := by decide +kernel
theorem dL_law_1606 : decode cL_law 1606 = .ok (.iconst 0, 1) := by decide +kernel
theorem dL_law_1607 : decode cL_law 1607 = .ok (.istore 17, 2) := by decide +kernel
theorem dL_law_1609 : decode cL_law 1609 = .ok (.iconst 0, 1) := by decide +kernel
theorem dL_law_1610 : decode cL_law 1610 = .ok (.istore 18, 2) := by decide +kernel
theorem dL_law_1612 : decode cL_law 1612 = .ok (.iconst 0, 1) := by decide +kernel
theorem dL_law_1613 : decode cL_law 1613 = .ok (.istore 19, 2) := by decide +kernel
theorem dL_law_1615 : decode cL_law 1615 = .ok (.iload 19, 2) := by decide +kernel
theorem dL_law_1617 : decode cL_law 1617 = .ok (.iload_n 2, 1) := by decide +kernel
theorem dL_law_1618 : decode cL_law 1618 = .ok (.if_icmp .ge 33, 3) := by decide +kernel
theorem dL_law_1621 : decode cL_law 1621 = .ok (.iload 16, 2) := by decide +kernel
theorem dL_law_1623 : decode cL_law 1623 = .ok (.aload_n 1, 1) := by decide +kernel
theorem dL_law_1624 : decode cL_law 1624 = .ok (.iload 19, 2) := by decide +kernel
theorem dL_law_1626 : decode cL_law 1626 = .ok (.iconst 0, 1) := by decide +kernel
theorem dL_law_1627 : decode cL_law 1627 = .ok (.invokevirtual 59, 3) := by decide +kernel
theorem dL_law_1630 : decode cL_law 1630 = .ok (.iadd, 1) := by decide +kernel
theorem dL_law_1631 : decode cL_law 1631 = .ok (.istore 16, 2) := by decide +kernel
theorem dL_law_1633 : decode cL_law 1633 = .ok (.iload 18, 2) := by decide +kernel
theorem dL_law_1635 : decode cL_law 1635 = .ok (.aload_n 1, 1) := by decide +kernel
theorem dL_law_1636 : decode cL_law 1636 = .ok (.iload 19, 2) := by decide +kernel
theorem dL_law_1638 : decode cL_law 1638 = .ok (.iconst 2, 1) := by decide +kernel
theorem dL_law_1639 : decode cL_law 1639 = .ok (.invokevirtual 59, 3) := by decide +kernel
theorem dL_law_1642 : decode cL_law 1642 = .ok (.iadd, 1) := by decide +kernel
theorem dL_law_1643 : decode cL_law 1643 = .ok (.istore 18, 2) := by decide +kernel
theorem dL_law_1645 : decode cL_law 1645 = .ok (.iinc 19 1, 3) := by decide +kernel
theorem dL_law_1648 : decode cL_law 1648 = .ok (.goto (-33), 3) := by decide +kernel
theorem dL_law_1651 : decode cL_law 1651 = .ok (.iconst 0, 1) := by decide +kernel
theorem dL_law_1652 : decode cL_law 1652 = .ok (.istore 19, 2) := by decide +kernel
theorem dL_law_1654 : decode cL_law 1654 = .ok (.iload 19, 2) := by decide +kernel
theorem dL_law_1656 : decode cL_law 1656 = .ok (.aload_n 1, 1) := by decide +kernel
theorem dL_law_1657 : decode cL_law 1657 = .ok (.iconst 4, 1) := by decide +kernel
theorem dL_law_1658 : decode cL_law 1658 = .ok (.invokevirtual 30, 3) := by decide +kernel
theorem dL_law_1661 : decode cL_law 1661 = .ok (.if_icmp .ge 21, 3) := by decide +kernel
theorem dL_law_1664 : decode cL_law 1664 = .ok (.iload 17, 2) := by decide +kernel
theorem dL_law_1666 : decode cL_law 1666 = .ok (.aload_n 1, 1) := by decide +kernel
theorem dL_law_1667 : decode cL_law 1667 = .ok (.iload 19, 2) := by decide +kernel
theorem dL_law_1669 : decode cL_law 1669 = .ok (.iconst 2, 1) := by decide +kernel
theorem dL_law_1670 : decode cL_law 1670 = .ok (.invokevirtual 56, 3) := by decide +kernel
theorem dL_law_1673 : decode cL_law 1673 = .ok (.iadd, 1) := by decide +kernel
theorem dL_law_1674 : decode cL_law 1674 = .ok (.istore 17, 2) := by decide +kernel
theorem dL_law_1676 : decode cL_law 1676 = .ok (.iinc 19 1, 3) := by decide +kernel
theorem dL_law_1679 : decode cL_law 1679 = .ok (.goto (-25), 3) := by decide +kernel
theorem dL_law_1682 : decode cL_law 1682 = .ok (.iload 16, 2) := by decide +kernel
theorem dL_law_1684 : decode cL_law 1684 = .ok (.bipush 100, 2) := by decide +kernel
theorem dL_law_1686 : decode cL_law 1686 = .ok (.iload_n 2, 1) := by decide +kernel
theorem dL_law_1687 : decode cL_law 1687 = .ok (.imul, 1) := by decide +kernel
theorem dL_law_1688 : decode cL_law 1688 = .ok (.iload 4, 2) := by decide +kernel
theorem dL_law_1690 : decode cL_law 1690 = .ok (.isub, 1) := by decide +kernel
theorem dL_law_1691 : decode cL_law 1691 = .ok (.aload_n 1, 1) := by decide +kernel
theorem dL_law_1692 : decode cL_law 1692 = .ok (.bipush 12, 2) := by decide +kernel
theorem dL_law_1694 : decode cL_law 1694 = .ok (.invokevirtual 30, 3) := by decide +kernel
theorem dL_law_1697 : decode cL_law 1697 = .ok (.iadd, 1) := by decide +kernel
theorem dL_law_1698 : decode cL_law 1698 = .ok (.if_icmp .ne 40, 3) := by decide +kernel
theorem dL_law_1701 : decode cL_law 1701 = .ok (.iload 5, 2) := by decide +kernel
theorem dL_law_1703 : decode cL_law 1703 = .ok (.iload 17, 2) := by decide +kernel
theorem dL_law_1705 : decode cL_law 1705 = .ok (.aload_n 1, 1) := by decide +kernel
theorem dL_law_1706 : decode cL_law 1706 = .ok (.bipush 12, 2) := by decide +kernel
theorem dL_law_1708 : decode cL_law 1708 = .ok (.invokevirtual 30, 3) := by decide +kernel
theorem dL_law_1711 : decode cL_law 1711 = .ok (.iadd, 1) := by decide +kernel
theorem dL_law_1712 : decode cL_law 1712 = .ok (.if_icmp .ne 26, 3) := by decide +kernel
theorem dL_law_1715 : decode cL_law 1715 = .ok (.aload_n 1, 1) := by decide +kernel
theorem dL_law_1716 : decode cL_law 1716 = .ok (.bipush 6, 2) := by decide +kernel
theorem dL_law_1718 : decode cL_law 1718 = .ok (.invokevirtual 30, 3) := by decide +kernel
theorem dL_law_1721 : decode cL_law 1721 = .ok (.iload 18, 2) := by decide +kernel
theorem dL_law_1723 : decode cL_law 1723 = .ok (.iload 6, 2) := by decide +kernel
theorem dL_law_1725 : decode cL_law 1725 = .ok (.iadd, 1) := by decide +kernel
theorem dL_law_1726 : decode cL_law 1726 = .ok (.if_icmp .ne 12, 3) := by decide +kernel
theorem dL_law_1729 : decode cL_law 1729 = .ok (.aload_n 1, 1) := by decide +kernel
theorem dL_law_1730 : decode cL_law 1730 = .ok (.iload_n 2, 1) := by decide +kernel
theorem dL_law_1731 : decode cL_law 1731 = .ok (.iload_n 3, 1) := by decide +kernel
theorem dL_law_1732 : decode cL_law 1732 = .ok (.invokestatic 115, 3) := by decide +kernel
theorem dL_law_1735 : decode cL_law 1735 = .ok (.ifCond .ne 5, 3) := by decide +kernel
theorem dL_law_1738 : decode cL_law 1738 = .ok (.iconst 0, 1) := by decide +kernel
theorem dL_law_1739 : decode cL_law 1739 = .ok (.ireturn, 1) := by decide +kernel
theorem dL_law_1740 : decode cL_law 1740 = .ok (.iinc 7 1, 3) := by decide +kernel
theorem dL_law_1743 : decode cL_law 1743 = .ok (.goto (-1600), 3) := by decide +kernel
theorem dL_law_1746 : decode cL_law 1746 = .ok (.aload_n 1, 1) := by decide +kernel
theorem dL_law_1747 : decode cL_law 1747 = .ok (.invokevirtual 119, 3) := by decide +kernel
theorem dL_law_1750 : decode cL_law 1750 = .ok (.lstore 7, 2) := by decide +kernel
theorem dL_law_1752 : decode cL_law 1752 = .ok (.aload_n 1, 1) := by decide +kernel
theorem dL_law_1753 : decode cL_law 1753 = .ok (.iload_n 2, 1) := by decide +kernel
theorem dL_law_1754 : decode cL_law 1754 = .ok (.iload_n 3, 1) := by decide +kernel
theorem dL_law_1755 : decode cL_law 1755 = .ok (.invokestatic 115, 3) := by decide +kernel
theorem dL_law_1758 : decode cL_law 1758 = .ok (.ifCond .eq 17, 3) := by decide +kernel
theorem dL_law_1761 : decode cL_law 1761 = .ok (.aload_n 1, 1) := by decide +kernel
theorem dL_law_1762 : decode cL_law 1762 = .ok (.invokevirtual 119, 3) := by decide +kernel
theorem dL_law_1765 : decode cL_law 1765 = .ok (.lload 7, 2) := by decide +kernel
theorem dL_law_1767 : decode cL_law 1767 = .ok (.lcmp, 1) := by decide +kernel
theorem dL_law_1768 : decode cL_law 1768 = .ok (.ifCond .ne 7, 3) := by decide +kernel
theorem dL_law_1771 : decode cL_law 1771 = .ok (.iconst 1, 1) := by decide +kernel
theorem dL_law_1772 : decode cL_law 1772 = .ok (.goto 4, 3) := by decide +kernel
theorem dL_law_1775 : decode cL_law 1775 = .ok (.iconst 0, 1) := by decide +kernel
theorem dL_law_1776 : decode cL_law 1776 = .ok (.ireturn, 1) := by decide +kernel
theorem dL_isSo_0 : decode cL_isSo 0 = .ok (.aload_n 0, 1) := by decide +kernel
theorem dL_isSo_1 : decode cL_isSo 1 = .ok (.iconst 1, 1) := by decide +kernel
theorem dL_isSo_2 : decode cL_isSo 2 = .ok (.invokevirtual 30, 3) := by decide +kernel
theorem dL_isSo_5 : decode cL_isSo 5 = .ok (.istore_n 3, 1) := by decide +kernel
theorem dL_isSo_6 : decode cL_isSo 6 = .ok (.aload_n 0, 1) := by decide +kernel
theorem dL_isSo_7 : decode cL_isSo 7 = .ok (.iconst 4, 1) := by decide +kernel
theorem dL_isSo_8 : decode cL_isSo 8 = .ok (.invokevirtual 30, 3) := by decide +kernel
theorem dL_isSo_11 : decode cL_isSo 11 = .ok (.istore 4, 2) := by decide +kernel
theorem dL_isSo_13 : decode cL_isSo 13 = .ok (.iconst 0, 1) := by decide +kernel
theorem dL_isSo_14 : decode cL_isSo 14 = .ok (.istore 5, 2) := by decide +kernel
theorem dL_isSo_16 : decode cL_isSo 16 = .ok (.iconst 0, 1) := by decide +kernel
theorem dL_isSo_17 : decode cL_isSo 17 = .ok (.istore 6, 2) := by decide +kernel
theorem dL_isSo_19 : decode cL_isSo 19 = .ok (.iconst 0, 1) := by decide +kernel
theorem dL_isSo_20 : decode cL_isSo 20 = .ok (.istore 7, 2) := by decide +kernel
theorem dL_isSo_22 : decode cL_isSo 22 = .ok (.iconst 0, 1) := by decide +kernel
theorem dL_isSo_23 : decode cL_isSo 23 = .ok (.istore 8, 2) := by decide +kernel
theorem dL_isSo_25 : decode cL_isSo 25 = .ok (.iconst 0, 1) := by decide +kernel
theorem dL_isSo_26 : decode cL_isSo 26 = .ok (.istore 9, 2) := by decide +kernel
theorem dL_isSo_28 : decode cL_isSo 28 = .ok (.iconst 0, 1) := by decide +kernel
theorem dL_isSo_29 : decode cL_isSo 29 = .ok (.istore 10, 2) := by decide +kernel
theorem dL_isSo_31 : decode cL_isSo 31 = .ok (.iconst 0, 1) := by decide +kernel
theorem dL_isSo_32 : decode cL_isSo 32 = .ok (.istore 11, 2) := by decide +kernel
theorem dL_isSo_34 : decode cL_isSo 34 = .ok (.iload_n 1, 1) := by decide +kernel
theorem dL_isSo_35 : decode cL_isSo 35 = .ok (.newarray .int, 2) := by decide +kernel
theorem dL_isSo_37 : decode cL_isSo 37 = .ok (.astore 12, 2) := by decide +kernel
theorem dL_isSo_39 : decode cL_isSo 39 = .ok (.iconst 0, 1) := by decide +kernel
theorem dL_isSo_40 : decode cL_isSo 40 = .ok (.istore 13, 2) := by decide +kernel
theorem dL_isSo_42 : decode cL_isSo 42 = .ok (.iload 13, 2) := by decide +kernel
theorem dL_isSo_44 : decode cL_isSo 44 = .ok (.iload 4, 2) := by decide +kernel
theorem dL_isSo_46 : decode cL_isSo 46 = .ok (.if_icmp .ge 364, 3) := by decide +kernel
theorem dL_isSo_49 : decode cL_isSo 49 = .ok (.aload_n 0, 1) := by decide +kernel
theorem dL_isSo_50 : decode cL_isSo 50 = .ok (.iload 13, 2) := by decide +kernel
theorem dL_isSo_52 : decode cL_isSo 52 = .ok (.bipush 7, 2) := by decide +kernel
theorem dL_isSo_54 : decode cL_isSo 54 = .ok (.invokevirtual 56, 3) := by decide +kernel
theorem dL_isSo_57 : decode cL_isSo 57 = .ok (.istore 14, 2) := by decide +kernel
theorem dL_isSo_59 : decode cL_isSo 59 = .ok (.iconst 0, 1) := by decide +kernel
theorem dL_isSo_60 : decode cL_isSo 60 = .ok (.istore 15, 2) := by decide +kernel
theorem dL_isSo_62 : decode cL_isSo 62 = .ok (.iconst 0, 1) := by decide +kernel
theorem dL_isSo_63 : decode cL_isSo 63 = .ok (.istore 16, 2) := by decide +kernel
theorem dL_isSo_65 : decode cL_isSo 65 = .ok (.iconst 0, 1) := by decide +kernel
theorem dL_isSo_66 : decode cL_isSo 66 = .ok (.istore 17, 2) := by decide +kernel
theorem dL_isSo_68 : decode cL_isSo 68 = .ok (.iload 17, 2) := by decide +kernel
theorem dL_isSo_70 : decode cL_isSo 70 = .ok (.iload_n 2, 1) := by decide +kernel
theorem dL_isSo_71 : decode cL_isSo 71 = .ok (.if_icmp .ge 111, 3) := by decide +kernel
theorem dL_isSo_74 : decode cL_isSo 74 = .ok (.aload_n 0, 1) := by decide +kernel
theorem dL_isSo_75 : decode cL_isSo 75 = .ok (.iload 17, 2) := by decide +kernel
theorem dL_isSo_77 : decode cL_isSo 77 = .ok (.iload 13, 2) := by decide +kernel
theorem dL_isSo_79 : decode cL_isSo 79 = .ok (.invokevirtual 38, 3) := by decide +kernel
theorem dL_isSo_82 : decode cL_isSo 82 = .ok (.istore 18, 2) := by decide +kernel
theorem dL_isSo_84 : decode cL_isSo 84 = .ok (.iload 18, 2) := by decide +kernel
theorem dL_isSo_86 : decode cL_isSo 86 = .ok (.bipush 99, 2) := by decide +kernel
theorem dL_isSo_88 : decode cL_isSo 88 = .ok (.if_icmp .gt 25, 3) := by decide +kernel
theorem dL_isSo_91 : decode cL_isSo 91 = .ok (.iload 18, 2) := by decide +kernel
theorem dL_isSo_93 : decode cL_isSo 93 = .ok (.iconst (-1), 1) := by decide +kernel
theorem dL_isSo_94 : decode cL_isSo 94 = .ok (.if_icmp .lt 19, 3) := by decide +kernel
theorem dL_isSo_97 : decode cL_isSo 97 = .ok (.iload 18, 2) := by decide +kernel
theorem dL_isSo_99 : decode cL_isSo 99 = .ok (.ifCond .lt 16, 3) := by decide +kernel
theorem dL_isSo_102 : decode cL_isSo 102 = .ok (.aload_n 0, 1) := by decide +kernel
theorem dL_isSo_103 : decode cL_isSo 103 = .ok (.iload 13, 2) := by decide +kernel
theorem dL_isSo_105 : decode cL_isSo 105 = .ok (.bipush 6, 2) := by decide +kernel
theorem dL_isSo_107 : decode cL_isSo 107 = .ok (.invokevirtual 56, 3) := by decide +kernel
theorem dL_isSo_110 : decode cL_isSo 110 = .ok (.ifCond .ne 5, 3) := by decide +kernel
theorem dL_isSo_113 : decode cL_isSo 113 = .ok (.iconst 0, 1) := by decide +kernel
theorem dL_isSo_114 : decode cL_isSo 114 = .ok (.ireturn, 1) := by decide +kernel
theorem dL_isSo_115 : decode cL_isSo 115 = .ok (.iload 16, 2) := by decide +kernel
theorem dL_isSo_117 : decode cL_isSo 117 = .ok (.iload 18, 2) := by decide +kernel
theorem dL_isSo_119 : decode cL_isSo 119 = .ok (.ifCond .ge 7, 3) := by decide +kernel
theorem dL_isSo_122 : decode cL_isSo 122 = .ok (.iconst 0, 1) := by decide +kernel
theorem dL_isSo_123 : decode cL_isSo 123 = .ok (.goto 4, 3) := by decide +kernel
theorem dL_isSo_126 : decode cL_isSo 126 = .ok (.iconst 1, 1) := by decide +kernel
theorem dL_isSo_127 : decode cL_isSo 127 = .ok (.iadd, 1) := by decide +kernel
theorem dL_isSo_128 : decode cL_isSo 128 = .ok (.istore 16, 2) := by decide +kernel
theorem dL_isSo_130 : decode cL_isSo 130 = .ok (.iload 9, 2) := by decide +kernel
theorem dL_isSo_132 : decode cL_isSo 132 = .ok (.iconst 0, 1) := by decide +kernel
theorem dL_isSo_133 : decode cL_isSo 133 = .ok (.iload 18, 2) := by decide +kernel
theorem dL_isSo_135 : decode cL_isSo 135 = .ok (.invokestatic 110, 3) := by decide +kernel
theorem dL_isSo_138 : decode cL_isSo 138 = .ok (.iadd, 1) := by decide +kernel
theorem dL_isSo_139 : decode cL_isSo 139 = .ok (.istore 9, 2) := by decide +kernel
theorem dL_isSo_141 : decode cL_isSo 141 = .ok (.iload 15, 2) := by decide +kernel
theorem dL_isSo_143 : decode cL_isSo 143 = .ok (.iload 18, 2) := by decide +kernel
theorem dL_isSo_145 : decode cL_isSo 145 = .ok (.ifCond .lt 27, 3) := by decide +kernel
theorem dL_isSo_148 : decode cL_isSo 148 = .ok (.aload_n 0, 1) := by decide +kernel
theorem dL_isSo_149 : decode cL_isSo 149 = .ok (.iload 17, 2) := by decide +kernel
theorem dL_isSo_151 : decode cL_isSo 151 = .ok (.iconst 1, 1) := by decide +kernel
theorem dL_isSo_152 : decode cL_isSo 152 = .ok (.invokevirtual 44, 3) := by decide +kernel
theorem dL_isSo_155 : decode cL_isSo 155 = .ok (.aload_n 0, 1) := by decide +kernel
theorem dL_isSo_156 : decode cL_isSo 156 = .ok (.iload 13, 2) := by decide +kernel
theorem dL_isSo_158 : decode cL_isSo 158 = .ok (.iconst 1, 1) := by decide +kernel
theorem dL_isSo_159 : decode cL_isSo 159 = .ok (.invokevirtual 56, 3) := by decide +kernel
theorem dL_isSo_162 : decode cL_isSo 162 = .ok (.ishr, 1) := by decide +kernel
theorem dL_isSo_163 : decode cL_isSo 163 = .ok (.iconst 1, 1) := by decide +kernel
theorem dL_isSo_164 : decode cL_isSo 164 = .ok (.iand, 1) := by decide +kernel
theorem dL_isSo_165 : decode cL_isSo 165 = .ok (.ifCond .ne 7, 3) := by decide +kernel
theorem dL_isSo_168 : decode cL_isSo 168 = .ok (.iconst 1, 1) := by decide +kernel
theorem dL_isSo_169 : decode cL_isSo 169 = .ok (.goto 4, 3) := by decide +kernel
theorem dL_isSo_172 : decode cL_isSo 172 = .ok (.iconst 0, 1) := by decide +kernel
theorem dL_isSo_173 : decode cL_isSo 173 = .ok (.iadd, 1) := by decide +kernel
theorem dL_isSo_174 : decode cL_isSo 174 = .ok (.istore 15, 2) := by decide +kernel
theorem dL_isSo_176 : decode cL_isSo 176 = .ok (.iinc 17 1, 3) := by decide +kernel
theorem dL_isSo_179 : decode cL_isSo 179 = .ok (.goto (-111), 3) := by decide +kernel
theorem dL_isSo_182 : decode cL_isSo 182 = .ok (.iload 8, 2) := by decide +kernel
theorem dL_isSo_184 : decode cL_isSo 184 = .ok (.iload 16, 2) := by decide +kernel
theorem dL_isSo_186 : decode cL_isSo 186 = .ok (.iadd, 1) := by decide +kernel
theorem dL_isSo_187 : decode cL_isSo 187 = .ok (.istore 8, 2) := by decide +kernel
theorem dL_isSo_189 : decode cL_isSo 189 = .ok (.iload 5, 2) := by decide +kernel
theorem dL_isSo_191 : decode cL_isSo 191 = .ok (.aload_n 0, 1) := by decide +kernel
theorem dL_isSo_192 : decode cL_isSo 192 = .ok (.iload 13, 2) := by decide +kernel
theorem dL_isSo_194 : decode cL_isSo 194 = .ok (.bipush 6, 2) := by decide +kernel
theorem dL_isSo_196 : decode cL_isSo 196 = .ok (.invokevirtual 56, 3) := by decide +kernel
theorem dL_isSo_199 : decode cL_isSo 199 = .ok (.iadd, 1) := by decide +kernel
theorem dL_isSo_200 : decode cL_isSo 200 = .ok (.istore 5, 2) := by decide +kernel
theorem dL_isSo_202 : decode cL_isSo 202 = .ok (.iload 6, 2) := by decide +kernel
theorem dL_isSo_204 : decode cL_isSo 204 = .ok (.aload_n 0, 1) := by decide +kernel
theorem dL_isSo_205 : decode cL_isSo 205 = .ok (.iload 13, 2) := by decide +kernel
theorem dL_isSo_207 : decode cL_isSo 207 = .ok (.iconst 3, 1) := by decide +kernel
theorem dL_isSo_208 : decode cL_isSo 208 = .ok (.invokevirtual 56, 3) := by decide +kernel
theorem dL_isSo_211 : decode cL_isSo 211 = .ok (.iadd, 1) := by decide +kernel
theorem dL_isSo_212 : decode cL_isSo 212 = .ok (.istore 6, 2) := by decide +kernel
theorem dL_isSo_214 : decode cL_isSo 214 = .ok (.iload 7, 2) := by decide +kernel
theorem dL_isSo_216 : decode cL_isSo 216 = .ok (.aload_n 0, 1) := by decide +kernel
theorem dL_isSo_217 : decode cL_isSo 217 = .ok (.iload 13, 2) := by decide +kernel
theorem dL_isSo_219 : decode cL_isSo 219 = .ok (.iconst 4, 1) := by decide +kernel
theorem dL_isSo_220 : decode cL_isSo 220 = .ok (.invokevirtual 56, 3) := by decide +kernel
theorem dL_isSo_223 : decode cL_isSo 223 = .ok (.iadd, 1) := by decide +kernel
theorem dL_isSo_224 : decode cL_isSo 224 = .ok (.istore 7, 2) := by decide +kernel
theorem dL_isSo_226 : decode cL_isSo 226 = .ok (.iload 10, 2) := by decide +kernel
theorem dL_isSo_228 : decode cL_isSo 228 = .ok (.iload 14, 2) := by decide +kernel
theorem dL_isSo_230 : decode cL_isSo 230 = .ok (.ifCond .le 10, 3) := by decide +kernel
theorem dL_isSo_233 : decode cL_isSo 233 = .ok (.iconst 1, 1) := by decide +kernel
theorem dL_isSo_234 : decode cL_isSo 234 = .ok (.iload 13, 2) := by decide +kernel
theorem dL_isSo_236 : decode cL_isSo 236 = .ok (.ishl, 1) := by decide +kernel
theorem dL_isSo_237 : decode cL_isSo 237 = .ok (.goto 4, 3) := by decide +kernel
theorem dL_isSo_240 : decode cL_isSo 240 = .ok (.iconst 0, 1) := by decide +kernel
theorem dL_isSo_241 : decode cL_isSo 241 = .ok (.ior, 1) := by decide +kernel
theorem dL_isSo_242 : decode cL_isSo 242 = .ok (.istore 10, 2) := by decide +kernel
theorem dL_isSo_244 : decode cL_isSo 244 = .ok (.iload 11, 2) := by decide +kernel
theorem dL_isSo_246 : decode cL_isSo 246 = .ok (.iload 14, 2) := by decide +kernel
theorem dL_isSo_248 : decode cL_isSo 248 = .ok (.iconst 1, 1) := by decide +kernel
theorem dL_isSo_249 : decode cL_isSo 249 = .ok (.if_icmp .le 10, 3) := by decide +kernel
theorem dL_isSo_252 : decode cL_isSo 252 = .ok (.iconst 1, 1) := by decide +kernel
theorem dL_isSo_253 : decode cL_isSo 253 = .ok (.iload 13, 2) := by decide +kernel
theorem dL_isSo_255 : decode cL_isSo 255 = .ok (.ishl, 1) := by decide +kernel
theorem dL_isSo_256 : decode cL_isSo 256 = .ok (.goto 4, 3) := by decide +kernel
theorem dL_isSo_259 : decode cL_isSo 259 = .ok (.iconst 0, 1) := by decide +kernel
theorem dL_isSo_260 : decode cL_isSo 260 = .ok (.ior, 1) := by decide +kernel
theorem dL_isSo_261 : decode cL_isSo 261 = .ok (.istore 11, 2) := by decide +kernel
theorem dL_isSo_263 : decode cL_isSo 263 = .ok (.iload 14, 2) := by decide +kernel
theorem dL_isSo_265 : decode cL_isSo 265 = .ok (.ifCond .le 17, 3) := by decide +kernel
theorem dL_isSo_268 : decode cL_isSo 268 = .ok (.aload 12, 2) := by decide +kernel
theorem dL_isSo_270 : decode cL_isSo 270 = .ok (.aload_n 0, 1) := by decide +kernel
theorem dL_isSo_271 : decode cL_isSo 271 = .ok (.iload 13, 2) := by decide +kernel
theorem dL_isSo_273 : decode cL_isSo 273 = .ok (.iconst 0, 1) := by decide +kernel
theorem dL_isSo_274 : decode cL_isSo 274 = .ok (.invokevirtual 56, 3) := by decide +kernel
theorem dL_isSo_277 : decode cL_isSo 277 = .ok (.dup2, 1) := by decide +kernel
theorem dL_isSo_278 : decode cL_isSo 278 = .ok (.iaload, 1) := by decide +kernel
theorem dL_isSo_279 : decode cL_isSo 279 = .ok (.iconst 1, 1) := by decide +kernel
theorem dL_isSo_280 : decode cL_isSo 280 = .ok (.iadd, 1) := by decide +kernel
theorem dL_isSo_281 : decode cL_isSo 281 = .ok (.iastore, 1) := by decide +kernel
theorem dL_isSo_282 : decode cL_isSo 282 = .ok (.iload 16, 2) := by decide +kernel
theorem dL_isSo_284 : decode cL_isSo 284 = .ok (.iconst 3, 1) := by decide +kernel
theorem dL_isSo_285 : decode cL_isSo 285 = .ok (.if_icmp .gt 88, 3) := by decide +kernel
theorem dL_isSo_288 : decode cL_isSo 288 = .ok (.iload 15, 2) := by decide +kernel
theorem dL_isSo_290 : decode cL_isSo 290 = .ok (.aload_n 0, 1) := by decide +kernel
theorem dL_isSo_291 : decode cL_isSo 291 = .ok (.iload 13, 2) := by decide +kernel
theorem dL_isSo_293 : decode cL_isSo 293 = .ok (.bipush 9, 2) := by decide +kernel
theorem dL_isSo_295 : decode cL_isSo 295 = .ok (.invokevirtual 56, 3) := by decide +kernel
theorem dL_isSo_298 : decode cL_isSo 298 = .ok (.if_icmp .ne 75, 3) := by decide +kernel
theorem dL_isSo_301 : decode cL_isSo 301 = .ok (.iload 15, 2) := by decide +kernel
theorem dL_isSo_303 : decode cL_isSo 303 = .ok (.ifCond .ne 14, 3) := by decide +kernel
theorem dL_isSo_306 : decode cL_isSo 306 = .ok (.aload_n 0, 1) := by decide +kernel
theorem dL_isSo_307 : decode cL_isSo 307 = .ok (.iload 13, 2) := by decide +kernel
theorem dL_isSo_309 : decode cL_isSo 309 = .ok (.bipush 8, 2) := by decide +kernel
theorem dL_isSo_311 : decode cL_isSo 311 = .ok (.invokevirtual 56, 3) := by decide +kernel
theorem dL_isSo_314 : decode cL_isSo 314 = .ok (.ifCond .ne 59, 3) := by decide +kernel
theorem dL_isSo_317 : decode cL_isSo 317 = .ok (.iload 14, 2) := by decide +kernel
theorem dL_isSo_319 : decode cL_isSo 319 = .ok (.ifCond .le 14, 3) := by decide +kernel
theorem dL_isSo_322 : decode cL_isSo 322 = .ok (.aload_n 0, 1) := by decide +kernel
theorem dL_isSo_323 : decode cL_isSo 323 = .ok (.iload 13, 2) := by decide +kernel
theorem dL_isSo_325 : decode cL_isSo 325 = .ok (.bipush 6, 2) := by decide +kernel
theorem dL_isSo_327 : decode cL_isSo 327 = .ok (.invokevirtual 56, 3) := by decide +kernel
theorem dL_isSo_330 : decode cL_isSo 330 = .ok (.ifCond .eq 43, 3) := by decide +kernel
theorem dL_isSo_333 : decode cL_isSo 333 = .ok (.iload 14, 2) := by decide +kernel
theorem dL_isSo_335 : decode cL_isSo 335 = .ok (.iconst 3, 1) := by decide +kernel
theorem dL_isSo_336 : decode cL_isSo 336 = .ok (.if_icmp .ne 7, 3) := by decide +kernel
theorem dL_isSo_339 : decode cL_isSo 339 = .ok (.iconst 1, 1) := by decide +kernel
theorem dL_isSo_340 : decode cL_isSo 340 = .ok (.goto 4, 3) := by decide +kernel
theorem dL_isSo_343 : decode cL_isSo 343 = .ok (.iconst 0, 1) := by decide +kernel
theorem dL_isSo_344 : decode cL_isSo 344 = .ok (.aload_n 0, 1) := by decide +kernel
theorem dL_isSo_345 : decode cL_isSo 345 = .ok (.bipush 9, 2) := by decide +kernel
theorem dL_isSo_347 : decode cL_isSo 347 = .ok (.invokevirtual 30, 3) := by decide +kernel
theorem dL_isSo_350 : decode cL_isSo 350 = .ok (.iload 13, 2) := by decide +kernel
theorem dL_isSo_352 : decode cL_isSo 352 = .ok (.if_icmp .ne 7, 3) := by decide +kernel
theorem dL_isSo_355 : decode cL_isSo 355 = .ok (.iconst 1, 1) := by decide +kernel
theorem dL_isSo_356 : decode cL_isSo 356 = .ok (.goto 4, 3) := by decide +kernel
theorem dL_isSo_359 : decode cL_isSo 359 = .ok (.iconst 0, 1) := by decide +kernel
theorem dL_isSo_360 : decode cL_isSo 360 = .ok (.if_icmp .ne 13, 3) := by decide +kernel
theorem dL_isSo_363 : decode cL_isSo 363 = .ok (.aload_n 0, 1) := by decide +kernel
theorem dL_isSo_364 : decode cL_isSo 364 = .ok (.iload 13, 2) := by decide +kernel
theorem dL_isSo_366 : decode cL_isSo 366 = .ok (.iconst 2, 1) := by decide +kernel
theorem dL_isSo_367 : decode cL_isSo 367 = .ok (.invokevirtual 56, 3) := by decide +kernel
theorem dL_isSo_370 : decode cL_isSo 370 = .ok (.ifCond .ge 5, 3) := by decide +kernel
theorem dL_isSo_373 : decode cL_isSo 373 = .ok (.iconst 0, 1) := by decide +kernel
theorem dL_isSo_374 : decode cL_isSo 374 = .ok (.ireturn, 1) := by decide +kernel
theorem dL_isSo_375 : decode cL_isSo 375 = .ok (.aload_n 0, 1) := by decide +kernel
theorem dL_isSo_376 : decode cL_isSo 376 = .ok (.iload 13, 2) := by decide +kernel
theorem dL_isSo_378 : decode cL_isSo 378 = .ok (.invokevirtual 98, 3) := by decide +kernel
theorem dL_isSo_381 : decode cL_isSo 381 = .ok (.iload 13, 2) := by decide +kernel
theorem dL_isSo_383 : decode cL_isSo 383 = .ok (.if_icmp .eq 19, 3) := by decide +kernel
theorem dL_isSo_386 : decode cL_isSo 386 = .ok (.iload 14, 2) := by decide +kernel
theorem dL_isSo_388 : decode cL_isSo 388 = .ok (.iconst 2, 1) := by decide +kernel
theorem dL_isSo_389 : decode cL_isSo 389 = .ok (.if_icmp .ge 15, 3) := by decide +kernel
theorem dL_isSo_392 : decode cL_isSo 392 = .ok (.aload_n 0, 1) := by decide +kernel
theorem dL_isSo_393 : decode cL_isSo 393 = .ok (.iload 13, 2) := by decide +kernel
theorem dL_isSo_395 : decode cL_isSo 395 = .ok (.invokevirtual 98, 3) := by decide +kernel
theorem dL_isSo_398 : decode cL_isSo 398 = .ok (.iconst (-1), 1) := by decide +kernel
