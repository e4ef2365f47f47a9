theorem dL_law_1442 : decode cL_law 1442 = .ok (.aload_n 1, 1) := by decide +kernel
theorem dL_law_1443 : decode cL_law 1443 = .ok (.aload_n 0, 1) := by decide +kernel
theorem dL_law_1444 : decode cL_law 1444 = .ok (.iload_n 3, 1) := by decide +kernel
theorem dL_law_1445 : decode cL_law 1445 = .ok (.iconst 1, 1) := by decide +kernel
theorem dL_law_1446 : decode cL_law 1446 = .ok (.iadd, 1) := by decide +kernel
theorem dL_law_1447 : decode cL_law 1447 = .ok (.iaload, 1) := by decide +kernel
theorem dL_law_1448 : decode cL_law 1448 = .ok (.aload_n 0, 1) := by decide +kernel
theorem dL_law_1449 : decode cL_law 1449 = .ok (.iload_n 3, 1) := by decide +kernel
theorem dL_law_1450 : decode cL_law 1450 = .ok (.iconst 2, 1) := by decide +kernel
theorem dL_law_1451 : decode cL_law 1451 = .ok (.iadd, 1) := by decide +kernel
theorem dL_law_1452 : decode cL_law 1452 = .ok (.iaload, 1) := by decide +kernel
theorem dL_law_1453 : decode cL_law 1453 = .ok (.aload_n 0, 1) := by decide +kernel
theorem dL_law_1454 : decode cL_law 1454 = .ok (.iload_n 3, 1) := by decide +kernel
theorem dL_law_1455 : decode cL_law 1455 = .ok (.iconst 3, 1) := by decide +kernel
theorem dL_law_1456 : decode cL_law 1456 = .ok (.iadd, 1) := by decide +kernel
theorem dL_law_1457 : decode cL_law 1457 = .ok (.iaload, 1) := by decide +kernel
theorem dL_law_1458 : decode cL_law 1458 = .ok (.invokevirtual 162, 3) := by decide +kernel
theorem dL_law_1461 : decode cL_law 1461 = .ok (.aload_n 2, 1) := by decide +kernel
theorem dL_law_1462 : decode cL_law 1462 = .ok (.aload_n 0, 1) := by decide +kernel
theorem dL_law_1463 : decode cL_law 1463 = .ok (.iload_n 3, 1) := by decide +kernel
theorem dL_law_1464 : decode cL_law 1464 = .ok (.iconst 1, 1) := by decide +kernel
theorem dL_law_1465 : decode cL_law 1465 = .ok (.iadd, 1) := by decide +kernel
theorem dL_law_1466 : decode cL_law 1466 = .ok (.iaload, 1) := by decide +kernel
theorem dL_law_1467 : decode cL_law 1467 = .ok (.aload_n 0, 1) := by decide +kernel
theorem dL_law_1468 : decode cL_law 1468 = .ok (.iload_n 3, 1) := by decide +kernel
theorem dL_law_1469 : decode cL_law 1469 = .ok (.iconst 2, 1) := by decide +kernel
theorem dL_law_1470 : decode cL_law 1470 = .ok (.iadd, 1) := by decide +kernel
theorem dL_law_1471 : decode cL_law 1471 = .ok (.iaload, 1) := by decide +kernel
theorem dL_law_1472 : decode cL_law 1472 = .ok (.aload_n 0, 1) := by decide +kernel
theorem dL_law_1473 : decode cL_law 1473 = .ok (.iload_n 3, 1) := by decide +kernel
theorem dL_law_1474 : decode cL_law 1474 = .ok (.iconst 3, 1) := by decide +kernel
theorem dL_law_1475 : decode cL_law 1475 = .ok (.iadd, 1) := by decide +kernel
theorem dL_law_1476 : decode cL_law 1476 = .ok (.iaload, 1) := by decide +kernel
theorem dL_law_1477 : decode cL_law 1477 = .ok (.invokevirtual 165, 3) := by decide +kernel
theorem dL_law_1480 : decode cL_law 1480 = .ok (.if_icmp .eq 576, 3) := by decide +kernel
theorem dL_law_1485 : decode cL_law 1485 = .ok (.aload_n 1, 1) := by decide +kernel
theorem dL_law_1486 : decode cL_law 1486 = .ok (.aload_n 0, 1) := by decide +kernel
theorem dL_law_1487 : decode cL_law 1487 = .ok (.iload_n 3, 1) := by decide +kernel
theorem dL_law_1488 : decode cL_law 1488 = .ok (.iconst 1, 1) := by decide +kernel
theorem dL_law_1489 : decode cL_law 1489 = .ok (.iadd, 1) := by decide +kernel
theorem dL_law_1490 : decode cL_law 1490 = .ok (.iaload, 1) := by decide +kernel
theorem dL_law_1491 : decode cL_law 1491 = .ok (.aload_n 0, 1) := by decide +kernel
theorem dL_law_1492 : decode cL_law 1492 = .ok (.iload_n 3, 1) := by decide +kernel
theorem dL_law_1493 : decode cL_law 1493 = .ok (.iconst 2, 1) := by decide +kernel
theorem dL_law_1494 : decode cL_law 1494 = .ok (.iadd, 1) := by decide +kernel
theorem dL_law_1495 : decode cL_law 1495 = .ok (.iaload, 1) := by decide +kernel
theorem dL_law_1496 : decode cL_law 1496 = .ok (.aload_n 0, 1) := by decide +kernel
theorem dL_law_1497 : decode cL_law 1497 = .ok (.iload_n 3, 1) := by decide +kernel
theorem dL_law_1498 : decode cL_law 1498 = .ok (.iconst 3, 1) := by decide +kernel
theorem dL_law_1499 : decode cL_law 1499 = .ok (.iadd, 1) := by decide +kernel
theorem dL_law_1500 : decode cL_law 1500 = .ok (.iaload, 1) := by decide +kernel
theorem dL_law_1501 : decode cL_law 1501 = .ok (.invokevirtual 166, 3) := by decide +kernel
theorem dL_law_1504 : decode cL_law 1504 = .ok (.aload_n 2, 1) := by decide +kernel
theorem dL_law_1505 : decode cL_law 1505 = .ok (.aload_n 0, 1) := by decide +kernel
theorem dL_law_1506 : decode cL_law 1506 = .ok (.iload_n 3, 1) := by decide +kernel
theorem dL_law_1507 : decode cL_law 1507 = .ok (.iconst 1, 1) := by decide +kernel
theorem dL_law_1508 : decode cL_law 1508 = .ok (.iadd, 1) := by decide +kernel
theorem dL_law_1509 : decode cL_law 1509 = .ok (.iaload, 1) := by decide +kernel
theorem dL_law_1510 : decode cL_law 1510 = .ok (.aload_n 0, 1) := by decide +kernel
theorem dL_law_1511 : decode cL_law 1511 = .ok (.iload_n 3, 1) := by decide +kernel
theorem dL_law_1512 : decode cL_law 1512 = .ok (.iconst 2, 1) := by decide +kernel
theorem dL_law_1513 : decode cL_law 1513 = .ok (.iadd, 1) := by decide +kernel
theorem dL_law_1514 : decode cL_law 1514 = .ok (.iaload, 1) := by decide +kernel
theorem dL_law_1515 : decode cL_law 1515 = .ok (.aload_n 0, 1) := by decide +kernel
theorem dL_law_1516 : decode cL_law 1516 = .ok (.iload_n 3, 1) := by decide +kernel
theorem dL_law_1517 : decode cL_law 1517 = .ok (.iconst 3, 1) := by decide +kernel
theorem dL_law_1518 : decode cL_law 1518 = .ok (.iadd, 1) := by decide +kernel
theorem dL_law_1519 : decode cL_law 1519 = .ok (.iaload, 1) := by decide +kernel
theorem dL_law_1520 : decode cL_law 1520 = .ok (.invokevirtual 169, 3) := by decide +kernel
theorem dL_law_1523 : decode cL_law 1523 = .ok (.if_icmp .eq 533, 3) := by decide +kernel
theorem dL_law_1528 : decode cL_law 1528 = .ok (.aload_n 1, 1) := by decide +kernel
theorem dL_law_1529 : decode cL_law 1529 = .ok (.aload_n 0, 1) := by decide +kernel
theorem dL_law_1530 : decode cL_law 1530 = .ok (.iload_n 3, 1) := by decide +kernel
theorem dL_law_1531 : decode cL_law 1531 = .ok (.iconst 1, 1) := by decide +kernel
theorem dL_law_1532 : decode cL_law 1532 = .ok (.iadd, 1) := by decide +kernel
theorem dL_law_1533 : decode cL_law 1533 = .ok (.iaload, 1) := by decide +kernel
theorem dL_law_1534 : decode cL_law 1534 = .ok (.aload_n 0, 1) := by decide +kernel
theorem dL_law_1535 : decode cL_law 1535 = .ok (.iload_n 3, 1) := by decide +kernel
theorem dL_law_1536 : decode cL_law 1536 = .ok (.iconst 2, 1) := by decide +kernel
theorem dL_law_1537 : decode cL_law 1537 = .ok (.iadd, 1) := by decide +kernel
theorem dL_law_1538 : decode cL_law 1538 = .ok (.iaload, 1) := by decide +kernel
theorem dL_law_1539 : decode cL_law 1539 = .ok (.invokevirtual 170, 3) := by decide +kernel
theorem dL_law_1542 : decode cL_law 1542 = .ok (.aload_n 2, 1) := by decide +kernel
theorem dL_law_1543 : decode cL_law 1543 = .ok (.aload_n 0, 1) := by decide +kernel
theorem dL_law_1544 : decode cL_law 1544 = .ok (.iload_n 3, 1) := by decide +kernel
theorem dL_law_1545 : decode cL_law 1545 = .ok (.iconst 1, 1) := by decide +kernel
theorem dL_law_1546 : decode cL_law 1546 = .ok (.iadd, 1) := by decide +kernel
theorem dL_law_1547 : decode cL_law 1547 = .ok (.iaload, 1) := by decide +kernel
theorem dL_law_1548 : decode cL_law 1548 = .ok (.aload_n 0, 1) := by decide +kernel
theorem dL_law_1549 : decode cL_law 1549 = .ok (.iload_n 3, 1) := by decide +kernel
theorem dL_law_1550 : decode cL_law 1550 = .ok (.iconst 2, 1) := by decide +kernel
theorem dL_law_1551 : decode cL_law 1551 = .ok (.iadd, 1) := by decide +kernel
theorem dL_law_1552 : decode cL_law 1552 = .ok (.iaload, 1) := by decide +kernel
theorem dL_law_1553 : decode cL_law 1553 = .ok (.invokevirtual 173, 3) := by decide +kernel
theorem dL_law_1556 : decode cL_law 1556 = .ok (.if_icmp .eq 500, 3) := by decide +kernel
theorem dL_law_1561 : decode cL_law 1561 = .ok (.aload_n 1, 1) := by decide +kernel
theorem dL_law_1562 : decode cL_law 1562 = .ok (.aload_n 0, 1) := by decide +kernel
theorem dL_law_1563 : decode cL_law 1563 = .ok (.iload_n 3, 1) := by decide +kernel
theorem dL_law_1564 : decode cL_law 1564 = .ok (.iconst 1, 1) := by decide +kernel
theorem dL_law_1565 : decode cL_law 1565 = .ok (.iadd, 1) := by decide +kernel
theorem dL_law_1566 : decode cL_law 1566 = .ok (.iaload, 1) := by decide +kernel
theorem dL_law_1567 : decode cL_law 1567 = .ok (.invokevirtual 174, 3) := by decide +kernel
theorem dL_law_1570 : decode cL_law 1570 = .ok (.aload_n 2, 1) := by decide +kernel
theorem dL_law_1571 : decode cL_law 1571 = .ok (.aload_n 0, 1) := by decide +kernel
theorem dL_law_1572 : decode cL_law 1572 = .ok (.iload_n 3, 1) := by decide +kernel
theorem dL_law_1573 : decode cL_law 1573 = .ok (.iconst 1, 1) := by decide +kernel
theorem dL_law_1574 : decode cL_law 1574 = .ok (.iadd, 1) := by decide +kernel
theorem dL_law_1575 : decode cL_law 1575 = .ok (.iaload, 1) := by decide +kernel
theorem dL_law_1576 : decode cL_law 1576 = .ok (.invokevirtual 177, 3) := by decide +kernel
theorem dL_law_1579 : decode cL_law 1579 = .ok (.if_icmp .eq 477, 3) := by decide +kernel
theorem dL_law_1584 : decode cL_law 1584 = .ok (.aload_n 1, 1) := by decide +kernel
theorem dL_law_1585 : decode cL_law 1585 = .ok (.aload_n 0, 1) := by decide +kernel
theorem dL_law_1586 : decode cL_law 1586 = .ok (.iload_n 3, 1) := by decide +kernel
theorem dL_law_1587 : decode cL_law 1587 = .ok (.iconst 1, 1) := by decide +kernel
theorem dL_law_1588 : decode cL_law 1588 = .ok (.iadd, 1) := by decide +kernel
theorem dL_law_1589 : decode cL_law 1589 = .ok (.iaload, 1) := by decide +kernel
theorem dL_law_1590 : decode cL_law 1590 = .ok (.aload_n 0, 1) := by decide +kernel
theorem dL_law_1591 : decode cL_law 1591 = .ok (.iload_n 3, 1) := by decide +kernel
theorem dL_law_1592 : decode cL_law 1592 = .ok (.iconst 2, 1) := by decide +kernel
theorem dL_law_1593 : decode cL_law 1593 = .ok (.iadd, 1) := by decide +kernel
theorem dL_law_1594 : decode cL_law 1594 = .ok (.iaload, 1) := by decide +kernel
theorem dL_law_1595 : decode cL_law 1595 = .ok (.invokevirtual 178, 3) := by decide +kernel
theorem dL_law_1598 : decode cL_law 1598 = .ok (.aload_n 2, 1) := by decide +kernel
theorem dL_law_1599 : decode cL_law 1599 = .ok (.aload_n 0, 1) := by decide +kernel
theorem dL_law_1600 : decode cL_law 1600 = .ok (.iload_n 3, 1) := by decide +kernel
theorem dL_law_1601 : decode cL_law 1601 = .ok (.iconst 1, 1) := by decide +kernel
theorem dL_law_1602 : decode cL_law 1602 = .ok (.iadd, 1) := by decide +kernel
theorem dL_law_1603 : decode cL_law 1603 = .ok (.iaload, 1) := by decide +kernel
theorem dL_law_1604 : decode cL_law 1604 = .ok (.aload_n 0, 1) := by decide +kernel
theorem dL_law_1605 : decode cL_law 1605 = .ok (.iload_n 3, 1) := by decide +kernel
theorem dL_law_1606 : decode cL_law 1606 = .ok (.iconst 2, 1) := by decide +kernel
theorem dL_law_1607 : decode cL_law 1607 = .ok (.iadd, 1) := by decide +kernel
theorem dL_law_1608 : decode cL_law 1608 = .ok (.iaload, 1) := by decide +kernel
theorem dL_law_1609 : decode cL_law 1609 = .ok (.invokevirtual 181, 3) := by decide +kernel
theorem dL_law_1612 : decode cL_law 1612 = .ok (.if_icmp .eq 444, 3) := by decide +kernel
theorem dL_law_1617 : decode cL_law 1617 = .ok (.aload_n 1, 1) := by decide +kernel
theorem dL_law_1618 : decode cL_law 1618 = .ok (.aload_n 0, 1) := by decide +kernel
theorem dL_law_1619 : decode cL_law 1619 = .ok (.iload_n 3, 1) := by decide +kernel
theorem dL_law_1620 : decode cL_law 1620 = .ok (.iconst 1, 1) := by decide +kernel
theorem dL_law_1621 : decode cL_law 1621 = .ok (.iadd, 1) := by decide +kernel
theorem dL_law_1622 : decode cL_law 1622 = .ok (.iaload, 1) := by decide +kernel
theorem dL_law_1623 : decode cL_law 1623 = .ok (.aload_n 0, 1) := by decide +kernel
theorem dL_law_1624 : decode cL_law 1624 = .ok (.iload_n 3, 1) := by decide +kernel
theorem dL_law_1625 : decode cL_law 1625 = .ok (.iconst 2, 1) := by decide +kernel
theorem dL_law_1626 : decode cL_law 1626 = .ok (.iadd, 1) := by decide +kernel
theorem dL_law_1627 : decode cL_law 1627 = .ok (.iaload, 1) := by decide +kernel
theorem dL_law_1628 : decode cL_law 1628 = .ok (.invokevirtual 182, 3) := by decide +kernel
theorem dL_law_1631 : decode cL_law 1631 = .ok (.aload_n 2, 1) := by decide +kernel
theorem dL_law_1632 : decode cL_law 1632 = .ok (.aload_n 0, 1) := by decide +kernel
theorem dL_law_1633 : decode cL_law 1633 = .ok (.iload_n 3, 1) := by decide +kernel
theorem dL_law_1634 : decode cL_law 1634 = .ok (.iconst 1, 1) := by decide +kernel
theorem dL_law_1635 : decode cL_law 1635 = .ok (.iadd, 1) := by decide +kernel
theorem dL_law_1636 : decode cL_law 1636 = .ok (.iaload, 1) := by decide +kernel
theorem dL_law_1637 : decode cL_law 1637 = .ok (.aload_n 0, 1) := by decide +kernel
theorem dL_law_1638 : decode cL_law 1638 = .ok (.iload_n 3, 1) := by decide +kernel
theorem dL_law_1639 : decode cL_law 1639 = .ok (.iconst 2, 1) := by decide +kernel
theorem dL_law_1640 : decode cL_law 1640 = .ok (.iadd, 1) := by decide +kernel
theorem dL_law_1641 : decode cL_law 1641 = .ok (.iaload, 1) := by decide +kernel
theorem dL_law_1642 : decode cL_law 1642 = .ok (.invokevirtual 185, 3) := by decide +kernel
theorem dL_law_1645 : decode cL_law 1645 = .ok (.if_icmp .eq 411, 3) := by decide +kernel
theorem dL_law_1650 : decode cL_law 1650 = .ok (.aload_n 1, 1) := by decide +kernel
theorem dL_law_1651 : decode cL_law 1651 = .ok (.aload_n 0, 1) := by decide +kernel
theorem dL_law_1652 : decode cL_law 1652 = .ok (.iload_n 3, 1) := by decide +kernel
theorem dL_law_1653 : decode cL_law 1653 = .ok (.iconst 1, 1) := by decide +kernel
theorem dL_law_1654 : decode cL_law 1654 = .ok (.iadd, 1) := by decide +kernel
theorem dL_law_1655 : decode cL_law 1655 = .ok (.iaload, 1) := by decide +kernel
theorem dL_law_1656 : decode cL_law 1656 = .ok (.aload_n 0, 1) := by decide +kernel
theorem dL_law_1657 : decode cL_law 1657 = .ok (.iload_n 3, 1) := by decide +kernel
theorem dL_law_1658 : decode cL_law 1658 = .ok (.iconst 2, 1) := by decide +kernel
theorem dL_law_1659 : decode cL_law 1659 = .ok (.iadd, 1) := by decide +kernel
theorem dL_law_1660 : decode cL_law 1660 = .ok (.iaload, 1) := by decide +kernel
theorem dL_law_1661 : decode cL_law 1661 = .ok (.aload_n 0, 1) := by decide +kernel
theorem dL_law_1662 : decode cL_law 1662 = .ok (.iload_n 3, 1) := by decide +kernel
theorem dL_law_1663 : decode cL_law 1663 = .ok (.iconst 3, 1) := by decide +kernel
theorem dL_law_1664 : decode cL_law 1664 = .ok (.iadd, 1) := by decide +kernel
theorem dL_law_1665 : decode cL_law 1665 = .ok (.iaload, 1) := by decide +kernel
theorem dL_law_1666 : decode cL_law 1666 = .ok (.aload_n 0, 1) := by decide +kernel
theorem dL_law_1667 : decode cL_law 1667 = .ok (.iload_n 3, 1) := by decide +kernel
theorem dL_law_1668 : decode cL_law 1668 = .ok (.iconst 4, 1) := by decide +kernel
theorem dL_law_1669 : decode cL_law 1669 = .ok (.iadd, 1) := by decide +kernel
theorem dL_law_1670 : decode cL_law 1670 = .ok (.iaload, 1) := by decide +kernel
theorem dL_law_1671 : decode cL_law 1671 = .ok (.invokevirtual 186, 3) := by decide +kernel
theorem dL_law_1674 : decode cL_law 1674 = .ok (.aload_n 2, 1) := by decide +kernel
theorem dL_law_1675 : decode cL_law 1675 = .ok (.aload_n 0, 1) := by decide +kernel
theorem dL_law_1676 : decode cL_law 1676 = .ok (.iload_n 3, 1) := by decide +kernel
theorem dL_law_1677 : decode cL_law 1677 = .ok (.iconst 1, 1) := by decide +kernel
theorem dL_law_1678 : decode cL_law 1678 = .ok (.iadd, 1) := by decide +kernel
theorem dL_law_1679 : decode cL_law 1679 = .ok (.iaload, 1) := by decide +kernel
theorem dL_law_1680 : decode cL_law 1680 = .ok (.aload_n 0, 1) := by decide +kernel
theorem dL_law_1681 : decode cL_law 1681 = .ok (.iload_n 3, 1) := by decide +kernel
theorem dL_law_1682 : decode cL_law 1682 = .ok (.iconst 2, 1) := by decide +kernel
theorem dL_law_1683 : decode cL_law 1683 = .ok (.iadd, 1) := by decide +kernel
theorem dL_law_1684 : decode cL_law 1684 = .ok (.iaload, 1) := by decide +kernel
theorem dL_law_1685 : decode cL_law 1685 = .ok (.aload_n 0, 1) := by decide +kernel
theorem dL_law_1686 : decode cL_law 1686 = .ok (.iload_n 3, 1) := by decide +kernel
theorem dL_law_1687 : decode cL_law 1687 = .ok (.iconst 3, 1) := by decide +kernel
theorem dL_law_1688 : decode cL_law 1688 = .ok (.iadd, 1) := by decide +kernel
theorem dL_law_1689 : decode cL_law 1689 = .ok (.iaload, 1) := by decide +kernel
theorem dL_law_1690 : decode cL_law 1690 = .ok (.aload_n 0, 1) := by decide +kernel
theorem dL_law_1691 : decode cL_law 1691 = .ok (.iload_n 3, 1) := by decide +kernel
theorem dL_law_1692 : decode cL_law 1692 = .ok (.iconst 4, 1) := by decide +kernel
theorem dL_law_1693 : decode cL_law 1693 = .ok (.iadd, 1) := by decide +kernel
theorem dL_law_1694 : decode cL_law 1694 = .ok (.iaload, 1) := by decide +kernel
theorem dL_law_1695 : decode cL_law 1695 = .ok (.invokevirtual 190, 3) := by decide +kernel
theorem dL_law_1698 : decode cL_law 1698 = .ok (.if_icmp .eq 358, 3) := by decide +kernel
theorem dL_law_1703 : decode cL_law 1703 = .ok (.aload_n 1, 1) := by decide +kernel
theorem dL_law_1704 : decode cL_law 1704 = .ok (.aload_n 0, 1) := by decide +kernel
theorem dL_law_1705 : decode cL_law 1705 = .ok (.iload_n 3, 1) := by decide +kernel
theorem dL_law_1706 : decode cL_law 1706 = .ok (.iconst 1, 1) := by decide +kernel
theorem dL_law_1707 : decode cL_law 1707 = .ok (.iadd, 1) := by decide +kernel
theorem dL_law_1708 : decode cL_law 1708 = .ok (.iaload, 1) := by decide +kernel
theorem dL_law_1709 : decode cL_law 1709 = .ok (.invokevirtual 191, 3) := by decide +kernel
theorem dL_law_1712 : decode cL_law 1712 = .ok (.aload_n 2, 1) := by decide +kernel
theorem dL_law_1713 : decode cL_law 1713 = .ok (.aload_n 0, 1) := by decide +kernel
theorem dL_law_1714 : decode cL_law 1714 = .ok (.iload_n 3, 1) := by decide +kernel
theorem dL_law_1715 : decode cL_law 1715 = .ok (.iconst 1, 1) := by decide +kernel
theorem dL_law_1716 : decode cL_law 1716 = .ok (.iadd, 1) := by decide +kernel
theorem dL_law_1717 : decode cL_law 1717 = .ok (.iaload, 1) := by decide +kernel
theorem dL_law_1718 : decode cL_law 1718 = .ok (.invokevirtual 194, 3) := by decide +kernel
theorem dL_law_1721 : decode cL_law 1721 = .ok (.if_icmp .eq 335, 3) := by decide +kernel
theorem dL_law_1726 : decode cL_law 1726 = .ok (.aload_n 1, 1) := by decide +kernel
theorem dL_law_1727 : decode cL_law 1727 = .ok (.aload_n 0, 1) := by decide +kernel
theorem dL_law_1728 : decode cL_law 1728 = .ok (.iload_n 3, 1) := by decide +kernel
theorem dL_law_1729 : decode cL_law 1729 = .ok (.iconst 1, 1) := by decide +kernel
theorem dL_law_1730 : decode cL_law 1730 = .ok (.iadd, 1) := by decide +kernel
theorem dL_law_1731 : decode cL_law 1731 = .ok (.iaload, 1) := by decide +kernel
theorem dL_law_1732 : decode cL_law 1732 = .ok (.aload_n 0, 1) := by decide +kernel
theorem dL_law_1733 : decode cL_law 1733 = .ok (.iload_n 3, 1) := by decide +kernel
theorem dL_law_1734 : decode cL_law 1734 = .ok (.iconst 2, 1) := by decide +kernel
theorem dL_law_1735 : decode cL_law 1735 = .ok (.iadd, 1) := by decide +kernel
theorem dL_law_1736 : decode cL_law 1736 = .ok (.iaload, 1) := by decide +kernel
theorem dL_law_1737 : decode cL_law 1737 = .ok (.invokevirtual 195, 3) := by decide +kernel
theorem dL_law_1740 : decode cL_law 1740 = .ok (.aload_n 2, 1) := by decide +kernel
theorem dL_law_1741 : decode cL_law 1741 = .ok (.aload_n 0, 1) := by decide +kernel
theorem dL_law_1742 : decode cL_law 1742 = .ok (.iload_n 3, 1) := by decide +kernel
theorem dL_law_1743 : decode cL_law 1743 = .ok (.iconst 1, 1) := by decide +kernel
theorem dL_law_1744 : decode cL_law 1744 = .ok (.iadd, 1) := by decide +kernel
theorem dL_law_1745 : decode cL_law 1745 = .ok (.iaload, 1) := by decide +kernel
theorem dL_law_1746 : decode cL_law 1746 = .ok (.aload_n 0, 1) := by decide +kernel
theorem dL_law_1747 : decode cL_law 1747 = .ok (.iload_n 3, 1) := by decide +kernel
theorem dL_law_1748 : decode cL_law 1748 = .ok (.iconst 2, 1) := by decide +kernel
theorem dL_law_1749 : decode cL_law 1749 = .ok (.iadd, 1) := by decide +kernel
theorem dL_law_1750 : decode cL_law 1750 = .ok (.iaload, 1) := by decide +kernel
theorem dL_law_1751 : decode cL_law 1751 = .ok (.invokevirtual 198, 3) := by decide +kernel
theorem dL_law_1754 : decode cL_law 1754 = .ok (.if_icmp .eq 302, 3) := by decide +kernel
set_option maxHeartbeats 4000000 in
set_option maxRecDepth 100000 in
theorem law_c36 {p : Program} {l : Launch} {e : Env} {s : State} {m : MethodId} {below : List Frame} {meth : Method} {c : Code} {dC : Nat → ClassId} {dI : Nat → Nat → Nat} {b : Nat} {xs : Nat → Int32} (C0 : lw_At p s m meth c b 6 xs) {x0 m0 : Nat} {rx rm : Nat → Nat} {k1 : ClassId} {kf : Nat → ClassId} {H : Heap} {locs : List Loc} {ls : Array Slot} (hK : va_K (dC, dI) vwCl (law_T k1 kf) s) (hP : va_P (dC, dI) vwCl (law_W x0 m0 rx rm k1 kf) H) (hD : va_D (fun q : Nat => s.heap.size ≤ q) (law_W x0 m0 rx rm k1 kf)) (hS : va_S (fun q : Nat => s.heap.size ≤ q) s.heap H locs) (hl : lv_has ls 4 [(0, .ref b), (1, .ref x0), (2, .ref m0), (3, .int 0)]) : W p l e room_1 s m #[Value.ref b] below meth c H locs 1000 100000 (lw_Z below #[Value.ref b] s) (F0 m 1442 ls []) := by
  obtain ⟨hx, hb, hr, hml, hown0, hts, hX, hbl, hlocks, hgv⟩ := id C0
  have hown : s.vm.findClass RL = some m.cls := hown0
  have hA : ∀ q : Nat, s.heap.size ≤ q → (fun q : Nat => s.heap.size ≤ q) q := fun _ h => h
  have hbA : ¬ (fun q : Nat => s.heap.size ≤ q) b := Nat.not_le.mpr hbl
  have hK : va_K (dC, dI) vwCl [(k1, .byte), ((kf 0), .int), ((kf 1), .int), ((kf 2), .int), ((kf 3), .int), ((kf 5), .int), ((kf 6), .int), ((kf 7), .int), ((kf 8), .int), ((kf 9), .int), ((kf 10), .int), ((kf 11), .int), ((kf 4), .boolean), ((kf 12), .int), ((kf 13), .int)] s := hK
  have hP : va_P (dC, dI) vwCl [(x0, .inr (11, fsX rx)), ((rx 0), .inr (6, fsR rx)), ((rx 11), .inr (10, fsT rx)), ((rx 13), .inl (k1, 1600, .inl (fun _ => 0))), ((rx 12), .inr (0, fsD rx)), ((rx 1), .inr (0, fsA rx)), (m0, .inr (12, fsM rm)), ((rm 0), .inl ((kf 0), 6, .inl (fun _ => 0))), ((rm 1), .inl ((kf 1), 36, .inl (fun _ => 0))), ((rm 2), .inl ((kf 2), 24, .inl (fun _ => 0))), ((rm 3), .inl ((kf 3), 24, .inl (fun _ => 0))), ((rm 5), .inl ((kf 5), 24, .inl (fun _ => 0))), ((rm 6), .inl ((kf 6), 24, .inl (fun _ => 0))), ((rm 7), .inl ((kf 7), 24, .inl (fun _ => 0))), ((rm 8), .inl ((kf 8), 8, .inl (fun _ => 0))), ((rm 9), .inl ((kf 9), 8, .inl (fun _ => 0))), ((rm 10), .inl ((kf 10), 8, .inl (fun _ => 0))), ((rm 11), .inl ((kf 11), 8, .inl (fun _ => 0))), ((rm 4), .inl ((kf 4), 24, .inl (fun _ => 0))), ((rm 12), .inl ((kf 12), 300, .inl (fun _ => 0))), ((rm 13), .inl ((kf 13), 1600, .inl (fun _ => 0)))] H := hP
  have hD : va_D (fun q : Nat => s.heap.size ≤ q) [(x0, .inr (11, fsX rx)), ((rx 0), .inr (6, fsR rx)), ((rx 11), .inr (10, fsT rx)), ((rx 13), .inl (k1, 1600, .inl (fun _ => 0))), ((rx 12), .inr (0, fsD rx)), ((rx 1), .inr (0, fsA rx)), (m0, .inr (12, fsM rm)), ((rm 0), .inl ((kf 0), 6, .inl (fun _ => 0))), ((rm 1), .inl ((kf 1), 36, .inl (fun _ => 0))), ((rm 2), .inl ((kf 2), 24, .inl (fun _ => 0))), ((rm 3), .inl ((kf 3), 24, .inl (fun _ => 0))), ((rm 5), .inl ((kf 5), 24, .inl (fun _ => 0))), ((rm 6), .inl ((kf 6), 24, .inl (fun _ => 0))), ((rm 7), .inl ((kf 7), 24, .inl (fun _ => 0))), ((rm 8), .inl ((kf 8), 8, .inl (fun _ => 0))), ((rm 9), .inl ((kf 9), 8, .inl (fun _ => 0))), ((rm 10), .inl ((kf 10), 8, .inl (fun _ => 0))), ((rm 11), .inl ((kf 11), 8, .inl (fun _ => 0))), ((rm 4), .inl ((kf 4), 24, .inl (fun _ => 0))), ((rm 12), .inl ((kf 12), 300, .inl (fun _ => 0))), ((rm 13), .inl ((kf 13), 1600, .inl (fun _ => 0)))] := hD
  refine lv_aload_n hx hb dL_law_1442 rfl (lv_at hl 1 rfl) ?_
  refine lv_aload_n hx hb dL_law_1443 rfl (lv_at hl 0 rfl) ?_
  refine lv_iload_n hx hb dL_law_1444 rfl (lv_at hl 3 rfl) ?_
  refine lv_iconst (v := 1) hx hb dL_law_1445 (by decide) ?_
  refine lv_iadd hx hb dL_law_1446 ?_
  refine gz_topi (y := 1) (by decide) ?_
  refine va_sld hx hb hX hbl hbA hS (by unfold vp_in; decide) dL_law_1447 ?_
  refine gz_topi (y := xs 1) (congrArg xs (by decide)) ?_
  refine lv_aload_n hx hb dL_law_1448 rfl (lv_at hl 0 rfl) ?_
  refine lv_iload_n hx hb dL_law_1449 rfl (lv_at hl 3 rfl) ?_
  refine lv_iconst (v := 2) hx hb dL_law_1450 (by decide) ?_
  refine lv_iadd hx hb dL_law_1451 ?_
  refine gz_topi (y := 2) (by decide) ?_
  refine va_sld hx hb hX hbl hbA hS (by unfold vp_in; decide) dL_law_1452 ?_
  refine gz_topi (y := xs 2) (congrArg xs (by decide)) ?_
  refine lv_aload_n hx hb dL_law_1453 rfl (lv_at hl 0 rfl) ?_
  refine lv_iload_n hx hb dL_law_1454 rfl (lv_at hl 3 rfl) ?_
  refine lv_iconst (v := 3) hx hb dL_law_1455 (by decide) ?_
  refine lv_iadd hx hb dL_law_1456 ?_
  refine gz_topi (y := 3) (by decide) ?_
  refine va_sld hx hb hX hbl hbA hS (by unfold vp_in; decide) dL_law_1457 ?_
  refine gz_topi (y := xs 3) (congrArg xs (by decide)) ?_
  have hPc := hP.sub (ws' := [(x0, .inr (11, fsX rx)), ((rx 1), .inr (0, fsA rx))]) [0, 5] rfl
  have hKc := hK.sub (tys' := []) [] rfl
  refine va_calli (va_runV (As := [.int (xs 1), .int (xs 2), .int (xs 3)]) (rest := []) ⟨hx, hb, hml, hown, hts⟩ (fX11_own l dC dI x0 rx (xs 1) (xs 2) (xs 3)) (cwV 3 hts (gz_lV lm_291 lm_292 lm_293 lm_4 lm_290 lwGA goodGA) rfl rfl rfl (by decide +kernel) ⟨Nat.le_of_ble_eq_true rfl, Nat.le_of_ble_eq_true rfl⟩) ⟨fun a U g mk q => by obtain ⟨q0, qP, qK⟩ := q; exact ⟨q0, qP, va_K.moved (u := U) (U := U.calling g mk a) (Vm.Alike.refl U.vm) qK⟩, va_recv hKc hPc (ci := 11) (q0 := 0) rfl rfl, fun U hU hW => ⟨rfl, by rw [hU]; exact hPc, va_K.moved hW.alike hKc⟩⟩ rfl rfl hl.1 rfl (lv_room (Nat.le_of_ble_eq_true rfl)) dL_law_1458 ⟨Nat.le_of_ble_eq_true rfl, Nat.le_of_ble_eq_true rfl⟩) hS (fun q _ h => h.elim) (fun q h => h.elim) (fun r_1 u t H1 locs ht hvm hw hB hz1 hk1 hS => ?_)
  have hP := gz_keep hP hk1
  generalize H1 = H at hP hS ⊢
  subst hw
  refine lv_aload_n hx hb dL_law_1461 rfl (lv_at hl 2 rfl) ?_
  refine lv_aload_n hx hb dL_law_1462 rfl (lv_at hl 0 rfl) ?_
  refine lv_iload_n hx hb dL_law_1463 rfl (lv_at hl 3 rfl) ?_
  refine lv_iconst (v := 1) hx hb dL_law_1464 (by decide) ?_
  refine lv_iadd hx hb dL_law_1465 ?_
  refine gz_topi (y := 1) (by decide) ?_
  refine va_sld hx hb hX hbl hbA hS (by unfold vp_in; decide) dL_law_1466 ?_
  refine gz_topi (y := xs 1) (congrArg xs (by decide)) ?_
  refine lv_aload_n hx hb dL_law_1467 rfl (lv_at hl 0 rfl) ?_
  refine lv_iload_n hx hb dL_law_1468 rfl (lv_at hl 3 rfl) ?_
  refine lv_iconst (v := 2) hx hb dL_law_1469 (by decide) ?_
  refine lv_iadd hx hb dL_law_1470 ?_
  refine gz_topi (y := 2) (by decide) ?_
  refine va_sld hx hb hX hbl hbA hS (by unfold vp_in; decide) dL_law_1471 ?_
  refine gz_topi (y := xs 2) (congrArg xs (by decide)) ?_
  refine lv_aload_n hx hb dL_law_1472 rfl (lv_at hl 0 rfl) ?_
  refine lv_iload_n hx hb dL_law_1473 rfl (lv_at hl 3 rfl) ?_
  refine lv_iconst (v := 3) hx hb dL_law_1474 (by decide) ?_
  refine lv_iadd hx hb dL_law_1475 ?_
  refine gz_topi (y := 3) (by decide) ?_
  refine va_sld hx hb hX hbl hbA hS (by unfold vp_in; decide) dL_law_1476 ?_
  refine gz_topi (y := xs 3) (congrArg xs (by decide)) ?_
  have hPc := hP.sub (ws' := [(m0, .inr (12, fsM rm))]) [6] rfl
  have hKc := hK.sub (tys' := []) [] rfl
  refine va_calli (va_runV (As := [.int (xs 1), .int (xs 2), .int (xs 3)]) (rest := [.int (-2)]) ⟨hx, hb, hml, hown, hts⟩ (fX12_own l dC dI m0 rm (xs 1) (xs 2) (xs 3)) (cwV 3 hts (gz_lV lm_295 lm_296 lm_297 lm_9 lm_294 lwGB goodGB) rfl rfl rfl (by decide +kernel) ⟨Nat.le_of_ble_eq_true rfl, Nat.le_of_ble_eq_true rfl⟩) ⟨fun a U g mk q => by obtain ⟨q0, qP, qK⟩ := q; exact ⟨q0, qP, va_K.moved (u := U) (U := U.calling g mk a) (Vm.Alike.refl U.vm) qK⟩, va_recv hKc hPc (ci := 12) (q0 := 0) rfl rfl, fun U hU hW => ⟨rfl, by rw [hU]; exact hPc, va_K.moved hW.alike hKc⟩⟩ rfl rfl hl.1 rfl (lv_room (Nat.le_of_ble_eq_true rfl)) dL_law_1477 ⟨Nat.le_of_ble_eq_true rfl, Nat.le_of_ble_eq_true rfl⟩) hS (fun q _ h => h.elim) (fun q h => h.elim) (fun r_2 u t H1 locs ht hvm hw hB hz1 hk1 hS => ?_)
  have hP := gz_keep hP hk1
  generalize H1 = H at hP hS ⊢
  subst hw
  refine lv_icmp_eq (tgt := 2056) hx hb dL_law_1480 (by decide) (fun c_3 => ?_) (fun c_3 => absurd (by decide) c_3)
  exact law_tail C0 (Nat.le_of_ble_eq_true rfl) (Nat.le_of_ble_eq_true rfl) hS (lv_sub hl [0, 3] rfl)
set_option maxHeartbeats 4000000 in
set_option maxRecDepth 100000 in
theorem law_c37 {p : Program} {l : Launch} {e : Env} {s : State} {m : MethodId} {below : List Frame} {meth : Method} {c : Code} {dC : Nat → ClassId} {dI : Nat → Nat → Nat} {b : Nat} {xs : Nat → Int32} (C0 : lw_At p s m meth c b 6 xs) {x0 m0 : Nat} {rx rm : Nat → Nat} {k1 : ClassId} {kf : Nat → ClassId} {H : Heap} {locs : List Loc} {ls : Array Slot} (hK : va_K (dC, dI) vwCl (law_T k1 kf) s) (hP : va_P (dC, dI) vwCl (law_W x0 m0 rx rm k1 kf) H) (hD : va_D (fun q : Nat => s.heap.size ≤ q) (law_W x0 m0 rx rm k1 kf)) (hS : va_S (fun q : Nat => s.heap.size ≤ q) s.heap H locs) (hl : lv_has ls 4 [(0, .ref b), (1, .ref x0), (2, .ref m0), (3, .int 0)]) : W p l e room_1 s m #[Value.ref b] below meth c H locs 1000 100000 (lw_Z below #[Value.ref b] s) (F0 m 1485 ls []) := by
  obtain ⟨hx, hb, hr, hml, hown0, hts, hX, hbl, hlocks, hgv⟩ := id C0
  have hown : s.vm.findClass RL = some m.cls := hown0
  have hA : ∀ q : Nat, s.heap.size ≤ q → (fun q : Nat => s.heap.size ≤ q) q := fun _ h => h
  have hbA : ¬ (fun q : Nat => s.heap.size ≤ q) b := Nat.not_le.mpr hbl
  have hK : va_K (dC, dI) vwCl [(k1, .byte), ((kf 0), .int), ((kf 1), .int), ((kf 2), .int), ((kf 3), .int), ((kf 5), .int), ((kf 6), .int), ((kf 7), .int), ((kf 8), .int), ((kf 9), .int), ((kf 10), .int), ((kf 11), .int), ((kf 4), .boolean), ((kf 12), .int), ((kf 13), .int)] s := hK
  have hP : va_P (dC, dI) vwCl [(x0, .inr (11, fsX rx)), ((rx 0), .inr (6, fsR rx)), ((rx 11), .inr (10, fsT rx)), ((rx 13), .inl (k1, 1600, .inl (fun _ => 0))), ((rx 12), .inr (0, fsD rx)), ((rx 1), .inr (0, fsA rx)), (m0, .inr (12, fsM rm)), ((rm 0), .inl ((kf 0), 6, .inl (fun _ => 0))), ((rm 1), .inl ((kf 1), 36, .inl (fun _ => 0))), ((rm 2), .inl ((kf 2), 24, .inl (fun _ => 0))), ((rm 3), .inl ((kf 3), 24, .inl (fun _ => 0))), ((rm 5), .inl ((kf 5), 24, .inl (fun _ => 0))), ((rm 6), .inl ((kf 6), 24, .inl (fun _ => 0))), ((rm 7), .inl ((kf 7), 24, .inl (fun _ => 0))), ((rm 8), .inl ((kf 8), 8, .inl (fun _ => 0))), ((rm 9), .inl ((kf 9), 8, .inl (fun _ => 0))), ((rm 10), .inl ((kf 10), 8, .inl (fun _ => 0))), ((rm 11), .inl ((kf 11), 8, .inl (fun _ => 0))), ((rm 4), .inl ((kf 4), 24, .inl (fun _ => 0))), ((rm 12), .inl ((kf 12), 300, .inl (fun _ => 0))), ((rm 13), .inl ((kf 13), 1600, .inl (fun _ => 0)))] H := hP
  have hD : va_D (fun q : Nat => s.heap.size ≤ q) [(x0, .inr (11, fsX rx)), ((rx 0), .inr (6, fsR rx)), ((rx 11), .inr (10, fsT rx)), ((rx 13), .inl (k1, 1600, .inl (fun _ => 0))), ((rx 12), .inr (0, fsD rx)), ((rx 1), .inr (0, fsA rx)), (m0, .inr (12, fsM rm)), ((rm 0), .inl ((kf 0), 6, .inl (fun _ => 0))), ((rm 1), .inl ((kf 1), 36, .inl (fun _ => 0))), ((rm 2), .inl ((kf 2), 24, .inl (fun _ => 0))), ((rm 3), .inl ((kf 3), 24, .inl (fun _ => 0))), ((rm 5), .inl ((kf 5), 24, .inl (fun _ => 0))), ((rm 6), .inl ((kf 6), 24, .inl (fun _ => 0))), ((rm 7), .inl ((kf 7), 24, .inl (fun _ => 0))), ((rm 8), .inl ((kf 8), 8, .inl (fun _ => 0))), ((rm 9), .inl ((kf 9), 8, .inl (fun _ => 0))), ((rm 10), .inl ((kf 10), 8, .inl (fun _ => 0))), ((rm 11), .inl ((kf 11), 8, .inl (fun _ => 0))), ((rm 4), .inl ((kf 4), 24, .inl (fun _ => 0))), ((rm 12), .inl ((kf 12), 300, .inl (fun _ => 0))), ((rm 13), .inl ((kf 13), 1600, .inl (fun _ => 0)))] := hD
  refine lv_aload_n hx hb dL_law_1485 rfl (lv_at hl 1 rfl) ?_
  refine lv_aload_n hx hb dL_law_1486 rfl (lv_at hl 0 rfl) ?_
  refine lv_iload_n hx hb dL_law_1487 rfl (lv_at hl 3 rfl) ?_
  refine lv_iconst (v := 1) hx hb dL_law_1488 (by decide) ?_
  refine lv_iadd hx hb dL_law_1489 ?_
  refine gz_topi (y := 1) (by decide) ?_
  refine va_sld hx hb hX hbl hbA hS (by unfold vp_in; decide) dL_law_1490 ?_
  refine gz_topi (y := xs 1) (congrArg xs (by decide)) ?_
  refine lv_aload_n hx hb dL_law_1491 rfl (lv_at hl 0 rfl) ?_
  refine lv_iload_n hx hb dL_law_1492 rfl (lv_at hl 3 rfl) ?_
  refine lv_iconst (v := 2) hx hb dL_law_1493 (by decide) ?_
  refine lv_iadd hx hb dL_law_1494 ?_
  refine gz_topi (y := 2) (by decide) ?_
  refine va_sld hx hb hX hbl hbA hS (by unfold vp_in; decide) dL_law_1495 ?_
  refine gz_topi (y := xs 2) (congrArg xs (by decide)) ?_
  refine lv_aload_n hx hb dL_law_1496 rfl (lv_at hl 0 rfl) ?_
  refine lv_iload_n hx hb dL_law_1497 rfl (lv_at hl 3 rfl) ?_
  refine lv_iconst (v := 3) hx hb dL_law_1498 (by decide) ?_
  refine lv_iadd hx hb dL_law_1499 ?_
  refine gz_topi (y := 3) (by decide) ?_
  refine va_sld hx hb hX hbl hbA hS (by unfold vp_in; decide) dL_law_1500 ?_
  refine gz_topi (y := xs 3) (congrArg xs (by decide)) ?_
  have hPc := hP.sub (ws' := [(x0, .inr (11, fsX rx)), ((rx 1), .inr (0, fsA rx))]) [0, 5] rfl
  have hKc := hK.sub (tys' := []) [] rfl
  refine va_calli (va_runV (As := [.int (xs 1), .int (xs 2), .int (xs 3)]) (rest := []) ⟨hx, hb, hml, hown, hts⟩ (fX11_apart l dC dI x0 rx (xs 1) (xs 2) (xs 3)) (cwV 3 hts (gz_lV lm_299 lm_300 lm_301 lm_4 lm_298 lwGA goodGA) rfl rfl rfl (by decide +kernel) ⟨Nat.le_of_ble_eq_true rfl, Nat.le_of_ble_eq_true rfl⟩) ⟨fun a U g mk q => by obtain ⟨q0, qP, qK⟩ := q; exact ⟨q0, qP, va_K.moved (u := U) (U := U.calling g mk a) (Vm.Alike.refl U.vm) qK⟩, va_recv hKc hPc (ci := 11) (q0 := 0) rfl rfl, fun U hU hW => ⟨rfl, by rw [hU]; exact hPc, va_K.moved hW.alike hKc⟩⟩ rfl rfl hl.1 rfl (lv_room (Nat.le_of_ble_eq_true rfl)) dL_law_1501 ⟨Nat.le_of_ble_eq_true rfl, Nat.le_of_ble_eq_true rfl⟩) hS (fun q _ h => h.elim) (fun q h => h.elim) (fun r_1 u t H1 locs ht hvm hw hB hz1 hk1 hS => ?_)
  have hP := gz_keep hP hk1
  generalize H1 = H at hP hS ⊢
  subst hw
  refine lv_aload_n hx hb dL_law_1504 rfl (lv_at hl 2 rfl) ?_
  refine lv_aload_n hx hb dL_law_1505 rfl (lv_at hl 0 rfl) ?_
  refine lv_iload_n hx hb dL_law_1506 rfl (lv_at hl 3 rfl) ?_
  refine lv_iconst (v := 1) hx hb dL_law_1507 (by decide) ?_
  refine lv_iadd hx hb dL_law_1508 ?_
  refine gz_topi (y := 1) (by decide) ?_
  refine va_sld hx hb hX hbl hbA hS (by unfold vp_in; decide) dL_law_1509 ?_
  refine gz_topi (y := xs 1) (congrArg xs (by decide)) ?_
  refine lv_aload_n hx hb dL_law_1510 rfl (lv_at hl 0 rfl) ?_
  refine lv_iload_n hx hb dL_law_1511 rfl (lv_at hl 3 rfl) ?_
  refine lv_iconst (v := 2) hx hb dL_law_1512 (by decide) ?_
  refine lv_iadd hx hb dL_law_1513 ?_
  refine gz_topi (y := 2) (by decide) ?_
  refine va_sld hx hb hX hbl hbA hS (by unfold vp_in; decide) dL_law_1514 ?_
  refine gz_topi (y := xs 2) (congrArg xs (by decide)) ?_
  refine lv_aload_n hx hb dL_law_1515 rfl (lv_at hl 0 rfl) ?_
  refine lv_iload_n hx hb dL_law_1516 rfl (lv_at hl 3 rfl) ?_
  refine lv_iconst (v := 3) hx hb dL_law_1517 (by decide) ?_
  refine lv_iadd hx hb dL_law_1518 ?_
  refine gz_topi (y := 3) (by decide) ?_
  refine va_sld hx hb hX hbl hbA hS (by unfold vp_in; decide) dL_law_1519 ?_
  refine gz_topi (y := xs 3) (congrArg xs (by decide)) ?_
  have hPc := hP.sub (ws' := [(m0, .inr (12, fsM rm))]) [6] rfl
  have hKc := hK.sub (tys' := []) [] rfl
  refine va_calli (va_runV (As := [.int (xs 1), .int (xs 2), .int (xs 3)]) (rest := [.int (-2)]) ⟨hx, hb, hml, hown, hts⟩ (fX12_apart l dC dI m0 rm (xs 1) (xs 2) (xs 3)) (cwV 3 hts (gz_lV lm_303 lm_304 lm_305 lm_9 lm_302 lwGB goodGB) rfl rfl rfl (by decide +kernel) ⟨Nat.le_of_ble_eq_true rfl, Nat.le_of_ble_eq_true rfl⟩) ⟨fun a U g mk q => by obtain ⟨q0, qP, qK⟩ := q; exact ⟨q0, qP, va_K.moved (u := U) (U := U.calling g mk a) (Vm.Alike.refl U.vm) qK⟩, va_recv hKc hPc (ci := 12) (q0 := 0) rfl rfl, fun U hU hW => ⟨rfl, by rw [hU]; exact hPc, va_K.moved hW.alike hKc⟩⟩ rfl rfl hl.1 rfl (lv_room (Nat.le_of_ble_eq_true rfl)) dL_law_1520 ⟨Nat.le_of_ble_eq_true rfl, Nat.le_of_ble_eq_true rfl⟩) hS (fun q _ h => h.elim) (fun q h => h.elim) (fun r_2 u t H1 locs ht hvm hw hB hz1 hk1 hS => ?_)
  have hP := gz_keep hP hk1
  generalize H1 = H at hP hS ⊢
  subst hw
  refine lv_icmp_eq (tgt := 2056) hx hb dL_law_1523 (by decide) (fun c_3 => ?_) (fun c_3 => absurd (by decide) c_3)
  exact law_tail C0 (Nat.le_of_ble_eq_true rfl) (Nat.le_of_ble_eq_true rfl) hS (lv_sub hl [0, 3] rfl)
set_option maxHeartbeats 4000000 in
set_option maxRecDepth 100000 in
theorem law_c38 {p : Program} {l : Launch} {e : Env} {s : State} {m : MethodId} {below : List Frame} {meth : Method} {c : Code} {dC : Nat → ClassId} {dI : Nat → Nat → Nat} {b : Nat} {xs : Nat → Int32} (C0 : lw_At p s m meth c b 6 xs) {x0 m0 : Nat} {rx rm : Nat → Nat} {k1 : ClassId} {kf : Nat → ClassId} {H : Heap} {locs : List Loc} {ls : Array Slot} (hK : va_K (dC, dI) vwCl (law_T k1 kf) s) (hP : va_P (dC, dI) vwCl (law_W x0 m0 rx rm k1 kf) H) (hD : va_D (fun q : Nat => s.heap.size ≤ q) (law_W x0 m0 rx rm k1 kf)) (hS : va_S (fun q : Nat => s.heap.size ≤ q) s.heap H locs) (hl : lv_has ls 4 [(0, .ref b), (1, .ref x0), (2, .ref m0), (3, .int 0)]) : W p l e room_1 s m #[Value.ref b] below meth c H locs 1000 100000 (lw_Z below #[Value.ref b] s) (F0 m 1528 ls []) := by
  obtain ⟨hx, hb, hr, hml, hown0, hts, hX, hbl, hlocks, hgv⟩ := id C0
  have hown : s.vm.findClass RL = some m.cls := hown0
  have hA : ∀ q : Nat, s.heap.size ≤ q → (fun q : Nat => s.heap.size ≤ q) q := fun _ h => h
  have hbA : ¬ (fun q : Nat => s.heap.size ≤ q) b := Nat.not_le.mpr hbl
  have hK : va_K (dC, dI) vwCl [(k1, .byte), ((kf 0), .int), ((kf 1), .int), ((kf 2), .int), ((kf 3), .int), ((kf 5), .int), ((kf 6), .int), ((kf 7), .int), ((kf 8), .int), ((kf 9), .int), ((kf 10), .int), ((kf 11), .int), ((kf 4), .boolean), ((kf 12), .int), ((kf 13), .int)] s := hK
  have hP : va_P (dC, dI) vwCl [(x0, .inr (11, fsX rx)), ((rx 0), .inr (6, fsR rx)), ((rx 11), .inr (10, fsT rx)), ((rx 13), .inl (k1, 1600, .inl (fun _ => 0))), ((rx 12), .inr (0, fsD rx)), ((rx 1), .inr (0, fsA rx)), (m0, .inr (12, fsM rm)), ((rm 0), .inl ((kf 0), 6, .inl (fun _ => 0))), ((rm 1), .inl ((kf 1), 36, .inl (fun _ => 0))), ((rm 2), .inl ((kf 2), 24, .inl (fun _ => 0))), ((rm 3), .inl ((kf 3), 24, .inl (fun _ => 0))), ((rm 5), .inl ((kf 5), 24, .inl (fun _ => 0))), ((rm 6), .inl ((kf 6), 24, .inl (fun _ => 0))), ((rm 7), .inl ((kf 7), 24, .inl (fun _ => 0))), ((rm 8), .inl ((kf 8), 8, .inl (fun _ => 0))), ((rm 9), .inl ((kf 9), 8, .inl (fun _ => 0))), ((rm 10), .inl ((kf 10), 8, .inl (fun _ => 0))), ((rm 11), .inl ((kf 11), 8, .inl (fun _ => 0))), ((rm 4), .inl ((kf 4), 24, .inl (fun _ => 0))), ((rm 12), .inl ((kf 12), 300, .inl (fun _ => 0))), ((rm 13), .inl ((kf 13), 1600, .inl (fun _ => 0)))] H := hP
  have hD : va_D (fun q : Nat => s.heap.size ≤ q) [(x0, .inr (11, fsX rx)), ((rx 0), .inr (6, fsR rx)), ((rx 11), .inr (10, fsT rx)), ((rx 13), .inl (k1, 1600, .inl (fun _ => 0))), ((rx 12), .inr (0, fsD rx)), ((rx 1), .inr (0, fsA rx)), (m0, .inr (12, fsM rm)), ((rm 0), .inl ((kf 0), 6, .inl (fun _ => 0))), ((rm 1), .inl ((kf 1), 36, .inl (fun _ => 0))), ((rm 2), .inl ((kf 2), 24, .inl (fun _ => 0))), ((rm 3), .inl ((kf 3), 24, .inl (fun _ => 0))), ((rm 5), .inl ((kf 5), 24, .inl (fun _ => 0))), ((rm 6), .inl ((kf 6), 24, .inl (fun _ => 0))), ((rm 7), .inl ((kf 7), 24, .inl (fun _ => 0))), ((rm 8), .inl ((kf 8), 8, .inl (fun _ => 0))), ((rm 9), .inl ((kf 9), 8, .inl (fun _ => 0))), ((rm 10), .inl ((kf 10), 8, .inl (fun _ => 0))), ((rm 11), .inl ((kf 11), 8, .inl (fun _ => 0))), ((rm 4), .inl ((kf 4), 24, .inl (fun _ => 0))), ((rm 12), .inl ((kf 12), 300, .inl (fun _ => 0))), ((rm 13), .inl ((kf 13), 1600, .inl (fun _ => 0)))] := hD
  refine lv_aload_n hx hb dL_law_1528 rfl (lv_at hl 1 rfl) ?_
  refine lv_aload_n hx hb dL_law_1529 rfl (lv_at hl 0 rfl) ?_
  refine lv_iload_n hx hb dL_law_1530 rfl (lv_at hl 3 rfl) ?_
  refine lv_iconst (v := 1) hx hb dL_law_1531 (by decide) ?_
  refine lv_iadd hx hb dL_law_1532 ?_
  refine gz_topi (y := 1) (by decide) ?_
  refine va_sld hx hb hX hbl hbA hS (by unfold vp_in; decide) dL_law_1533 ?_
  refine gz_topi (y := xs 1) (congrArg xs (by decide)) ?_
  refine lv_aload_n hx hb dL_law_1534 rfl (lv_at hl 0 rfl) ?_
  refine lv_iload_n hx hb dL_law_1535 rfl (lv_at hl 3 rfl) ?_
  refine lv_iconst (v := 2) hx hb dL_law_1536 (by decide) ?_
  refine lv_iadd hx hb dL_law_1537 ?_
  refine gz_topi (y := 2) (by decide) ?_
  refine va_sld hx hb hX hbl hbA hS (by unfold vp_in; decide) dL_law_1538 ?_
  refine gz_topi (y := xs 2) (congrArg xs (by decide)) ?_
  have hPc := hP.sub (ws' := [(x0, .inr (11, fsX rx)), ((rx 1), .inr (0, fsA rx))]) [0, 5] rfl
  have hKc := hK.sub (tys' := []) [] rfl
  refine va_calli (va_runV (As := [.int (xs 1), .int (xs 2)]) (rest := []) ⟨hx, hb, hml, hown, hts⟩ (fX11_hang l dC dI x0 rx (xs 1) (xs 2)) (cwV 2 hts (gz_lV lm_307 lm_308 lm_309 lm_4 lm_306 lwGA goodGA) rfl rfl rfl (by decide +kernel) ⟨Nat.le_of_ble_eq_true rfl, Nat.le_of_ble_eq_true rfl⟩) ⟨fun a U g mk q => by obtain ⟨q0, qP, qK⟩ := q; exact ⟨q0, qP, va_K.moved (u := U) (U := U.calling g mk a) (Vm.Alike.refl U.vm) qK⟩, va_recv hKc hPc (ci := 11) (q0 := 0) rfl rfl, fun U hU hW => ⟨rfl, by rw [hU]; exact hPc, va_K.moved hW.alike hKc⟩⟩ rfl rfl hl.1 rfl (lv_room (Nat.le_of_ble_eq_true rfl)) dL_law_1539 ⟨Nat.le_of_ble_eq_true rfl, Nat.le_of_ble_eq_true rfl⟩) hS (fun q _ h => h.elim) (fun q h => h.elim) (fun r_1 u t H1 locs ht hvm hw hB hz1 hk1 hS => ?_)
  have hP := gz_keep hP hk1
  generalize H1 = H at hP hS ⊢
  subst hw
  refine lv_aload_n hx hb dL_law_1542 rfl (lv_at hl 2 rfl) ?_
  refine lv_aload_n hx hb dL_law_1543 rfl (lv_at hl 0 rfl) ?_
  refine lv_iload_n hx hb dL_law_1544 rfl (lv_at hl 3 rfl) ?_
  refine lv_iconst (v := 1) hx hb dL_law_1545 (by decide) ?_
  refine lv_iadd hx hb dL_law_1546 ?_
  refine gz_topi (y := 1) (by decide) ?_
  refine va_sld hx hb hX hbl hbA hS (by unfold vp_in; decide) dL_law_1547 ?_
  refine gz_topi (y := xs 1) (congrArg xs (by decide)) ?_
  refine lv_aload_n hx hb dL_law_1548 rfl (lv_at hl 0 rfl) ?_
  refine lv_iload_n hx hb dL_law_1549 rfl (lv_at hl 3 rfl) ?_
  refine lv_iconst (v := 2) hx hb dL_law_1550 (by decide) ?_
  refine lv_iadd hx hb dL_law_1551 ?_
  refine gz_topi (y := 2) (by decide) ?_
  refine va_sld hx hb hX hbl hbA hS (by unfold vp_in; decide) dL_law_1552 ?_
  refine gz_topi (y := xs 2) (congrArg xs (by decide)) ?_
  have hPc := hP.sub (ws' := [(m0, .inr (12, fsM rm))]) [6] rfl
  have hKc := hK.sub (tys' := []) [] rfl
  refine va_calli (va_runV (As := [.int (xs 1), .int (xs 2)]) (rest := [.int (-2)]) ⟨hx, hb, hml, hown, hts⟩ (fX12_hang l dC dI m0 rm (xs 1) (xs 2)) (cwV 2 hts (gz_lV lm_311 lm_312 lm_313 lm_9 lm_310 lwGB goodGB) rfl rfl rfl (by decide +kernel) ⟨Nat.le_of_ble_eq_true rfl, Nat.le_of_ble_eq_true rfl⟩) ⟨fun a U g mk q => by obtain ⟨q0, qP, qK⟩ := q; exact ⟨q0, qP, va_K.moved (u := U) (U := U.calling g mk a) (Vm.Alike.refl U.vm) qK⟩, va_recv hKc hPc (ci := 12) (q0 := 0) rfl rfl, fun U hU hW => ⟨rfl, by rw [hU]; exact hPc, va_K.moved hW.alike hKc⟩⟩ rfl rfl hl.1 rfl (lv_room (Nat.le_of_ble_eq_true rfl)) dL_law_1553 ⟨Nat.le_of_ble_eq_true rfl, Nat.le_of_ble_eq_true rfl⟩) hS (fun q _ h => h.elim) (fun q h => h.elim) (fun r_2 u t H1 locs ht hvm hw hB hz1 hk1 hS => ?_)
  have hP := gz_keep hP hk1
  generalize H1 = H at hP hS ⊢
  subst hw
  refine lv_icmp_eq (tgt := 2056) hx hb dL_law_1556 (by decide) (fun c_3 => ?_) (fun c_3 => absurd (by decide) c_3)
  exact law_tail C0 (Nat.le_of_ble_eq_true rfl) (Nat.le_of_ble_eq_true rfl) hS (lv_sub hl [0, 3] rfl)
set_option maxHeartbeats 4000000 in
set_option maxRecDepth 100000 in
theorem law_c39 {p : Program} {l : Launch} {e : Env} {s : State} {m : MethodId} {below : List Frame} {meth : Method} {c : Code} {dC : Nat → ClassId} {dI : Nat → Nat → Nat} {b : Nat} {xs : Nat → Int32} (C0 : lw_At p s m meth c b 6 xs) {x0 m0 : Nat} {rx rm : Nat → Nat} {k1 : ClassId} {kf : Nat → ClassId} {H : Heap} {locs : List Loc} {ls : Array Slot} (hK : va_K (dC, dI) vwCl (law_T k1 kf) s) (hP : va_P (dC, dI) vwCl (law_W x0 m0 rx rm k1 kf) H) (hD : va_D (fun q : Nat => s.heap.size ≤ q) (law_W x0 m0 rx rm k1 kf)) (hS : va_S (fun q : Nat => s.heap.size ≤ q) s.heap H locs) (hl : lv_has ls 4 [(0, .ref b), (1, .ref x0), (2, .ref m0), (3, .int 0)]) : W p l e room_1 s m #[Value.ref b] below meth c H locs 1000 100000 (lw_Z below #[Value.ref b] s) (F0 m 1561 ls []) := by
  obtain ⟨hx, hb, hr, hml, hown0, hts, hX, hbl, hlocks, hgv⟩ := id C0
  have hown : s.vm.findClass RL = some m.cls := hown0
  have hA : ∀ q : Nat, s.heap.size ≤ q → (fun q : Nat => s.heap.size ≤ q) q := fun _ h => h
  have hbA : ¬ (fun q : Nat => s.heap.size ≤ q) b := Nat.not_le.mpr hbl
  have hK : va_K (dC, dI) vwCl [(k1, .byte), ((kf 0), .int), ((kf 1), .int), ((kf 2), .int), ((kf 3), .int), ((kf 5), .int), ((kf 6), .int), ((kf 7), .int), ((kf 8), .int), ((kf 9), .int), ((kf 10), .int), ((kf 11), .int), ((kf 4), .boolean), ((kf 12), .int), ((kf 13), .int)] s := hK
  have hP : va_P (dC, dI) vwCl [(x0, .inr (11, fsX rx)), ((rx 0), .inr (6, fsR rx)), ((rx 11), .inr (10, fsT rx)), ((rx 13), .inl (k1, 1600, .inl (fun _ => 0))), ((rx 12), .inr (0, fsD rx)), ((rx 1), .inr (0, fsA rx)), (m0, .inr (12, fsM rm)), ((rm 0), .inl ((kf 0), 6, .inl (fun _ => 0))), ((rm 1), .inl ((kf 1), 36, .inl (fun _ => 0))), ((rm 2), .inl ((kf 2), 24, .inl (fun _ => 0))), ((rm 3), .inl ((kf 3), 24, .inl (fun _ => 0))), ((rm 5), .inl ((kf 5), 24, .inl (fun _ => 0))), ((rm 6), .inl ((kf 6), 24, .inl (fun _ => 0))), ((rm 7), .inl ((kf 7), 24, .inl (fun _ => 0))), ((rm 8), .inl ((kf 8), 8, .inl (fun _ => 0))), ((rm 9), .inl ((kf 9), 8, .inl (fun _ => 0))), ((rm 10), .inl ((kf 10), 8, .inl (fun _ => 0))), ((rm 11), .inl ((kf 11), 8, .inl (fun _ => 0))), ((rm 4), .inl ((kf 4), 24, .inl (fun _ => 0))), ((rm 12), .inl ((kf 12), 300, .inl (fun _ => 0))), ((rm 13), .inl ((kf 13), 1600, .inl (fun _ => 0)))] H := hP
  have hD : va_D (fun q : Nat => s.heap.size ≤ q) [(x0, .inr (11, fsX rx)), ((rx 0), .inr (6, fsR rx)), ((rx 11), .inr (10, fsT rx)), ((rx 13), .inl (k1, 1600, .inl (fun _ => 0))), ((rx 12), .inr (0, fsD rx)), ((rx 1), .inr (0, fsA rx)), (m0, .inr (12, fsM rm)), ((rm 0), .inl ((kf 0), 6, .inl (fun _ => 0))), ((rm 1), .inl ((kf 1), 36, .inl (fun _ => 0))), ((rm 2), .inl ((kf 2), 24, .inl (fun _ => 0))), ((rm 3), .inl ((kf 3), 24, .inl (fun _ => 0))), ((rm 5), .inl ((kf 5), 24, .inl (fun _ => 0))), ((rm 6), .inl ((kf 6), 24, .inl (fun _ => 0))), ((rm 7), .inl ((kf 7), 24, .inl (fun _ => 0))), ((rm 8), .inl ((kf 8), 8, .inl (fun _ => 0))), ((rm 9), .inl ((kf 9), 8, .inl (fun _ => 0))), ((rm 10), .inl ((kf 10), 8, .inl (fun _ => 0))), ((rm 11), .inl ((kf 11), 8, .inl (fun _ => 0))), ((rm 4), .inl ((kf 4), 24, .inl (fun _ => 0))), ((rm 12), .inl ((kf 12), 300, .inl (fun _ => 0))), ((rm 13), .inl ((kf 13), 1600, .inl (fun _ => 0)))] := hD
  refine lv_aload_n hx hb dL_law_1561 rfl (lv_at hl 1 rfl) ?_
  refine lv_aload_n hx hb dL_law_1562 rfl (lv_at hl 0 rfl) ?_
  refine lv_iload_n hx hb dL_law_1563 rfl (lv_at hl 3 rfl) ?_
  refine lv_iconst (v := 1) hx hb dL_law_1564 (by decide) ?_
  refine lv_iadd hx hb dL_law_1565 ?_
  refine gz_topi (y := 1) (by decide) ?_
  refine va_sld hx hb hX hbl hbA hS (by unfold vp_in; decide) dL_law_1566 ?_
  refine gz_topi (y := xs 1) (congrArg xs (by decide)) ?_
  have hPc := hP.sub (ws' := [(x0, .inr (11, fsX rx)), ((rx 1), .inr (0, fsA rx))]) [0, 5] rfl
  have hKc := hK.sub (tys' := []) [] rfl
  refine va_calli (va_runV (As := [.int (xs 1)]) (rest := []) ⟨hx, hb, hml, hown, hts⟩ (fX11_telling l dC dI x0 rx (xs 1)) (cwV 1 hts (gz_lV lm_315 lm_316 lm_317 lm_4 lm_314 lwGA goodGA) rfl rfl rfl (by decide +kernel) ⟨Nat.le_of_ble_eq_true rfl, Nat.le_of_ble_eq_true rfl⟩) ⟨fun a U g mk q => by obtain ⟨q0, qP, qK⟩ := q; exact ⟨q0, qP, va_K.moved (u := U) (U := U.calling g mk a) (Vm.Alike.refl U.vm) qK⟩, va_recv hKc hPc (ci := 11) (q0 := 0) rfl rfl, fun U hU hW => ⟨rfl, by rw [hU]; exact hPc, va_K.moved hW.alike hKc⟩⟩ rfl rfl hl.1 rfl (lv_room (Nat.le_of_ble_eq_true rfl)) dL_law_1567 ⟨Nat.le_of_ble_eq_true rfl, Nat.le_of_ble_eq_true rfl⟩) hS (fun q _ h => h.elim) (fun q h => h.elim) (fun r_1 u t H1 locs ht hvm hw hB hz1 hk1 hS => ?_)
  have hP := gz_keep hP hk1
  generalize H1 = H at hP hS ⊢
  subst hw
  refine lv_aload_n hx hb dL_law_1570 rfl (lv_at hl 2 rfl) ?_
  refine lv_aload_n hx hb dL_law_1571 rfl (lv_at hl 0 rfl) ?_
  refine lv_iload_n hx hb dL_law_1572 rfl (lv_at hl 3 rfl) ?_
  refine lv_iconst (v := 1) hx hb dL_law_1573 (by decide) ?_
  refine lv_iadd hx hb dL_law_1574 ?_
  refine gz_topi (y := 1) (by decide) ?_
  refine va_sld hx hb hX hbl hbA hS (by unfold vp_in; decide) dL_law_1575 ?_
  refine gz_topi (y := xs 1) (congrArg xs (by decide)) ?_
  have hPc := hP.sub (ws' := [(m0, .inr (12, fsM rm))]) [6] rfl
  have hKc := hK.sub (tys' := []) [] rfl
  refine va_calli (va_runV (As := [.int (xs 1)]) (rest := [.int (-2)]) ⟨hx, hb, hml, hown, hts⟩ (fX12_telling l dC dI m0 rm (xs 1)) (cwV 1 hts (gz_lV lm_319 lm_320 lm_321 lm_9 lm_318 lwGB goodGB) rfl rfl rfl (by decide +kernel) ⟨Nat.le_of_ble_eq_true rfl, Nat.le_of_ble_eq_true rfl⟩) ⟨fun a U g mk q => by obtain ⟨q0, qP, qK⟩ := q; exact ⟨q0, qP, va_K.moved (u := U) (U := U.calling g mk a) (Vm.Alike.refl U.vm) qK⟩, va_recv hKc hPc (ci := 12) (q0 := 0) rfl rfl, fun U hU hW => ⟨rfl, by rw [hU]; exact hPc, va_K.moved hW.alike hKc⟩⟩ rfl rfl hl.1 rfl (lv_room (Nat.le_of_ble_eq_true rfl)) dL_law_1576 ⟨Nat.le_of_ble_eq_true rfl, Nat.le_of_ble_eq_true rfl⟩) hS (fun q _ h => h.elim) (fun q h => h.elim) (fun r_2 u t H1 locs ht hvm hw hB hz1 hk1 hS => ?_)
  have hP := gz_keep hP hk1
  generalize H1 = H at hP hS ⊢
  subst hw
  refine lv_icmp_eq (tgt := 2056) hx hb dL_law_1579 (by decide) (fun c_3 => ?_) (fun c_3 => absurd (by decide) c_3)
  exact law_tail C0 (Nat.le_of_ble_eq_true rfl) (Nat.le_of_ble_eq_true rfl) hS (lv_sub hl [0, 3] rfl)
set_option maxHeartbeats 4000000 in
set_option maxRecDepth 100000 in
theorem law_c40 {p : Program} {l : Launch} {e : Env} {s : State} {m : MethodId} {below : List Frame} {meth : Method} {c : Code} {dC : Nat → ClassId} {dI : Nat → Nat → Nat} {b : Nat} {xs : Nat → Int32} (C0 : lw_At p s m meth c b 6 xs) {x0 m0 : Nat} {rx rm : Nat → Nat} {k1 : ClassId} {kf : Nat → ClassId} {H : Heap} {locs : List Loc} {ls : Array Slot} (hK : va_K (dC, dI) vwCl (law_T k1 kf) s) (hP : va_P (dC, dI) vwCl (law_W x0 m0 rx rm k1 kf) H) (hD : va_D (fun q : Nat => s.heap.size ≤ q) (law_W x0 m0 rx rm k1 kf)) (hS : va_S (fun q : Nat => s.heap.size ≤ q) s.heap H locs) (hl : lv_has ls 4 [(0, .ref b), (1, .ref x0), (2, .ref m0), (3, .int 0)]) : W p l e room_1 s m #[Value.ref b] below meth c H locs 1000 100000 (lw_Z below #[Value.ref b] s) (F0 m 1584 ls []) := by
  obtain ⟨hx, hb, hr, hml, hown0, hts, hX, hbl, hlocks, hgv⟩ := id C0
  have hown : s.vm.findClass RL = some m.cls := hown0
  have hA : ∀ q : Nat, s.heap.size ≤ q → (fun q : Nat => s.heap.size ≤ q) q := fun _ h => h
  have hbA : ¬ (fun q : Nat => s.heap.size ≤ q) b := Nat.not_le.mpr hbl
  have hK : va_K (dC, dI) vwCl [(k1, .byte), ((kf 0), .int), ((kf 1), .int), ((kf 2), .int), ((kf 3), .int), ((kf 5), .int), ((kf 6), .int), ((kf 7), .int), ((kf 8), .int), ((kf 9), .int), ((kf 10), .int), ((kf 11), .int), ((kf 4), .boolean), ((kf 12), .int), ((kf 13), .int)] s := hK
  have hP : va_P (dC, dI) vwCl [(x0, .inr (11, fsX rx)), ((rx 0), .inr (6, fsR rx)), ((rx 11), .inr (10, fsT rx)), ((rx 13), .inl (k1, 1600, .inl (fun _ => 0))), ((rx 12), .inr (0, fsD rx)), ((rx 1), .inr (0, fsA rx)), (m0, .inr (12, fsM rm)), ((rm 0), .inl ((kf 0), 6, .inl (fun _ => 0))), ((rm 1), .inl ((kf 1), 36, .inl (fun _ => 0))), ((rm 2), .inl ((kf 2), 24, .inl (fun _ => 0))), ((rm 3), .inl ((kf 3), 24, .inl (fun _ => 0))), ((rm 5), .inl ((kf 5), 24, .inl (fun _ => 0))), ((rm 6), .inl ((kf 6), 24, .inl (fun _ => 0))), ((rm 7), .inl ((kf 7), 24, .inl (fun _ => 0))), ((rm 8), .inl ((kf 8), 8, .inl (fun _ => 0))), ((rm 9), .inl ((kf 9), 8, .inl (fun _ => 0))), ((rm 10), .inl ((kf 10), 8, .inl (fun _ => 0))), ((rm 11), .inl ((kf 11), 8, .inl (fun _ => 0))), ((rm 4), .inl ((kf 4), 24, .inl (fun _ => 0))), ((rm 12), .inl ((kf 12), 300, .inl (fun _ => 0))), ((rm 13), .inl ((kf 13), 1600, .inl (fun _ => 0)))] H := hP
  have hD : va_D (fun q : Nat => s.heap.size ≤ q) [(x0, .inr (11, fsX rx)), ((rx 0), .inr (6, fsR rx)), ((rx 11), .inr (10, fsT rx)), ((rx 13), .inl (k1, 1600, .inl (fun _ => 0))), ((rx 12), .inr (0, fsD rx)), ((rx 1), .inr (0, fsA rx)), (m0, .inr (12, fsM rm)), ((rm 0), .inl ((kf 0), 6, .inl (fun _ => 0))), ((rm 1), .inl ((kf 1), 36, .inl (fun _ => 0))), ((rm 2), .inl ((kf 2), 24, .inl (fun _ => 0))), ((rm 3), .inl ((kf 3), 24, .inl (fun _ => 0))), ((rm 5), .inl ((kf 5), 24, .inl (fun _ => 0))), ((rm 6), .inl ((kf 6), 24, .inl (fun _ => 0))), ((rm 7), .inl ((kf 7), 24, .inl (fun _ => 0))), ((rm 8), .inl ((kf 8), 8, .inl (fun _ => 0))), ((rm 9), .inl ((kf 9), 8, .inl (fun _ => 0))), ((rm 10), .inl ((kf 10), 8, .inl (fun _ => 0))), ((rm 11), .inl ((kf 11), 8, .inl (fun _ => 0))), ((rm 4), .inl ((kf 4), 24, .inl (fun _ => 0))), ((rm 12), .inl ((kf 12), 300, .inl (fun _ => 0))), ((rm 13), .inl ((kf 13), 1600, .inl (fun _ => 0)))] := hD
  refine lv_aload_n hx hb dL_law_1584 rfl (lv_at hl 1 rfl) ?_
  refine lv_aload_n hx hb dL_law_1585 rfl (lv_at hl 0 rfl) ?_
  refine lv_iload_n hx hb dL_law_1586 rfl (lv_at hl 3 rfl) ?_
  refine lv_iconst (v := 1) hx hb dL_law_1587 (by decide) ?_
  refine lv_iadd hx hb dL_law_1588 ?_
  refine gz_topi (y := 1) (by decide) ?_
  refine va_sld hx hb hX hbl hbA hS (by unfold vp_in; decide) dL_law_1589 ?_
  refine gz_topi (y := xs 1) (congrArg xs (by decide)) ?_
  refine lv_aload_n hx hb dL_law_1590 rfl (lv_at hl 0 rfl) ?_
  refine lv_iload_n hx hb dL_law_1591 rfl (lv_at hl 3 rfl) ?_
  refine lv_iconst (v := 2) hx hb dL_law_1592 (by decide) ?_
  refine lv_iadd hx hb dL_law_1593 ?_
  refine gz_topi (y := 2) (by decide) ?_
  refine va_sld hx hb hX hbl hbA hS (by unfold vp_in; decide) dL_law_1594 ?_
  refine gz_topi (y := xs 2) (congrArg xs (by decide)) ?_
  have hPc := hP.sub (ws' := [(x0, .inr (11, fsX rx)), ((rx 1), .inr (0, fsA rx))]) [0, 5] rfl
  have hKc := hK.sub (tys' := []) [] rfl
  refine va_calli (va_runV (As := [.int (xs 1), .int (xs 2)]) (rest := []) ⟨hx, hb, hml, hown, hts⟩ (fX11_trusted l dC dI x0 rx (xs 1) (xs 2)) (cwV 2 hts (gz_lV lm_323 lm_324 lm_325 lm_4 lm_322 lwGA goodGA) rfl rfl rfl (by decide +kernel) ⟨Nat.le_of_ble_eq_true rfl, Nat.le_of_ble_eq_true rfl⟩) ⟨fun a U g mk q => by obtain ⟨q0, qP, qK⟩ := q; exact ⟨q0, qP, va_K.moved (u := U) (U := U.calling g mk a) (Vm.Alike.refl U.vm) qK⟩, va_recv hKc hPc (ci := 11) (q0 := 0) rfl rfl, fun U hU hW => ⟨rfl, by rw [hU]; exact hPc, va_K.moved hW.alike hKc⟩⟩ rfl rfl hl.1 rfl (lv_room (Nat.le_of_ble_eq_true rfl)) dL_law_1595 ⟨Nat.le_of_ble_eq_true rfl, Nat.le_of_ble_eq_true rfl⟩) hS (fun q _ h => h.elim) (fun q h => h.elim) (fun r_1 u t H1 locs ht hvm hw hB hz1 hk1 hS => ?_)
  have hP := gz_keep hP hk1
  generalize H1 = H at hP hS ⊢
  subst hw
  refine lv_aload_n hx hb dL_law_1598 rfl (lv_at hl 2 rfl) ?_
  refine lv_aload_n hx hb dL_law_1599 rfl (lv_at hl 0 rfl) ?_
  refine lv_iload_n hx hb dL_law_1600 rfl (lv_at hl 3 rfl) ?_
  refine lv_iconst (v := 1) hx hb dL_law_1601 (by decide) ?_
  refine lv_iadd hx hb dL_law_1602 ?_
  refine gz_topi (y := 1) (by decide) ?_
  refine va_sld hx hb hX hbl hbA hS (by unfold vp_in; decide) dL_law_1603 ?_
  refine gz_topi (y := xs 1) (congrArg xs (by decide)) ?_
  refine lv_aload_n hx hb dL_law_1604 rfl (lv_at hl 0 rfl) ?_
  refine lv_iload_n hx hb dL_law_1605 rfl (lv_at hl 3 rfl) ?_
  refine lv_iconst (v := 2) hx hb dL_law_1606 (by decide) ?_
  refine lv_iadd hx hb dL_law_1607 ?_
  refine gz_topi (y := 2) (by decide) ?_
  refine va_sld hx hb hX hbl hbA hS (by unfold vp_in; decide) dL_law_1608 ?_
  refine gz_topi (y := xs 2) (congrArg xs (by decide)) ?_
  have hPc := hP.sub (ws' := [(m0, .inr (12, fsM rm))]) [6] rfl
  have hKc := hK.sub (tys' := []) [] rfl
  refine va_calli (va_runV (As := [.int (xs 1), .int (xs 2)]) (rest := [.int (-2)]) ⟨hx, hb, hml, hown, hts⟩ (fX12_trusted l dC dI m0 rm (xs 1) (xs 2)) (cwV 2 hts (gz_lV lm_327 lm_328 lm_329 lm_9 lm_326 lwGB goodGB) rfl rfl rfl (by decide +kernel) ⟨Nat.le_of_ble_eq_true rfl, Nat.le_of_ble_eq_true rfl⟩) ⟨fun a U g mk q => by obtain ⟨q0, qP, qK⟩ := q; exact ⟨q0, qP, va_K.moved (u := U) (U := U.calling g mk a) (Vm.Alike.refl U.vm) qK⟩, va_recv hKc hPc (ci := 12) (q0 := 0) rfl rfl, fun U hU hW => ⟨rfl, by rw [hU]; exact hPc, va_K.moved hW.alike hKc⟩⟩ rfl rfl hl.1 rfl (lv_room (Nat.le_of_ble_eq_true rfl)) dL_law_1609 ⟨Nat.le_of_ble_eq_true rfl, Nat.le_of_ble_eq_true rfl⟩) hS (fun q _ h => h.elim) (fun q h => h.elim) (fun r_2 u t H1 locs ht hvm hw hB hz1 hk1 hS => ?_)
  have hP := gz_keep hP hk1
  generalize H1 = H at hP hS ⊢
  subst hw
  refine lv_icmp_eq (tgt := 2056) hx hb dL_law_1612 (by decide) (fun c_3 => ?_) (fun c_3 => absurd (by decide) c_3)
  exact law_tail C0 (Nat.le_of_ble_eq_true rfl) (Nat.le_of_ble_eq_true rfl) hS (lv_sub hl [0, 3] rfl)
set_option maxHeartbeats 4000000 in
set_option maxRecDepth 100000 in
theorem law_c41 {p : Program} {l : Launch} {e : Env} {s : State} {m : MethodId} {below : List Frame} {meth : Method} {c : Code} {dC : Nat → ClassId} {dI : Nat → Nat → Nat} {b : Nat} {xs : Nat → Int32} (C0 : lw_At p s m meth c b 6 xs) {x0 m0 : Nat} {rx rm : Nat → Nat} {k1 : ClassId} {kf : Nat → ClassId} {H : Heap} {locs : List Loc} {ls : Array Slot} (hK : va_K (dC, dI) vwCl (law_T k1 kf) s) (hP : va_P (dC, dI) vwCl (law_W x0 m0 rx rm k1 kf) H) (hD : va_D (fun q : Nat => s.heap.size ≤ q) (law_W x0 m0 rx rm k1 kf)) (hS : va_S (fun q : Nat => s.heap.size ≤ q) s.heap H locs) (hl : lv_has ls 4 [(0, .ref b), (1, .ref x0), (2, .ref m0), (3, .int 0)]) : W p l e room_1 s m #[Value.ref b] below meth c H locs 1000 100000 (lw_Z below #[Value.ref b] s) (F0 m 1617 ls []) := by
  obtain ⟨hx, hb, hr, hml, hown0, hts, hX, hbl, hlocks, hgv⟩ := id C0
  have hown : s.vm.findClass RL = some m.cls := hown0
  have hA : ∀ q : Nat, s.heap.size ≤ q → (fun q : Nat => s.heap.size ≤ q) q := fun _ h => h
  have hbA : ¬ (fun q : Nat => s.heap.size ≤ q) b := Nat.not_le.mpr hbl
  have hK : va_K (dC, dI) vwCl [(k1, .byte), ((kf 0), .int), ((kf 1), .int), ((kf 2), .int), ((kf 3), .int), ((kf 5), .int), ((kf 6), .int), ((kf 7), .int), ((kf 8), .int), ((kf 9), .int), ((kf 10), .int), ((kf 11), .int), ((kf 4), .boolean), ((kf 12), .int), ((kf 13), .int)] s := hK
  have hP : va_P (dC, dI) vwCl [(x0, .inr (11, fsX rx)), ((rx 0), .inr (6, fsR rx)), ((rx 11), .inr (10, fsT rx)), ((rx 13), .inl (k1, 1600, .inl (fun _ => 0))), ((rx 12), .inr (0, fsD rx)), ((rx 1), .inr (0, fsA rx)), (m0, .inr (12, fsM rm)), ((rm 0), .inl ((kf 0), 6, .inl (fun _ => 0))), ((rm 1), .inl ((kf 1), 36, .inl (fun _ => 0))), ((rm 2), .inl ((kf 2), 24, .inl (fun _ => 0))), ((rm 3), .inl ((kf 3), 24, .inl (fun _ => 0))), ((rm 5), .inl ((kf 5), 24, .inl (fun _ => 0))), ((rm 6), .inl ((kf 6), 24, .inl (fun _ => 0))), ((rm 7), .inl ((kf 7), 24, .inl (fun _ => 0))), ((rm 8), .inl ((kf 8), 8, .inl (fun _ => 0))), ((rm 9), .inl ((kf 9), 8, .inl (fun _ => 0))), ((rm 10), .inl ((kf 10), 8, .inl (fun _ => 0))), ((rm 11), .inl ((kf 11), 8, .inl (fun _ => 0))), ((rm 4), .inl ((kf 4), 24, .inl (fun _ => 0))), ((rm 12), .inl ((kf 12), 300, .inl (fun _ => 0))), ((rm 13), .inl ((kf 13), 1600, .inl (fun _ => 0)))] H := hP
  have hD : va_D (fun q : Nat => s.heap.size ≤ q) [(x0, .inr (11, fsX rx)), ((rx 0), .inr (6, fsR rx)), ((rx 11), .inr (10, fsT rx)), ((rx 13), .inl (k1, 1600, .inl (fun _ => 0))), ((rx 12), .inr (0, fsD rx)), ((rx 1), .inr (0, fsA rx)), (m0, .inr (12, fsM rm)), ((rm 0), .inl ((kf 0), 6, .inl (fun _ => 0))), ((rm 1), .inl ((kf 1), 36, .inl (fun _ => 0))), ((rm 2), .inl ((kf 2), 24, .inl (fun _ => 0))), ((rm 3), .inl ((kf 3), 24, .inl (fun _ => 0))), ((rm 5), .inl ((kf 5), 24, .inl (fun _ => 0))), ((rm 6), .inl ((kf 6), 24, .inl (fun _ => 0))), ((rm 7), .inl ((kf 7), 24, .inl (fun _ => 0))), ((rm 8), .inl ((kf 8), 8, .inl (fun _ => 0))), ((rm 9), .inl ((kf 9), 8, .inl (fun _ => 0))), ((rm 10), .inl ((kf 10), 8, .inl (fun _ => 0))), ((rm 11), .inl ((kf 11), 8, .inl (fun _ => 0))), ((rm 4), .inl ((kf 4), 24, .inl (fun _ => 0))), ((rm 12), .inl ((kf 12), 300, .inl (fun _ => 0))), ((rm 13), .inl ((kf 13), 1600, .inl (fun _ => 0)))] := hD
  refine lv_aload_n hx hb dL_law_1617 rfl (lv_at hl 1 rfl) ?_
  refine lv_aload_n hx hb dL_law_1618 rfl (lv_at hl 0 rfl) ?_
  refine lv_iload_n hx hb dL_law_1619 rfl (lv_at hl 3 rfl) ?_
  refine lv_iconst (v := 1) hx hb dL_law_1620 (by decide) ?_
  refine lv_iadd hx hb dL_law_1621 ?_
  refine gz_topi (y := 1) (by decide) ?_
  refine va_sld hx hb hX hbl hbA hS (by unfold vp_in; decide) dL_law_1622 ?_
  refine gz_topi (y := xs 1) (congrArg xs (by decide)) ?_
  refine lv_aload_n hx hb dL_law_1623 rfl (lv_at hl 0 rfl) ?_
  refine lv_iload_n hx hb dL_law_1624 rfl (lv_at hl 3 rfl) ?_
  refine lv_iconst (v := 2) hx hb dL_law_1625 (by decide) ?_
  refine lv_iadd hx hb dL_law_1626 ?_
  refine gz_topi (y := 2) (by decide) ?_
  refine va_sld hx hb hX hbl hbA hS (by unfold vp_in; decide) dL_law_1627 ?_
  refine gz_topi (y := xs 2) (congrArg xs (by decide)) ?_
  have hPc := hP.sub (ws' := [(x0, .inr (11, fsX rx)), ((rx 1), .inr (0, fsA rx))]) [0, 5] rfl
  have hKc := hK.sub (tys' := []) [] rfl
  refine va_calli (va_runV (As := [.int (xs 1), .int (xs 2)]) (rest := []) ⟨hx, hb, hml, hown, hts⟩ (fX11_days l dC dI x0 rx (xs 1) (xs 2)) (cwV 2 hts (gz_lV lm_331 lm_332 lm_333 lm_4 lm_330 lwGA goodGA) rfl rfl rfl (by decide +kernel) ⟨Nat.le_of_ble_eq_true rfl, Nat.le_of_ble_eq_true rfl⟩) ⟨fun a U g mk q => by obtain ⟨q0, qP, qK⟩ := q; exact ⟨q0, qP, va_K.moved (u := U) (U := U.calling g mk a) (Vm.Alike.refl U.vm) qK⟩, va_recv hKc hPc (ci := 11) (q0 := 0) rfl rfl, fun U hU hW => ⟨rfl, by rw [hU]; exact hPc, va_K.moved hW.alike hKc⟩⟩ rfl rfl hl.1 rfl (lv_room (Nat.le_of_ble_eq_true rfl)) dL_law_1628 ⟨Nat.le_of_ble_eq_true rfl, Nat.le_of_ble_eq_true rfl⟩) hS (fun q _ h => h.elim) (fun q h => h.elim) (fun r_1 u t H1 locs ht hvm hw hB hz1 hk1 hS => ?_)
  have hP := gz_keep hP hk1
  generalize H1 = H at hP hS ⊢
  subst hw
  refine lv_aload_n hx hb dL_law_1631 rfl (lv_at hl 2 rfl) ?_
  refine lv_aload_n hx hb dL_law_1632 rfl (lv_at hl 0 rfl) ?_
  refine lv_iload_n hx hb dL_law_1633 rfl (lv_at hl 3 rfl) ?_
  refine lv_iconst (v := 1) hx hb dL_law_1634 (by decide) ?_
  refine lv_iadd hx hb dL_law_1635 ?_
  refine gz_topi (y := 1) (by decide) ?_
  refine va_sld hx hb hX hbl hbA hS (by unfold vp_in; decide) dL_law_1636 ?_
  refine gz_topi (y := xs 1) (congrArg xs (by decide)) ?_
  refine lv_aload_n hx hb dL_law_1637 rfl (lv_at hl 0 rfl) ?_
  refine lv_iload_n hx hb dL_law_1638 rfl (lv_at hl 3 rfl) ?_
  refine lv_iconst (v := 2) hx hb dL_law_1639 (by decide) ?_
  refine lv_iadd hx hb dL_law_1640 ?_
  refine gz_topi (y := 2) (by decide) ?_
  refine va_sld hx hb hX hbl hbA hS (by unfold vp_in; decide) dL_law_1641 ?_
  refine gz_topi (y := xs 2) (congrArg xs (by decide)) ?_
  have hPc := hP.sub (ws' := [(m0, .inr (12, fsM rm))]) [6] rfl
  have hKc := hK.sub (tys' := []) [] rfl
  refine va_calli (va_runV (As := [.int (xs 1), .int (xs 2)]) (rest := [.int (-2)]) ⟨hx, hb, hml, hown, hts⟩ (fX12_days l dC dI m0 rm (xs 1) (xs 2)) (cwV 2 hts (gz_lV lm_335 lm_336 lm_337 lm_9 lm_334 lwGB goodGB) rfl rfl rfl (by decide +kernel) ⟨Nat.le_of_ble_eq_true rfl, Nat.le_of_ble_eq_true rfl⟩) ⟨fun a U g mk q => by obtain ⟨q0, qP, qK⟩ := q; exact ⟨q0, qP, va_K.moved (u := U) (U := U.calling g mk a) (Vm.Alike.refl U.vm) qK⟩, va_recv hKc hPc (ci := 12) (q0 := 0) rfl rfl, fun U hU hW => ⟨rfl, by rw [hU]; exact hPc, va_K.moved hW.alike hKc⟩⟩ rfl rfl hl.1 rfl (lv_room (Nat.le_of_ble_eq_true rfl)) dL_law_1642 ⟨Nat.le_of_ble_eq_true rfl, Nat.le_of_ble_eq_true rfl⟩) hS (fun q _ h => h.elim) (fun q h => h.elim) (fun r_2 u t H1 locs ht hvm hw hB hz1 hk1 hS => ?_)
  have hP := gz_keep hP hk1
  generalize H1 = H at hP hS ⊢
  subst hw
  refine lv_icmp_eq (tgt := 2056) hx hb dL_law_1645 (by decide) (fun c_3 => ?_) (fun c_3 => absurd (by decide) c_3)
  exact law_tail C0 (Nat.le_of_ble_eq_true rfl) (Nat.le_of_ble_eq_true rfl) hS (lv_sub hl [0, 3] rfl)
set_option maxHeartbeats 4000000 in
set_option maxRecDepth 100000 in
theorem law_c42 {p : Program} {l : Launch} {e : Env} {s : State} {m : MethodId} {below : List Frame} {meth : Method} {c : Code} {dC : Nat → ClassId} {dI : Nat → Nat → Nat} {b : Nat} {xs : Nat → Int32} (C0 : lw_At p s m meth c b 6 xs) {x0 m0 : Nat} {rx rm : Nat → Nat} {k1 : ClassId} {kf : Nat → ClassId} {H : Heap} {locs : List Loc} {ls : Array Slot} (hK : va_K (dC, dI) vwCl (law_T k1 kf) s) (hP : va_P (dC, dI) vwCl (law_W x0 m0 rx rm k1 kf) H) (hD : va_D (fun q : Nat => s.heap.size ≤ q) (law_W x0 m0 rx rm k1 kf)) (hS : va_S (fun q : Nat => s.heap.size ≤ q) s.heap H locs) (hl : lv_has ls 4 [(0, .ref b), (1, .ref x0), (2, .ref m0), (3, .int 0)]) : W p l e room_1 s m #[Value.ref b] below meth c H locs 1000 100000 (lw_Z below #[Value.ref b] s) (F0 m 1650 ls []) := by
  obtain ⟨hx, hb, hr, hml, hown0, hts, hX, hbl, hlocks, hgv⟩ := id C0
  have hown : s.vm.findClass RL = some m.cls := hown0
  have hA : ∀ q : Nat, s.heap.size ≤ q → (fun q : Nat => s.heap.size ≤ q) q := fun _ h => h
  have hbA : ¬ (fun q : Nat => s.heap.size ≤ q) b := Nat.not_le.mpr hbl
  have hK : va_K (dC, dI) vwCl [(k1, .byte), ((kf 0), .int), ((kf 1), .int), ((kf 2), .int), ((kf 3), .int), ((kf 5), .int), ((kf 6), .int), ((kf 7), .int), ((kf 8), .int), ((kf 9), .int), ((kf 10), .int), ((kf 11), .int), ((kf 4), .boolean), ((kf 12), .int), ((kf 13), .int)] s := hK
  have hP : va_P (dC, dI) vwCl [(x0, .inr (11, fsX rx)), ((rx 0), .inr (6, fsR rx)), ((rx 11), .inr (10, fsT rx)), ((rx 13), .inl (k1, 1600, .inl (fun _ => 0))), ((rx 12), .inr (0, fsD rx)), ((rx 1), .inr (0, fsA rx)), (m0, .inr (12, fsM rm)), ((rm 0), .inl ((kf 0), 6, .inl (fun _ => 0))), ((rm 1), .inl ((kf 1), 36, .inl (fun _ => 0))), ((rm 2), .inl ((kf 2), 24, .inl (fun _ => 0))), ((rm 3), .inl ((kf 3), 24, .inl (fun _ => 0))), ((rm 5), .inl ((kf 5), 24, .inl (fun _ => 0))), ((rm 6), .inl ((kf 6), 24, .inl (fun _ => 0))), ((rm 7), .inl ((kf 7), 24, .inl (fun _ => 0))), ((rm 8), .inl ((kf 8), 8, .inl (fun _ => 0))), ((rm 9), .inl ((kf 9), 8, .inl (fun _ => 0))), ((rm 10), .inl ((kf 10), 8, .inl (fun _ => 0))), ((rm 11), .inl ((kf 11), 8, .inl (fun _ => 0))), ((rm 4), .inl ((kf 4), 24, .inl (fun _ => 0))), ((rm 12), .inl ((kf 12), 300, .inl (fun _ => 0))), ((rm 13), .inl ((kf 13), 1600, .inl (fun _ => 0)))] H := hP
  have hD : va_D (fun q : Nat => s.heap.size ≤ q) [(x0, .inr (11, fsX rx)), ((rx 0), .inr (6, fsR rx)), ((rx 11), .inr (10, fsT rx)), ((rx 13), .inl (k1, 1600, .inl (fun _ => 0))), ((rx 12), .inr (0, fsD rx)), ((rx 1), .inr (0, fsA rx)), (m0, .inr (12, fsM rm)), ((rm 0), .inl ((kf 0), 6, .inl (fun _ => 0))), ((rm 1), .inl ((kf 1), 36, .inl (fun _ => 0))), ((rm 2), .inl ((kf 2), 24, .inl (fun _ => 0))), ((rm 3), .inl ((kf 3), 24, .inl (fun _ => 0))), ((rm 5), .inl ((kf 5), 24, .inl (fun _ => 0))), ((rm 6), .inl ((kf 6), 24, .inl (fun _ => 0))), ((rm 7), .inl ((kf 7), 24, .inl (fun _ => 0))), ((rm 8), .inl ((kf 8), 8, .inl (fun _ => 0))), ((rm 9), .inl ((kf 9), 8, .inl (fun _ => 0))), ((rm 10), .inl ((kf 10), 8, .inl (fun _ => 0))), ((rm 11), .inl ((kf 11), 8, .inl (fun _ => 0))), ((rm 4), .inl ((kf 4), 24, .inl (fun _ => 0))), ((rm 12), .inl ((kf 12), 300, .inl (fun _ => 0))), ((rm 13), .inl ((kf 13), 1600, .inl (fun _ => 0)))] := hD
  refine lv_aload_n hx hb dL_law_1650 rfl (lv_at hl 1 rfl) ?_
  refine lv_aload_n hx hb dL_law_1651 rfl (lv_at hl 0 rfl) ?_
  refine lv_iload_n hx hb dL_law_1652 rfl (lv_at hl 3 rfl) ?_
  refine lv_iconst (v := 1) hx hb dL_law_1653 (by decide) ?_
  refine lv_iadd hx hb dL_law_1654 ?_
  refine gz_topi (y := 1) (by decide) ?_
  refine va_sld hx hb hX hbl hbA hS (by unfold vp_in; decide) dL_law_1655 ?_
  refine gz_topi (y := xs 1) (congrArg xs (by decide)) ?_
  refine lv_aload_n hx hb dL_law_1656 rfl (lv_at hl 0 rfl) ?_
  refine lv_iload_n hx hb dL_law_1657 rfl (lv_at hl 3 rfl) ?_
  refine lv_iconst (v := 2) hx hb dL_law_1658 (by decide) ?_
  refine lv_iadd hx hb dL_law_1659 ?_
  refine gz_topi (y := 2) (by decide) ?_
  refine va_sld hx hb hX hbl hbA hS (by unfold vp_in; decide) dL_law_1660 ?_
  refine gz_topi (y := xs 2) (congrArg xs (by decide)) ?_
  refine lv_aload_n hx hb dL_law_1661 rfl (lv_at hl 0 rfl) ?_
  refine lv_iload_n hx hb dL_law_1662 rfl (lv_at hl 3 rfl) ?_
  refine lv_iconst (v := 3) hx hb dL_law_1663 (by decide) ?_
  refine lv_iadd hx hb dL_law_1664 ?_
  refine gz_topi (y := 3) (by decide) ?_
  refine va_sld hx hb hX hbl hbA hS (by unfold vp_in; decide) dL_law_1665 ?_
  refine gz_topi (y := xs 3) (congrArg xs (by decide)) ?_
  refine lv_aload_n hx hb dL_law_1666 rfl (lv_at hl 0 rfl) ?_
  refine lv_iload_n hx hb dL_law_1667 rfl (lv_at hl 3 rfl) ?_
  refine lv_iconst (v := 4) hx hb dL_law_1668 (by decide) ?_
  refine lv_iadd hx hb dL_law_1669 ?_
  refine gz_topi (y := 4) (by decide) ?_
  refine va_sld hx hb hX hbl hbA hS (by unfold vp_in; decide) dL_law_1670 ?_
  refine gz_topi (y := xs 4) (congrArg xs (by decide)) ?_
  have hPc := hP.sub (ws' := [(x0, .inr (11, fsX rx)), ((rx 1), .inr (0, fsA rx))]) [0, 5] rfl
  have hKc := hK.sub (tys' := []) [] rfl
  refine va_calli (va_runV (As := [.int (xs 1), .int (xs 2), .int (xs 3), .int (xs 4)]) (rest := []) ⟨hx, hb, hml, hown, hts⟩ (fX11_weekday l dC dI x0 rx (xs 1) (xs 2) (xs 3) (xs 4)) (cwV 4 hts (gz_lV lm_339 lm_340 lm_341 lm_4 lm_338 lwGA goodGA) rfl rfl rfl (by decide +kernel) ⟨Nat.le_of_ble_eq_true rfl, Nat.le_of_ble_eq_true rfl⟩) ⟨fun a U g mk q => by obtain ⟨q0, qP, qK⟩ := q; exact ⟨q0, qP, va_K.moved (u := U) (U := U.calling g mk a) (Vm.Alike.refl U.vm) qK⟩, va_recv hKc hPc (ci := 11) (q0 := 0) rfl rfl, fun U hU hW => ⟨rfl, by rw [hU]; exact hPc, va_K.moved hW.alike hKc⟩⟩ rfl rfl hl.1 rfl (lv_room (Nat.le_of_ble_eq_true rfl)) dL_law_1671 ⟨Nat.le_of_ble_eq_true rfl, Nat.le_of_ble_eq_true rfl⟩) hS (fun q _ h => h.elim) (fun q h => h.elim) (fun r_1 u t H1 locs ht hvm hw hB hz1 hk1 hS => ?_)
  have hP := gz_keep hP hk1
  generalize H1 = H at hP hS ⊢
  subst hw
  refine lv_aload_n hx hb dL_law_1674 rfl (lv_at hl 2 rfl) ?_
  refine lv_aload_n hx hb dL_law_1675 rfl (lv_at hl 0 rfl) ?_
  refine lv_iload_n hx hb dL_law_1676 rfl (lv_at hl 3 rfl) ?_
  refine lv_iconst (v := 1) hx hb dL_law_1677 (by decide) ?_
  refine lv_iadd hx hb dL_law_1678 ?_
  refine gz_topi (y := 1) (by decide) ?_
  refine va_sld hx hb hX hbl hbA hS (by unfold vp_in; decide) dL_law_1679 ?_
  refine gz_topi (y := xs 1) (congrArg xs (by decide)) ?_
  refine lv_aload_n hx hb dL_law_1680 rfl (lv_at hl 0 rfl) ?_
  refine lv_iload_n hx hb dL_law_1681 rfl (lv_at hl 3 rfl) ?_
  refine lv_iconst (v := 2) hx hb dL_law_1682 (by decide) ?_
  refine lv_iadd hx hb dL_law_1683 ?_
  refine gz_topi (y := 2) (by decide) ?_
  refine va_sld hx hb hX hbl hbA hS (by unfold vp_in; decide) dL_law_1684 ?_
  refine gz_topi (y := xs 2) (congrArg xs (by decide)) ?_
  refine lv_aload_n hx hb dL_law_1685 rfl (lv_at hl 0 rfl) ?_
  refine lv_iload_n hx hb dL_law_1686 rfl (lv_at hl 3 rfl) ?_
  refine lv_iconst (v := 3) hx hb dL_law_1687 (by decide) ?_
  refine lv_iadd hx hb dL_law_1688 ?_
  refine gz_topi (y := 3) (by decide) ?_
  refine va_sld hx hb hX hbl hbA hS (by unfold vp_in; decide) dL_law_1689 ?_
  refine gz_topi (y := xs 3) (congrArg xs (by decide)) ?_
  refine lv_aload_n hx hb dL_law_1690 rfl (lv_at hl 0 rfl) ?_
  refine lv_iload_n hx hb dL_law_1691 rfl (lv_at hl 3 rfl) ?_
  refine lv_iconst (v := 4) hx hb dL_law_1692 (by decide) ?_
  refine lv_iadd hx hb dL_law_1693 ?_
  refine gz_topi (y := 4) (by decide) ?_
  refine va_sld hx hb hX hbl hbA hS (by unfold vp_in; decide) dL_law_1694 ?_
  refine gz_topi (y := xs 4) (congrArg xs (by decide)) ?_
  have hPc := hP.sub (ws' := [(m0, .inr (12, fsM rm))]) [6] rfl
  have hKc := hK.sub (tys' := []) [] rfl
  refine va_calli (va_runV (As := [.int (xs 1), .int (xs 2), .int (xs 3), .int (xs 4)]) (rest := [.int (-2)]) ⟨hx, hb, hml, hown, hts⟩ (fX12_weekday l dC dI m0 rm (xs 1) (xs 2) (xs 3) (xs 4)) (cwV 4 hts (gz_lV lm_343 lm_344 lm_345 lm_9 lm_342 lwGB goodGB) rfl rfl rfl (by decide +kernel) ⟨Nat.le_of_ble_eq_true rfl, Nat.le_of_ble_eq_true rfl⟩) ⟨fun a U g mk q => by obtain ⟨q0, qP, qK⟩ := q; exact ⟨q0, qP, va_K.moved (u := U) (U := U.calling g mk a) (Vm.Alike.refl U.vm) qK⟩, va_recv hKc hPc (ci := 12) (q0 := 0) rfl rfl, fun U hU hW => ⟨rfl, by rw [hU]; exact hPc, va_K.moved hW.alike hKc⟩⟩ rfl rfl hl.1 rfl (lv_room (Nat.le_of_ble_eq_true rfl)) dL_law_1695 ⟨Nat.le_of_ble_eq_true rfl, Nat.le_of_ble_eq_true rfl⟩) hS (fun q _ h => h.elim) (fun q h => h.elim) (fun r_2 u t H1 locs ht hvm hw hB hz1 hk1 hS => ?_)
  have hP := gz_keep hP hk1
  generalize H1 = H at hP hS ⊢
  subst hw
  refine lv_icmp_eq (tgt := 2056) hx hb dL_law_1698 (by decide) (fun c_3 => ?_) (fun c_3 => absurd (by decide) c_3)
  exact law_tail C0 (Nat.le_of_ble_eq_true rfl) (Nat.le_of_ble_eq_true rfl) hS (lv_sub hl [0, 3] rfl)
set_option maxHeartbeats 4000000 in
set_option maxRecDepth 100000 in
theorem law_c43 {p : Program} {l : Launch} {e : Env} {s : State} {m : MethodId} {below : List Frame} {meth : Method} {c : Code} {dC : Nat → ClassId} {dI : Nat → Nat → Nat} {b : Nat} {xs : Nat → Int32} (C0 : lw_At p s m meth c b 6 xs) {x0 m0 : Nat} {rx rm : Nat → Nat} {k1 : ClassId} {kf : Nat → ClassId} {H : Heap} {locs : List Loc} {ls : Array Slot} (hK : va_K (dC, dI) vwCl (law_T k1 kf) s) (hP : va_P (dC, dI) vwCl (law_W x0 m0 rx rm k1 kf) H) (hD : va_D (fun q : Nat => s.heap.size ≤ q) (law_W x0 m0 rx rm k1 kf)) (hS : va_S (fun q : Nat => s.heap.size ≤ q) s.heap H locs) (hl : lv_has ls 4 [(0, .ref b), (1, .ref x0), (2, .ref m0), (3, .int 0)]) : W p l e room_1 s m #[Value.ref b] below meth c H locs 1000 100000 (lw_Z below #[Value.ref b] s) (F0 m 1703 ls []) := by
  obtain ⟨hx, hb, hr, hml, hown0, hts, hX, hbl, hlocks, hgv⟩ := id C0
  have hown : s.vm.findClass RL = some m.cls := hown0
  have hA : ∀ q : Nat, s.heap.size ≤ q → (fun q : Nat => s.heap.size ≤ q) q := fun _ h => h
  have hbA : ¬ (fun q : Nat => s.heap.size ≤ q) b := Nat.not_le.mpr hbl
  have hK : va_K (dC, dI) vwCl [(k1, .byte), ((kf 0), .int), ((kf 1), .int), ((kf 2), .int), ((kf 3), .int), ((kf 5), .int), ((kf 6), .int), ((kf 7), .int), ((kf 8), .int), ((kf 9), .int), ((kf 10), .int), ((kf 11), .int), ((kf 4), .boolean), ((kf 12), .int), ((kf 13), .int)] s := hK
  have hP : va_P (dC, dI) vwCl [(x0, .inr (11, fsX rx)), ((rx 0), .inr (6, fsR rx)), ((rx 11), .inr (10, fsT rx)), ((rx 13), .inl (k1, 1600, .inl (fun _ => 0))), ((rx 12), .inr (0, fsD rx)), ((rx 1), .inr (0, fsA rx)), (m0, .inr (12, fsM rm)), ((rm 0), .inl ((kf 0), 6, .inl (fun _ => 0))), ((rm 1), .inl ((kf 1), 36, .inl (fun _ => 0))), ((rm 2), .inl ((kf 2), 24, .inl (fun _ => 0))), ((rm 3), .inl ((kf 3), 24, .inl (fun _ => 0))), ((rm 5), .inl ((kf 5), 24, .inl (fun _ => 0))), ((rm 6), .inl ((kf 6), 24, .inl (fun _ => 0))), ((rm 7), .inl ((kf 7), 24, .inl (fun _ => 0))), ((rm 8), .inl ((kf 8), 8, .inl (fun _ => 0))), ((rm 9), .inl ((kf 9), 8, .inl (fun _ => 0))), ((rm 10), .inl ((kf 10), 8, .inl (fun _ => 0))), ((rm 11), .inl ((kf 11), 8, .inl (fun _ => 0))), ((rm 4), .inl ((kf 4), 24, .inl (fun _ => 0))), ((rm 12), .inl ((kf 12), 300, .inl (fun _ => 0))), ((rm 13), .inl ((kf 13), 1600, .inl (fun _ => 0)))] H := hP
  have hD : va_D (fun q : Nat => s.heap.size ≤ q) [(x0, .inr (11, fsX rx)), ((rx 0), .inr (6, fsR rx)), ((rx 11), .inr (10, fsT rx)), ((rx 13), .inl (k1, 1600, .inl (fun _ => 0))), ((rx 12), .inr (0, fsD rx)), ((rx 1), .inr (0, fsA rx)), (m0, .inr (12, fsM rm)), ((rm 0), .inl ((kf 0), 6, .inl (fun _ => 0))), ((rm 1), .inl ((kf 1), 36, .inl (fun _ => 0))), ((rm 2), .inl ((kf 2), 24, .inl (fun _ => 0))), ((rm 3), .inl ((kf 3), 24, .inl (fun _ => 0))), ((rm 5), .inl ((kf 5), 24, .inl (fun _ => 0))), ((rm 6), .inl ((kf 6), 24, .inl (fun _ => 0))), ((rm 7), .inl ((kf 7), 24, .inl (fun _ => 0))), ((rm 8), .inl ((kf 8), 8, .inl (fun _ => 0))), ((rm 9), .inl ((kf 9), 8, .inl (fun _ => 0))), ((rm 10), .inl ((kf 10), 8, .inl (fun _ => 0))), ((rm 11), .inl ((kf 11), 8, .inl (fun _ => 0))), ((rm 4), .inl ((kf 4), 24, .inl (fun _ => 0))), ((rm 12), .inl ((kf 12), 300, .inl (fun _ => 0))), ((rm 13), .inl ((kf 13), 1600, .inl (fun _ => 0)))] := hD
  refine lv_aload_n hx hb dL_law_1703 rfl (lv_at hl 1 rfl) ?_
  refine lv_aload_n hx hb dL_law_1704 rfl (lv_at hl 0 rfl) ?_
  refine lv_iload_n hx hb dL_law_1705 rfl (lv_at hl 3 rfl) ?_
  refine lv_iconst (v := 1) hx hb dL_law_1706 (by decide) ?_
  refine lv_iadd hx hb dL_law_1707 ?_
  refine gz_topi (y := 1) (by decide) ?_
  refine va_sld hx hb hX hbl hbA hS (by unfold vp_in; decide) dL_law_1708 ?_
  refine gz_topi (y := xs 1) (congrArg xs (by decide)) ?_
  have hPc := hP.sub (ws' := [(x0, .inr (11, fsX rx)), ((rx 1), .inr (0, fsA rx))]) [0, 5] rfl
  have hKc := hK.sub (tys' := []) [] rfl
  refine va_calli (va_runV (As := [.int (xs 1)]) (rest := []) ⟨hx, hb, hml, hown, hts⟩ (fX11_later l dC dI x0 rx (xs 1)) (cwV 1 hts (gz_lV lm_347 lm_348 lm_349 lm_4 lm_346 lwGA goodGA) rfl rfl rfl (by decide +kernel) ⟨Nat.le_of_ble_eq_true rfl, Nat.le_of_ble_eq_true rfl⟩) ⟨fun a U g mk q => by obtain ⟨q0, qP, qK⟩ := q; exact ⟨q0, qP, va_K.moved (u := U) (U := U.calling g mk a) (Vm.Alike.refl U.vm) qK⟩, va_recv hKc hPc (ci := 11) (q0 := 0) rfl rfl, fun U hU hW => ⟨rfl, by rw [hU]; exact hPc, va_K.moved hW.alike hKc⟩⟩ rfl rfl hl.1 rfl (lv_room (Nat.le_of_ble_eq_true rfl)) dL_law_1709 ⟨Nat.le_of_ble_eq_true rfl, Nat.le_of_ble_eq_true rfl⟩) hS (fun q _ h => h.elim) (fun q h => h.elim) (fun r_1 u t H1 locs ht hvm hw hB hz1 hk1 hS => ?_)
  have hP := gz_keep hP hk1
  generalize H1 = H at hP hS ⊢
  subst hw
  refine lv_aload_n hx hb dL_law_1712 rfl (lv_at hl 2 rfl) ?_
  refine lv_aload_n hx hb dL_law_1713 rfl (lv_at hl 0 rfl) ?_
  refine lv_iload_n hx hb dL_law_1714 rfl (lv_at hl 3 rfl) ?_
  refine lv_iconst (v := 1) hx hb dL_law_1715 (by decide) ?_
  refine lv_iadd hx hb dL_law_1716 ?_
  refine gz_topi (y := 1) (by decide) ?_
  refine va_sld hx hb hX hbl hbA hS (by unfold vp_in; decide) dL_law_1717 ?_
  refine gz_topi (y := xs 1) (congrArg xs (by decide)) ?_
  have hPc := hP.sub (ws' := [(m0, .inr (12, fsM rm))]) [6] rfl
  have hKc := hK.sub (tys' := []) [] rfl
  refine va_calli (va_runV (As := [.int (xs 1)]) (rest := [.int (-2)]) ⟨hx, hb, hml, hown, hts⟩ (fX12_later l dC dI m0 rm (xs 1)) (cwV 1 hts (gz_lV lm_351 lm_352 lm_353 lm_9 lm_350 lwGB goodGB) rfl rfl rfl (by decide +kernel) ⟨Nat.le_of_ble_eq_true rfl, Nat.le_of_ble_eq_true rfl⟩) ⟨fun a U g mk q => by obtain ⟨q0, qP, qK⟩ := q; exact ⟨q0, qP, va_K.moved (u := U) (U := U.calling g mk a) (Vm.Alike.refl U.vm) qK⟩, va_recv hKc hPc (ci := 12) (q0 := 0) rfl rfl, fun U hU hW => ⟨rfl, by rw [hU]; exact hPc, va_K.moved hW.alike hKc⟩⟩ rfl rfl hl.1 rfl (lv_room (Nat.le_of_ble_eq_true rfl)) dL_law_1718 ⟨Nat.le_of_ble_eq_true rfl, Nat.le_of_ble_eq_true rfl⟩) hS (fun q _ h => h.elim) (fun q h => h.elim) (fun r_2 u t H1 locs ht hvm hw hB hz1 hk1 hS => ?_)
  have hP := gz_keep hP hk1
  generalize H1 = H at hP hS ⊢
  subst hw
  refine lv_icmp_eq (tgt := 2056) hx hb dL_law_1721 (by decide) (fun c_3 => ?_) (fun c_3 => absurd (by decide) c_3)
  exact law_tail C0 (Nat.le_of_ble_eq_true rfl) (Nat.le_of_ble_eq_true rfl) hS (lv_sub hl [0, 3] rfl)
set_option maxHeartbeats 4000000 in
set_option maxRecDepth 100000 in
theorem law_c44 {p : Program} {l : Launch} {e : Env} {s : State} {m : MethodId} {below : List Frame} {meth : Method} {c : Code} {dC : Nat → ClassId} {dI : Nat → Nat → Nat} {b : Nat} {xs : Nat → Int32} (C0 : lw_At p s m meth c b 6 xs) {x0 m0 : Nat} {rx rm : Nat → Nat} {k1 : ClassId} {kf : Nat → ClassId} {H : Heap} {locs : List Loc} {ls : Array Slot} (hK : va_K (dC, dI) vwCl (law_T k1 kf) s) (hP : va_P (dC, dI) vwCl (law_W x0 m0 rx rm k1 kf) H) (hD : va_D (fun q : Nat => s.heap.size ≤ q) (law_W x0 m0 rx rm k1 kf)) (hS : va_S (fun q : Nat => s.heap.size ≤ q) s.heap H locs) (hl : lv_has ls 4 [(0, .ref b), (1, .ref x0), (2, .ref m0), (3, .int 0)]) : W p l e room_1 s m #[Value.ref b] below meth c H locs 1000 100000 (lw_Z below #[Value.ref b] s) (F0 m 1726 ls []) := by
  obtain ⟨hx, hb, hr, hml, hown0, hts, hX, hbl, hlocks, hgv⟩ := id C0
  have hown : s.vm.findClass RL = some m.cls := hown0
  have hA : ∀ q : Nat, s.heap.size ≤ q → (fun q : Nat => s.heap.size ≤ q) q := fun _ h => h
  have hbA : ¬ (fun q : Nat => s.heap.size ≤ q) b := Nat.not_le.mpr hbl
  have hK : va_K (dC, dI) vwCl [(k1, .byte), ((kf 0), .int), ((kf 1), .int), ((kf 2), .int), ((kf 3), .int), ((kf 5), .int), ((kf 6), .int), ((kf 7), .int), ((kf 8), .int), ((kf 9), .int), ((kf 10), .int), ((kf 11), .int), ((kf 4), .boolean), ((kf 12), .int), ((kf 13), .int)] s := hK
  have hP : va_P (dC, dI) vwCl [(x0, .inr (11, fsX rx)), ((rx 0), .inr (6, fsR rx)), ((rx 11), .inr (10, fsT rx)), ((rx 13), .inl (k1, 1600, .inl (fun _ => 0))), ((rx 12), .inr (0, fsD rx)), ((rx 1), .inr (0, fsA rx)), (m0, .inr (12, fsM rm)), ((rm 0), .inl ((kf 0), 6, .inl (fun _ => 0))), ((rm 1), .inl ((kf 1), 36, .inl (fun _ => 0))), ((rm 2), .inl ((kf 2), 24, .inl (fun _ => 0))), ((rm 3), .inl ((kf 3), 24, .inl (fun _ => 0))), ((rm 5), .inl ((kf 5), 24, .inl (fun _ => 0))), ((rm 6), .inl ((kf 6), 24, .inl (fun _ => 0))), ((rm 7), .inl ((kf 7), 24, .inl (fun _ => 0))), ((rm 8), .inl ((kf 8), 8, .inl (fun _ => 0))), ((rm 9), .inl ((kf 9), 8, .inl (fun _ => 0))), ((rm 10), .inl ((kf 10), 8, .inl (fun _ => 0))), ((rm 11), .inl ((kf 11), 8, .inl (fun _ => 0))), ((rm 4), .inl ((kf 4), 24, .inl (fun _ => 0))), ((rm 12), .inl ((kf 12), 300, .inl (fun _ => 0))), ((rm 13), .inl ((kf 13), 1600, .inl (fun _ => 0)))] H := hP
  have hD : va_D (fun q : Nat => s.heap.size ≤ q) [(x0, .inr (11, fsX rx)), ((rx 0), .inr (6, fsR rx)), ((rx 11), .inr (10, fsT rx)), ((rx 13), .inl (k1, 1600, .inl (fun _ => 0))), ((rx 12), .inr (0, fsD rx)), ((rx 1), .inr (0, fsA rx)), (m0, .inr (12, fsM rm)), ((rm 0), .inl ((kf 0), 6, .inl (fun _ => 0))), ((rm 1), .inl ((kf 1), 36, .inl (fun _ => 0))), ((rm 2), .inl ((kf 2), 24, .inl (fun _ => 0))), ((rm 3), .inl ((kf 3), 24, .inl (fun _ => 0))), ((rm 5), .inl ((kf 5), 24, .inl (fun _ => 0))), ((rm 6), .inl ((kf 6), 24, .inl (fun _ => 0))), ((rm 7), .inl ((kf 7), 24, .inl (fun _ => 0))), ((rm 8), .inl ((kf 8), 8, .inl (fun _ => 0))), ((rm 9), .inl ((kf 9), 8, .inl (fun _ => 0))), ((rm 10), .inl ((kf 10), 8, .inl (fun _ => 0))), ((rm 11), .inl ((kf 11), 8, .inl (fun _ => 0))), ((rm 4), .inl ((kf 4), 24, .inl (fun _ => 0))), ((rm 12), .inl ((kf 12), 300, .inl (fun _ => 0))), ((rm 13), .inl ((kf 13), 1600, .inl (fun _ => 0)))] := hD
  refine lv_aload_n hx hb dL_law_1726 rfl (lv_at hl 1 rfl) ?_
  refine lv_aload_n hx hb dL_law_1727 rfl (lv_at hl 0 rfl) ?_
  refine lv_iload_n hx hb dL_law_1728 rfl (lv_at hl 3 rfl) ?_
  refine lv_iconst (v := 1) hx hb dL_law_1729 (by decide) ?_
  refine lv_iadd hx hb dL_law_1730 ?_
  refine gz_topi (y := 1) (by decide) ?_
  refine va_sld hx hb hX hbl hbA hS (by unfold vp_in; decide) dL_law_1731 ?_
  refine gz_topi (y := xs 1) (congrArg xs (by decide)) ?_
  refine lv_aload_n hx hb dL_law_1732 rfl (lv_at hl 0 rfl) ?_
  refine lv_iload_n hx hb dL_law_1733 rfl (lv_at hl 3 rfl) ?_
  refine lv_iconst (v := 2) hx hb dL_law_1734 (by decide) ?_
  refine lv_iadd hx hb dL_law_1735 ?_
  refine gz_topi (y := 2) (by decide) ?_
  refine va_sld hx hb hX hbl hbA hS (by unfold vp_in; decide) dL_law_1736 ?_
  refine gz_topi (y := xs 2) (congrArg xs (by decide)) ?_
  have hPc := hP.sub (ws' := [(x0, .inr (11, fsX rx)), ((rx 1), .inr (0, fsA rx))]) [0, 5] rfl
  have hKc := hK.sub (tys' := []) [] rfl
  refine va_calli (va_runV (As := [.int (xs 1), .int (xs 2)]) (rest := []) ⟨hx, hb, hml, hown, hts⟩ (fX11_both l dC dI x0 rx (xs 1) (xs 2)) (cwV 2 hts (gz_lV lm_355 lm_356 lm_357 lm_4 lm_354 lwGA goodGA) rfl rfl rfl (by decide +kernel) ⟨Nat.le_of_ble_eq_true rfl, Nat.le_of_ble_eq_true rfl⟩) ⟨fun a U g mk q => by obtain ⟨q0, qP, qK⟩ := q; exact ⟨q0, qP, va_K.moved (u := U) (U := U.calling g mk a) (Vm.Alike.refl U.vm) qK⟩, va_recv hKc hPc (ci := 11) (q0 := 0) rfl rfl, fun U hU hW => ⟨rfl, by rw [hU]; exact hPc, va_K.moved hW.alike hKc⟩⟩ rfl rfl hl.1 rfl (lv_room (Nat.le_of_ble_eq_true rfl)) dL_law_1737 ⟨Nat.le_of_ble_eq_true rfl, Nat.le_of_ble_eq_true rfl⟩) hS (fun q _ h => h.elim) (fun q h => h.elim) (fun r_1 u t H1 locs ht hvm hw hB hz1 hk1 hS => ?_)
  have hP := gz_keep hP hk1
  generalize H1 = H at hP hS ⊢
  subst hw
  refine lv_aload_n hx hb dL_law_1740 rfl (lv_at hl 2 rfl) ?_
  refine lv_aload_n hx hb dL_law_1741 rfl (lv_at hl 0 rfl) ?_
  refine lv_iload_n hx hb dL_law_1742 rfl (lv_at hl 3 rfl) ?_
  refine lv_iconst (v := 1) hx hb dL_law_1743 (by decide) ?_
  refine lv_iadd hx hb dL_law_1744 ?_
  refine gz_topi (y := 1) (by decide) ?_
  refine va_sld hx hb hX hbl hbA hS (by unfold vp_in; decide) dL_law_1745 ?_
  refine gz_topi (y := xs 1) (congrArg xs (by decide)) ?_
  refine lv_aload_n hx hb dL_law_1746 rfl (lv_at hl 0 rfl) ?_
  refine lv_iload_n hx hb dL_law_1747 rfl (lv_at hl 3 rfl) ?_
  refine lv_iconst (v := 2) hx hb dL_law_1748 (by decide) ?_
  refine lv_iadd hx hb dL_law_1749 ?_
  refine gz_topi (y := 2) (by decide) ?_
  refine va_sld hx hb hX hbl hbA hS (by unfold vp_in; decide) dL_law_1750 ?_
  refine gz_topi (y := xs 2) (congrArg xs (by decide)) ?_
  have hPc := hP.sub (ws' := [(m0, .inr (12, fsM rm))]) [6] rfl
  have hKc := hK.sub (tys' := []) [] rfl
  refine va_calli (va_runV (As := [.int (xs 1), .int (xs 2)]) (rest := [.int (-2)]) ⟨hx, hb, hml, hown, hts⟩ (fX12_both l dC dI m0 rm (xs 1) (xs 2)) (cwV 2 hts (gz_lV lm_359 lm_360 lm_361 lm_9 lm_358 lwGB goodGB) rfl rfl rfl (by decide +kernel) ⟨Nat.le_of_ble_eq_true rfl, Nat.le_of_ble_eq_true rfl⟩) ⟨fun a U g mk q => by obtain ⟨q0, qP, qK⟩ := q; exact ⟨q0, qP, va_K.moved (u := U) (U := U.calling g mk a) (Vm.Alike.refl U.vm) qK⟩, va_recv hKc hPc (ci := 12) (q0 := 0) rfl rfl, fun U hU hW => ⟨rfl, by rw [hU]; exact hPc, va_K.moved hW.alike hKc⟩⟩ rfl rfl hl.1 rfl (lv_room (Nat.le_of_ble_eq_true rfl)) dL_law_1751 ⟨Nat.le_of_ble_eq_true rfl, Nat.le_of_ble_eq_true rfl⟩) hS (fun q _ h => h.elim) (fun q h => h.elim) (fun r_2 u t H1 locs ht hvm hw hB hz1 hk1 hS => ?_)
  have hP := gz_keep hP hk1
  generalize H1 = H at hP hS ⊢
  subst hw
  refine lv_icmp_eq (tgt := 2056) hx hb dL_law_1754 (by decide) (fun c_3 => ?_) (fun c_3 => absurd (by decide) c_3)
  exact law_tail C0 (Nat.le_of_ble_eq_true rfl) (Nat.le_of_ble_eq_true rfl) hS (lv_sub hl [0, 3] rfl)
