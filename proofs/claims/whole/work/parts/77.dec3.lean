/-! WHAT STANDS WHERE IN THE LAW (printed by wip/gen8.py) -/
theorem dl_1422 : decode code 1422 = .ok ((.iload_n 3), 1) := by decide +kernel
theorem dl_1423 : decode code 1423 = .ok ((.iconst 2), 1) := by decide +kernel
theorem dl_1424 : decode code 1424 = .ok (.iadd, 1) := by decide +kernel
theorem dl_1425 : decode code 1425 = .ok (.iaload, 1) := by decide +kernel
theorem dl_1426 : decode code 1426 = .ok ((.invokevirtual 150), 3) := by decide +kernel
theorem dl_1429 : decode code 1429 = .ok ((.aload_n 2), 1) := by decide +kernel
theorem dl_1430 : decode code 1430 = .ok ((.aload_n 0), 1) := by decide +kernel
theorem dl_1431 : decode code 1431 = .ok ((.iload_n 3), 1) := by decide +kernel
theorem dl_1432 : decode code 1432 = .ok ((.iconst 1), 1) := by decide +kernel
theorem dl_1433 : decode code 1433 = .ok (.iadd, 1) := by decide +kernel
theorem dl_1434 : decode code 1434 = .ok (.iaload, 1) := by decide +kernel
theorem dl_1435 : decode code 1435 = .ok ((.aload_n 0), 1) := by decide +kernel
theorem dl_1436 : decode code 1436 = .ok ((.iload_n 3), 1) := by decide +kernel
theorem dl_1437 : decode code 1437 = .ok ((.iconst 2), 1) := by decide +kernel
theorem dl_1438 : decode code 1438 = .ok (.iadd, 1) := by decide +kernel
theorem dl_1439 : decode code 1439 = .ok (.iaload, 1) := by decide +kernel
theorem dl_1440 : decode code 1440 = .ok ((.invokevirtual 153), 3) := by decide +kernel
theorem dl_1443 : decode code 1443 = .ok ((.if_icmp .eq 328), 3) := by decide +kernel
theorem dl_1446 : decode code 1446 = .ok ((.iconst 0), 1) := by decide +kernel
theorem dl_1447 : decode code 1447 = .ok (.ireturn, 1) := by decide +kernel
theorem dl_1448 : decode code 1448 = .ok ((.aload_n 1), 1) := by decide +kernel
theorem dl_1449 : decode code 1449 = .ok ((.aload_n 0), 1) := by decide +kernel
theorem dl_1450 : decode code 1450 = .ok ((.iload_n 3), 1) := by decide +kernel
theorem dl_1451 : decode code 1451 = .ok ((.iconst 1), 1) := by decide +kernel
theorem dl_1452 : decode code 1452 = .ok (.iadd, 1) := by decide +kernel
theorem dl_1453 : decode code 1453 = .ok (.iaload, 1) := by decide +kernel
theorem dl_1454 : decode code 1454 = .ok ((.aload_n 0), 1) := by decide +kernel
theorem dl_1455 : decode code 1455 = .ok ((.iload_n 3), 1) := by decide +kernel
theorem dl_1456 : decode code 1456 = .ok ((.iconst 2), 1) := by decide +kernel
theorem dl_1457 : decode code 1457 = .ok (.iadd, 1) := by decide +kernel
theorem dl_1458 : decode code 1458 = .ok (.iaload, 1) := by decide +kernel
theorem dl_1459 : decode code 1459 = .ok ((.aload_n 0), 1) := by decide +kernel
theorem dl_1460 : decode code 1460 = .ok ((.iload_n 3), 1) := by decide +kernel
theorem dl_1461 : decode code 1461 = .ok ((.iconst 3), 1) := by decide +kernel
theorem dl_1462 : decode code 1462 = .ok (.iadd, 1) := by decide +kernel
theorem dl_1463 : decode code 1463 = .ok (.iaload, 1) := by decide +kernel
theorem dl_1464 : decode code 1464 = .ok ((.invokevirtual 154), 3) := by decide +kernel
theorem dl_1467 : decode code 1467 = .ok ((.aload_n 2), 1) := by decide +kernel
theorem dl_1468 : decode code 1468 = .ok ((.aload_n 0), 1) := by decide +kernel
theorem dl_1469 : decode code 1469 = .ok ((.iload_n 3), 1) := by decide +kernel
theorem dl_1470 : decode code 1470 = .ok ((.iconst 1), 1) := by decide +kernel
theorem dl_1471 : decode code 1471 = .ok (.iadd, 1) := by decide +kernel
theorem dl_1472 : decode code 1472 = .ok (.iaload, 1) := by decide +kernel
theorem dl_1473 : decode code 1473 = .ok ((.aload_n 0), 1) := by decide +kernel
theorem dl_1474 : decode code 1474 = .ok ((.iload_n 3), 1) := by decide +kernel
theorem dl_1475 : decode code 1475 = .ok ((.iconst 2), 1) := by decide +kernel
theorem dl_1476 : decode code 1476 = .ok (.iadd, 1) := by decide +kernel
theorem dl_1477 : decode code 1477 = .ok (.iaload, 1) := by decide +kernel
theorem dl_1478 : decode code 1478 = .ok ((.aload_n 0), 1) := by decide +kernel
theorem dl_1479 : decode code 1479 = .ok ((.iload_n 3), 1) := by decide +kernel
theorem dl_1480 : decode code 1480 = .ok ((.iconst 3), 1) := by decide +kernel
theorem dl_1481 : decode code 1481 = .ok (.iadd, 1) := by decide +kernel
theorem dl_1482 : decode code 1482 = .ok (.iaload, 1) := by decide +kernel
theorem dl_1483 : decode code 1483 = .ok ((.invokevirtual 157), 3) := by decide +kernel
theorem dl_1486 : decode code 1486 = .ok ((.if_icmp .eq 285), 3) := by decide +kernel
theorem dl_1489 : decode code 1489 = .ok ((.iconst 0), 1) := by decide +kernel
theorem dl_1490 : decode code 1490 = .ok (.ireturn, 1) := by decide +kernel
theorem dl_1491 : decode code 1491 = .ok ((.aload_n 1), 1) := by decide +kernel
theorem dl_1492 : decode code 1492 = .ok ((.aload_n 0), 1) := by decide +kernel
theorem dl_1493 : decode code 1493 = .ok ((.iload_n 3), 1) := by decide +kernel
theorem dl_1494 : decode code 1494 = .ok ((.iconst 1), 1) := by decide +kernel
theorem dl_1495 : decode code 1495 = .ok (.iadd, 1) := by decide +kernel
theorem dl_1496 : decode code 1496 = .ok (.iaload, 1) := by decide +kernel
theorem dl_1497 : decode code 1497 = .ok ((.aload_n 0), 1) := by decide +kernel
theorem dl_1498 : decode code 1498 = .ok ((.iload_n 3), 1) := by decide +kernel
theorem dl_1499 : decode code 1499 = .ok ((.iconst 2), 1) := by decide +kernel
theorem dl_1500 : decode code 1500 = .ok (.iadd, 1) := by decide +kernel
theorem dl_1501 : decode code 1501 = .ok (.iaload, 1) := by decide +kernel
theorem dl_1502 : decode code 1502 = .ok ((.invokevirtual 158), 3) := by decide +kernel
theorem dl_1505 : decode code 1505 = .ok ((.aload_n 2), 1) := by decide +kernel
theorem dl_1506 : decode code 1506 = .ok ((.aload_n 0), 1) := by decide +kernel
theorem dl_1507 : decode code 1507 = .ok ((.iload_n 3), 1) := by decide +kernel
theorem dl_1508 : decode code 1508 = .ok ((.iconst 1), 1) := by decide +kernel
theorem dl_1509 : decode code 1509 = .ok (.iadd, 1) := by decide +kernel
theorem dl_1510 : decode code 1510 = .ok (.iaload, 1) := by decide +kernel
theorem dl_1511 : decode code 1511 = .ok ((.aload_n 0), 1) := by decide +kernel
theorem dl_1512 : decode code 1512 = .ok ((.iload_n 3), 1) := by decide +kernel
theorem dl_1513 : decode code 1513 = .ok ((.iconst 2), 1) := by decide +kernel
theorem dl_1514 : decode code 1514 = .ok (.iadd, 1) := by decide +kernel
theorem dl_1515 : decode code 1515 = .ok (.iaload, 1) := by decide +kernel
theorem dl_1516 : decode code 1516 = .ok ((.invokevirtual 161), 3) := by decide +kernel
theorem dl_1519 : decode code 1519 = .ok ((.if_icmp .eq 252), 3) := by decide +kernel
theorem dl_1522 : decode code 1522 = .ok ((.iconst 0), 1) := by decide +kernel
theorem dl_1523 : decode code 1523 = .ok (.ireturn, 1) := by decide +kernel
theorem dl_1524 : decode code 1524 = .ok ((.aload_n 1), 1) := by decide +kernel
theorem dl_1525 : decode code 1525 = .ok ((.aload_n 0), 1) := by decide +kernel
theorem dl_1526 : decode code 1526 = .ok ((.iload_n 3), 1) := by decide +kernel
theorem dl_1527 : decode code 1527 = .ok ((.iconst 1), 1) := by decide +kernel
theorem dl_1528 : decode code 1528 = .ok (.iadd, 1) := by decide +kernel
theorem dl_1529 : decode code 1529 = .ok (.iaload, 1) := by decide +kernel
theorem dl_1530 : decode code 1530 = .ok ((.aload_n 0), 1) := by decide +kernel
theorem dl_1531 : decode code 1531 = .ok ((.iload_n 3), 1) := by decide +kernel
theorem dl_1532 : decode code 1532 = .ok ((.iconst 2), 1) := by decide +kernel
theorem dl_1533 : decode code 1533 = .ok (.iadd, 1) := by decide +kernel
theorem dl_1534 : decode code 1534 = .ok (.iaload, 1) := by decide +kernel
theorem dl_1535 : decode code 1535 = .ok ((.invokevirtual 162), 3) := by decide +kernel
theorem dl_1538 : decode code 1538 = .ok ((.aload_n 2), 1) := by decide +kernel
theorem dl_1539 : decode code 1539 = .ok ((.aload_n 0), 1) := by decide +kernel
theorem dl_1540 : decode code 1540 = .ok ((.iload_n 3), 1) := by decide +kernel
theorem dl_1541 : decode code 1541 = .ok ((.iconst 1), 1) := by decide +kernel
theorem dl_1542 : decode code 1542 = .ok (.iadd, 1) := by decide +kernel
theorem dl_1543 : decode code 1543 = .ok (.iaload, 1) := by decide +kernel
theorem dl_1544 : decode code 1544 = .ok ((.aload_n 0), 1) := by decide +kernel
theorem dl_1545 : decode code 1545 = .ok ((.iload_n 3), 1) := by decide +kernel
theorem dl_1546 : decode code 1546 = .ok ((.iconst 2), 1) := by decide +kernel
theorem dl_1547 : decode code 1547 = .ok (.iadd, 1) := by decide +kernel
theorem dl_1548 : decode code 1548 = .ok (.iaload, 1) := by decide +kernel
theorem dl_1549 : decode code 1549 = .ok ((.invokevirtual 165), 3) := by decide +kernel
theorem dl_1552 : decode code 1552 = .ok ((.if_icmp .eq 219), 3) := by decide +kernel
theorem dl_1555 : decode code 1555 = .ok ((.iconst 0), 1) := by decide +kernel
theorem dl_1556 : decode code 1556 = .ok (.ireturn, 1) := by decide +kernel
theorem dl_1557 : decode code 1557 = .ok ((.aload_n 1), 1) := by decide +kernel
theorem dl_1558 : decode code 1558 = .ok ((.aload_n 0), 1) := by decide +kernel
theorem dl_1559 : decode code 1559 = .ok ((.iload_n 3), 1) := by decide +kernel
theorem dl_1560 : decode code 1560 = .ok ((.iconst 1), 1) := by decide +kernel
theorem dl_1561 : decode code 1561 = .ok (.iadd, 1) := by decide +kernel
theorem dl_1562 : decode code 1562 = .ok (.iaload, 1) := by decide +kernel
theorem dl_1563 : decode code 1563 = .ok ((.invokevirtual 166), 3) := by decide +kernel
theorem dl_1566 : decode code 1566 = .ok ((.aload_n 2), 1) := by decide +kernel
theorem dl_1567 : decode code 1567 = .ok ((.aload_n 0), 1) := by decide +kernel
theorem dl_1568 : decode code 1568 = .ok ((.iload_n 3), 1) := by decide +kernel
theorem dl_1569 : decode code 1569 = .ok ((.iconst 1), 1) := by decide +kernel
theorem dl_1570 : decode code 1570 = .ok (.iadd, 1) := by decide +kernel
theorem dl_1571 : decode code 1571 = .ok (.iaload, 1) := by decide +kernel
theorem dl_1572 : decode code 1572 = .ok ((.invokevirtual 169), 3) := by decide +kernel
theorem dl_1575 : decode code 1575 = .ok ((.if_icmp .eq 196), 3) := by decide +kernel
theorem dl_1578 : decode code 1578 = .ok ((.iconst 0), 1) := by decide +kernel
theorem dl_1579 : decode code 1579 = .ok (.ireturn, 1) := by decide +kernel
theorem dl_1580 : decode code 1580 = .ok ((.aload_n 1), 1) := by decide +kernel
theorem dl_1581 : decode code 1581 = .ok ((.aload_n 0), 1) := by decide +kernel
theorem dl_1582 : decode code 1582 = .ok ((.iload_n 3), 1) := by decide +kernel
theorem dl_1583 : decode code 1583 = .ok ((.iconst 1), 1) := by decide +kernel
theorem dl_1584 : decode code 1584 = .ok (.iadd, 1) := by decide +kernel
theorem dl_1585 : decode code 1585 = .ok (.iaload, 1) := by decide +kernel
theorem dl_1586 : decode code 1586 = .ok ((.invokevirtual 170), 3) := by decide +kernel
theorem dl_1589 : decode code 1589 = .ok ((.aload_n 2), 1) := by decide +kernel
theorem dl_1590 : decode code 1590 = .ok ((.aload_n 0), 1) := by decide +kernel
theorem dl_1591 : decode code 1591 = .ok ((.iload_n 3), 1) := by decide +kernel
theorem dl_1592 : decode code 1592 = .ok ((.iconst 1), 1) := by decide +kernel
theorem dl_1593 : decode code 1593 = .ok (.iadd, 1) := by decide +kernel
theorem dl_1594 : decode code 1594 = .ok (.iaload, 1) := by decide +kernel
theorem dl_1595 : decode code 1595 = .ok ((.invokevirtual 173), 3) := by decide +kernel
theorem dl_1598 : decode code 1598 = .ok ((.if_icmp .eq 173), 3) := by decide +kernel
theorem dl_1601 : decode code 1601 = .ok ((.iconst 0), 1) := by decide +kernel
theorem dl_1602 : decode code 1602 = .ok (.ireturn, 1) := by decide +kernel
theorem dl_1603 : decode code 1603 = .ok ((.aload_n 1), 1) := by decide +kernel
theorem dl_1604 : decode code 1604 = .ok ((.aload_n 0), 1) := by decide +kernel
theorem dl_1605 : decode code 1605 = .ok ((.iload_n 3), 1) := by decide +kernel
theorem dl_1606 : decode code 1606 = .ok ((.iconst 1), 1) := by decide +kernel
theorem dl_1607 : decode code 1607 = .ok (.iadd, 1) := by decide +kernel
theorem dl_1608 : decode code 1608 = .ok (.iaload, 1) := by decide +kernel
theorem dl_1609 : decode code 1609 = .ok ((.aload_n 0), 1) := by decide +kernel
theorem dl_1610 : decode code 1610 = .ok ((.iload_n 3), 1) := by decide +kernel
theorem dl_1611 : decode code 1611 = .ok ((.iconst 2), 1) := by decide +kernel
theorem dl_1612 : decode code 1612 = .ok (.iadd, 1) := by decide +kernel
theorem dl_1613 : decode code 1613 = .ok (.iaload, 1) := by decide +kernel
theorem dl_1614 : decode code 1614 = .ok ((.invokevirtual 174), 3) := by decide +kernel
theorem dl_1617 : decode code 1617 = .ok ((.aload_n 2), 1) := by decide +kernel
theorem dl_1618 : decode code 1618 = .ok ((.aload_n 0), 1) := by decide +kernel
theorem dl_1619 : decode code 1619 = .ok ((.iload_n 3), 1) := by decide +kernel
theorem dl_1620 : decode code 1620 = .ok ((.iconst 1), 1) := by decide +kernel
theorem dl_1621 : decode code 1621 = .ok (.iadd, 1) := by decide +kernel
theorem dl_1622 : decode code 1622 = .ok (.iaload, 1) := by decide +kernel
theorem dl_1623 : decode code 1623 = .ok ((.aload_n 0), 1) := by decide +kernel
theorem dl_1624 : decode code 1624 = .ok ((.iload_n 3), 1) := by decide +kernel
theorem dl_1625 : decode code 1625 = .ok ((.iconst 2), 1) := by decide +kernel
theorem dl_1626 : decode code 1626 = .ok (.iadd, 1) := by decide +kernel
theorem dl_1627 : decode code 1627 = .ok (.iaload, 1) := by decide +kernel
theorem dl_1628 : decode code 1628 = .ok ((.invokevirtual 177), 3) := by decide +kernel
theorem dl_1631 : decode code 1631 = .ok ((.if_icmp .eq 140), 3) := by decide +kernel
theorem dl_1634 : decode code 1634 = .ok ((.iconst 0), 1) := by decide +kernel
theorem dl_1635 : decode code 1635 = .ok (.ireturn, 1) := by decide +kernel
theorem dl_1636 : decode code 1636 = .ok ((.aload_n 1), 1) := by decide +kernel
theorem dl_1637 : decode code 1637 = .ok ((.aload_n 0), 1) := by decide +kernel
theorem dl_1638 : decode code 1638 = .ok ((.iload_n 3), 1) := by decide +kernel
theorem dl_1639 : decode code 1639 = .ok ((.iconst 1), 1) := by decide +kernel
theorem dl_1640 : decode code 1640 = .ok (.iadd, 1) := by decide +kernel
theorem dl_1641 : decode code 1641 = .ok (.iaload, 1) := by decide +kernel
theorem dl_1642 : decode code 1642 = .ok ((.aload_n 0), 1) := by decide +kernel
theorem dl_1643 : decode code 1643 = .ok ((.iload_n 3), 1) := by decide +kernel
theorem dl_1644 : decode code 1644 = .ok ((.iconst 2), 1) := by decide +kernel
theorem dl_1645 : decode code 1645 = .ok (.iadd, 1) := by decide +kernel
theorem dl_1646 : decode code 1646 = .ok (.iaload, 1) := by decide +kernel
theorem dl_1647 : decode code 1647 = .ok ((.aload_n 0), 1) := by decide +kernel
theorem dl_1648 : decode code 1648 = .ok ((.iload_n 3), 1) := by decide +kernel
theorem dl_1649 : decode code 1649 = .ok ((.iconst 3), 1) := by decide +kernel
theorem dl_1650 : decode code 1650 = .ok (.iadd, 1) := by decide +kernel
theorem dl_1651 : decode code 1651 = .ok (.iaload, 1) := by decide +kernel
theorem dl_1652 : decode code 1652 = .ok ((.invokevirtual 178), 3) := by decide +kernel
theorem dl_1655 : decode code 1655 = .ok ((.aload_n 2), 1) := by decide +kernel
theorem dl_1656 : decode code 1656 = .ok ((.aload_n 0), 1) := by decide +kernel
theorem dl_1657 : decode code 1657 = .ok ((.iload_n 3), 1) := by decide +kernel
theorem dl_1658 : decode code 1658 = .ok ((.iconst 1), 1) := by decide +kernel
theorem dl_1659 : decode code 1659 = .ok (.iadd, 1) := by decide +kernel
theorem dl_1660 : decode code 1660 = .ok (.iaload, 1) := by decide +kernel
theorem dl_1661 : decode code 1661 = .ok ((.aload_n 0), 1) := by decide +kernel
theorem dl_1662 : decode code 1662 = .ok ((.iload_n 3), 1) := by decide +kernel
theorem dl_1663 : decode code 1663 = .ok ((.iconst 2), 1) := by decide +kernel
theorem dl_1664 : decode code 1664 = .ok (.iadd, 1) := by decide +kernel
theorem dl_1665 : decode code 1665 = .ok (.iaload, 1) := by decide +kernel
theorem dl_1666 : decode code 1666 = .ok ((.aload_n 0), 1) := by decide +kernel
theorem dl_1667 : decode code 1667 = .ok ((.iload_n 3), 1) := by decide +kernel
theorem dl_1668 : decode code 1668 = .ok ((.iconst 3), 1) := by decide +kernel
theorem dl_1669 : decode code 1669 = .ok (.iadd, 1) := by decide +kernel
theorem dl_1670 : decode code 1670 = .ok (.iaload, 1) := by decide +kernel
theorem dl_1671 : decode code 1671 = .ok ((.invokevirtual 181), 3) := by decide +kernel
theorem dl_1674 : decode code 1674 = .ok ((.if_icmp .eq 97), 3) := by decide +kernel
theorem dl_1677 : decode code 1677 = .ok ((.iconst 0), 1) := by decide +kernel
theorem dl_1678 : decode code 1678 = .ok (.ireturn, 1) := by decide +kernel
theorem dl_1679 : decode code 1679 = .ok ((.aload_n 1), 1) := by decide +kernel
theorem dl_1680 : decode code 1680 = .ok ((.invokevirtual 182), 3) := by decide +kernel
theorem dl_1683 : decode code 1683 = .ok ((.aload_n 2), 1) := by decide +kernel
theorem dl_1684 : decode code 1684 = .ok ((.invokevirtual 185), 3) := by decide +kernel
theorem dl_1687 : decode code 1687 = .ok ((.if_icmp .eq 84), 3) := by decide +kernel
theorem dl_1690 : decode code 1690 = .ok ((.iconst 0), 1) := by decide +kernel
theorem dl_1691 : decode code 1691 = .ok (.ireturn, 1) := by decide +kernel
theorem dl_1692 : decode code 1692 = .ok ((.aload_n 1), 1) := by decide +kernel
theorem dl_1693 : decode code 1693 = .ok ((.aload_n 0), 1) := by decide +kernel
theorem dl_1694 : decode code 1694 = .ok ((.iload_n 3), 1) := by decide +kernel
theorem dl_1695 : decode code 1695 = .ok ((.iconst 1), 1) := by decide +kernel
theorem dl_1696 : decode code 1696 = .ok (.iadd, 1) := by decide +kernel
theorem dl_1697 : decode code 1697 = .ok (.iaload, 1) := by decide +kernel
theorem dl_1698 : decode code 1698 = .ok ((.aload_n 0), 1) := by decide +kernel
theorem dl_1699 : decode code 1699 = .ok ((.iload_n 3), 1) := by decide +kernel
theorem dl_1700 : decode code 1700 = .ok ((.iconst 2), 1) := by decide +kernel
theorem dl_1701 : decode code 1701 = .ok (.iadd, 1) := by decide +kernel
theorem dl_1702 : decode code 1702 = .ok (.iaload, 1) := by decide +kernel
theorem dl_1703 : decode code 1703 = .ok ((.aload_n 0), 1) := by decide +kernel
theorem dl_1704 : decode code 1704 = .ok ((.iload_n 3), 1) := by decide +kernel
theorem dl_1705 : decode code 1705 = .ok ((.iconst 3), 1) := by decide +kernel
theorem dl_1706 : decode code 1706 = .ok (.iadd, 1) := by decide +kernel
theorem dl_1707 : decode code 1707 = .ok (.iaload, 1) := by decide +kernel
theorem dl_1708 : decode code 1708 = .ok ((.invokevirtual 186), 3) := by decide +kernel
theorem dl_1711 : decode code 1711 = .ok ((.aload_n 2), 1) := by decide +kernel
theorem dl_1712 : decode code 1712 = .ok ((.aload_n 0), 1) := by decide +kernel
theorem dl_1713 : decode code 1713 = .ok ((.iload_n 3), 1) := by decide +kernel
theorem dl_1714 : decode code 1714 = .ok ((.iconst 1), 1) := by decide +kernel
theorem dl_1715 : decode code 1715 = .ok (.iadd, 1) := by decide +kernel
theorem dl_1716 : decode code 1716 = .ok (.iaload, 1) := by decide +kernel
theorem dl_1717 : decode code 1717 = .ok ((.aload_n 0), 1) := by decide +kernel
theorem dl_1718 : decode code 1718 = .ok ((.iload_n 3), 1) := by decide +kernel
theorem dl_1719 : decode code 1719 = .ok ((.iconst 2), 1) := by decide +kernel
theorem dl_1720 : decode code 1720 = .ok (.iadd, 1) := by decide +kernel
theorem dl_1721 : decode code 1721 = .ok (.iaload, 1) := by decide +kernel
theorem dl_1722 : decode code 1722 = .ok ((.aload_n 0), 1) := by decide +kernel
theorem dl_1723 : decode code 1723 = .ok ((.iload_n 3), 1) := by decide +kernel
theorem dl_1724 : decode code 1724 = .ok ((.iconst 3), 1) := by decide +kernel
theorem dl_1725 : decode code 1725 = .ok (.iadd, 1) := by decide +kernel
theorem dl_1726 : decode code 1726 = .ok (.iaload, 1) := by decide +kernel
theorem dl_1727 : decode code 1727 = .ok ((.invokevirtual 189), 3) := by decide +kernel
theorem dl_1730 : decode code 1730 = .ok ((.if_icmp .eq 41), 3) := by decide +kernel
theorem dl_1733 : decode code 1733 = .ok ((.iconst 0), 1) := by decide +kernel
theorem dl_1734 : decode code 1734 = .ok (.ireturn, 1) := by decide +kernel
theorem dl_1735 : decode code 1735 = .ok ((.aload_n 1), 1) := by decide +kernel
theorem dl_1736 : decode code 1736 = .ok ((.invokevirtual 190), 3) := by decide +kernel
theorem dl_1739 : decode code 1739 = .ok ((.aload_n 2), 1) := by decide +kernel
theorem dl_1740 : decode code 1740 = .ok ((.invokevirtual 193), 3) := by decide +kernel
theorem dl_1743 : decode code 1743 = .ok ((.if_icmp .eq 28), 3) := by decide +kernel
theorem dl_1746 : decode code 1746 = .ok ((.iconst 0), 1) := by decide +kernel
theorem dl_1747 : decode code 1747 = .ok (.ireturn, 1) := by decide +kernel
theorem dl_1748 : decode code 1748 = .ok ((.aload_n 1), 1) := by decide +kernel
theorem dl_1749 : decode code 1749 = .ok ((.aload_n 0), 1) := by decide +kernel
theorem dl_1750 : decode code 1750 = .ok ((.iload_n 3), 1) := by decide +kernel
theorem dl_1751 : decode code 1751 = .ok ((.iconst 1), 1) := by decide +kernel
theorem dl_1752 : decode code 1752 = .ok (.iadd, 1) := by decide +kernel
theorem dl_1753 : decode code 1753 = .ok (.iaload, 1) := by decide +kernel
theorem dl_1754 : decode code 1754 = .ok ((.invokevirtual 194), 3) := by decide +kernel
theorem dl_1757 : decode code 1757 = .ok ((.aload_n 2), 1) := by decide +kernel
theorem dl_1758 : decode code 1758 = .ok ((.aload_n 0), 1) := by decide +kernel
theorem dl_1759 : decode code 1759 = .ok ((.iload_n 3), 1) := by decide +kernel
theorem dl_1760 : decode code 1760 = .ok ((.iconst 1), 1) := by decide +kernel
theorem dl_1761 : decode code 1761 = .ok (.iadd, 1) := by decide +kernel
theorem dl_1762 : decode code 1762 = .ok (.iaload, 1) := by decide +kernel
theorem dl_1763 : decode code 1763 = .ok ((.invokevirtual 197), 3) := by decide +kernel
theorem dl_1766 : decode code 1766 = .ok ((.if_icmp .eq 5), 3) := by decide +kernel
theorem dl_1769 : decode code 1769 = .ok ((.iconst 0), 1) := by decide +kernel
theorem dl_1770 : decode code 1770 = .ok (.ireturn, 1) := by decide +kernel
theorem dl_1771 : decode code 1771 = .ok ((.iinc 3 7), 3) := by decide +kernel
theorem dl_1774 : decode code 1774 = .ok ((.goto (-1756)), 3) := by decide +kernel
theorem dl_1777 : decode code 1777 = .ok ((.iconst 1), 1) := by decide +kernel
theorem dl_1778 : decode code 1778 = .ok (.ireturn, 1) := by decide +kernel
