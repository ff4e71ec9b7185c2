/-! rows of the law -/
theorem dL_1409 : decode code 1409 = .ok (.iadd, 1) := by decide +kernel
theorem dL_1410 : decode code 1410 = .ok (.iaload, 1) := by decide +kernel
theorem dL_1411 : decode code 1411 = .ok (.invokevirtual 184, 3) := by decide +kernel
theorem dL_1414 : decode code 1414 = .ok (.if_icmp .eq 368, 3) := by decide +kernel
theorem dL_1417 : decode code 1417 = .ok (.iconst 0, 1) := by decide +kernel
theorem dL_1418 : decode code 1418 = .ok (.ireturn, 1) := by decide +kernel
theorem dL_1419 : decode code 1419 = .ok (.aload_n 1, 1) := by decide +kernel
theorem dL_1420 : decode code 1420 = .ok (.aload_n 0, 1) := by decide +kernel
theorem dL_1421 : decode code 1421 = .ok (.iload_n 3, 1) := by decide +kernel
theorem dL_1422 : decode code 1422 = .ok (.iconst 1, 1) := by decide +kernel
theorem dL_1423 : decode code 1423 = .ok (.iadd, 1) := by decide +kernel
theorem dL_1424 : decode code 1424 = .ok (.iaload, 1) := by decide +kernel
theorem dL_1425 : decode code 1425 = .ok (.aload_n 0, 1) := by decide +kernel
theorem dL_1426 : decode code 1426 = .ok (.iload_n 3, 1) := by decide +kernel
theorem dL_1427 : decode code 1427 = .ok (.iconst 2, 1) := by decide +kernel
theorem dL_1428 : decode code 1428 = .ok (.iadd, 1) := by decide +kernel
theorem dL_1429 : decode code 1429 = .ok (.iaload, 1) := by decide +kernel
theorem dL_1430 : decode code 1430 = .ok (.aload_n 0, 1) := by decide +kernel
theorem dL_1431 : decode code 1431 = .ok (.iload_n 3, 1) := by decide +kernel
theorem dL_1432 : decode code 1432 = .ok (.iconst 3, 1) := by decide +kernel
theorem dL_1433 : decode code 1433 = .ok (.iadd, 1) := by decide +kernel
theorem dL_1434 : decode code 1434 = .ok (.iaload, 1) := by decide +kernel
theorem dL_1435 : decode code 1435 = .ok (.invokevirtual 185, 3) := by decide +kernel
theorem dL_1438 : decode code 1438 = .ok (.aload_n 2, 1) := by decide +kernel
theorem dL_1439 : decode code 1439 = .ok (.aload_n 0, 1) := by decide +kernel
theorem dL_1440 : decode code 1440 = .ok (.iload_n 3, 1) := by decide +kernel
theorem dL_1441 : decode code 1441 = .ok (.iconst 1, 1) := by decide +kernel
theorem dL_1442 : decode code 1442 = .ok (.iadd, 1) := by decide +kernel
theorem dL_1443 : decode code 1443 = .ok (.iaload, 1) := by decide +kernel
theorem dL_1444 : decode code 1444 = .ok (.aload_n 0, 1) := by decide +kernel
theorem dL_1445 : decode code 1445 = .ok (.iload_n 3, 1) := by decide +kernel
theorem dL_1446 : decode code 1446 = .ok (.iconst 2, 1) := by decide +kernel
theorem dL_1447 : decode code 1447 = .ok (.iadd, 1) := by decide +kernel
theorem dL_1448 : decode code 1448 = .ok (.iaload, 1) := by decide +kernel
theorem dL_1449 : decode code 1449 = .ok (.aload_n 0, 1) := by decide +kernel
theorem dL_1450 : decode code 1450 = .ok (.iload_n 3, 1) := by decide +kernel
theorem dL_1451 : decode code 1451 = .ok (.iconst 3, 1) := by decide +kernel
theorem dL_1452 : decode code 1452 = .ok (.iadd, 1) := by decide +kernel
theorem dL_1453 : decode code 1453 = .ok (.iaload, 1) := by decide +kernel
theorem dL_1454 : decode code 1454 = .ok (.invokevirtual 188, 3) := by decide +kernel
theorem dL_1457 : decode code 1457 = .ok (.if_icmp .eq 325, 3) := by decide +kernel
theorem dL_1460 : decode code 1460 = .ok (.iconst 0, 1) := by decide +kernel
theorem dL_1461 : decode code 1461 = .ok (.ireturn, 1) := by decide +kernel
theorem dL_1462 : decode code 1462 = .ok (.aload_n 1, 1) := by decide +kernel
theorem dL_1463 : decode code 1463 = .ok (.aload_n 0, 1) := by decide +kernel
theorem dL_1464 : decode code 1464 = .ok (.iload_n 3, 1) := by decide +kernel
theorem dL_1465 : decode code 1465 = .ok (.iconst 1, 1) := by decide +kernel
theorem dL_1466 : decode code 1466 = .ok (.iadd, 1) := by decide +kernel
theorem dL_1467 : decode code 1467 = .ok (.iaload, 1) := by decide +kernel
theorem dL_1468 : decode code 1468 = .ok (.aload_n 0, 1) := by decide +kernel
theorem dL_1469 : decode code 1469 = .ok (.iload_n 3, 1) := by decide +kernel
theorem dL_1470 : decode code 1470 = .ok (.iconst 2, 1) := by decide +kernel
theorem dL_1471 : decode code 1471 = .ok (.iadd, 1) := by decide +kernel
theorem dL_1472 : decode code 1472 = .ok (.iaload, 1) := by decide +kernel
theorem dL_1473 : decode code 1473 = .ok (.aload_n 0, 1) := by decide +kernel
theorem dL_1474 : decode code 1474 = .ok (.iload_n 3, 1) := by decide +kernel
theorem dL_1475 : decode code 1475 = .ok (.iconst 3, 1) := by decide +kernel
theorem dL_1476 : decode code 1476 = .ok (.iadd, 1) := by decide +kernel
theorem dL_1477 : decode code 1477 = .ok (.iaload, 1) := by decide +kernel
theorem dL_1478 : decode code 1478 = .ok (.invokevirtual 189, 3) := by decide +kernel
theorem dL_1481 : decode code 1481 = .ok (.aload_n 2, 1) := by decide +kernel
theorem dL_1482 : decode code 1482 = .ok (.aload_n 0, 1) := by decide +kernel
theorem dL_1483 : decode code 1483 = .ok (.iload_n 3, 1) := by decide +kernel
theorem dL_1484 : decode code 1484 = .ok (.iconst 1, 1) := by decide +kernel
theorem dL_1485 : decode code 1485 = .ok (.iadd, 1) := by decide +kernel
theorem dL_1486 : decode code 1486 = .ok (.iaload, 1) := by decide +kernel
theorem dL_1487 : decode code 1487 = .ok (.aload_n 0, 1) := by decide +kernel
theorem dL_1488 : decode code 1488 = .ok (.iload_n 3, 1) := by decide +kernel
theorem dL_1489 : decode code 1489 = .ok (.iconst 2, 1) := by decide +kernel
theorem dL_1490 : decode code 1490 = .ok (.iadd, 1) := by decide +kernel
theorem dL_1491 : decode code 1491 = .ok (.iaload, 1) := by decide +kernel
theorem dL_1492 : decode code 1492 = .ok (.aload_n 0, 1) := by decide +kernel
theorem dL_1493 : decode code 1493 = .ok (.iload_n 3, 1) := by decide +kernel
theorem dL_1494 : decode code 1494 = .ok (.iconst 3, 1) := by decide +kernel
theorem dL_1495 : decode code 1495 = .ok (.iadd, 1) := by decide +kernel
theorem dL_1496 : decode code 1496 = .ok (.iaload, 1) := by decide +kernel
theorem dL_1497 : decode code 1497 = .ok (.invokevirtual 192, 3) := by decide +kernel
theorem dL_1500 : decode code 1500 = .ok (.if_icmp .eq 282, 3) := by decide +kernel
theorem dL_1503 : decode code 1503 = .ok (.iconst 0, 1) := by decide +kernel
theorem dL_1504 : decode code 1504 = .ok (.ireturn, 1) := by decide +kernel
theorem dL_1505 : decode code 1505 = .ok (.aload_n 1, 1) := by decide +kernel
theorem dL_1506 : decode code 1506 = .ok (.aload_n 0, 1) := by decide +kernel
theorem dL_1507 : decode code 1507 = .ok (.iload_n 3, 1) := by decide +kernel
theorem dL_1508 : decode code 1508 = .ok (.iconst 1, 1) := by decide +kernel
theorem dL_1509 : decode code 1509 = .ok (.iadd, 1) := by decide +kernel
theorem dL_1510 : decode code 1510 = .ok (.iaload, 1) := by decide +kernel
theorem dL_1511 : decode code 1511 = .ok (.aload_n 0, 1) := by decide +kernel
theorem dL_1512 : decode code 1512 = .ok (.iload_n 3, 1) := by decide +kernel
theorem dL_1513 : decode code 1513 = .ok (.iconst 2, 1) := by decide +kernel
theorem dL_1514 : decode code 1514 = .ok (.iadd, 1) := by decide +kernel
theorem dL_1515 : decode code 1515 = .ok (.iaload, 1) := by decide +kernel
theorem dL_1516 : decode code 1516 = .ok (.aload_n 0, 1) := by decide +kernel
theorem dL_1517 : decode code 1517 = .ok (.iload_n 3, 1) := by decide +kernel
theorem dL_1518 : decode code 1518 = .ok (.iconst 3, 1) := by decide +kernel
theorem dL_1519 : decode code 1519 = .ok (.iadd, 1) := by decide +kernel
theorem dL_1520 : decode code 1520 = .ok (.iaload, 1) := by decide +kernel
theorem dL_1521 : decode code 1521 = .ok (.invokevirtual 193, 3) := by decide +kernel
theorem dL_1524 : decode code 1524 = .ok (.aload_n 2, 1) := by decide +kernel
theorem dL_1525 : decode code 1525 = .ok (.aload_n 0, 1) := by decide +kernel
theorem dL_1526 : decode code 1526 = .ok (.iload_n 3, 1) := by decide +kernel
theorem dL_1527 : decode code 1527 = .ok (.iconst 1, 1) := by decide +kernel
theorem dL_1528 : decode code 1528 = .ok (.iadd, 1) := by decide +kernel
theorem dL_1529 : decode code 1529 = .ok (.iaload, 1) := by decide +kernel
theorem dL_1530 : decode code 1530 = .ok (.aload_n 0, 1) := by decide +kernel
theorem dL_1531 : decode code 1531 = .ok (.iload_n 3, 1) := by decide +kernel
theorem dL_1532 : decode code 1532 = .ok (.iconst 2, 1) := by decide +kernel
theorem dL_1533 : decode code 1533 = .ok (.iadd, 1) := by decide +kernel
theorem dL_1534 : decode code 1534 = .ok (.iaload, 1) := by decide +kernel
theorem dL_1535 : decode code 1535 = .ok (.aload_n 0, 1) := by decide +kernel
theorem dL_1536 : decode code 1536 = .ok (.iload_n 3, 1) := by decide +kernel
theorem dL_1537 : decode code 1537 = .ok (.iconst 3, 1) := by decide +kernel
theorem dL_1538 : decode code 1538 = .ok (.iadd, 1) := by decide +kernel
theorem dL_1539 : decode code 1539 = .ok (.iaload, 1) := by decide +kernel
theorem dL_1540 : decode code 1540 = .ok (.invokevirtual 196, 3) := by decide +kernel
theorem dL_1543 : decode code 1543 = .ok (.if_icmp .eq 239, 3) := by decide +kernel
theorem dL_1546 : decode code 1546 = .ok (.iconst 0, 1) := by decide +kernel
theorem dL_1547 : decode code 1547 = .ok (.ireturn, 1) := by decide +kernel
theorem dL_1548 : decode code 1548 = .ok (.aload_n 1, 1) := by decide +kernel
theorem dL_1549 : decode code 1549 = .ok (.aload_n 0, 1) := by decide +kernel
theorem dL_1550 : decode code 1550 = .ok (.iload_n 3, 1) := by decide +kernel
theorem dL_1551 : decode code 1551 = .ok (.iconst 1, 1) := by decide +kernel
theorem dL_1552 : decode code 1552 = .ok (.iadd, 1) := by decide +kernel
theorem dL_1553 : decode code 1553 = .ok (.iaload, 1) := by decide +kernel
theorem dL_1554 : decode code 1554 = .ok (.aload_n 0, 1) := by decide +kernel
theorem dL_1555 : decode code 1555 = .ok (.iload_n 3, 1) := by decide +kernel
theorem dL_1556 : decode code 1556 = .ok (.iconst 2, 1) := by decide +kernel
theorem dL_1557 : decode code 1557 = .ok (.iadd, 1) := by decide +kernel
theorem dL_1558 : decode code 1558 = .ok (.iaload, 1) := by decide +kernel
theorem dL_1559 : decode code 1559 = .ok (.aload_n 0, 1) := by decide +kernel
theorem dL_1560 : decode code 1560 = .ok (.iload_n 3, 1) := by decide +kernel
theorem dL_1561 : decode code 1561 = .ok (.iconst 3, 1) := by decide +kernel
theorem dL_1562 : decode code 1562 = .ok (.iadd, 1) := by decide +kernel
theorem dL_1563 : decode code 1563 = .ok (.iaload, 1) := by decide +kernel
theorem dL_1564 : decode code 1564 = .ok (.invokevirtual 197, 3) := by decide +kernel
theorem dL_1567 : decode code 1567 = .ok (.aload_n 2, 1) := by decide +kernel
theorem dL_1568 : decode code 1568 = .ok (.aload_n 0, 1) := by decide +kernel
theorem dL_1569 : decode code 1569 = .ok (.iload_n 3, 1) := by decide +kernel
theorem dL_1570 : decode code 1570 = .ok (.iconst 1, 1) := by decide +kernel
theorem dL_1571 : decode code 1571 = .ok (.iadd, 1) := by decide +kernel
theorem dL_1572 : decode code 1572 = .ok (.iaload, 1) := by decide +kernel
theorem dL_1573 : decode code 1573 = .ok (.aload_n 0, 1) := by decide +kernel
theorem dL_1574 : decode code 1574 = .ok (.iload_n 3, 1) := by decide +kernel
theorem dL_1575 : decode code 1575 = .ok (.iconst 2, 1) := by decide +kernel
theorem dL_1576 : decode code 1576 = .ok (.iadd, 1) := by decide +kernel
theorem dL_1577 : decode code 1577 = .ok (.iaload, 1) := by decide +kernel
theorem dL_1578 : decode code 1578 = .ok (.aload_n 0, 1) := by decide +kernel
theorem dL_1579 : decode code 1579 = .ok (.iload_n 3, 1) := by decide +kernel
theorem dL_1580 : decode code 1580 = .ok (.iconst 3, 1) := by decide +kernel
theorem dL_1581 : decode code 1581 = .ok (.iadd, 1) := by decide +kernel
theorem dL_1582 : decode code 1582 = .ok (.iaload, 1) := by decide +kernel
theorem dL_1583 : decode code 1583 = .ok (.invokevirtual 200, 3) := by decide +kernel
theorem dL_1586 : decode code 1586 = .ok (.if_icmp .eq 196, 3) := by decide +kernel
theorem dL_1589 : decode code 1589 = .ok (.iconst 0, 1) := by decide +kernel
theorem dL_1590 : decode code 1590 = .ok (.ireturn, 1) := by decide +kernel
theorem dL_1591 : decode code 1591 = .ok (.aload_n 1, 1) := by decide +kernel
theorem dL_1592 : decode code 1592 = .ok (.aload_n 0, 1) := by decide +kernel
theorem dL_1593 : decode code 1593 = .ok (.iload_n 3, 1) := by decide +kernel
theorem dL_1594 : decode code 1594 = .ok (.iconst 1, 1) := by decide +kernel
theorem dL_1595 : decode code 1595 = .ok (.iadd, 1) := by decide +kernel
theorem dL_1596 : decode code 1596 = .ok (.iaload, 1) := by decide +kernel
theorem dL_1597 : decode code 1597 = .ok (.aload_n 0, 1) := by decide +kernel
theorem dL_1598 : decode code 1598 = .ok (.iload_n 3, 1) := by decide +kernel
theorem dL_1599 : decode code 1599 = .ok (.iconst 2, 1) := by decide +kernel
theorem dL_1600 : decode code 1600 = .ok (.iadd, 1) := by decide +kernel
theorem dL_1601 : decode code 1601 = .ok (.iaload, 1) := by decide +kernel
theorem dL_1602 : decode code 1602 = .ok (.aload_n 0, 1) := by decide +kernel
theorem dL_1603 : decode code 1603 = .ok (.iload_n 3, 1) := by decide +kernel
theorem dL_1604 : decode code 1604 = .ok (.iconst 3, 1) := by decide +kernel
theorem dL_1605 : decode code 1605 = .ok (.iadd, 1) := by decide +kernel
theorem dL_1606 : decode code 1606 = .ok (.iaload, 1) := by decide +kernel
theorem dL_1607 : decode code 1607 = .ok (.invokevirtual 201, 3) := by decide +kernel
theorem dL_1610 : decode code 1610 = .ok (.aload_n 2, 1) := by decide +kernel
theorem dL_1611 : decode code 1611 = .ok (.aload_n 0, 1) := by decide +kernel
theorem dL_1612 : decode code 1612 = .ok (.iload_n 3, 1) := by decide +kernel
theorem dL_1613 : decode code 1613 = .ok (.iconst 1, 1) := by decide +kernel
theorem dL_1614 : decode code 1614 = .ok (.iadd, 1) := by decide +kernel
theorem dL_1615 : decode code 1615 = .ok (.iaload, 1) := by decide +kernel
theorem dL_1616 : decode code 1616 = .ok (.aload_n 0, 1) := by decide +kernel
theorem dL_1617 : decode code 1617 = .ok (.iload_n 3, 1) := by decide +kernel
theorem dL_1618 : decode code 1618 = .ok (.iconst 2, 1) := by decide +kernel
theorem dL_1619 : decode code 1619 = .ok (.iadd, 1) := by decide +kernel
theorem dL_1620 : decode code 1620 = .ok (.iaload, 1) := by decide +kernel
theorem dL_1621 : decode code 1621 = .ok (.aload_n 0, 1) := by decide +kernel
theorem dL_1622 : decode code 1622 = .ok (.iload_n 3, 1) := by decide +kernel
theorem dL_1623 : decode code 1623 = .ok (.iconst 3, 1) := by decide +kernel
theorem dL_1624 : decode code 1624 = .ok (.iadd, 1) := by decide +kernel
theorem dL_1625 : decode code 1625 = .ok (.iaload, 1) := by decide +kernel
theorem dL_1626 : decode code 1626 = .ok (.invokevirtual 204, 3) := by decide +kernel
theorem dL_1629 : decode code 1629 = .ok (.if_icmp .eq 153, 3) := by decide +kernel
theorem dL_1632 : decode code 1632 = .ok (.iconst 0, 1) := by decide +kernel
theorem dL_1633 : decode code 1633 = .ok (.ireturn, 1) := by decide +kernel
theorem dL_1634 : decode code 1634 = .ok (.aload_n 1, 1) := by decide +kernel
theorem dL_1635 : decode code 1635 = .ok (.aload_n 0, 1) := by decide +kernel
theorem dL_1636 : decode code 1636 = .ok (.iload_n 3, 1) := by decide +kernel
theorem dL_1637 : decode code 1637 = .ok (.iconst 1, 1) := by decide +kernel
theorem dL_1638 : decode code 1638 = .ok (.iadd, 1) := by decide +kernel
theorem dL_1639 : decode code 1639 = .ok (.iaload, 1) := by decide +kernel
theorem dL_1640 : decode code 1640 = .ok (.aload_n 0, 1) := by decide +kernel
theorem dL_1641 : decode code 1641 = .ok (.iload_n 3, 1) := by decide +kernel
theorem dL_1642 : decode code 1642 = .ok (.iconst 2, 1) := by decide +kernel
theorem dL_1643 : decode code 1643 = .ok (.iadd, 1) := by decide +kernel
theorem dL_1644 : decode code 1644 = .ok (.iaload, 1) := by decide +kernel
theorem dL_1645 : decode code 1645 = .ok (.invokevirtual 205, 3) := by decide +kernel
theorem dL_1648 : decode code 1648 = .ok (.aload_n 2, 1) := by decide +kernel
theorem dL_1649 : decode code 1649 = .ok (.aload_n 0, 1) := by decide +kernel
theorem dL_1650 : decode code 1650 = .ok (.iload_n 3, 1) := by decide +kernel
theorem dL_1651 : decode code 1651 = .ok (.iconst 1, 1) := by decide +kernel
theorem dL_1652 : decode code 1652 = .ok (.iadd, 1) := by decide +kernel
theorem dL_1653 : decode code 1653 = .ok (.iaload, 1) := by decide +kernel
theorem dL_1654 : decode code 1654 = .ok (.aload_n 0, 1) := by decide +kernel
theorem dL_1655 : decode code 1655 = .ok (.iload_n 3, 1) := by decide +kernel
theorem dL_1656 : decode code 1656 = .ok (.iconst 2, 1) := by decide +kernel
theorem dL_1657 : decode code 1657 = .ok (.iadd, 1) := by decide +kernel
theorem dL_1658 : decode code 1658 = .ok (.iaload, 1) := by decide +kernel
theorem dL_1659 : decode code 1659 = .ok (.invokevirtual 208, 3) := by decide +kernel
theorem dL_1662 : decode code 1662 = .ok (.if_icmp .eq 120, 3) := by decide +kernel
theorem dL_1665 : decode code 1665 = .ok (.iconst 0, 1) := by decide +kernel
theorem dL_1666 : decode code 1666 = .ok (.ireturn, 1) := by decide +kernel
theorem dL_1667 : decode code 1667 = .ok (.aload_n 1, 1) := by decide +kernel
theorem dL_1668 : decode code 1668 = .ok (.aload_n 0, 1) := by decide +kernel
theorem dL_1669 : decode code 1669 = .ok (.iload_n 3, 1) := by decide +kernel
theorem dL_1670 : decode code 1670 = .ok (.iconst 1, 1) := by decide +kernel
theorem dL_1671 : decode code 1671 = .ok (.iadd, 1) := by decide +kernel
theorem dL_1672 : decode code 1672 = .ok (.iaload, 1) := by decide +kernel
theorem dL_1673 : decode code 1673 = .ok (.aload_n 0, 1) := by decide +kernel
theorem dL_1674 : decode code 1674 = .ok (.iload_n 3, 1) := by decide +kernel
theorem dL_1675 : decode code 1675 = .ok (.iconst 2, 1) := by decide +kernel
theorem dL_1676 : decode code 1676 = .ok (.iadd, 1) := by decide +kernel
theorem dL_1677 : decode code 1677 = .ok (.iaload, 1) := by decide +kernel
theorem dL_1678 : decode code 1678 = .ok (.aload_n 0, 1) := by decide +kernel
theorem dL_1679 : decode code 1679 = .ok (.iload_n 3, 1) := by decide +kernel
theorem dL_1680 : decode code 1680 = .ok (.iconst 3, 1) := by decide +kernel
theorem dL_1681 : decode code 1681 = .ok (.iadd, 1) := by decide +kernel
theorem dL_1682 : decode code 1682 = .ok (.iaload, 1) := by decide +kernel
theorem dL_1683 : decode code 1683 = .ok (.invokevirtual 209, 3) := by decide +kernel
theorem dL_1686 : decode code 1686 = .ok (.aload_n 2, 1) := by decide +kernel
theorem dL_1687 : decode code 1687 = .ok (.aload_n 0, 1) := by decide +kernel
theorem dL_1688 : decode code 1688 = .ok (.iload_n 3, 1) := by decide +kernel
theorem dL_1689 : decode code 1689 = .ok (.iconst 1, 1) := by decide +kernel
theorem dL_1690 : decode code 1690 = .ok (.iadd, 1) := by decide +kernel
theorem dL_1691 : decode code 1691 = .ok (.iaload, 1) := by decide +kernel
theorem dL_1692 : decode code 1692 = .ok (.aload_n 0, 1) := by decide +kernel
theorem dL_1693 : decode code 1693 = .ok (.iload_n 3, 1) := by decide +kernel
theorem dL_1694 : decode code 1694 = .ok (.iconst 2, 1) := by decide +kernel
theorem dL_1695 : decode code 1695 = .ok (.iadd, 1) := by decide +kernel
theorem dL_1696 : decode code 1696 = .ok (.iaload, 1) := by decide +kernel
theorem dL_1697 : decode code 1697 = .ok (.aload_n 0, 1) := by decide +kernel
theorem dL_1698 : decode code 1698 = .ok (.iload_n 3, 1) := by decide +kernel
theorem dL_1699 : decode code 1699 = .ok (.iconst 3, 1) := by decide +kernel
theorem dL_1700 : decode code 1700 = .ok (.iadd, 1) := by decide +kernel
theorem dL_1701 : decode code 1701 = .ok (.iaload, 1) := by decide +kernel
theorem dL_1702 : decode code 1702 = .ok (.invokevirtual 212, 3) := by decide +kernel
theorem dL_1705 : decode code 1705 = .ok (.if_icmp .eq 77, 3) := by decide +kernel
theorem dL_1708 : decode code 1708 = .ok (.iconst 0, 1) := by decide +kernel
theorem dL_1709 : decode code 1709 = .ok (.ireturn, 1) := by decide +kernel
theorem dL_1710 : decode code 1710 = .ok (.aload_n 1, 1) := by decide +kernel
theorem dL_1711 : decode code 1711 = .ok (.aload_n 0, 1) := by decide +kernel
theorem dL_1712 : decode code 1712 = .ok (.iload_n 3, 1) := by decide +kernel
theorem dL_1713 : decode code 1713 = .ok (.iconst 1, 1) := by decide +kernel
theorem dL_1714 : decode code 1714 = .ok (.iadd, 1) := by decide +kernel
theorem dL_1715 : decode code 1715 = .ok (.iaload, 1) := by decide +kernel
theorem dL_1716 : decode code 1716 = .ok (.invokevirtual 213, 3) := by decide +kernel
theorem dL_1719 : decode code 1719 = .ok (.aload_n 2, 1) := by decide +kernel
theorem dL_1720 : decode code 1720 = .ok (.aload_n 0, 1) := by decide +kernel
theorem dL_1721 : decode code 1721 = .ok (.iload_n 3, 1) := by decide +kernel
theorem dL_1722 : decode code 1722 = .ok (.iconst 1, 1) := by decide +kernel
theorem dL_1723 : decode code 1723 = .ok (.iadd, 1) := by decide +kernel
theorem dL_1724 : decode code 1724 = .ok (.iaload, 1) := by decide +kernel
theorem dL_1725 : decode code 1725 = .ok (.invokevirtual 216, 3) := by decide +kernel
theorem dL_1728 : decode code 1728 = .ok (.if_icmp .eq 54, 3) := by decide +kernel
theorem dL_1731 : decode code 1731 = .ok (.iconst 0, 1) := by decide +kernel
theorem dL_1732 : decode code 1732 = .ok (.ireturn, 1) := by decide +kernel
theorem dL_1733 : decode code 1733 = .ok (.aload_n 1, 1) := by decide +kernel
theorem dL_1734 : decode code 1734 = .ok (.aload_n 0, 1) := by decide +kernel
theorem dL_1735 : decode code 1735 = .ok (.iload_n 3, 1) := by decide +kernel
theorem dL_1736 : decode code 1736 = .ok (.iconst 1, 1) := by decide +kernel
theorem dL_1737 : decode code 1737 = .ok (.iadd, 1) := by decide +kernel
theorem dL_1738 : decode code 1738 = .ok (.iaload, 1) := by decide +kernel
theorem dL_1739 : decode code 1739 = .ok (.invokevirtual 217, 3) := by decide +kernel
theorem dL_1742 : decode code 1742 = .ok (.aload_n 2, 1) := by decide +kernel
theorem dL_1743 : decode code 1743 = .ok (.aload_n 0, 1) := by decide +kernel
theorem dL_1744 : decode code 1744 = .ok (.iload_n 3, 1) := by decide +kernel
theorem dL_1745 : decode code 1745 = .ok (.iconst 1, 1) := by decide +kernel
theorem dL_1746 : decode code 1746 = .ok (.iadd, 1) := by decide +kernel
theorem dL_1747 : decode code 1747 = .ok (.iaload, 1) := by decide +kernel
theorem dL_1748 : decode code 1748 = .ok (.invokevirtual 220, 3) := by decide +kernel
theorem dL_1751 : decode code 1751 = .ok (.if_icmp .eq 31, 3) := by decide +kernel
theorem dL_1754 : decode code 1754 = .ok (.iconst 0, 1) := by decide +kernel
theorem dL_1755 : decode code 1755 = .ok (.ireturn, 1) := by decide +kernel
theorem dL_1756 : decode code 1756 = .ok (.aload_n 1, 1) := by decide +kernel
theorem dL_1757 : decode code 1757 = .ok (.invokevirtual 221, 3) := by decide +kernel
theorem dL_1760 : decode code 1760 = .ok (.aload_n 2, 1) := by decide +kernel
theorem dL_1761 : decode code 1761 = .ok (.invokevirtual 224, 3) := by decide +kernel
theorem dL_1764 : decode code 1764 = .ok (.if_icmp .eq 18, 3) := by decide +kernel
theorem dL_1767 : decode code 1767 = .ok (.iconst 0, 1) := by decide +kernel
theorem dL_1768 : decode code 1768 = .ok (.ireturn, 1) := by decide +kernel
theorem dL_1769 : decode code 1769 = .ok (.aload_n 1, 1) := by decide +kernel
theorem dL_1770 : decode code 1770 = .ok (.invokevirtual 225, 3) := by decide +kernel
theorem dL_1773 : decode code 1773 = .ok (.aload_n 2, 1) := by decide +kernel
theorem dL_1774 : decode code 1774 = .ok (.invokevirtual 228, 3) := by decide +kernel
theorem dL_1777 : decode code 1777 = .ok (.if_icmp .eq 5, 3) := by decide +kernel
theorem dL_1780 : decode code 1780 = .ok (.iconst 0, 1) := by decide +kernel
theorem dL_1781 : decode code 1781 = .ok (.ireturn, 1) := by decide +kernel
theorem dL_1782 : decode code 1782 = .ok (.iinc 3 5, 3) := by decide +kernel
theorem dL_1785 : decode code 1785 = .ok (.goto (-1767), 3) := by decide +kernel
theorem dL_1788 : decode code 1788 = .ok (.iconst 1, 1) := by decide +kernel
theorem dL_1789 : decode code 1789 = .ok (.ireturn, 1) := by decide +kernel
