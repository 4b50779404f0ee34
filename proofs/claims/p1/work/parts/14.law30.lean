theorem dL_law_1424 : decode code 1424 = .ok (.aload_n 1, 1) := by decide +kernel
theorem dL_law_1425 : decode code 1425 = .ok (.aload_n 0, 1) := by decide +kernel
theorem dL_law_1426 : decode code 1426 = .ok (.iload_n 3, 1) := by decide +kernel
theorem dL_law_1427 : decode code 1427 = .ok (.iconst 1, 1) := by decide +kernel
theorem dL_law_1428 : decode code 1428 = .ok (.iadd, 1) := by decide +kernel
theorem dL_law_1429 : decode code 1429 = .ok (.iaload, 1) := by decide +kernel
theorem dL_law_1430 : decode code 1430 = .ok (.aload_n 0, 1) := by decide +kernel
theorem dL_law_1431 : decode code 1431 = .ok (.iload_n 3, 1) := by decide +kernel
theorem dL_law_1432 : decode code 1432 = .ok (.iconst 2, 1) := by decide +kernel
theorem dL_law_1433 : decode code 1433 = .ok (.iadd, 1) := by decide +kernel
theorem dL_law_1434 : decode code 1434 = .ok (.iaload, 1) := by decide +kernel
theorem dL_law_1435 : decode code 1435 = .ok (.invokevirtual 143, 3) := by decide +kernel
theorem dL_law_1438 : decode code 1438 = .ok (.aload_n 2, 1) := by decide +kernel
theorem dL_law_1439 : decode code 1439 = .ok (.aload_n 0, 1) := by decide +kernel
theorem dL_law_1440 : decode code 1440 = .ok (.iload_n 3, 1) := by decide +kernel
theorem dL_law_1441 : decode code 1441 = .ok (.iconst 1, 1) := by decide +kernel
theorem dL_law_1442 : decode code 1442 = .ok (.iadd, 1) := by decide +kernel
theorem dL_law_1443 : decode code 1443 = .ok (.iaload, 1) := by decide +kernel
theorem dL_law_1444 : decode code 1444 = .ok (.aload_n 0, 1) := by decide +kernel
theorem dL_law_1445 : decode code 1445 = .ok (.iload_n 3, 1) := by decide +kernel
theorem dL_law_1446 : decode code 1446 = .ok (.iconst 2, 1) := by decide +kernel
theorem dL_law_1447 : decode code 1447 = .ok (.iadd, 1) := by decide +kernel
theorem dL_law_1448 : decode code 1448 = .ok (.iaload, 1) := by decide +kernel
theorem dL_law_1449 : decode code 1449 = .ok (.invokevirtual 146, 3) := by decide +kernel
theorem dL_law_1452 : decode code 1452 = .ok (.if_icmp .eq 328, 3) := by decide +kernel
theorem dL_law_1457 : decode code 1457 = .ok (.aload_n 1, 1) := by decide +kernel
theorem dL_law_1458 : decode code 1458 = .ok (.aload_n 0, 1) := by decide +kernel
theorem dL_law_1459 : decode code 1459 = .ok (.iload_n 3, 1) := by decide +kernel
theorem dL_law_1460 : decode code 1460 = .ok (.iconst 1, 1) := by decide +kernel
theorem dL_law_1461 : decode code 1461 = .ok (.iadd, 1) := by decide +kernel
theorem dL_law_1462 : decode code 1462 = .ok (.iaload, 1) := by decide +kernel
theorem dL_law_1463 : decode code 1463 = .ok (.aload_n 0, 1) := by decide +kernel
theorem dL_law_1464 : decode code 1464 = .ok (.iload_n 3, 1) := by decide +kernel
theorem dL_law_1465 : decode code 1465 = .ok (.iconst 2, 1) := by decide +kernel
theorem dL_law_1466 : decode code 1466 = .ok (.iadd, 1) := by decide +kernel
theorem dL_law_1467 : decode code 1467 = .ok (.iaload, 1) := by decide +kernel
theorem dL_law_1468 : decode code 1468 = .ok (.aload_n 0, 1) := by decide +kernel
theorem dL_law_1469 : decode code 1469 = .ok (.iload_n 3, 1) := by decide +kernel
theorem dL_law_1470 : decode code 1470 = .ok (.iconst 3, 1) := by decide +kernel
theorem dL_law_1471 : decode code 1471 = .ok (.iadd, 1) := by decide +kernel
theorem dL_law_1472 : decode code 1472 = .ok (.iaload, 1) := by decide +kernel
theorem dL_law_1473 : decode code 1473 = .ok (.invokevirtual 147, 3) := by decide +kernel
theorem dL_law_1476 : decode code 1476 = .ok (.aload_n 2, 1) := by decide +kernel
theorem dL_law_1477 : decode code 1477 = .ok (.aload_n 0, 1) := by decide +kernel
theorem dL_law_1478 : decode code 1478 = .ok (.iload_n 3, 1) := by decide +kernel
theorem dL_law_1479 : decode code 1479 = .ok (.iconst 1, 1) := by decide +kernel
theorem dL_law_1480 : decode code 1480 = .ok (.iadd, 1) := by decide +kernel
theorem dL_law_1481 : decode code 1481 = .ok (.iaload, 1) := by decide +kernel
theorem dL_law_1482 : decode code 1482 = .ok (.aload_n 0, 1) := by decide +kernel
theorem dL_law_1483 : decode code 1483 = .ok (.iload_n 3, 1) := by decide +kernel
theorem dL_law_1484 : decode code 1484 = .ok (.iconst 2, 1) := by decide +kernel
theorem dL_law_1485 : decode code 1485 = .ok (.iadd, 1) := by decide +kernel
theorem dL_law_1486 : decode code 1486 = .ok (.iaload, 1) := by decide +kernel
theorem dL_law_1487 : decode code 1487 = .ok (.aload_n 0, 1) := by decide +kernel
theorem dL_law_1488 : decode code 1488 = .ok (.iload_n 3, 1) := by decide +kernel
theorem dL_law_1489 : decode code 1489 = .ok (.iconst 3, 1) := by decide +kernel
theorem dL_law_1490 : decode code 1490 = .ok (.iadd, 1) := by decide +kernel
theorem dL_law_1491 : decode code 1491 = .ok (.iaload, 1) := by decide +kernel
theorem dL_law_1492 : decode code 1492 = .ok (.invokevirtual 150, 3) := by decide +kernel
theorem dL_law_1495 : decode code 1495 = .ok (.if_icmp .eq 285, 3) := by decide +kernel
theorem dL_law_1500 : decode code 1500 = .ok (.aload_n 1, 1) := by decide +kernel
theorem dL_law_1501 : decode code 1501 = .ok (.aload_n 0, 1) := by decide +kernel
theorem dL_law_1502 : decode code 1502 = .ok (.iload_n 3, 1) := by decide +kernel
theorem dL_law_1503 : decode code 1503 = .ok (.iconst 1, 1) := by decide +kernel
theorem dL_law_1504 : decode code 1504 = .ok (.iadd, 1) := by decide +kernel
theorem dL_law_1505 : decode code 1505 = .ok (.iaload, 1) := by decide +kernel
theorem dL_law_1506 : decode code 1506 = .ok (.invokevirtual 151, 3) := by decide +kernel
theorem dL_law_1509 : decode code 1509 = .ok (.aload_n 2, 1) := by decide +kernel
theorem dL_law_1510 : decode code 1510 = .ok (.aload_n 0, 1) := by decide +kernel
theorem dL_law_1511 : decode code 1511 = .ok (.iload_n 3, 1) := by decide +kernel
theorem dL_law_1512 : decode code 1512 = .ok (.iconst 1, 1) := by decide +kernel
theorem dL_law_1513 : decode code 1513 = .ok (.iadd, 1) := by decide +kernel
theorem dL_law_1514 : decode code 1514 = .ok (.iaload, 1) := by decide +kernel
theorem dL_law_1515 : decode code 1515 = .ok (.invokevirtual 154, 3) := by decide +kernel
theorem dL_law_1518 : decode code 1518 = .ok (.if_icmp .eq 262, 3) := by decide +kernel
theorem dL_law_1523 : decode code 1523 = .ok (.aload_n 1, 1) := by decide +kernel
theorem dL_law_1524 : decode code 1524 = .ok (.aload_n 0, 1) := by decide +kernel
theorem dL_law_1525 : decode code 1525 = .ok (.iload_n 3, 1) := by decide +kernel
theorem dL_law_1526 : decode code 1526 = .ok (.iconst 1, 1) := by decide +kernel
theorem dL_law_1527 : decode code 1527 = .ok (.iadd, 1) := by decide +kernel
theorem dL_law_1528 : decode code 1528 = .ok (.iaload, 1) := by decide +kernel
theorem dL_law_1529 : decode code 1529 = .ok (.aload_n 0, 1) := by decide +kernel
theorem dL_law_1530 : decode code 1530 = .ok (.iload_n 3, 1) := by decide +kernel
theorem dL_law_1531 : decode code 1531 = .ok (.iconst 2, 1) := by decide +kernel
theorem dL_law_1532 : decode code 1532 = .ok (.iadd, 1) := by decide +kernel
theorem dL_law_1533 : decode code 1533 = .ok (.iaload, 1) := by decide +kernel
theorem dL_law_1534 : decode code 1534 = .ok (.aload_n 0, 1) := by decide +kernel
theorem dL_law_1535 : decode code 1535 = .ok (.iload_n 3, 1) := by decide +kernel
theorem dL_law_1536 : decode code 1536 = .ok (.iconst 3, 1) := by decide +kernel
theorem dL_law_1537 : decode code 1537 = .ok (.iadd, 1) := by decide +kernel
theorem dL_law_1538 : decode code 1538 = .ok (.iaload, 1) := by decide +kernel
theorem dL_law_1539 : decode code 1539 = .ok (.invokevirtual 155, 3) := by decide +kernel
theorem dL_law_1542 : decode code 1542 = .ok (.aload_n 2, 1) := by decide +kernel
theorem dL_law_1543 : decode code 1543 = .ok (.aload_n 0, 1) := by decide +kernel
theorem dL_law_1544 : decode code 1544 = .ok (.iload_n 3, 1) := by decide +kernel
theorem dL_law_1545 : decode code 1545 = .ok (.iconst 1, 1) := by decide +kernel
theorem dL_law_1546 : decode code 1546 = .ok (.iadd, 1) := by decide +kernel
theorem dL_law_1547 : decode code 1547 = .ok (.iaload, 1) := by decide +kernel
theorem dL_law_1548 : decode code 1548 = .ok (.aload_n 0, 1) := by decide +kernel
theorem dL_law_1549 : decode code 1549 = .ok (.iload_n 3, 1) := by decide +kernel
theorem dL_law_1550 : decode code 1550 = .ok (.iconst 2, 1) := by decide +kernel
theorem dL_law_1551 : decode code 1551 = .ok (.iadd, 1) := by decide +kernel
theorem dL_law_1552 : decode code 1552 = .ok (.iaload, 1) := by decide +kernel
theorem dL_law_1553 : decode code 1553 = .ok (.aload_n 0, 1) := by decide +kernel
theorem dL_law_1554 : decode code 1554 = .ok (.iload_n 3, 1) := by decide +kernel
theorem dL_law_1555 : decode code 1555 = .ok (.iconst 3, 1) := by decide +kernel
theorem dL_law_1556 : decode code 1556 = .ok (.iadd, 1) := by decide +kernel
theorem dL_law_1557 : decode code 1557 = .ok (.iaload, 1) := by decide +kernel
theorem dL_law_1558 : decode code 1558 = .ok (.invokevirtual 158, 3) := by decide +kernel
theorem dL_law_1561 : decode code 1561 = .ok (.if_icmp .eq 219, 3) := by decide +kernel
theorem dL_law_1566 : decode code 1566 = .ok (.aload_n 1, 1) := by decide +kernel
theorem dL_law_1567 : decode code 1567 = .ok (.aload_n 0, 1) := by decide +kernel
theorem dL_law_1568 : decode code 1568 = .ok (.iload_n 3, 1) := by decide +kernel
theorem dL_law_1569 : decode code 1569 = .ok (.iconst 1, 1) := by decide +kernel
theorem dL_law_1570 : decode code 1570 = .ok (.iadd, 1) := by decide +kernel
theorem dL_law_1571 : decode code 1571 = .ok (.iaload, 1) := by decide +kernel
theorem dL_law_1572 : decode code 1572 = .ok (.aload_n 0, 1) := by decide +kernel
theorem dL_law_1573 : decode code 1573 = .ok (.iload_n 3, 1) := by decide +kernel
theorem dL_law_1574 : decode code 1574 = .ok (.iconst 2, 1) := by decide +kernel
theorem dL_law_1575 : decode code 1575 = .ok (.iadd, 1) := by decide +kernel
theorem dL_law_1576 : decode code 1576 = .ok (.iaload, 1) := by decide +kernel
theorem dL_law_1577 : decode code 1577 = .ok (.aload_n 0, 1) := by decide +kernel
theorem dL_law_1578 : decode code 1578 = .ok (.iload_n 3, 1) := by decide +kernel
theorem dL_law_1579 : decode code 1579 = .ok (.iconst 3, 1) := by decide +kernel
theorem dL_law_1580 : decode code 1580 = .ok (.iadd, 1) := by decide +kernel
theorem dL_law_1581 : decode code 1581 = .ok (.iaload, 1) := by decide +kernel
theorem dL_law_1582 : decode code 1582 = .ok (.invokevirtual 159, 3) := by decide +kernel
theorem dL_law_1585 : decode code 1585 = .ok (.aload_n 2, 1) := by decide +kernel
theorem dL_law_1586 : decode code 1586 = .ok (.aload_n 0, 1) := by decide +kernel
theorem dL_law_1587 : decode code 1587 = .ok (.iload_n 3, 1) := by decide +kernel
theorem dL_law_1588 : decode code 1588 = .ok (.iconst 1, 1) := by decide +kernel
theorem dL_law_1589 : decode code 1589 = .ok (.iadd, 1) := by decide +kernel
theorem dL_law_1590 : decode code 1590 = .ok (.iaload, 1) := by decide +kernel
theorem dL_law_1591 : decode code 1591 = .ok (.aload_n 0, 1) := by decide +kernel
theorem dL_law_1592 : decode code 1592 = .ok (.iload_n 3, 1) := by decide +kernel
theorem dL_law_1593 : decode code 1593 = .ok (.iconst 2, 1) := by decide +kernel
theorem dL_law_1594 : decode code 1594 = .ok (.iadd, 1) := by decide +kernel
theorem dL_law_1595 : decode code 1595 = .ok (.iaload, 1) := by decide +kernel
theorem dL_law_1596 : decode code 1596 = .ok (.aload_n 0, 1) := by decide +kernel
theorem dL_law_1597 : decode code 1597 = .ok (.iload_n 3, 1) := by decide +kernel
theorem dL_law_1598 : decode code 1598 = .ok (.iconst 3, 1) := by decide +kernel
theorem dL_law_1599 : decode code 1599 = .ok (.iadd, 1) := by decide +kernel
theorem dL_law_1600 : decode code 1600 = .ok (.iaload, 1) := by decide +kernel
theorem dL_law_1601 : decode code 1601 = .ok (.invokevirtual 162, 3) := by decide +kernel
theorem dL_law_1604 : decode code 1604 = .ok (.if_icmp .eq 176, 3) := by decide +kernel
theorem dL_law_1609 : decode code 1609 = .ok (.aload_n 1, 1) := by decide +kernel
theorem dL_law_1610 : decode code 1610 = .ok (.aload_n 0, 1) := by decide +kernel
theorem dL_law_1611 : decode code 1611 = .ok (.iload_n 3, 1) := by decide +kernel
theorem dL_law_1612 : decode code 1612 = .ok (.iconst 1, 1) := by decide +kernel
theorem dL_law_1613 : decode code 1613 = .ok (.iadd, 1) := by decide +kernel
theorem dL_law_1614 : decode code 1614 = .ok (.iaload, 1) := by decide +kernel
theorem dL_law_1615 : decode code 1615 = .ok (.aload_n 0, 1) := by decide +kernel
theorem dL_law_1616 : decode code 1616 = .ok (.iload_n 3, 1) := by decide +kernel
theorem dL_law_1617 : decode code 1617 = .ok (.iconst 2, 1) := by decide +kernel
theorem dL_law_1618 : decode code 1618 = .ok (.iadd, 1) := by decide +kernel
theorem dL_law_1619 : decode code 1619 = .ok (.iaload, 1) := by decide +kernel
theorem dL_law_1620 : decode code 1620 = .ok (.aload_n 0, 1) := by decide +kernel
theorem dL_law_1621 : decode code 1621 = .ok (.iload_n 3, 1) := by decide +kernel
theorem dL_law_1622 : decode code 1622 = .ok (.iconst 3, 1) := by decide +kernel
theorem dL_law_1623 : decode code 1623 = .ok (.iadd, 1) := by decide +kernel
theorem dL_law_1624 : decode code 1624 = .ok (.iaload, 1) := by decide +kernel
theorem dL_law_1625 : decode code 1625 = .ok (.aload_n 0, 1) := by decide +kernel
theorem dL_law_1626 : decode code 1626 = .ok (.iload_n 3, 1) := by decide +kernel
theorem dL_law_1627 : decode code 1627 = .ok (.iconst 4, 1) := by decide +kernel
theorem dL_law_1628 : decode code 1628 = .ok (.iadd, 1) := by decide +kernel
theorem dL_law_1629 : decode code 1629 = .ok (.iaload, 1) := by decide +kernel
theorem dL_law_1630 : decode code 1630 = .ok (.aload_n 0, 1) := by decide +kernel
theorem dL_law_1631 : decode code 1631 = .ok (.iload_n 3, 1) := by decide +kernel
theorem dL_law_1632 : decode code 1632 = .ok (.iconst 5, 1) := by decide +kernel
theorem dL_law_1633 : decode code 1633 = .ok (.iadd, 1) := by decide +kernel
theorem dL_law_1634 : decode code 1634 = .ok (.iaload, 1) := by decide +kernel
theorem dL_law_1635 : decode code 1635 = .ok (.invokevirtual 163, 3) := by decide +kernel
theorem dL_law_1638 : decode code 1638 = .ok (.aload_n 2, 1) := by decide +kernel
theorem dL_law_1639 : decode code 1639 = .ok (.aload_n 0, 1) := by decide +kernel
theorem dL_law_1640 : decode code 1640 = .ok (.iload_n 3, 1) := by decide +kernel
theorem dL_law_1641 : decode code 1641 = .ok (.iconst 1, 1) := by decide +kernel
theorem dL_law_1642 : decode code 1642 = .ok (.iadd, 1) := by decide +kernel
theorem dL_law_1643 : decode code 1643 = .ok (.iaload, 1) := by decide +kernel
theorem dL_law_1644 : decode code 1644 = .ok (.aload_n 0, 1) := by decide +kernel
theorem dL_law_1645 : decode code 1645 = .ok (.iload_n 3, 1) := by decide +kernel
theorem dL_law_1646 : decode code 1646 = .ok (.iconst 2, 1) := by decide +kernel
theorem dL_law_1647 : decode code 1647 = .ok (.iadd, 1) := by decide +kernel
theorem dL_law_1648 : decode code 1648 = .ok (.iaload, 1) := by decide +kernel
theorem dL_law_1649 : decode code 1649 = .ok (.aload_n 0, 1) := by decide +kernel
theorem dL_law_1650 : decode code 1650 = .ok (.iload_n 3, 1) := by decide +kernel
theorem dL_law_1651 : decode code 1651 = .ok (.iconst 3, 1) := by decide +kernel
theorem dL_law_1652 : decode code 1652 = .ok (.iadd, 1) := by decide +kernel
theorem dL_law_1653 : decode code 1653 = .ok (.iaload, 1) := by decide +kernel
theorem dL_law_1654 : decode code 1654 = .ok (.aload_n 0, 1) := by decide +kernel
theorem dL_law_1655 : decode code 1655 = .ok (.iload_n 3, 1) := by decide +kernel
theorem dL_law_1656 : decode code 1656 = .ok (.iconst 4, 1) := by decide +kernel
theorem dL_law_1657 : decode code 1657 = .ok (.iadd, 1) := by decide +kernel
theorem dL_law_1658 : decode code 1658 = .ok (.iaload, 1) := by decide +kernel
theorem dL_law_1659 : decode code 1659 = .ok (.aload_n 0, 1) := by decide +kernel
theorem dL_law_1660 : decode code 1660 = .ok (.iload_n 3, 1) := by decide +kernel
theorem dL_law_1661 : decode code 1661 = .ok (.iconst 5, 1) := by decide +kernel
theorem dL_law_1662 : decode code 1662 = .ok (.iadd, 1) := by decide +kernel
theorem dL_law_1663 : decode code 1663 = .ok (.iaload, 1) := by decide +kernel
theorem dL_law_1664 : decode code 1664 = .ok (.invokevirtual 166, 3) := by decide +kernel
theorem dL_law_1667 : decode code 1667 = .ok (.if_icmp .eq 113, 3) := by decide +kernel
set_option maxHeartbeats 4000000 in
set_option maxRecDepth 100000 in
theorem law_30 {p : Program} {e : Env} {s : State} {m : MethodId} {below : List Frame} {meth : Method} {c : Code} (l : Launch) {b : Nat} {xs : Nat → Int32} {D : va_G} {cI : ClassId} {A : Nat → Prop} {x nw kp fu ra kr rd wd ld mt vo sh fd w0 w1 w2 w3 w4 w5 k0 k1 k2 k3 k4 k5 k6 k7 k8 pf v0 v1 v2 v3 v4 v5 j0 j1 j2 j3 j4 j5 j6 j7 j8 po h ys yk yt yf yb yz yn yc yp yw ye yx : Nat} {H : Heap} {locs : List Loc} {ls : Array Slot} (hA0 : (fun q : Nat => s.heap.size ≤ q) = A) (C0 : lw_At p s m meth c b 7 xs) (hK : va_K D vwCl [(cI, .int)] s) (hN : kNW s) (hP : va_P D vwCl [(x, .inr (10, [.ref nw, .ref kp, .ref fu, .ref ra, .ref kr, .ref rd, .ref wd, .ref ld, .ref mt, .ref vo, .ref sh, .ref fd, .int 0])), (nw, .inr (9, [.ref w0, .ref w1, .ref w2, .ref w3, .ref w4, .ref w5, .int 0, .int 40, .int 0])), (w0, .inl (cI, 12, .inl (fun _ => (2 : Int32)))), (w1, .inl (cI, 40, .inl (fun _ => (0 : Int32)))), (w2, .inl (cI, 40, .inl (fun _ => (0 : Int32)))), (w3, .inl (cI, 20, .inl (fun _ => (0 : Int32)))), (w4, .inr (8, [.ref k0, .ref k1, .ref k2, .ref k3, .ref k4, .ref k5, .ref k6, .ref k7, .ref k8, .int 0])), (k0, .inl (cI, 60, .inl (fun _ => (0 : Int32)))), (k1, .inl (cI, 60, .inl (fun _ => (0 : Int32)))), (k2, .inl (cI, 60, .inl (fun _ => (0 : Int32)))), (k3, .inl (cI, 60, .inl (fun _ => (0 : Int32)))), (k4, .inl (cI, 60, .inl (fun _ => (0 : Int32)))), (k5, .inl (cI, 60, .inl (fun _ => (0 : Int32)))), (k6, .inl (cI, 40, .inl (fun _ => (0 : Int32)))), (k7, .inl (cI, 40, .inl (fun _ => (0 : Int32)))), (k8, .inl (cI, 40, .inl (fun _ => (0 : Int32)))), (w5, .inr (3, [.ref pf, .int 0])), (pf, .inl (cI, 36, .inl (fun _ => (0 : Int32)))), (fu, .inr (9, [.ref v0, .ref v1, .ref v2, .ref v3, .ref v4, .ref v5, .int 0, .int 40, .int 0])), (v0, .inl (cI, 12, .inl (fun _ => (2 : Int32)))), (v1, .inl (cI, 40, .inl (fun _ => (0 : Int32)))), (v2, .inl (cI, 40, .inl (fun _ => (0 : Int32)))), (v3, .inl (cI, 20, .inl (fun _ => (0 : Int32)))), (v4, .inr (8, [.ref j0, .ref j1, .ref j2, .ref j3, .ref j4, .ref j5, .ref j6, .ref j7, .ref j8, .int 0])), (j0, .inl (cI, 60, .inl (fun _ => (0 : Int32)))), (j1, .inl (cI, 60, .inl (fun _ => (0 : Int32)))), (j2, .inl (cI, 60, .inl (fun _ => (0 : Int32)))), (j3, .inl (cI, 60, .inl (fun _ => (0 : Int32)))), (j4, .inl (cI, 60, .inl (fun _ => (0 : Int32)))), (j5, .inl (cI, 60, .inl (fun _ => (0 : Int32)))), (j6, .inl (cI, 40, .inl (fun _ => (0 : Int32)))), (j7, .inl (cI, 40, .inl (fun _ => (0 : Int32)))), (j8, .inl (cI, 40, .inl (fun _ => (0 : Int32)))), (v5, .inr (3, [.ref po, .int 0])), (po, .inl (cI, 36, .inl (fun _ => (0 : Int32)))), (fd, .inl (cI, 6, .inl (fun _ => (0 : Int32)))), (h, .inr (11, [.ref ys, .ref yk, .ref yt, .int 0, .ref yf, .ref yb, .ref yz, .ref yn, .ref yc, .int 0, .ref yp, .ref yw, .int 0, .int 0, .int 0, .int 0, .int 0, .int 0, .int 0, .int 0, .int 0, .ref ye, .int 0, .int 0, .ref yx])), (ys, .inl (cI, 1201, .inl sI)), (yt, .inl (cI, 1201, .inl (fun _ => (0 : Int32)))), (yf, .inl (cI, 6, .inl (fun _ => (0 : Int32))))] H) (hD : va_D A [(x, .inr (10, [.ref nw, .ref kp, .ref fu, .ref ra, .ref kr, .ref rd, .ref wd, .ref ld, .ref mt, .ref vo, .ref sh, .ref fd, .int 0])), (nw, .inr (9, [.ref w0, .ref w1, .ref w2, .ref w3, .ref w4, .ref w5, .int 0, .int 40, .int 0])), (w0, .inl (cI, 12, .inl (fun _ => (2 : Int32)))), (w1, .inl (cI, 40, .inl (fun _ => (0 : Int32)))), (w2, .inl (cI, 40, .inl (fun _ => (0 : Int32)))), (w3, .inl (cI, 20, .inl (fun _ => (0 : Int32)))), (w4, .inr (8, [.ref k0, .ref k1, .ref k2, .ref k3, .ref k4, .ref k5, .ref k6, .ref k7, .ref k8, .int 0])), (k0, .inl (cI, 60, .inl (fun _ => (0 : Int32)))), (k1, .inl (cI, 60, .inl (fun _ => (0 : Int32)))), (k2, .inl (cI, 60, .inl (fun _ => (0 : Int32)))), (k3, .inl (cI, 60, .inl (fun _ => (0 : Int32)))), (k4, .inl (cI, 60, .inl (fun _ => (0 : Int32)))), (k5, .inl (cI, 60, .inl (fun _ => (0 : Int32)))), (k6, .inl (cI, 40, .inl (fun _ => (0 : Int32)))), (k7, .inl (cI, 40, .inl (fun _ => (0 : Int32)))), (k8, .inl (cI, 40, .inl (fun _ => (0 : Int32)))), (w5, .inr (3, [.ref pf, .int 0])), (pf, .inl (cI, 36, .inl (fun _ => (0 : Int32)))), (fu, .inr (9, [.ref v0, .ref v1, .ref v2, .ref v3, .ref v4, .ref v5, .int 0, .int 40, .int 0])), (v0, .inl (cI, 12, .inl (fun _ => (2 : Int32)))), (v1, .inl (cI, 40, .inl (fun _ => (0 : Int32)))), (v2, .inl (cI, 40, .inl (fun _ => (0 : Int32)))), (v3, .inl (cI, 20, .inl (fun _ => (0 : Int32)))), (v4, .inr (8, [.ref j0, .ref j1, .ref j2, .ref j3, .ref j4, .ref j5, .ref j6, .ref j7, .ref j8, .int 0])), (j0, .inl (cI, 60, .inl (fun _ => (0 : Int32)))), (j1, .inl (cI, 60, .inl (fun _ => (0 : Int32)))), (j2, .inl (cI, 60, .inl (fun _ => (0 : Int32)))), (j3, .inl (cI, 60, .inl (fun _ => (0 : Int32)))), (j4, .inl (cI, 60, .inl (fun _ => (0 : Int32)))), (j5, .inl (cI, 60, .inl (fun _ => (0 : Int32)))), (j6, .inl (cI, 40, .inl (fun _ => (0 : Int32)))), (j7, .inl (cI, 40, .inl (fun _ => (0 : Int32)))), (j8, .inl (cI, 40, .inl (fun _ => (0 : Int32)))), (v5, .inr (3, [.ref po, .int 0])), (po, .inl (cI, 36, .inl (fun _ => (0 : Int32)))), (fd, .inl (cI, 6, .inl (fun _ => (0 : Int32)))), (h, .inr (11, [.ref ys, .ref yk, .ref yt, .int 0, .ref yf, .ref yb, .ref yz, .ref yn, .ref yc, .int 0, .ref yp, .ref yw, .int 0, .int 0, .int 0, .int 0, .int 0, .int 0, .int 0, .int 0, .int 0, .ref ye, .int 0, .int 0, .ref yx])), (ys, .inl (cI, 1201, .inl sI)), (yt, .inl (cI, 1201, .inl (fun _ => (0 : Int32)))), (yf, .inl (cI, 6, .inl (fun _ => (0 : Int32))))]) (hS : va_S A s.heap H locs) (hl : lv_has ls 4 [(3, .int 0), (2, .ref h), (1, .ref x), (0, .ref b)]) : W p l e room_1 s m #[Value.ref b] below meth c H locs 98 13371 (lw_Z below #[Value.ref b] s) (F0 m 1424 ls []) := by
  obtain ⟨hx, hb, hr, hml, hown, hts, hX, hbl, hlocks, hgv⟩ := C0
  have hT : ∀ w ∈ gT, w.before #[Value.ref b] s = true := fun w h => hts w (List.mem_filter.mp h).1
  have hown : s.vm.findClass RL = some m.cls := hown
  have hA : ∀ q : Nat, s.heap.size ≤ q → A q := fun q h => by rw [← hA0]; exact h
  have hbA : ¬ A b := by rw [← hA0]; exact Nat.not_le.mpr hbl
  refine lv_aload_n hx hb dL_law_1424 rfl (lv_at hl 2 rfl) ?_
  refine lv_aload_n hx hb dL_law_1425 rfl (lv_at hl 3 rfl) ?_
  refine lv_iload_n hx hb dL_law_1426 rfl (lv_at hl 0 rfl) ?_
  refine lv_iconst (v := 1) hx hb dL_law_1427 (by decide) ?_
  refine k_iadd (v := 1) hx hb dL_law_1428 (by decide) ?_
  refine k_sld (v := (xs 1)) hx hb hX hbl hbA hS (k_inl (by decide)) rfl dL_law_1429 ?_
  refine lv_aload_n hx hb dL_law_1430 rfl (lv_at hl 3 rfl) ?_
  refine lv_iload_n hx hb dL_law_1431 rfl (lv_at hl 0 rfl) ?_
  refine lv_iconst (v := 2) hx hb dL_law_1432 (by decide) ?_
  refine k_iadd (v := 2) hx hb dL_law_1433 (by decide) ?_
  refine k_sld (v := (xs 2)) hx hb hX hbl hbA hS (k_inl (by decide)) rfl dL_law_1434 ?_
  refine kJi (wr := [(h, .inr (11, [.ref ys, .ref yk, .ref yt, .int 0, .ref yf, .ref yb, .ref yz, .ref yn, .ref yc, .int 0, .ref yp, .ref yw, .int 0, .int 0, .int 0, .int 0, .int 0, .int 0, .int 0, .int 0, .int 0, .ref ye, .int 0, .int 0, .ref yx])), (ys, .inl (cI, 1201, .inl sI)), (yt, .inl (cI, 1201, .inl (fun _ => (0 : Int32)))), (yf, .inl (cI, 6, .inl (fun _ => (0 : Int32))))]) (va_runV (As := [.int (xs 1), .int (xs 2)]) (rest := []) ⟨hx, hb, hml, hown, hT⟩ (c_X10_joined l D cI x nw kp fu ra kr rd wd ld mt vo sh fd w0 w1 w2 w3 w4 w5 k0 k1 k2 k3 k4 k5 k6 k7 k8 pf v0 v1 v2 v3 v4 v5 j0 j1 j2 j3 j4 j5 j6 j7 j8 po H.size 0 (fun _ => (0 : Int32)) 0 40 0 (fun _ => (2 : Int32)) (fun _ => (0 : Int32)) (fun _ => (0 : Int32)) (fun _ => (0 : Int32)) 0 (fun _ => (0 : Int32)) (fun _ => (0 : Int32)) (fun _ => (0 : Int32)) (fun _ => (0 : Int32)) (fun _ => (0 : Int32)) (fun _ => (0 : Int32)) (fun _ => (0 : Int32)) (fun _ => (0 : Int32)) (fun _ => (0 : Int32)) 0 (fun _ => (0 : Int32)) (xs 1) (xs 2)) (cwV 2 hT (gV_in mw_1033 mw_1030 mw_1031 mw_1032 mw_1) rfl rfl rfl (by decide +kernel) ⟨Nat.le_of_ble_eq_true rfl, Nat.le_of_ble_eq_true rfl⟩) (kRecv (own := "") (q0 := 0) (ci := 10) hK hP hD hN rfl rfl [0, 1, 2, 3, 4, 5, 6, 7, 8, 9, 10, 11, 12, 13, 14, 15, 16, 17, 18, 19, 20, 21, 22, 23, 24, 25, 26, 27, 28, 29, 30, 31, 32, 33, 34, 35] rfl (by decide)) rfl rfl hl.1 rfl (lv_room (Nat.le_of_ble_eq_true rfl)) dL_law_1435 ⟨Nat.le_of_ble_eq_true rfl, Nat.le_of_ble_eq_true rfl⟩) hP hD hS hA [0, 1, 2, 3, 4, 5, 6, 7, 8, 9, 10, 11, 12, 13, 14, 15, 16, 17, 18, 19, 20, 21, 22, 23, 24, 25, 26, 27, 28, 29, 30, 31, 32, 33, 34, 35] [36, 37, 38, 39] rfl rfl (by decide) (by decide) (fun r_1 u_3 H locs w_2 hP hD hS => ?_)
  have hP : va_P D vwCl [(h, .inr (11, [.ref ys, .ref yk, .ref yt, .int 0, .ref yf, .ref yb, .ref yz, .ref yn, .ref yc, .int 0, .ref yp, .ref yw, .int 0, .int 0, .int 0, .int 0, .int 0, .int 0, .int 0, .int 0, .int 0, .ref ye, .int 0, .int 0, .ref yx])), (ys, .inl (cI, 1201, .inl sI)), (yt, .inl (cI, 1201, .inl (fun _ => (0 : Int32)))), (yf, .inl (cI, 6, .inl (fun _ => (0 : Int32))))] H := hP
  have hD : va_D A [(h, .inr (11, [.ref ys, .ref yk, .ref yt, .int 0, .ref yf, .ref yb, .ref yz, .ref yn, .ref yc, .int 0, .ref yp, .ref yw, .int 0, .int 0, .int 0, .int 0, .int 0, .int 0, .int 0, .int 0, .int 0, .ref ye, .int 0, .int 0, .ref yx])), (ys, .inl (cI, 1201, .inl sI)), (yt, .inl (cI, 1201, .inl (fun _ => (0 : Int32)))), (yf, .inl (cI, 6, .inl (fun _ => (0 : Int32))))] := hD
  have hr_1 := w_2
  have hr_1 : r_1 = sp_joined (xs 1) (xs 2) := hr_1
  have lo_r_1 := k_lo r_1
  have hi_r_1 := k_hi r_1
  refine lv_aload_n hx hb dL_law_1438 rfl (lv_at hl 1 rfl) ?_
  refine lv_aload_n hx hb dL_law_1439 rfl (lv_at hl 3 rfl) ?_
  refine lv_iload_n hx hb dL_law_1440 rfl (lv_at hl 0 rfl) ?_
  refine lv_iconst (v := 1) hx hb dL_law_1441 (by decide) ?_
  refine k_iadd (v := 1) hx hb dL_law_1442 (by decide) ?_
  refine k_sld (v := (xs 1)) hx hb hX hbl hbA hS (k_inl (by decide)) rfl dL_law_1443 ?_
  refine lv_aload_n hx hb dL_law_1444 rfl (lv_at hl 3 rfl) ?_
  refine lv_iload_n hx hb dL_law_1445 rfl (lv_at hl 0 rfl) ?_
  refine lv_iconst (v := 2) hx hb dL_law_1446 (by decide) ?_
  refine k_iadd (v := 2) hx hb dL_law_1447 (by decide) ?_
  refine k_sld (v := (xs 2)) hx hb hX hbl hbA hS (k_inl (by decide)) rfl dL_law_1448 ?_
  refine kJi (wr := []) (va_runV (As := [.int (xs 1), .int (xs 2)]) (rest := [.int r_1]) ⟨hx, hb, hml, hown, hT⟩ (c_X11_joined l D cI h ys yk yt yf yb yz yn yc yp yw ye yx H.size 0 0 0 0 0 0 0 0 0 0 0 0 0 (fun _ => (0 : Int32)) (fun _ => (0 : Int32)) (xs 1) (xs 2)) (cwV 2 hT (gV_in mw_1566 mw_1563 mw_1564 mw_1565 mw_12) rfl rfl rfl (by decide +kernel) ⟨Nat.le_of_ble_eq_true rfl, Nat.le_of_ble_eq_true rfl⟩) (kRecv (own := "") (q0 := 0) (ci := 11) hK hP hD hN rfl rfl [0, 1, 2, 3] rfl (by decide)) rfl rfl hl.1 rfl (lv_room (Nat.le_of_ble_eq_true rfl)) dL_law_1449 ⟨Nat.le_of_ble_eq_true rfl, Nat.le_of_ble_eq_true rfl⟩) hP hD hS hA [0, 1, 2, 3] [] rfl rfl (by decide) (by decide) (fun r_4 u_6 H locs w_5 hP hD hS => ?_)
  have hP : va_P D vwCl [] H := hP
  have hD : va_D A [] := hD
  have hr_4 := w_5
  have hr_4 : r_4 = sp_joined (xs 1) (xs 2) := hr_4
  have lo_r_4 := k_lo r_4
  have hi_r_4 := k_hi r_4
  refine b_icmp_eq hx hb rfl rfl (tgt := 1780) dL_law_1452 (by decide) (fun _ => ?_) (fun c_ne => by exfalso; exact c_ne (congrArg Int32.toInt (hr_1.trans hr_4.symm)))
  exact law_end l hx hb hr hlocks hA0 hX hbl hS (lv_sub hl [0, 3] rfl) (Nat.le_of_ble_eq_true rfl) (Nat.le_of_ble_eq_true rfl)
set_option maxHeartbeats 4000000 in
set_option maxRecDepth 100000 in
theorem law_31 {p : Program} {e : Env} {s : State} {m : MethodId} {below : List Frame} {meth : Method} {c : Code} (l : Launch) {b : Nat} {xs : Nat → Int32} {D : va_G} {cI : ClassId} {A : Nat → Prop} {x nw kp fu ra kr rd wd ld mt vo sh fd w0 w1 w2 w3 w4 w5 k0 k1 k2 k3 k4 k5 k6 k7 k8 h ys yk yt yf yb yz yn yc yp yw ye yx : Nat} {H : Heap} {locs : List Loc} {ls : Array Slot} (hA0 : (fun q : Nat => s.heap.size ≤ q) = A) (C0 : lw_At p s m meth c b 7 xs) (hK : va_K D vwCl [(cI, .int)] s) (hN : kNW s) (hP : va_P D vwCl [(x, .inr (10, [.ref nw, .ref kp, .ref fu, .ref ra, .ref kr, .ref rd, .ref wd, .ref ld, .ref mt, .ref vo, .ref sh, .ref fd, .int 0])), (nw, .inr (9, [.ref w0, .ref w1, .ref w2, .ref w3, .ref w4, .ref w5, .int 0, .int 40, .int 0])), (w4, .inr (8, [.ref k0, .ref k1, .ref k2, .ref k3, .ref k4, .ref k5, .ref k6, .ref k7, .ref k8, .int 0])), (fd, .inl (cI, 6, .inl (fun _ => (0 : Int32)))), (h, .inr (11, [.ref ys, .ref yk, .ref yt, .int 0, .ref yf, .ref yb, .ref yz, .ref yn, .ref yc, .int 0, .ref yp, .ref yw, .int 0, .int 0, .int 0, .int 0, .int 0, .int 0, .int 0, .int 0, .int 0, .ref ye, .int 0, .int 0, .ref yx])), (ys, .inl (cI, 1201, .inl sI)), (yf, .inl (cI, 6, .inl (fun _ => (0 : Int32))))] H) (hD : va_D A [(x, .inr (10, [.ref nw, .ref kp, .ref fu, .ref ra, .ref kr, .ref rd, .ref wd, .ref ld, .ref mt, .ref vo, .ref sh, .ref fd, .int 0])), (nw, .inr (9, [.ref w0, .ref w1, .ref w2, .ref w3, .ref w4, .ref w5, .int 0, .int 40, .int 0])), (w4, .inr (8, [.ref k0, .ref k1, .ref k2, .ref k3, .ref k4, .ref k5, .ref k6, .ref k7, .ref k8, .int 0])), (fd, .inl (cI, 6, .inl (fun _ => (0 : Int32)))), (h, .inr (11, [.ref ys, .ref yk, .ref yt, .int 0, .ref yf, .ref yb, .ref yz, .ref yn, .ref yc, .int 0, .ref yp, .ref yw, .int 0, .int 0, .int 0, .int 0, .int 0, .int 0, .int 0, .int 0, .int 0, .ref ye, .int 0, .int 0, .ref yx])), (ys, .inl (cI, 1201, .inl sI)), (yf, .inl (cI, 6, .inl (fun _ => (0 : Int32))))]) (hS : va_S A s.heap H locs) (hl : lv_has ls 4 [(3, .int 0), (2, .ref h), (1, .ref x), (0, .ref b)]) : W p l e room_1 s m #[Value.ref b] below meth c H locs 98 13371 (lw_Z below #[Value.ref b] s) (F0 m 1457 ls []) := by
  obtain ⟨hx, hb, hr, hml, hown, hts, hX, hbl, hlocks, hgv⟩ := C0
  have hT : ∀ w ∈ gT, w.before #[Value.ref b] s = true := fun w h => hts w (List.mem_filter.mp h).1
  have hown : s.vm.findClass RL = some m.cls := hown
  have hA : ∀ q : Nat, s.heap.size ≤ q → A q := fun q h => by rw [← hA0]; exact h
  have hbA : ¬ A b := by rw [← hA0]; exact Nat.not_le.mpr hbl
  refine lv_aload_n hx hb dL_law_1457 rfl (lv_at hl 2 rfl) ?_
  refine lv_aload_n hx hb dL_law_1458 rfl (lv_at hl 3 rfl) ?_
  refine lv_iload_n hx hb dL_law_1459 rfl (lv_at hl 0 rfl) ?_
  refine lv_iconst (v := 1) hx hb dL_law_1460 (by decide) ?_
  refine k_iadd (v := 1) hx hb dL_law_1461 (by decide) ?_
  refine k_sld (v := (xs 1)) hx hb hX hbl hbA hS (k_inl (by decide)) rfl dL_law_1462 ?_
  refine lv_aload_n hx hb dL_law_1463 rfl (lv_at hl 3 rfl) ?_
  refine lv_iload_n hx hb dL_law_1464 rfl (lv_at hl 0 rfl) ?_
  refine lv_iconst (v := 2) hx hb dL_law_1465 (by decide) ?_
  refine k_iadd (v := 2) hx hb dL_law_1466 (by decide) ?_
  refine k_sld (v := (xs 2)) hx hb hX hbl hbA hS (k_inl (by decide)) rfl dL_law_1467 ?_
  refine lv_aload_n hx hb dL_law_1468 rfl (lv_at hl 3 rfl) ?_
  refine lv_iload_n hx hb dL_law_1469 rfl (lv_at hl 0 rfl) ?_
  refine lv_iconst (v := 3) hx hb dL_law_1470 (by decide) ?_
  refine k_iadd (v := 3) hx hb dL_law_1471 (by decide) ?_
  refine k_sld (v := (xs 3)) hx hb hX hbl hbA hS (k_inl (by decide)) rfl dL_law_1472 ?_
  refine kJi (wr := [(h, .inr (11, [.ref ys, .ref yk, .ref yt, .int 0, .ref yf, .ref yb, .ref yz, .ref yn, .ref yc, .int 0, .ref yp, .ref yw, .int 0, .int 0, .int 0, .int 0, .int 0, .int 0, .int 0, .int 0, .int 0, .ref ye, .int 0, .int 0, .ref yx])), (ys, .inl (cI, 1201, .inl sI)), (yf, .inl (cI, 6, .inl (fun _ => (0 : Int32))))]) (va_runV (As := [.int (xs 1), .int (xs 2), .int (xs 3)]) (rest := []) ⟨hx, hb, hml, hown, hT⟩ (c_X10_voice l D cI x nw kp fu ra kr rd wd ld mt vo sh fd w0 w1 w2 w3 w4 w5 k0 k1 k2 k3 k4 k5 k6 k7 k8 H.size 0 (fun _ => (0 : Int32)) 0 40 0 (xs 1) (xs 2) (xs 3)) (cwV 3 hT (gV_in mw_1042 mw_1039 mw_1040 mw_1041 mw_1) rfl rfl rfl (by decide +kernel) ⟨Nat.le_of_ble_eq_true rfl, Nat.le_of_ble_eq_true rfl⟩) (kRecv (own := "") (q0 := 0) (ci := 10) hK hP hD hN rfl rfl [0, 1, 2, 3] rfl (by decide)) rfl rfl hl.1 rfl (lv_room (Nat.le_of_ble_eq_true rfl)) dL_law_1473 ⟨Nat.le_of_ble_eq_true rfl, Nat.le_of_ble_eq_true rfl⟩) hP hD hS hA [0, 1, 2, 3] [4, 5, 6] rfl rfl (by decide) (by decide) (fun r_1 u_3 H locs w_2 hP hD hS => ?_)
  have hP : va_P D vwCl [(h, .inr (11, [.ref ys, .ref yk, .ref yt, .int 0, .ref yf, .ref yb, .ref yz, .ref yn, .ref yc, .int 0, .ref yp, .ref yw, .int 0, .int 0, .int 0, .int 0, .int 0, .int 0, .int 0, .int 0, .int 0, .ref ye, .int 0, .int 0, .ref yx])), (ys, .inl (cI, 1201, .inl sI)), (yf, .inl (cI, 6, .inl (fun _ => (0 : Int32))))] H := hP
  have hD : va_D A [(h, .inr (11, [.ref ys, .ref yk, .ref yt, .int 0, .ref yf, .ref yb, .ref yz, .ref yn, .ref yc, .int 0, .ref yp, .ref yw, .int 0, .int 0, .int 0, .int 0, .int 0, .int 0, .int 0, .int 0, .int 0, .ref ye, .int 0, .int 0, .ref yx])), (ys, .inl (cI, 1201, .inl sI)), (yf, .inl (cI, 6, .inl (fun _ => (0 : Int32))))] := hD
  have hr_1 := w_2
  obtain rfl : r_1 = (-1000001) := hr_1.trans (by decide)
  refine lv_aload_n hx hb dL_law_1476 rfl (lv_at hl 1 rfl) ?_
  refine lv_aload_n hx hb dL_law_1477 rfl (lv_at hl 3 rfl) ?_
  refine lv_iload_n hx hb dL_law_1478 rfl (lv_at hl 0 rfl) ?_
  refine lv_iconst (v := 1) hx hb dL_law_1479 (by decide) ?_
  refine k_iadd (v := 1) hx hb dL_law_1480 (by decide) ?_
  refine k_sld (v := (xs 1)) hx hb hX hbl hbA hS (k_inl (by decide)) rfl dL_law_1481 ?_
  refine lv_aload_n hx hb dL_law_1482 rfl (lv_at hl 3 rfl) ?_
  refine lv_iload_n hx hb dL_law_1483 rfl (lv_at hl 0 rfl) ?_
  refine lv_iconst (v := 2) hx hb dL_law_1484 (by decide) ?_
  refine k_iadd (v := 2) hx hb dL_law_1485 (by decide) ?_
  refine k_sld (v := (xs 2)) hx hb hX hbl hbA hS (k_inl (by decide)) rfl dL_law_1486 ?_
  refine lv_aload_n hx hb dL_law_1487 rfl (lv_at hl 3 rfl) ?_
  refine lv_iload_n hx hb dL_law_1488 rfl (lv_at hl 0 rfl) ?_
  refine lv_iconst (v := 3) hx hb dL_law_1489 (by decide) ?_
  refine k_iadd (v := 3) hx hb dL_law_1490 (by decide) ?_
  refine k_sld (v := (xs 3)) hx hb hX hbl hbA hS (k_inl (by decide)) rfl dL_law_1491 ?_
  refine kJi (wr := []) (va_runV (As := [.int (xs 1), .int (xs 2), .int (xs 3)]) (rest := [.int (-1000001)]) ⟨hx, hb, hml, hown, hT⟩ (c_X11_voice l D cI h ys yk yt yf yb yz yn yc yp yw ye yx H.size 0 0 0 0 0 0 0 0 0 0 0 0 0 (fun _ => (0 : Int32)) (xs 1) (xs 2) (xs 3)) (cwV 3 hT (gV_in mw_1574 mw_1571 mw_1572 mw_1573 mw_12) rfl rfl rfl (by decide +kernel) ⟨Nat.le_of_ble_eq_true rfl, Nat.le_of_ble_eq_true rfl⟩) (kRecv (own := "") (q0 := 0) (ci := 11) hK hP hD hN rfl rfl [0, 1, 2] rfl (by decide)) rfl rfl hl.1 rfl (lv_room (Nat.le_of_ble_eq_true rfl)) dL_law_1492 ⟨Nat.le_of_ble_eq_true rfl, Nat.le_of_ble_eq_true rfl⟩) hP hD hS hA [0, 1, 2] [] rfl rfl (by decide) (by decide) (fun r_4 u_6 H locs w_5 hP hD hS => ?_)
  have hP : va_P D vwCl [] H := hP
  have hD : va_D A [] := hD
  have hr_4 := w_5
  obtain rfl : r_4 = (-1000001) := hr_4.trans (by decide)
  refine b_icmp_eq hx hb zl_m1000001 zl_m1000001 (tgt := 1780) dL_law_1495 (by decide) (fun c_7 => ?_) (fun c_7 => by exfalso; omega)
  exact law_end l hx hb hr hlocks hA0 hX hbl hS (lv_sub hl [0, 3] rfl) (Nat.le_of_ble_eq_true rfl) (Nat.le_of_ble_eq_true rfl)
set_option maxHeartbeats 4000000 in
set_option maxRecDepth 100000 in
theorem law_32 {p : Program} {e : Env} {s : State} {m : MethodId} {below : List Frame} {meth : Method} {c : Code} (l : Launch) {b : Nat} {xs : Nat → Int32} {D : va_G} {cI : ClassId} {A : Nat → Prop} {x nw kp fu ra kr rd wd ld mt vo sh fd vb h ys yk yt yf yb yz yn yc yp yw ye yx : Nat} {H : Heap} {locs : List Loc} {ls : Array Slot} (hA0 : (fun q : Nat => s.heap.size ≤ q) = A) (C0 : lw_At p s m meth c b 7 xs) (hK : va_K D vwCl [(cI, .int)] s) (hN : kNW s) (hP : va_P D vwCl [(x, .inr (10, [.ref nw, .ref kp, .ref fu, .ref ra, .ref kr, .ref rd, .ref wd, .ref ld, .ref mt, .ref vo, .ref sh, .ref fd, .int 0])), (vo, .inr (7, [.ref vb, .int 0, .int 0, .int 0, .int 0])), (fd, .inl (cI, 6, .inl (fun _ => (0 : Int32)))), (h, .inr (11, [.ref ys, .ref yk, .ref yt, .int 0, .ref yf, .ref yb, .ref yz, .ref yn, .ref yc, .int 0, .ref yp, .ref yw, .int 0, .int 0, .int 0, .int 0, .int 0, .int 0, .int 0, .int 0, .int 0, .ref ye, .int 0, .int 0, .ref yx])), (yc, .inl (cI, 40, .inl (fun _ => (0 : Int32)))), (yf, .inl (cI, 6, .inl (fun _ => (0 : Int32))))] H) (hD : va_D A [(x, .inr (10, [.ref nw, .ref kp, .ref fu, .ref ra, .ref kr, .ref rd, .ref wd, .ref ld, .ref mt, .ref vo, .ref sh, .ref fd, .int 0])), (vo, .inr (7, [.ref vb, .int 0, .int 0, .int 0, .int 0])), (fd, .inl (cI, 6, .inl (fun _ => (0 : Int32)))), (h, .inr (11, [.ref ys, .ref yk, .ref yt, .int 0, .ref yf, .ref yb, .ref yz, .ref yn, .ref yc, .int 0, .ref yp, .ref yw, .int 0, .int 0, .int 0, .int 0, .int 0, .int 0, .int 0, .int 0, .int 0, .ref ye, .int 0, .int 0, .ref yx])), (yc, .inl (cI, 40, .inl (fun _ => (0 : Int32)))), (yf, .inl (cI, 6, .inl (fun _ => (0 : Int32))))]) (hS : va_S A s.heap H locs) (hl : lv_has ls 4 [(3, .int 0), (2, .ref h), (1, .ref x), (0, .ref b)]) : W p l e room_1 s m #[Value.ref b] below meth c H locs 98 13371 (lw_Z below #[Value.ref b] s) (F0 m 1500 ls []) := by
  obtain ⟨hx, hb, hr, hml, hown, hts, hX, hbl, hlocks, hgv⟩ := C0
  have hT : ∀ w ∈ gT, w.before #[Value.ref b] s = true := fun w h => hts w (List.mem_filter.mp h).1
  have hown : s.vm.findClass RL = some m.cls := hown
  have hA : ∀ q : Nat, s.heap.size ≤ q → A q := fun q h => by rw [← hA0]; exact h
  have hbA : ¬ A b := by rw [← hA0]; exact Nat.not_le.mpr hbl
  refine lv_aload_n hx hb dL_law_1500 rfl (lv_at hl 2 rfl) ?_
  refine lv_aload_n hx hb dL_law_1501 rfl (lv_at hl 3 rfl) ?_
  refine lv_iload_n hx hb dL_law_1502 rfl (lv_at hl 0 rfl) ?_
  refine lv_iconst (v := 1) hx hb dL_law_1503 (by decide) ?_
  refine k_iadd (v := 1) hx hb dL_law_1504 (by decide) ?_
  refine k_sld (v := (xs 1)) hx hb hX hbl hbA hS (k_inl (by decide)) rfl dL_law_1505 ?_
  refine kJi (wr := [(h, .inr (11, [.ref ys, .ref yk, .ref yt, .int 0, .ref yf, .ref yb, .ref yz, .ref yn, .ref yc, .int 0, .ref yp, .ref yw, .int 0, .int 0, .int 0, .int 0, .int 0, .int 0, .int 0, .int 0, .int 0, .ref ye, .int 0, .int 0, .ref yx])), (yc, .inl (cI, 40, .inl (fun _ => (0 : Int32)))), (yf, .inl (cI, 6, .inl (fun _ => (0 : Int32))))]) (va_runV (As := [.int (xs 1)]) (rest := []) ⟨hx, hb, hml, hown, hT⟩ (c_X10_trace l D cI x nw kp fu ra kr rd wd ld mt vo sh fd vb H.size 0 (fun _ => (0 : Int32)) (xs 1)) (cwV 1 hT (gV_in mw_1064 mw_1061 mw_1062 mw_1063 mw_1) rfl rfl rfl (by decide +kernel) ⟨Nat.le_of_ble_eq_true rfl, Nat.le_of_ble_eq_true rfl⟩) (kRecv (own := "") (q0 := 0) (ci := 10) hK hP hD hN rfl rfl [0, 1, 2] rfl (by decide)) rfl rfl hl.1 rfl (lv_room (Nat.le_of_ble_eq_true rfl)) dL_law_1506 ⟨Nat.le_of_ble_eq_true rfl, Nat.le_of_ble_eq_true rfl⟩) hP hD hS hA [0, 1, 2] [3, 4, 5] rfl rfl (by decide) (by decide) (fun r_1 u_3 H locs w_2 hP hD hS => ?_)
  have hP : va_P D vwCl [(h, .inr (11, [.ref ys, .ref yk, .ref yt, .int 0, .ref yf, .ref yb, .ref yz, .ref yn, .ref yc, .int 0, .ref yp, .ref yw, .int 0, .int 0, .int 0, .int 0, .int 0, .int 0, .int 0, .int 0, .int 0, .ref ye, .int 0, .int 0, .ref yx])), (yc, .inl (cI, 40, .inl (fun _ => (0 : Int32)))), (yf, .inl (cI, 6, .inl (fun _ => (0 : Int32))))] H := hP
  have hD : va_D A [(h, .inr (11, [.ref ys, .ref yk, .ref yt, .int 0, .ref yf, .ref yb, .ref yz, .ref yn, .ref yc, .int 0, .ref yp, .ref yw, .int 0, .int 0, .int 0, .int 0, .int 0, .int 0, .int 0, .int 0, .int 0, .ref ye, .int 0, .int 0, .ref yx])), (yc, .inl (cI, 40, .inl (fun _ => (0 : Int32)))), (yf, .inl (cI, 6, .inl (fun _ => (0 : Int32))))] := hD
  have hr_1 := w_2
  obtain rfl : r_1 = (-1000002) := hr_1.trans (by decide)
  refine lv_aload_n hx hb dL_law_1509 rfl (lv_at hl 1 rfl) ?_
  refine lv_aload_n hx hb dL_law_1510 rfl (lv_at hl 3 rfl) ?_
  refine lv_iload_n hx hb dL_law_1511 rfl (lv_at hl 0 rfl) ?_
  refine lv_iconst (v := 1) hx hb dL_law_1512 (by decide) ?_
  refine k_iadd (v := 1) hx hb dL_law_1513 (by decide) ?_
  refine k_sld (v := (xs 1)) hx hb hX hbl hbA hS (k_inl (by decide)) rfl dL_law_1514 ?_
  refine kJi (wr := []) (va_runV (As := [.int (xs 1)]) (rest := [.int (-1000002)]) ⟨hx, hb, hml, hown, hT⟩ (c_X11_trace l D cI h ys yk yt yf yb yz yn yc yp yw ye yx H.size 0 0 0 0 0 0 0 0 0 0 0 0 (fun _ => (0 : Int32)) (fun _ => (0 : Int32)) (xs 1)) (cwV 1 hT (gV_in mw_1589 mw_1586 mw_1587 mw_1588 mw_12) rfl rfl rfl (by decide +kernel) ⟨Nat.le_of_ble_eq_true rfl, Nat.le_of_ble_eq_true rfl⟩) (kRecv (own := "") (q0 := 0) (ci := 11) hK hP hD hN rfl rfl [0, 1, 2] rfl (by decide)) rfl rfl hl.1 rfl (lv_room (Nat.le_of_ble_eq_true rfl)) dL_law_1515 ⟨Nat.le_of_ble_eq_true rfl, Nat.le_of_ble_eq_true rfl⟩) hP hD hS hA [0, 1, 2] [] rfl rfl (by decide) (by decide) (fun r_4 u_6 H locs w_5 hP hD hS => ?_)
  have hP : va_P D vwCl [] H := hP
  have hD : va_D A [] := hD
  have hr_4 := w_5
  obtain rfl : r_4 = (-1000002) := hr_4.trans (by decide)
  refine b_icmp_eq hx hb zl_m1000002 zl_m1000002 (tgt := 1780) dL_law_1518 (by decide) (fun c_7 => ?_) (fun c_7 => by exfalso; omega)
  exact law_end l hx hb hr hlocks hA0 hX hbl hS (lv_sub hl [0, 3] rfl) (Nat.le_of_ble_eq_true rfl) (Nat.le_of_ble_eq_true rfl)
set_option maxHeartbeats 4000000 in
set_option maxRecDepth 100000 in
theorem law_33 {p : Program} {e : Env} {s : State} {m : MethodId} {below : List Frame} {meth : Method} {c : Code} (l : Launch) {b : Nat} {xs : Nat → Int32} {D : va_G} {cI : ClassId} {A : Nat → Prop} {x nw kp fu ra kr rd wd ld mt vo sh fd sb sl sn h ys yk yt yf yb yz yn yc yp yw ye yx : Nat} {H : Heap} {locs : List Loc} {ls : Array Slot} (hA0 : (fun q : Nat => s.heap.size ≤ q) = A) (C0 : lw_At p s m meth c b 7 xs) (hK : va_K D vwCl [(cI, .int)] s) (hN : kNW s) (hP : va_P D vwCl [(x, .inr (10, [.ref nw, .ref kp, .ref fu, .ref ra, .ref kr, .ref rd, .ref wd, .ref ld, .ref mt, .ref vo, .ref sh, .ref fd, .int 0])), (sh, .inr (6, [.ref sb, .ref sl, .ref sn])), (sb, .inl (cI, 4, .inl (fun _ => (0 : Int32)))), (sl, .inl (cI, 4, .inl (fun _ => (0 : Int32)))), (sn, .inl (cI, 144, .inl (fun _ => (0 : Int32)))), (fd, .inl (cI, 6, .inl (fun _ => (0 : Int32)))), (h, .inr (11, [.ref ys, .ref yk, .ref yt, .int 0, .ref yf, .ref yb, .ref yz, .ref yn, .ref yc, .int 0, .ref yp, .ref yw, .int 0, .int 0, .int 0, .int 0, .int 0, .int 0, .int 0, .int 0, .int 0, .ref ye, .int 0, .int 0, .ref yx])), (yb, .inl (cI, 4, .inl (fun _ => (0 : Int32)))), (yz, .inl (cI, 4, .inl (fun _ => (0 : Int32)))), (yn, .inl (cI, 144, .inl (fun _ => (0 : Int32)))), (yf, .inl (cI, 6, .inl (fun _ => (0 : Int32))))] H) (hD : va_D A [(x, .inr (10, [.ref nw, .ref kp, .ref fu, .ref ra, .ref kr, .ref rd, .ref wd, .ref ld, .ref mt, .ref vo, .ref sh, .ref fd, .int 0])), (sh, .inr (6, [.ref sb, .ref sl, .ref sn])), (sb, .inl (cI, 4, .inl (fun _ => (0 : Int32)))), (sl, .inl (cI, 4, .inl (fun _ => (0 : Int32)))), (sn, .inl (cI, 144, .inl (fun _ => (0 : Int32)))), (fd, .inl (cI, 6, .inl (fun _ => (0 : Int32)))), (h, .inr (11, [.ref ys, .ref yk, .ref yt, .int 0, .ref yf, .ref yb, .ref yz, .ref yn, .ref yc, .int 0, .ref yp, .ref yw, .int 0, .int 0, .int 0, .int 0, .int 0, .int 0, .int 0, .int 0, .int 0, .ref ye, .int 0, .int 0, .ref yx])), (yb, .inl (cI, 4, .inl (fun _ => (0 : Int32)))), (yz, .inl (cI, 4, .inl (fun _ => (0 : Int32)))), (yn, .inl (cI, 144, .inl (fun _ => (0 : Int32)))), (yf, .inl (cI, 6, .inl (fun _ => (0 : Int32))))]) (hS : va_S A s.heap H locs) (hl : lv_has ls 4 [(3, .int 0), (2, .ref h), (1, .ref x), (0, .ref b)]) : W p l e room_1 s m #[Value.ref b] below meth c H locs 98 13371 (lw_Z below #[Value.ref b] s) (F0 m 1523 ls []) := by
  obtain ⟨hx, hb, hr, hml, hown, hts, hX, hbl, hlocks, hgv⟩ := C0
  have hT : ∀ w ∈ gT, w.before #[Value.ref b] s = true := fun w h => hts w (List.mem_filter.mp h).1
  have hown : s.vm.findClass RL = some m.cls := hown
  have hA : ∀ q : Nat, s.heap.size ≤ q → A q := fun q h => by rw [← hA0]; exact h
  have hbA : ¬ A b := by rw [← hA0]; exact Nat.not_le.mpr hbl
  refine lv_aload_n hx hb dL_law_1523 rfl (lv_at hl 2 rfl) ?_
  refine lv_aload_n hx hb dL_law_1524 rfl (lv_at hl 3 rfl) ?_
  refine lv_iload_n hx hb dL_law_1525 rfl (lv_at hl 0 rfl) ?_
  refine lv_iconst (v := 1) hx hb dL_law_1526 (by decide) ?_
  refine k_iadd (v := 1) hx hb dL_law_1527 (by decide) ?_
  refine k_sld (v := (xs 1)) hx hb hX hbl hbA hS (k_inl (by decide)) rfl dL_law_1528 ?_
  refine lv_aload_n hx hb dL_law_1529 rfl (lv_at hl 3 rfl) ?_
  refine lv_iload_n hx hb dL_law_1530 rfl (lv_at hl 0 rfl) ?_
  refine lv_iconst (v := 2) hx hb dL_law_1531 (by decide) ?_
  refine k_iadd (v := 2) hx hb dL_law_1532 (by decide) ?_
  refine k_sld (v := (xs 2)) hx hb hX hbl hbA hS (k_inl (by decide)) rfl dL_law_1533 ?_
  refine lv_aload_n hx hb dL_law_1534 rfl (lv_at hl 3 rfl) ?_
  refine lv_iload_n hx hb dL_law_1535 rfl (lv_at hl 0 rfl) ?_
  refine lv_iconst (v := 3) hx hb dL_law_1536 (by decide) ?_
  refine k_iadd (v := 3) hx hb dL_law_1537 (by decide) ?_
  refine k_sld (v := (xs 3)) hx hb hX hbl hbA hS (k_inl (by decide)) rfl dL_law_1538 ?_
  refine kJi (wr := [(h, .inr (11, [.ref ys, .ref yk, .ref yt, .int 0, .ref yf, .ref yb, .ref yz, .ref yn, .ref yc, .int 0, .ref yp, .ref yw, .int 0, .int 0, .int 0, .int 0, .int 0, .int 0, .int 0, .int 0, .int 0, .ref ye, .int 0, .int 0, .ref yx])), (yb, .inl (cI, 4, .inl (fun _ => (0 : Int32)))), (yz, .inl (cI, 4, .inl (fun _ => (0 : Int32)))), (yn, .inl (cI, 144, .inl (fun _ => (0 : Int32)))), (yf, .inl (cI, 6, .inl (fun _ => (0 : Int32))))]) (va_runV (As := [.int (xs 1), .int (xs 2), .int (xs 3)]) (rest := []) ⟨hx, hb, hml, hown, hT⟩ (c_X10_sheet l D cI x nw kp fu ra kr rd wd ld mt vo sh fd sb sl sn H.size 0 (fun _ => (0 : Int32)) (fun _ => (0 : Int32)) (fun _ => (0 : Int32)) (fun _ => (0 : Int32)) (xs 1) (xs 2) (xs 3)) (cwV 3 hT (gV_in mw_1072 mw_1069 mw_1070 mw_1071 mw_1) rfl rfl rfl (by decide +kernel) ⟨Nat.le_of_ble_eq_true rfl, Nat.le_of_ble_eq_true rfl⟩) (kRecv (own := "") (q0 := 0) (ci := 10) hK hP hD hN rfl rfl [0, 1, 2, 3, 4, 5] rfl (by decide)) rfl rfl hl.1 rfl (lv_room (Nat.le_of_ble_eq_true rfl)) dL_law_1539 ⟨Nat.le_of_ble_eq_true rfl, Nat.le_of_ble_eq_true rfl⟩) hP hD hS hA [0, 1, 2, 3, 4, 5] [6, 7, 8, 9, 10] rfl rfl (by decide) (by decide) (fun r_1 u_3 H locs w_2 hP hD hS => ?_)
  have hP : va_P D vwCl [(h, .inr (11, [.ref ys, .ref yk, .ref yt, .int 0, .ref yf, .ref yb, .ref yz, .ref yn, .ref yc, .int 0, .ref yp, .ref yw, .int 0, .int 0, .int 0, .int 0, .int 0, .int 0, .int 0, .int 0, .int 0, .ref ye, .int 0, .int 0, .ref yx])), (yb, .inl (cI, 4, .inl (fun _ => (0 : Int32)))), (yz, .inl (cI, 4, .inl (fun _ => (0 : Int32)))), (yn, .inl (cI, 144, .inl (fun _ => (0 : Int32)))), (yf, .inl (cI, 6, .inl (fun _ => (0 : Int32))))] H := hP
  have hD : va_D A [(h, .inr (11, [.ref ys, .ref yk, .ref yt, .int 0, .ref yf, .ref yb, .ref yz, .ref yn, .ref yc, .int 0, .ref yp, .ref yw, .int 0, .int 0, .int 0, .int 0, .int 0, .int 0, .int 0, .int 0, .int 0, .ref ye, .int 0, .int 0, .ref yx])), (yb, .inl (cI, 4, .inl (fun _ => (0 : Int32)))), (yz, .inl (cI, 4, .inl (fun _ => (0 : Int32)))), (yn, .inl (cI, 144, .inl (fun _ => (0 : Int32)))), (yf, .inl (cI, 6, .inl (fun _ => (0 : Int32))))] := hD
  have hr_1 := w_2
  have hr_1 : r_1 = sp_sheet (xs 1) (xs 2) (xs 3) := hr_1
  have lo_r_1 := k_lo r_1
  have hi_r_1 := k_hi r_1
  refine lv_aload_n hx hb dL_law_1542 rfl (lv_at hl 1 rfl) ?_
  refine lv_aload_n hx hb dL_law_1543 rfl (lv_at hl 3 rfl) ?_
  refine lv_iload_n hx hb dL_law_1544 rfl (lv_at hl 0 rfl) ?_
  refine lv_iconst (v := 1) hx hb dL_law_1545 (by decide) ?_
  refine k_iadd (v := 1) hx hb dL_law_1546 (by decide) ?_
  refine k_sld (v := (xs 1)) hx hb hX hbl hbA hS (k_inl (by decide)) rfl dL_law_1547 ?_
  refine lv_aload_n hx hb dL_law_1548 rfl (lv_at hl 3 rfl) ?_
  refine lv_iload_n hx hb dL_law_1549 rfl (lv_at hl 0 rfl) ?_
  refine lv_iconst (v := 2) hx hb dL_law_1550 (by decide) ?_
  refine k_iadd (v := 2) hx hb dL_law_1551 (by decide) ?_
  refine k_sld (v := (xs 2)) hx hb hX hbl hbA hS (k_inl (by decide)) rfl dL_law_1552 ?_
  refine lv_aload_n hx hb dL_law_1553 rfl (lv_at hl 3 rfl) ?_
  refine lv_iload_n hx hb dL_law_1554 rfl (lv_at hl 0 rfl) ?_
  refine lv_iconst (v := 3) hx hb dL_law_1555 (by decide) ?_
  refine k_iadd (v := 3) hx hb dL_law_1556 (by decide) ?_
  refine k_sld (v := (xs 3)) hx hb hX hbl hbA hS (k_inl (by decide)) rfl dL_law_1557 ?_
  refine kJi (wr := []) (va_runV (As := [.int (xs 1), .int (xs 2), .int (xs 3)]) (rest := [.int r_1]) ⟨hx, hb, hml, hown, hT⟩ (c_X11_sheet l D cI h ys yk yt yf yb yz yn yc yp yw ye yx H.size 0 0 0 0 0 0 0 0 0 0 0 0 0 (fun _ => (0 : Int32)) (fun _ => (0 : Int32)) (fun _ => (0 : Int32)) (fun _ => (0 : Int32)) (xs 1) (xs 2) (xs 3)) (cwV 3 hT (gV_in mw_1593 mw_1590 mw_1591 mw_1592 mw_12) rfl rfl rfl (by decide +kernel) ⟨Nat.le_of_ble_eq_true rfl, Nat.le_of_ble_eq_true rfl⟩) (kRecv (own := "") (q0 := 0) (ci := 11) hK hP hD hN rfl rfl [0, 1, 2, 3, 4] rfl (by decide)) rfl rfl hl.1 rfl (lv_room (Nat.le_of_ble_eq_true rfl)) dL_law_1558 ⟨Nat.le_of_ble_eq_true rfl, Nat.le_of_ble_eq_true rfl⟩) hP hD hS hA [0, 1, 2, 3, 4] [] rfl rfl (by decide) (by decide) (fun r_4 u_6 H locs w_5 hP hD hS => ?_)
  have hP : va_P D vwCl [] H := hP
  have hD : va_D A [] := hD
  have hr_4 := w_5
  have hr_4 : r_4 = sp_sheet (xs 1) (xs 2) (xs 3) := hr_4
  have lo_r_4 := k_lo r_4
  have hi_r_4 := k_hi r_4
  refine b_icmp_eq hx hb rfl rfl (tgt := 1780) dL_law_1561 (by decide) (fun _ => ?_) (fun c_ne => by exfalso; exact c_ne (congrArg Int32.toInt (hr_1.trans hr_4.symm)))
  exact law_end l hx hb hr hlocks hA0 hX hbl hS (lv_sub hl [0, 3] rfl) (Nat.le_of_ble_eq_true rfl) (Nat.le_of_ble_eq_true rfl)
set_option maxHeartbeats 4000000 in
set_option maxRecDepth 100000 in
theorem law_34 {p : Program} {e : Env} {s : State} {m : MethodId} {below : List Frame} {meth : Method} {c : Code} (l : Launch) {b : Nat} {xs : Nat → Int32} {D : va_G} {cI : ClassId} {A : Nat → Prop} {x nw kp fu ra kr rd wd ld mt vo sh fd sb sl sn h ys yk yt yf yb yz yn yc yp yw ye yx : Nat} {H : Heap} {locs : List Loc} {ls : Array Slot} (hA0 : (fun q : Nat => s.heap.size ≤ q) = A) (C0 : lw_At p s m meth c b 7 xs) (hK : va_K D vwCl [(cI, .int)] s) (hN : kNW s) (hP : va_P D vwCl [(x, .inr (10, [.ref nw, .ref kp, .ref fu, .ref ra, .ref kr, .ref rd, .ref wd, .ref ld, .ref mt, .ref vo, .ref sh, .ref fd, .int 0])), (sh, .inr (6, [.ref sb, .ref sl, .ref sn])), (sb, .inl (cI, 4, .inl (fun _ => (0 : Int32)))), (fd, .inl (cI, 6, .inl (fun _ => (0 : Int32)))), (h, .inr (11, [.ref ys, .ref yk, .ref yt, .int 0, .ref yf, .ref yb, .ref yz, .ref yn, .ref yc, .int 0, .ref yp, .ref yw, .int 0, .int 0, .int 0, .int 0, .int 0, .int 0, .int 0, .int 0, .int 0, .ref ye, .int 0, .int 0, .ref yx])), (yb, .inl (cI, 4, .inl (fun _ => (0 : Int32)))), (yf, .inl (cI, 6, .inl (fun _ => (0 : Int32))))] H) (hD : va_D A [(x, .inr (10, [.ref nw, .ref kp, .ref fu, .ref ra, .ref kr, .ref rd, .ref wd, .ref ld, .ref mt, .ref vo, .ref sh, .ref fd, .int 0])), (sh, .inr (6, [.ref sb, .ref sl, .ref sn])), (sb, .inl (cI, 4, .inl (fun _ => (0 : Int32)))), (fd, .inl (cI, 6, .inl (fun _ => (0 : Int32)))), (h, .inr (11, [.ref ys, .ref yk, .ref yt, .int 0, .ref yf, .ref yb, .ref yz, .ref yn, .ref yc, .int 0, .ref yp, .ref yw, .int 0, .int 0, .int 0, .int 0, .int 0, .int 0, .int 0, .int 0, .int 0, .ref ye, .int 0, .int 0, .ref yx])), (yb, .inl (cI, 4, .inl (fun _ => (0 : Int32)))), (yf, .inl (cI, 6, .inl (fun _ => (0 : Int32))))]) (hS : va_S A s.heap H locs) (hl : lv_has ls 4 [(3, .int 0), (2, .ref h), (1, .ref x), (0, .ref b)]) : W p l e room_1 s m #[Value.ref b] below meth c H locs 98 13371 (lw_Z below #[Value.ref b] s) (F0 m 1566 ls []) := by
  obtain ⟨hx, hb, hr, hml, hown, hts, hX, hbl, hlocks, hgv⟩ := C0
  have hT : ∀ w ∈ gT, w.before #[Value.ref b] s = true := fun w h => hts w (List.mem_filter.mp h).1
  have hown : s.vm.findClass RL = some m.cls := hown
  have hA : ∀ q : Nat, s.heap.size ≤ q → A q := fun q h => by rw [← hA0]; exact h
  have hbA : ¬ A b := by rw [← hA0]; exact Nat.not_le.mpr hbl
  refine lv_aload_n hx hb dL_law_1566 rfl (lv_at hl 2 rfl) ?_
  refine lv_aload_n hx hb dL_law_1567 rfl (lv_at hl 3 rfl) ?_
  refine lv_iload_n hx hb dL_law_1568 rfl (lv_at hl 0 rfl) ?_
  refine lv_iconst (v := 1) hx hb dL_law_1569 (by decide) ?_
  refine k_iadd (v := 1) hx hb dL_law_1570 (by decide) ?_
  refine k_sld (v := (xs 1)) hx hb hX hbl hbA hS (k_inl (by decide)) rfl dL_law_1571 ?_
  refine lv_aload_n hx hb dL_law_1572 rfl (lv_at hl 3 rfl) ?_
  refine lv_iload_n hx hb dL_law_1573 rfl (lv_at hl 0 rfl) ?_
  refine lv_iconst (v := 2) hx hb dL_law_1574 (by decide) ?_
  refine k_iadd (v := 2) hx hb dL_law_1575 (by decide) ?_
  refine k_sld (v := (xs 2)) hx hb hX hbl hbA hS (k_inl (by decide)) rfl dL_law_1576 ?_
  refine lv_aload_n hx hb dL_law_1577 rfl (lv_at hl 3 rfl) ?_
  refine lv_iload_n hx hb dL_law_1578 rfl (lv_at hl 0 rfl) ?_
  refine lv_iconst (v := 3) hx hb dL_law_1579 (by decide) ?_
  refine k_iadd (v := 3) hx hb dL_law_1580 (by decide) ?_
  refine k_sld (v := (xs 3)) hx hb hX hbl hbA hS (k_inl (by decide)) rfl dL_law_1581 ?_
  refine kJi (wr := [(h, .inr (11, [.ref ys, .ref yk, .ref yt, .int 0, .ref yf, .ref yb, .ref yz, .ref yn, .ref yc, .int 0, .ref yp, .ref yw, .int 0, .int 0, .int 0, .int 0, .int 0, .int 0, .int 0, .int 0, .int 0, .ref ye, .int 0, .int 0, .ref yx])), (yb, .inl (cI, 4, .inl (fun _ => (0 : Int32)))), (yf, .inl (cI, 6, .inl (fun _ => (0 : Int32))))]) (va_runV (As := [.int (xs 1), .int (xs 2), .int (xs 3)]) (rest := []) ⟨hx, hb, hml, hown, hT⟩ (c_X10_put l D cI x nw kp fu ra kr rd wd ld mt vo sh fd sb sl sn H.size 0 (fun _ => (0 : Int32)) (xs 1) (xs 2) (xs 3)) (cwV 3 hT (gV_in mw_1080 mw_1077 mw_1078 mw_1079 mw_1) rfl rfl rfl (by decide +kernel) ⟨Nat.le_of_ble_eq_true rfl, Nat.le_of_ble_eq_true rfl⟩) (kRecv (own := "") (q0 := 0) (ci := 10) hK hP hD hN rfl rfl [0, 1, 2, 3] rfl (by decide)) rfl rfl hl.1 rfl (lv_room (Nat.le_of_ble_eq_true rfl)) dL_law_1582 ⟨Nat.le_of_ble_eq_true rfl, Nat.le_of_ble_eq_true rfl⟩) hP hD hS hA [0, 1, 2, 3] [4, 5, 6] rfl rfl (by decide) (by decide) (fun r_1 u_3 H locs w_2 hP hD hS => ?_)
  have hP : va_P D vwCl [(h, .inr (11, [.ref ys, .ref yk, .ref yt, .int 0, .ref yf, .ref yb, .ref yz, .ref yn, .ref yc, .int 0, .ref yp, .ref yw, .int 0, .int 0, .int 0, .int 0, .int 0, .int 0, .int 0, .int 0, .int 0, .ref ye, .int 0, .int 0, .ref yx])), (yb, .inl (cI, 4, .inl (fun _ => (0 : Int32)))), (yf, .inl (cI, 6, .inl (fun _ => (0 : Int32))))] H := hP
  have hD : va_D A [(h, .inr (11, [.ref ys, .ref yk, .ref yt, .int 0, .ref yf, .ref yb, .ref yz, .ref yn, .ref yc, .int 0, .ref yp, .ref yw, .int 0, .int 0, .int 0, .int 0, .int 0, .int 0, .int 0, .int 0, .int 0, .ref ye, .int 0, .int 0, .ref yx])), (yb, .inl (cI, 4, .inl (fun _ => (0 : Int32)))), (yf, .inl (cI, 6, .inl (fun _ => (0 : Int32))))] := hD
  have hr_1 := w_2
  have hr_1 : r_1 = sp_put (xs 1) := hr_1
  have lo_r_1 := k_lo r_1
  have hi_r_1 := k_hi r_1
  refine lv_aload_n hx hb dL_law_1585 rfl (lv_at hl 1 rfl) ?_
  refine lv_aload_n hx hb dL_law_1586 rfl (lv_at hl 3 rfl) ?_
  refine lv_iload_n hx hb dL_law_1587 rfl (lv_at hl 0 rfl) ?_
  refine lv_iconst (v := 1) hx hb dL_law_1588 (by decide) ?_
  refine k_iadd (v := 1) hx hb dL_law_1589 (by decide) ?_
  refine k_sld (v := (xs 1)) hx hb hX hbl hbA hS (k_inl (by decide)) rfl dL_law_1590 ?_
  refine lv_aload_n hx hb dL_law_1591 rfl (lv_at hl 3 rfl) ?_
  refine lv_iload_n hx hb dL_law_1592 rfl (lv_at hl 0 rfl) ?_
  refine lv_iconst (v := 2) hx hb dL_law_1593 (by decide) ?_
  refine k_iadd (v := 2) hx hb dL_law_1594 (by decide) ?_
  refine k_sld (v := (xs 2)) hx hb hX hbl hbA hS (k_inl (by decide)) rfl dL_law_1595 ?_
  refine lv_aload_n hx hb dL_law_1596 rfl (lv_at hl 3 rfl) ?_
  refine lv_iload_n hx hb dL_law_1597 rfl (lv_at hl 0 rfl) ?_
  refine lv_iconst (v := 3) hx hb dL_law_1598 (by decide) ?_
  refine k_iadd (v := 3) hx hb dL_law_1599 (by decide) ?_
  refine k_sld (v := (xs 3)) hx hb hX hbl hbA hS (k_inl (by decide)) rfl dL_law_1600 ?_
  refine kJi (wr := []) (va_runV (As := [.int (xs 1), .int (xs 2), .int (xs 3)]) (rest := [.int r_1]) ⟨hx, hb, hml, hown, hT⟩ (c_X11_put l D cI h ys yk yt yf yb yz yn yc yp yw ye yx H.size 0 0 0 0 0 0 0 0 0 0 0 0 0 (fun _ => (0 : Int32)) (xs 1) (xs 2) (xs 3)) (cwV 3 hT (gV_in mw_1597 mw_1594 mw_1595 mw_1596 mw_12) rfl rfl rfl (by decide +kernel) ⟨Nat.le_of_ble_eq_true rfl, Nat.le_of_ble_eq_true rfl⟩) (kRecv (own := "") (q0 := 0) (ci := 11) hK hP hD hN rfl rfl [0, 1, 2] rfl (by decide)) rfl rfl hl.1 rfl (lv_room (Nat.le_of_ble_eq_true rfl)) dL_law_1601 ⟨Nat.le_of_ble_eq_true rfl, Nat.le_of_ble_eq_true rfl⟩) hP hD hS hA [0, 1, 2] [] rfl rfl (by decide) (by decide) (fun r_4 u_6 H locs w_5 hP hD hS => ?_)
  have hP : va_P D vwCl [] H := hP
  have hD : va_D A [] := hD
  have hr_4 := w_5
  have hr_4 : r_4 = sp_put (xs 1) := hr_4
  have lo_r_4 := k_lo r_4
  have hi_r_4 := k_hi r_4
  refine b_icmp_eq hx hb rfl rfl (tgt := 1780) dL_law_1604 (by decide) (fun _ => ?_) (fun c_ne => by exfalso; exact c_ne (congrArg Int32.toInt (hr_1.trans hr_4.symm)))
  exact law_end l hx hb hr hlocks hA0 hX hbl hS (lv_sub hl [0, 3] rfl) (Nat.le_of_ble_eq_true rfl) (Nat.le_of_ble_eq_true rfl)
set_option maxHeartbeats 4000000 in
set_option maxRecDepth 100000 in
theorem law_35 {p : Program} {e : Env} {s : State} {m : MethodId} {below : List Frame} {meth : Method} {c : Code} (l : Launch) {b : Nat} {xs : Nat → Int32} {D : va_G} {cI : ClassId} {A : Nat → Prop} {x nw kp fu ra kr rd wd ld mt vo sh fd sb sl sn h ys yk yt yf yb yz yn yc yp yw ye yx : Nat} {H : Heap} {locs : List Loc} {ls : Array Slot} (hA0 : (fun q : Nat => s.heap.size ≤ q) = A) (C0 : lw_At p s m meth c b 7 xs) (hK : va_K D vwCl [(cI, .int)] s) (hN : kNW s) (hP : va_P D vwCl [(x, .inr (10, [.ref nw, .ref kp, .ref fu, .ref ra, .ref kr, .ref rd, .ref wd, .ref ld, .ref mt, .ref vo, .ref sh, .ref fd, .int 0])), (sh, .inr (6, [.ref sb, .ref sl, .ref sn])), (sb, .inl (cI, 4, .inl (fun _ => (0 : Int32)))), (fd, .inl (cI, 6, .inl (fun _ => (0 : Int32)))), (h, .inr (11, [.ref ys, .ref yk, .ref yt, .int 0, .ref yf, .ref yb, .ref yz, .ref yn, .ref yc, .int 0, .ref yp, .ref yw, .int 0, .int 0, .int 0, .int 0, .int 0, .int 0, .int 0, .int 0, .int 0, .ref ye, .int 0, .int 0, .ref yx])), (yb, .inl (cI, 4, .inl (fun _ => (0 : Int32)))), (yf, .inl (cI, 6, .inl (fun _ => (0 : Int32))))] H) (hD : va_D A [(x, .inr (10, [.ref nw, .ref kp, .ref fu, .ref ra, .ref kr, .ref rd, .ref wd, .ref ld, .ref mt, .ref vo, .ref sh, .ref fd, .int 0])), (sh, .inr (6, [.ref sb, .ref sl, .ref sn])), (sb, .inl (cI, 4, .inl (fun _ => (0 : Int32)))), (fd, .inl (cI, 6, .inl (fun _ => (0 : Int32)))), (h, .inr (11, [.ref ys, .ref yk, .ref yt, .int 0, .ref yf, .ref yb, .ref yz, .ref yn, .ref yc, .int 0, .ref yp, .ref yw, .int 0, .int 0, .int 0, .int 0, .int 0, .int 0, .int 0, .int 0, .int 0, .ref ye, .int 0, .int 0, .ref yx])), (yb, .inl (cI, 4, .inl (fun _ => (0 : Int32)))), (yf, .inl (cI, 6, .inl (fun _ => (0 : Int32))))]) (hS : va_S A s.heap H locs) (hl : lv_has ls 4 [(3, .int 0), (2, .ref h), (1, .ref x), (0, .ref b)]) : W p l e room_1 s m #[Value.ref b] below meth c H locs 98 13371 (lw_Z below #[Value.ref b] s) (F0 m 1609 ls []) := by
  obtain ⟨hx, hb, hr, hml, hown, hts, hX, hbl, hlocks, hgv⟩ := C0
  have hT : ∀ w ∈ gT, w.before #[Value.ref b] s = true := fun w h => hts w (List.mem_filter.mp h).1
  have hown : s.vm.findClass RL = some m.cls := hown
  have hA : ∀ q : Nat, s.heap.size ≤ q → A q := fun q h => by rw [← hA0]; exact h
  have hbA : ¬ A b := by rw [← hA0]; exact Nat.not_le.mpr hbl
  refine lv_aload_n hx hb dL_law_1609 rfl (lv_at hl 2 rfl) ?_
  refine lv_aload_n hx hb dL_law_1610 rfl (lv_at hl 3 rfl) ?_
  refine lv_iload_n hx hb dL_law_1611 rfl (lv_at hl 0 rfl) ?_
  refine lv_iconst (v := 1) hx hb dL_law_1612 (by decide) ?_
  refine k_iadd (v := 1) hx hb dL_law_1613 (by decide) ?_
  refine k_sld (v := (xs 1)) hx hb hX hbl hbA hS (k_inl (by decide)) rfl dL_law_1614 ?_
  refine lv_aload_n hx hb dL_law_1615 rfl (lv_at hl 3 rfl) ?_
  refine lv_iload_n hx hb dL_law_1616 rfl (lv_at hl 0 rfl) ?_
  refine lv_iconst (v := 2) hx hb dL_law_1617 (by decide) ?_
  refine k_iadd (v := 2) hx hb dL_law_1618 (by decide) ?_
  refine k_sld (v := (xs 2)) hx hb hX hbl hbA hS (k_inl (by decide)) rfl dL_law_1619 ?_
  refine lv_aload_n hx hb dL_law_1620 rfl (lv_at hl 3 rfl) ?_
  refine lv_iload_n hx hb dL_law_1621 rfl (lv_at hl 0 rfl) ?_
  refine lv_iconst (v := 3) hx hb dL_law_1622 (by decide) ?_
  refine k_iadd (v := 3) hx hb dL_law_1623 (by decide) ?_
  refine k_sld (v := (xs 3)) hx hb hX hbl hbA hS (k_inl (by decide)) rfl dL_law_1624 ?_
  refine lv_aload_n hx hb dL_law_1625 rfl (lv_at hl 3 rfl) ?_
  refine lv_iload_n hx hb dL_law_1626 rfl (lv_at hl 0 rfl) ?_
  refine lv_iconst (v := 4) hx hb dL_law_1627 (by decide) ?_
  refine k_iadd (v := 4) hx hb dL_law_1628 (by decide) ?_
  refine k_sld (v := (xs 4)) hx hb hX hbl hbA hS (k_inl (by decide)) rfl dL_law_1629 ?_
  refine lv_aload_n hx hb dL_law_1630 rfl (lv_at hl 3 rfl) ?_
  refine lv_iload_n hx hb dL_law_1631 rfl (lv_at hl 0 rfl) ?_
  refine lv_iconst (v := 5) hx hb dL_law_1632 (by decide) ?_
  refine k_iadd (v := 5) hx hb dL_law_1633 (by decide) ?_
  refine k_sld (v := (xs 5)) hx hb hX hbl hbA hS (k_inl (by decide)) rfl dL_law_1634 ?_
  refine kJi (wr := [(h, .inr (11, [.ref ys, .ref yk, .ref yt, .int 0, .ref yf, .ref yb, .ref yz, .ref yn, .ref yc, .int 0, .ref yp, .ref yw, .int 0, .int 0, .int 0, .int 0, .int 0, .int 0, .int 0, .int 0, .int 0, .ref ye, .int 0, .int 0, .ref yx])), (yb, .inl (cI, 4, .inl (fun _ => (0 : Int32)))), (yf, .inl (cI, 6, .inl (fun _ => (0 : Int32))))]) (va_runV (As := [.int (xs 1), .int (xs 2), .int (xs 3), .int (xs 4), .int (xs 5)]) (rest := []) ⟨hx, hb, hml, hown, hT⟩ (c_X10_move l D cI x nw kp fu ra kr rd wd ld mt vo sh fd sb sl sn H.size 0 (fun _ => (0 : Int32)) (xs 1) (xs 2) (xs 3) (xs 4) (xs 5)) (cwV 5 hT (gV_in mw_1089 mw_1086 mw_1087 mw_1088 mw_1) rfl rfl rfl (by decide +kernel) ⟨Nat.le_of_ble_eq_true rfl, Nat.le_of_ble_eq_true rfl⟩) (kRecv (own := "") (q0 := 0) (ci := 10) hK hP hD hN rfl rfl [0, 1, 2, 3] rfl (by decide)) rfl rfl hl.1 rfl (lv_room (Nat.le_of_ble_eq_true rfl)) dL_law_1635 ⟨Nat.le_of_ble_eq_true rfl, Nat.le_of_ble_eq_true rfl⟩) hP hD hS hA [0, 1, 2, 3] [4, 5, 6] rfl rfl (by decide) (by decide) (fun r_1 u_3 H locs w_2 hP hD hS => ?_)
  have hP : va_P D vwCl [(h, .inr (11, [.ref ys, .ref yk, .ref yt, .int 0, .ref yf, .ref yb, .ref yz, .ref yn, .ref yc, .int 0, .ref yp, .ref yw, .int 0, .int 0, .int 0, .int 0, .int 0, .int 0, .int 0, .int 0, .int 0, .ref ye, .int 0, .int 0, .ref yx])), (yb, .inl (cI, 4, .inl (fun _ => (0 : Int32)))), (yf, .inl (cI, 6, .inl (fun _ => (0 : Int32))))] H := hP
  have hD : va_D A [(h, .inr (11, [.ref ys, .ref yk, .ref yt, .int 0, .ref yf, .ref yb, .ref yz, .ref yn, .ref yc, .int 0, .ref yp, .ref yw, .int 0, .int 0, .int 0, .int 0, .int 0, .int 0, .int 0, .int 0, .int 0, .ref ye, .int 0, .int 0, .ref yx])), (yb, .inl (cI, 4, .inl (fun _ => (0 : Int32)))), (yf, .inl (cI, 6, .inl (fun _ => (0 : Int32))))] := hD
  have hr_1 := w_2
  have hr_1 : r_1 = sp_move (xs 1) (xs 3) := hr_1
  have lo_r_1 := k_lo r_1
  have hi_r_1 := k_hi r_1
  refine lv_aload_n hx hb dL_law_1638 rfl (lv_at hl 1 rfl) ?_
  refine lv_aload_n hx hb dL_law_1639 rfl (lv_at hl 3 rfl) ?_
  refine lv_iload_n hx hb dL_law_1640 rfl (lv_at hl 0 rfl) ?_
  refine lv_iconst (v := 1) hx hb dL_law_1641 (by decide) ?_
  refine k_iadd (v := 1) hx hb dL_law_1642 (by decide) ?_
  refine k_sld (v := (xs 1)) hx hb hX hbl hbA hS (k_inl (by decide)) rfl dL_law_1643 ?_
  refine lv_aload_n hx hb dL_law_1644 rfl (lv_at hl 3 rfl) ?_
  refine lv_iload_n hx hb dL_law_1645 rfl (lv_at hl 0 rfl) ?_
  refine lv_iconst (v := 2) hx hb dL_law_1646 (by decide) ?_
  refine k_iadd (v := 2) hx hb dL_law_1647 (by decide) ?_
  refine k_sld (v := (xs 2)) hx hb hX hbl hbA hS (k_inl (by decide)) rfl dL_law_1648 ?_
  refine lv_aload_n hx hb dL_law_1649 rfl (lv_at hl 3 rfl) ?_
  refine lv_iload_n hx hb dL_law_1650 rfl (lv_at hl 0 rfl) ?_
  refine lv_iconst (v := 3) hx hb dL_law_1651 (by decide) ?_
  refine k_iadd (v := 3) hx hb dL_law_1652 (by decide) ?_
  refine k_sld (v := (xs 3)) hx hb hX hbl hbA hS (k_inl (by decide)) rfl dL_law_1653 ?_
  refine lv_aload_n hx hb dL_law_1654 rfl (lv_at hl 3 rfl) ?_
  refine lv_iload_n hx hb dL_law_1655 rfl (lv_at hl 0 rfl) ?_
  refine lv_iconst (v := 4) hx hb dL_law_1656 (by decide) ?_
  refine k_iadd (v := 4) hx hb dL_law_1657 (by decide) ?_
  refine k_sld (v := (xs 4)) hx hb hX hbl hbA hS (k_inl (by decide)) rfl dL_law_1658 ?_
  refine lv_aload_n hx hb dL_law_1659 rfl (lv_at hl 3 rfl) ?_
  refine lv_iload_n hx hb dL_law_1660 rfl (lv_at hl 0 rfl) ?_
  refine lv_iconst (v := 5) hx hb dL_law_1661 (by decide) ?_
  refine k_iadd (v := 5) hx hb dL_law_1662 (by decide) ?_
  refine k_sld (v := (xs 5)) hx hb hX hbl hbA hS (k_inl (by decide)) rfl dL_law_1663 ?_
  refine kJi (wr := []) (va_runV (As := [.int (xs 1), .int (xs 2), .int (xs 3), .int (xs 4), .int (xs 5)]) (rest := [.int r_1]) ⟨hx, hb, hml, hown, hT⟩ (c_X11_move l D cI h ys yk yt yf yb yz yn yc yp yw ye yx H.size 0 0 0 0 0 0 0 0 0 0 0 0 0 (fun _ => (0 : Int32)) (xs 1) (xs 2) (xs 3) (xs 4) (xs 5)) (cwV 5 hT (gV_in mw_1601 mw_1598 mw_1599 mw_1600 mw_12) rfl rfl rfl (by decide +kernel) ⟨Nat.le_of_ble_eq_true rfl, Nat.le_of_ble_eq_true rfl⟩) (kRecv (own := "") (q0 := 0) (ci := 11) hK hP hD hN rfl rfl [0, 1, 2] rfl (by decide)) rfl rfl hl.1 rfl (lv_room (Nat.le_of_ble_eq_true rfl)) dL_law_1664 ⟨Nat.le_of_ble_eq_true rfl, Nat.le_of_ble_eq_true rfl⟩) hP hD hS hA [0, 1, 2] [] rfl rfl (by decide) (by decide) (fun r_4 u_6 H locs w_5 hP hD hS => ?_)
  have hP : va_P D vwCl [] H := hP
  have hD : va_D A [] := hD
  have hr_4 := w_5
  have hr_4 : r_4 = sp_move (xs 1) (xs 3) := hr_4
  have lo_r_4 := k_lo r_4
  have hi_r_4 := k_hi r_4
  refine b_icmp_eq hx hb rfl rfl (tgt := 1780) dL_law_1667 (by decide) (fun _ => ?_) (fun c_ne => by exfalso; exact c_ne (congrArg Int32.toInt (hr_1.trans hr_4.symm)))
  exact law_end l hx hb hr hlocks hA0 hX hbl hS (lv_sub hl [0, 3] rfl) (Nat.le_of_ble_eq_true rfl) (Nat.le_of_ble_eq_true rfl)
