theorem dL_b74 : (decode cL_law 1468 = .ok (.iload_n 3, 1)) ∧ (decode cL_law 1469 = .ok (.iconst 1, 1)) ∧ (decode cL_law 1470 = .ok (.iadd, 1)) ∧ (decode cL_law 1471 = .ok (.iaload, 1)) ∧ (decode cL_law 1472 = .ok (.invokevirtual 210, 3)) ∧ (decode cL_law 1475 = .ok (.pop, 1)) ∧ (decode cL_law 1476 = .ok (.aload_n 2, 1)) ∧ (decode cL_law 1477 = .ok (.aload_n 0, 1)) ∧ (decode cL_law 1478 = .ok (.iload_n 3, 1)) ∧ (decode cL_law 1479 = .ok (.iconst 1, 1)) ∧ (decode cL_law 1480 = .ok (.iadd, 1)) ∧ (decode cL_law 1481 = .ok (.iaload, 1)) := by decide +kernel
theorem dL_law_1468 : decode cL_law 1468 = .ok (.iload_n 3, 1) := dL_b74.1
theorem dL_law_1469 : decode cL_law 1469 = .ok (.iconst 1, 1) := dL_b74.2.1
theorem dL_law_1470 : decode cL_law 1470 = .ok (.iadd, 1) := dL_b74.2.2.1
theorem dL_law_1471 : decode cL_law 1471 = .ok (.iaload, 1) := dL_b74.2.2.2.1
theorem dL_law_1472 : decode cL_law 1472 = .ok (.invokevirtual 210, 3) := dL_b74.2.2.2.2.1
theorem dL_law_1475 : decode cL_law 1475 = .ok (.pop, 1) := dL_b74.2.2.2.2.2.1
theorem dL_law_1476 : decode cL_law 1476 = .ok (.aload_n 2, 1) := dL_b74.2.2.2.2.2.2.1
theorem dL_law_1477 : decode cL_law 1477 = .ok (.aload_n 0, 1) := dL_b74.2.2.2.2.2.2.2.1
theorem dL_law_1478 : decode cL_law 1478 = .ok (.iload_n 3, 1) := dL_b74.2.2.2.2.2.2.2.2.1
theorem dL_law_1479 : decode cL_law 1479 = .ok (.iconst 1, 1) := dL_b74.2.2.2.2.2.2.2.2.2.1
theorem dL_law_1480 : decode cL_law 1480 = .ok (.iadd, 1) := dL_b74.2.2.2.2.2.2.2.2.2.2.1
theorem dL_law_1481 : decode cL_law 1481 = .ok (.iaload, 1) := dL_b74.2.2.2.2.2.2.2.2.2.2.2
theorem dL_b75 : (decode cL_law 1482 = .ok (.invokevirtual 213, 3)) ∧ (decode cL_law 1485 = .ok (.pop, 1)) ∧ (decode cL_law 1486 = .ok (.goto 479, 3)) ∧ (decode cL_law 1489 = .ok (.aload_n 1, 1)) ∧ (decode cL_law 1490 = .ok (.aload_n 0, 1)) ∧ (decode cL_law 1491 = .ok (.iload_n 3, 1)) ∧ (decode cL_law 1492 = .ok (.iconst 1, 1)) ∧ (decode cL_law 1493 = .ok (.iadd, 1)) ∧ (decode cL_law 1494 = .ok (.iaload, 1)) ∧ (decode cL_law 1495 = .ok (.invokevirtual 214, 3)) ∧ (decode cL_law 1498 = .ok (.pop, 1)) ∧ (decode cL_law 1499 = .ok (.aload_n 2, 1)) := by decide +kernel
theorem dL_law_1482 : decode cL_law 1482 = .ok (.invokevirtual 213, 3) := dL_b75.1
theorem dL_law_1485 : decode cL_law 1485 = .ok (.pop, 1) := dL_b75.2.1
theorem dL_law_1486 : decode cL_law 1486 = .ok (.goto 479, 3) := dL_b75.2.2.1
theorem dL_law_1489 : decode cL_law 1489 = .ok (.aload_n 1, 1) := dL_b75.2.2.2.1
theorem dL_law_1490 : decode cL_law 1490 = .ok (.aload_n 0, 1) := dL_b75.2.2.2.2.1
theorem dL_law_1491 : decode cL_law 1491 = .ok (.iload_n 3, 1) := dL_b75.2.2.2.2.2.1
theorem dL_law_1492 : decode cL_law 1492 = .ok (.iconst 1, 1) := dL_b75.2.2.2.2.2.2.1
theorem dL_law_1493 : decode cL_law 1493 = .ok (.iadd, 1) := dL_b75.2.2.2.2.2.2.2.1
theorem dL_law_1494 : decode cL_law 1494 = .ok (.iaload, 1) := dL_b75.2.2.2.2.2.2.2.2.1
theorem dL_law_1495 : decode cL_law 1495 = .ok (.invokevirtual 214, 3) := dL_b75.2.2.2.2.2.2.2.2.2.1
theorem dL_law_1498 : decode cL_law 1498 = .ok (.pop, 1) := dL_b75.2.2.2.2.2.2.2.2.2.2.1
theorem dL_law_1499 : decode cL_law 1499 = .ok (.aload_n 2, 1) := dL_b75.2.2.2.2.2.2.2.2.2.2.2
theorem dL_b76 : (decode cL_law 1500 = .ok (.aload_n 0, 1)) ∧ (decode cL_law 1501 = .ok (.iload_n 3, 1)) ∧ (decode cL_law 1502 = .ok (.iconst 1, 1)) ∧ (decode cL_law 1503 = .ok (.iadd, 1)) ∧ (decode cL_law 1504 = .ok (.iaload, 1)) ∧ (decode cL_law 1505 = .ok (.invokevirtual 217, 3)) ∧ (decode cL_law 1508 = .ok (.pop, 1)) ∧ (decode cL_law 1509 = .ok (.goto 456, 3)) ∧ (decode cL_law 1512 = .ok (.aload_n 1, 1)) ∧ (decode cL_law 1513 = .ok (.aload_n 0, 1)) ∧ (decode cL_law 1514 = .ok (.iload_n 3, 1)) ∧ (decode cL_law 1515 = .ok (.iconst 1, 1)) := by decide +kernel
theorem dL_law_1500 : decode cL_law 1500 = .ok (.aload_n 0, 1) := dL_b76.1
theorem dL_law_1501 : decode cL_law 1501 = .ok (.iload_n 3, 1) := dL_b76.2.1
theorem dL_law_1502 : decode cL_law 1502 = .ok (.iconst 1, 1) := dL_b76.2.2.1
theorem dL_law_1503 : decode cL_law 1503 = .ok (.iadd, 1) := dL_b76.2.2.2.1
theorem dL_law_1504 : decode cL_law 1504 = .ok (.iaload, 1) := dL_b76.2.2.2.2.1
theorem dL_law_1505 : decode cL_law 1505 = .ok (.invokevirtual 217, 3) := dL_b76.2.2.2.2.2.1
theorem dL_law_1508 : decode cL_law 1508 = .ok (.pop, 1) := dL_b76.2.2.2.2.2.2.1
theorem dL_law_1509 : decode cL_law 1509 = .ok (.goto 456, 3) := dL_b76.2.2.2.2.2.2.2.1
theorem dL_law_1512 : decode cL_law 1512 = .ok (.aload_n 1, 1) := dL_b76.2.2.2.2.2.2.2.2.1
theorem dL_law_1513 : decode cL_law 1513 = .ok (.aload_n 0, 1) := dL_b76.2.2.2.2.2.2.2.2.2.1
theorem dL_law_1514 : decode cL_law 1514 = .ok (.iload_n 3, 1) := dL_b76.2.2.2.2.2.2.2.2.2.2.1
theorem dL_law_1515 : decode cL_law 1515 = .ok (.iconst 1, 1) := dL_b76.2.2.2.2.2.2.2.2.2.2.2
theorem dL_b77 : (decode cL_law 1516 = .ok (.iadd, 1)) ∧ (decode cL_law 1517 = .ok (.iaload, 1)) ∧ (decode cL_law 1518 = .ok (.invokevirtual 218, 3)) ∧ (decode cL_law 1521 = .ok (.pop, 1)) ∧ (decode cL_law 1522 = .ok (.aload_n 2, 1)) ∧ (decode cL_law 1523 = .ok (.aload_n 0, 1)) ∧ (decode cL_law 1524 = .ok (.iload_n 3, 1)) ∧ (decode cL_law 1525 = .ok (.iconst 1, 1)) ∧ (decode cL_law 1526 = .ok (.iadd, 1)) ∧ (decode cL_law 1527 = .ok (.iaload, 1)) ∧ (decode cL_law 1528 = .ok (.invokevirtual 221, 3)) ∧ (decode cL_law 1531 = .ok (.pop, 1)) := by decide +kernel
theorem dL_law_1516 : decode cL_law 1516 = .ok (.iadd, 1) := dL_b77.1
theorem dL_law_1517 : decode cL_law 1517 = .ok (.iaload, 1) := dL_b77.2.1
theorem dL_law_1518 : decode cL_law 1518 = .ok (.invokevirtual 218, 3) := dL_b77.2.2.1
theorem dL_law_1521 : decode cL_law 1521 = .ok (.pop, 1) := dL_b77.2.2.2.1
theorem dL_law_1522 : decode cL_law 1522 = .ok (.aload_n 2, 1) := dL_b77.2.2.2.2.1
theorem dL_law_1523 : decode cL_law 1523 = .ok (.aload_n 0, 1) := dL_b77.2.2.2.2.2.1
theorem dL_law_1524 : decode cL_law 1524 = .ok (.iload_n 3, 1) := dL_b77.2.2.2.2.2.2.1
theorem dL_law_1525 : decode cL_law 1525 = .ok (.iconst 1, 1) := dL_b77.2.2.2.2.2.2.2.1
theorem dL_law_1526 : decode cL_law 1526 = .ok (.iadd, 1) := dL_b77.2.2.2.2.2.2.2.2.1
theorem dL_law_1527 : decode cL_law 1527 = .ok (.iaload, 1) := dL_b77.2.2.2.2.2.2.2.2.2.1
theorem dL_law_1528 : decode cL_law 1528 = .ok (.invokevirtual 221, 3) := dL_b77.2.2.2.2.2.2.2.2.2.2.1
theorem dL_law_1531 : decode cL_law 1531 = .ok (.pop, 1) := dL_b77.2.2.2.2.2.2.2.2.2.2.2
theorem dL_b78 : (decode cL_law 1532 = .ok (.goto 433, 3)) ∧ (decode cL_law 1535 = .ok (.aload_n 1, 1)) ∧ (decode cL_law 1536 = .ok (.aload_n 0, 1)) ∧ (decode cL_law 1537 = .ok (.iload_n 3, 1)) ∧ (decode cL_law 1538 = .ok (.iconst 1, 1)) ∧ (decode cL_law 1539 = .ok (.iadd, 1)) ∧ (decode cL_law 1540 = .ok (.iaload, 1)) ∧ (decode cL_law 1541 = .ok (.aload_n 0, 1)) ∧ (decode cL_law 1542 = .ok (.iload_n 3, 1)) ∧ (decode cL_law 1543 = .ok (.iconst 2, 1)) ∧ (decode cL_law 1544 = .ok (.iadd, 1)) ∧ (decode cL_law 1545 = .ok (.iaload, 1)) := by decide +kernel
theorem dL_law_1532 : decode cL_law 1532 = .ok (.goto 433, 3) := dL_b78.1
theorem dL_law_1535 : decode cL_law 1535 = .ok (.aload_n 1, 1) := dL_b78.2.1
theorem dL_law_1536 : decode cL_law 1536 = .ok (.aload_n 0, 1) := dL_b78.2.2.1
theorem dL_law_1537 : decode cL_law 1537 = .ok (.iload_n 3, 1) := dL_b78.2.2.2.1
theorem dL_law_1538 : decode cL_law 1538 = .ok (.iconst 1, 1) := dL_b78.2.2.2.2.1
theorem dL_law_1539 : decode cL_law 1539 = .ok (.iadd, 1) := dL_b78.2.2.2.2.2.1
theorem dL_law_1540 : decode cL_law 1540 = .ok (.iaload, 1) := dL_b78.2.2.2.2.2.2.1
theorem dL_law_1541 : decode cL_law 1541 = .ok (.aload_n 0, 1) := dL_b78.2.2.2.2.2.2.2.1
theorem dL_law_1542 : decode cL_law 1542 = .ok (.iload_n 3, 1) := dL_b78.2.2.2.2.2.2.2.2.1
theorem dL_law_1543 : decode cL_law 1543 = .ok (.iconst 2, 1) := dL_b78.2.2.2.2.2.2.2.2.2.1
theorem dL_law_1544 : decode cL_law 1544 = .ok (.iadd, 1) := dL_b78.2.2.2.2.2.2.2.2.2.2.1
theorem dL_law_1545 : decode cL_law 1545 = .ok (.iaload, 1) := dL_b78.2.2.2.2.2.2.2.2.2.2.2
theorem dL_b79 : (decode cL_law 1546 = .ok (.aload_n 0, 1)) ∧ (decode cL_law 1547 = .ok (.iload_n 3, 1)) ∧ (decode cL_law 1548 = .ok (.iconst 3, 1)) ∧ (decode cL_law 1549 = .ok (.iadd, 1)) ∧ (decode cL_law 1550 = .ok (.iaload, 1)) ∧ (decode cL_law 1551 = .ok (.invokevirtual 222, 3)) ∧ (decode cL_law 1554 = .ok (.pop, 1)) ∧ (decode cL_law 1555 = .ok (.aload_n 2, 1)) ∧ (decode cL_law 1556 = .ok (.aload_n 0, 1)) ∧ (decode cL_law 1557 = .ok (.iload_n 3, 1)) ∧ (decode cL_law 1558 = .ok (.iconst 1, 1)) ∧ (decode cL_law 1559 = .ok (.iadd, 1)) := by decide +kernel
theorem dL_law_1546 : decode cL_law 1546 = .ok (.aload_n 0, 1) := dL_b79.1
theorem dL_law_1547 : decode cL_law 1547 = .ok (.iload_n 3, 1) := dL_b79.2.1
theorem dL_law_1548 : decode cL_law 1548 = .ok (.iconst 3, 1) := dL_b79.2.2.1
theorem dL_law_1549 : decode cL_law 1549 = .ok (.iadd, 1) := dL_b79.2.2.2.1
theorem dL_law_1550 : decode cL_law 1550 = .ok (.iaload, 1) := dL_b79.2.2.2.2.1
theorem dL_law_1551 : decode cL_law 1551 = .ok (.invokevirtual 222, 3) := dL_b79.2.2.2.2.2.1
theorem dL_law_1554 : decode cL_law 1554 = .ok (.pop, 1) := dL_b79.2.2.2.2.2.2.1
theorem dL_law_1555 : decode cL_law 1555 = .ok (.aload_n 2, 1) := dL_b79.2.2.2.2.2.2.2.1
theorem dL_law_1556 : decode cL_law 1556 = .ok (.aload_n 0, 1) := dL_b79.2.2.2.2.2.2.2.2.1
theorem dL_law_1557 : decode cL_law 1557 = .ok (.iload_n 3, 1) := dL_b79.2.2.2.2.2.2.2.2.2.1
theorem dL_law_1558 : decode cL_law 1558 = .ok (.iconst 1, 1) := dL_b79.2.2.2.2.2.2.2.2.2.2.1
theorem dL_law_1559 : decode cL_law 1559 = .ok (.iadd, 1) := dL_b79.2.2.2.2.2.2.2.2.2.2.2
theorem dL_b80 : (decode cL_law 1560 = .ok (.iaload, 1)) ∧ (decode cL_law 1561 = .ok (.aload_n 0, 1)) ∧ (decode cL_law 1562 = .ok (.iload_n 3, 1)) ∧ (decode cL_law 1563 = .ok (.iconst 2, 1)) ∧ (decode cL_law 1564 = .ok (.iadd, 1)) ∧ (decode cL_law 1565 = .ok (.iaload, 1)) ∧ (decode cL_law 1566 = .ok (.aload_n 0, 1)) ∧ (decode cL_law 1567 = .ok (.iload_n 3, 1)) ∧ (decode cL_law 1568 = .ok (.iconst 3, 1)) ∧ (decode cL_law 1569 = .ok (.iadd, 1)) ∧ (decode cL_law 1570 = .ok (.iaload, 1)) ∧ (decode cL_law 1571 = .ok (.invokevirtual 225, 3)) := by decide +kernel
theorem dL_law_1560 : decode cL_law 1560 = .ok (.iaload, 1) := dL_b80.1
theorem dL_law_1561 : decode cL_law 1561 = .ok (.aload_n 0, 1) := dL_b80.2.1
theorem dL_law_1562 : decode cL_law 1562 = .ok (.iload_n 3, 1) := dL_b80.2.2.1
theorem dL_law_1563 : decode cL_law 1563 = .ok (.iconst 2, 1) := dL_b80.2.2.2.1
theorem dL_law_1564 : decode cL_law 1564 = .ok (.iadd, 1) := dL_b80.2.2.2.2.1
theorem dL_law_1565 : decode cL_law 1565 = .ok (.iaload, 1) := dL_b80.2.2.2.2.2.1
theorem dL_law_1566 : decode cL_law 1566 = .ok (.aload_n 0, 1) := dL_b80.2.2.2.2.2.2.1
theorem dL_law_1567 : decode cL_law 1567 = .ok (.iload_n 3, 1) := dL_b80.2.2.2.2.2.2.2.1
theorem dL_law_1568 : decode cL_law 1568 = .ok (.iconst 3, 1) := dL_b80.2.2.2.2.2.2.2.2.1
theorem dL_law_1569 : decode cL_law 1569 = .ok (.iadd, 1) := dL_b80.2.2.2.2.2.2.2.2.2.1
theorem dL_law_1570 : decode cL_law 1570 = .ok (.iaload, 1) := dL_b80.2.2.2.2.2.2.2.2.2.2.1
theorem dL_law_1571 : decode cL_law 1571 = .ok (.invokevirtual 225, 3) := dL_b80.2.2.2.2.2.2.2.2.2.2.2
theorem dL_b81 : (decode cL_law 1574 = .ok (.pop, 1)) ∧ (decode cL_law 1575 = .ok (.goto 390, 3)) ∧ (decode cL_law 1578 = .ok (.aload_n 1, 1)) ∧ (decode cL_law 1579 = .ok (.aload_n 0, 1)) ∧ (decode cL_law 1580 = .ok (.iload_n 3, 1)) ∧ (decode cL_law 1581 = .ok (.iconst 1, 1)) ∧ (decode cL_law 1582 = .ok (.iadd, 1)) ∧ (decode cL_law 1583 = .ok (.iaload, 1)) ∧ (decode cL_law 1584 = .ok (.aload_n 0, 1)) ∧ (decode cL_law 1585 = .ok (.iload_n 3, 1)) ∧ (decode cL_law 1586 = .ok (.iconst 2, 1)) ∧ (decode cL_law 1587 = .ok (.iadd, 1)) := by decide +kernel
theorem dL_law_1574 : decode cL_law 1574 = .ok (.pop, 1) := dL_b81.1
theorem dL_law_1575 : decode cL_law 1575 = .ok (.goto 390, 3) := dL_b81.2.1
theorem dL_law_1578 : decode cL_law 1578 = .ok (.aload_n 1, 1) := dL_b81.2.2.1
theorem dL_law_1579 : decode cL_law 1579 = .ok (.aload_n 0, 1) := dL_b81.2.2.2.1
theorem dL_law_1580 : decode cL_law 1580 = .ok (.iload_n 3, 1) := dL_b81.2.2.2.2.1
theorem dL_law_1581 : decode cL_law 1581 = .ok (.iconst 1, 1) := dL_b81.2.2.2.2.2.1
theorem dL_law_1582 : decode cL_law 1582 = .ok (.iadd, 1) := dL_b81.2.2.2.2.2.2.1
theorem dL_law_1583 : decode cL_law 1583 = .ok (.iaload, 1) := dL_b81.2.2.2.2.2.2.2.1
theorem dL_law_1584 : decode cL_law 1584 = .ok (.aload_n 0, 1) := dL_b81.2.2.2.2.2.2.2.2.1
theorem dL_law_1585 : decode cL_law 1585 = .ok (.iload_n 3, 1) := dL_b81.2.2.2.2.2.2.2.2.2.1
theorem dL_law_1586 : decode cL_law 1586 = .ok (.iconst 2, 1) := dL_b81.2.2.2.2.2.2.2.2.2.2.1
theorem dL_law_1587 : decode cL_law 1587 = .ok (.iadd, 1) := dL_b81.2.2.2.2.2.2.2.2.2.2.2
theorem dL_b82 : (decode cL_law 1588 = .ok (.iaload, 1)) ∧ (decode cL_law 1589 = .ok (.aload_n 0, 1)) ∧ (decode cL_law 1590 = .ok (.iload_n 3, 1)) ∧ (decode cL_law 1591 = .ok (.iconst 3, 1)) ∧ (decode cL_law 1592 = .ok (.iadd, 1)) ∧ (decode cL_law 1593 = .ok (.iaload, 1)) ∧ (decode cL_law 1594 = .ok (.aload_n 0, 1)) ∧ (decode cL_law 1595 = .ok (.iload_n 3, 1)) ∧ (decode cL_law 1596 = .ok (.iconst 4, 1)) ∧ (decode cL_law 1597 = .ok (.iadd, 1)) ∧ (decode cL_law 1598 = .ok (.iaload, 1)) ∧ (decode cL_law 1599 = .ok (.aload_n 0, 1)) := by decide +kernel
theorem dL_law_1588 : decode cL_law 1588 = .ok (.iaload, 1) := dL_b82.1
theorem dL_law_1589 : decode cL_law 1589 = .ok (.aload_n 0, 1) := dL_b82.2.1
theorem dL_law_1590 : decode cL_law 1590 = .ok (.iload_n 3, 1) := dL_b82.2.2.1
theorem dL_law_1591 : decode cL_law 1591 = .ok (.iconst 3, 1) := dL_b82.2.2.2.1
theorem dL_law_1592 : decode cL_law 1592 = .ok (.iadd, 1) := dL_b82.2.2.2.2.1
theorem dL_law_1593 : decode cL_law 1593 = .ok (.iaload, 1) := dL_b82.2.2.2.2.2.1
theorem dL_law_1594 : decode cL_law 1594 = .ok (.aload_n 0, 1) := dL_b82.2.2.2.2.2.2.1
theorem dL_law_1595 : decode cL_law 1595 = .ok (.iload_n 3, 1) := dL_b82.2.2.2.2.2.2.2.1
theorem dL_law_1596 : decode cL_law 1596 = .ok (.iconst 4, 1) := dL_b82.2.2.2.2.2.2.2.2.1
theorem dL_law_1597 : decode cL_law 1597 = .ok (.iadd, 1) := dL_b82.2.2.2.2.2.2.2.2.2.1
theorem dL_law_1598 : decode cL_law 1598 = .ok (.iaload, 1) := dL_b82.2.2.2.2.2.2.2.2.2.2.1
theorem dL_law_1599 : decode cL_law 1599 = .ok (.aload_n 0, 1) := dL_b82.2.2.2.2.2.2.2.2.2.2.2
theorem dL_b83 : (decode cL_law 1600 = .ok (.iload_n 3, 1)) ∧ (decode cL_law 1601 = .ok (.iconst 5, 1)) ∧ (decode cL_law 1602 = .ok (.iadd, 1)) ∧ (decode cL_law 1603 = .ok (.iaload, 1)) ∧ (decode cL_law 1604 = .ok (.invokevirtual 226, 3)) ∧ (decode cL_law 1607 = .ok (.pop, 1)) ∧ (decode cL_law 1608 = .ok (.aload_n 2, 1)) ∧ (decode cL_law 1609 = .ok (.aload_n 0, 1)) ∧ (decode cL_law 1610 = .ok (.iload_n 3, 1)) ∧ (decode cL_law 1611 = .ok (.iconst 1, 1)) ∧ (decode cL_law 1612 = .ok (.iadd, 1)) ∧ (decode cL_law 1613 = .ok (.iaload, 1)) := by decide +kernel
theorem dL_law_1600 : decode cL_law 1600 = .ok (.iload_n 3, 1) := dL_b83.1
theorem dL_law_1601 : decode cL_law 1601 = .ok (.iconst 5, 1) := dL_b83.2.1
theorem dL_law_1602 : decode cL_law 1602 = .ok (.iadd, 1) := dL_b83.2.2.1
theorem dL_law_1603 : decode cL_law 1603 = .ok (.iaload, 1) := dL_b83.2.2.2.1
theorem dL_law_1604 : decode cL_law 1604 = .ok (.invokevirtual 226, 3) := dL_b83.2.2.2.2.1
theorem dL_law_1607 : decode cL_law 1607 = .ok (.pop, 1) := dL_b83.2.2.2.2.2.1
theorem dL_law_1608 : decode cL_law 1608 = .ok (.aload_n 2, 1) := dL_b83.2.2.2.2.2.2.1
theorem dL_law_1609 : decode cL_law 1609 = .ok (.aload_n 0, 1) := dL_b83.2.2.2.2.2.2.2.1
theorem dL_law_1610 : decode cL_law 1610 = .ok (.iload_n 3, 1) := dL_b83.2.2.2.2.2.2.2.2.1
theorem dL_law_1611 : decode cL_law 1611 = .ok (.iconst 1, 1) := dL_b83.2.2.2.2.2.2.2.2.2.1
theorem dL_law_1612 : decode cL_law 1612 = .ok (.iadd, 1) := dL_b83.2.2.2.2.2.2.2.2.2.2.1
theorem dL_law_1613 : decode cL_law 1613 = .ok (.iaload, 1) := dL_b83.2.2.2.2.2.2.2.2.2.2.2
theorem dL_b84 : (decode cL_law 1614 = .ok (.aload_n 0, 1)) ∧ (decode cL_law 1615 = .ok (.iload_n 3, 1)) ∧ (decode cL_law 1616 = .ok (.iconst 2, 1)) ∧ (decode cL_law 1617 = .ok (.iadd, 1)) ∧ (decode cL_law 1618 = .ok (.iaload, 1)) ∧ (decode cL_law 1619 = .ok (.aload_n 0, 1)) ∧ (decode cL_law 1620 = .ok (.iload_n 3, 1)) ∧ (decode cL_law 1621 = .ok (.iconst 3, 1)) ∧ (decode cL_law 1622 = .ok (.iadd, 1)) ∧ (decode cL_law 1623 = .ok (.iaload, 1)) ∧ (decode cL_law 1624 = .ok (.aload_n 0, 1)) ∧ (decode cL_law 1625 = .ok (.iload_n 3, 1)) := by decide +kernel
theorem dL_law_1614 : decode cL_law 1614 = .ok (.aload_n 0, 1) := dL_b84.1
theorem dL_law_1615 : decode cL_law 1615 = .ok (.iload_n 3, 1) := dL_b84.2.1
theorem dL_law_1616 : decode cL_law 1616 = .ok (.iconst 2, 1) := dL_b84.2.2.1
theorem dL_law_1617 : decode cL_law 1617 = .ok (.iadd, 1) := dL_b84.2.2.2.1
theorem dL_law_1618 : decode cL_law 1618 = .ok (.iaload, 1) := dL_b84.2.2.2.2.1
theorem dL_law_1619 : decode cL_law 1619 = .ok (.aload_n 0, 1) := dL_b84.2.2.2.2.2.1
theorem dL_law_1620 : decode cL_law 1620 = .ok (.iload_n 3, 1) := dL_b84.2.2.2.2.2.2.1
theorem dL_law_1621 : decode cL_law 1621 = .ok (.iconst 3, 1) := dL_b84.2.2.2.2.2.2.2.1
theorem dL_law_1622 : decode cL_law 1622 = .ok (.iadd, 1) := dL_b84.2.2.2.2.2.2.2.2.1
theorem dL_law_1623 : decode cL_law 1623 = .ok (.iaload, 1) := dL_b84.2.2.2.2.2.2.2.2.2.1
theorem dL_law_1624 : decode cL_law 1624 = .ok (.aload_n 0, 1) := dL_b84.2.2.2.2.2.2.2.2.2.2.1
theorem dL_law_1625 : decode cL_law 1625 = .ok (.iload_n 3, 1) := dL_b84.2.2.2.2.2.2.2.2.2.2.2
theorem dL_b85 : (decode cL_law 1626 = .ok (.iconst 4, 1)) ∧ (decode cL_law 1627 = .ok (.iadd, 1)) ∧ (decode cL_law 1628 = .ok (.iaload, 1)) ∧ (decode cL_law 1629 = .ok (.aload_n 0, 1)) ∧ (decode cL_law 1630 = .ok (.iload_n 3, 1)) ∧ (decode cL_law 1631 = .ok (.iconst 5, 1)) ∧ (decode cL_law 1632 = .ok (.iadd, 1)) ∧ (decode cL_law 1633 = .ok (.iaload, 1)) ∧ (decode cL_law 1634 = .ok (.invokevirtual 229, 3)) ∧ (decode cL_law 1637 = .ok (.pop, 1)) ∧ (decode cL_law 1638 = .ok (.goto 327, 3)) ∧ (decode cL_law 1641 = .ok (.aload_n 1, 1)) := by decide +kernel
theorem dL_law_1626 : decode cL_law 1626 = .ok (.iconst 4, 1) := dL_b85.1
theorem dL_law_1627 : decode cL_law 1627 = .ok (.iadd, 1) := dL_b85.2.1
theorem dL_law_1628 : decode cL_law 1628 = .ok (.iaload, 1) := dL_b85.2.2.1
theorem dL_law_1629 : decode cL_law 1629 = .ok (.aload_n 0, 1) := dL_b85.2.2.2.1
theorem dL_law_1630 : decode cL_law 1630 = .ok (.iload_n 3, 1) := dL_b85.2.2.2.2.1
theorem dL_law_1631 : decode cL_law 1631 = .ok (.iconst 5, 1) := dL_b85.2.2.2.2.2.1
theorem dL_law_1632 : decode cL_law 1632 = .ok (.iadd, 1) := dL_b85.2.2.2.2.2.2.1
theorem dL_law_1633 : decode cL_law 1633 = .ok (.iaload, 1) := dL_b85.2.2.2.2.2.2.2.1
theorem dL_law_1634 : decode cL_law 1634 = .ok (.invokevirtual 229, 3) := dL_b85.2.2.2.2.2.2.2.2.1
theorem dL_law_1637 : decode cL_law 1637 = .ok (.pop, 1) := dL_b85.2.2.2.2.2.2.2.2.2.1
theorem dL_law_1638 : decode cL_law 1638 = .ok (.goto 327, 3) := dL_b85.2.2.2.2.2.2.2.2.2.2.1
theorem dL_law_1641 : decode cL_law 1641 = .ok (.aload_n 1, 1) := dL_b85.2.2.2.2.2.2.2.2.2.2.2
theorem dL_b86 : (decode cL_law 1642 = .ok (.aload_n 0, 1)) ∧ (decode cL_law 1643 = .ok (.iload_n 3, 1)) ∧ (decode cL_law 1644 = .ok (.iconst 1, 1)) ∧ (decode cL_law 1645 = .ok (.iadd, 1)) ∧ (decode cL_law 1646 = .ok (.iaload, 1)) ∧ (decode cL_law 1647 = .ok (.aload_n 0, 1)) ∧ (decode cL_law 1648 = .ok (.iload_n 3, 1)) ∧ (decode cL_law 1649 = .ok (.iconst 2, 1)) ∧ (decode cL_law 1650 = .ok (.iadd, 1)) ∧ (decode cL_law 1651 = .ok (.iaload, 1)) ∧ (decode cL_law 1652 = .ok (.invokevirtual 230, 3)) ∧ (decode cL_law 1655 = .ok (.pop, 1)) := by decide +kernel
theorem dL_law_1642 : decode cL_law 1642 = .ok (.aload_n 0, 1) := dL_b86.1
theorem dL_law_1643 : decode cL_law 1643 = .ok (.iload_n 3, 1) := dL_b86.2.1
theorem dL_law_1644 : decode cL_law 1644 = .ok (.iconst 1, 1) := dL_b86.2.2.1
theorem dL_law_1645 : decode cL_law 1645 = .ok (.iadd, 1) := dL_b86.2.2.2.1
theorem dL_law_1646 : decode cL_law 1646 = .ok (.iaload, 1) := dL_b86.2.2.2.2.1
theorem dL_law_1647 : decode cL_law 1647 = .ok (.aload_n 0, 1) := dL_b86.2.2.2.2.2.1
theorem dL_law_1648 : decode cL_law 1648 = .ok (.iload_n 3, 1) := dL_b86.2.2.2.2.2.2.1
theorem dL_law_1649 : decode cL_law 1649 = .ok (.iconst 2, 1) := dL_b86.2.2.2.2.2.2.2.1
theorem dL_law_1650 : decode cL_law 1650 = .ok (.iadd, 1) := dL_b86.2.2.2.2.2.2.2.2.1
theorem dL_law_1651 : decode cL_law 1651 = .ok (.iaload, 1) := dL_b86.2.2.2.2.2.2.2.2.2.1
theorem dL_law_1652 : decode cL_law 1652 = .ok (.invokevirtual 230, 3) := dL_b86.2.2.2.2.2.2.2.2.2.2.1
theorem dL_law_1655 : decode cL_law 1655 = .ok (.pop, 1) := dL_b86.2.2.2.2.2.2.2.2.2.2.2
theorem dL_b87 : (decode cL_law 1656 = .ok (.aload_n 2, 1)) ∧ (decode cL_law 1657 = .ok (.aload_n 0, 1)) ∧ (decode cL_law 1658 = .ok (.iload_n 3, 1)) ∧ (decode cL_law 1659 = .ok (.iconst 1, 1)) ∧ (decode cL_law 1660 = .ok (.iadd, 1)) ∧ (decode cL_law 1661 = .ok (.iaload, 1)) ∧ (decode cL_law 1662 = .ok (.aload_n 0, 1)) ∧ (decode cL_law 1663 = .ok (.iload_n 3, 1)) ∧ (decode cL_law 1664 = .ok (.iconst 2, 1)) ∧ (decode cL_law 1665 = .ok (.iadd, 1)) ∧ (decode cL_law 1666 = .ok (.iaload, 1)) ∧ (decode cL_law 1667 = .ok (.invokevirtual 233, 3)) := by decide +kernel
theorem dL_law_1656 : decode cL_law 1656 = .ok (.aload_n 2, 1) := dL_b87.1
theorem dL_law_1657 : decode cL_law 1657 = .ok (.aload_n 0, 1) := dL_b87.2.1
theorem dL_law_1658 : decode cL_law 1658 = .ok (.iload_n 3, 1) := dL_b87.2.2.1
theorem dL_law_1659 : decode cL_law 1659 = .ok (.iconst 1, 1) := dL_b87.2.2.2.1
theorem dL_law_1660 : decode cL_law 1660 = .ok (.iadd, 1) := dL_b87.2.2.2.2.1
theorem dL_law_1661 : decode cL_law 1661 = .ok (.iaload, 1) := dL_b87.2.2.2.2.2.1
theorem dL_law_1662 : decode cL_law 1662 = .ok (.aload_n 0, 1) := dL_b87.2.2.2.2.2.2.1
theorem dL_law_1663 : decode cL_law 1663 = .ok (.iload_n 3, 1) := dL_b87.2.2.2.2.2.2.2.1
theorem dL_law_1664 : decode cL_law 1664 = .ok (.iconst 2, 1) := dL_b87.2.2.2.2.2.2.2.2.1
theorem dL_law_1665 : decode cL_law 1665 = .ok (.iadd, 1) := dL_b87.2.2.2.2.2.2.2.2.2.1
theorem dL_law_1666 : decode cL_law 1666 = .ok (.iaload, 1) := dL_b87.2.2.2.2.2.2.2.2.2.2.1
theorem dL_law_1667 : decode cL_law 1667 = .ok (.invokevirtual 233, 3) := dL_b87.2.2.2.2.2.2.2.2.2.2.2
theorem dL_b88 : (decode cL_law 1670 = .ok (.pop, 1)) ∧ (decode cL_law 1671 = .ok (.goto 294, 3)) ∧ (decode cL_law 1674 = .ok (.aload_n 1, 1)) ∧ (decode cL_law 1675 = .ok (.aload_n 0, 1)) ∧ (decode cL_law 1676 = .ok (.iload_n 3, 1)) ∧ (decode cL_law 1677 = .ok (.iconst 1, 1)) ∧ (decode cL_law 1678 = .ok (.iadd, 1)) ∧ (decode cL_law 1679 = .ok (.iaload, 1)) ∧ (decode cL_law 1680 = .ok (.aload_n 0, 1)) ∧ (decode cL_law 1681 = .ok (.iload_n 3, 1)) ∧ (decode cL_law 1682 = .ok (.iconst 2, 1)) ∧ (decode cL_law 1683 = .ok (.iadd, 1)) := by decide +kernel
theorem dL_law_1670 : decode cL_law 1670 = .ok (.pop, 1) := dL_b88.1
theorem dL_law_1671 : decode cL_law 1671 = .ok (.goto 294, 3) := dL_b88.2.1
theorem dL_law_1674 : decode cL_law 1674 = .ok (.aload_n 1, 1) := dL_b88.2.2.1
theorem dL_law_1675 : decode cL_law 1675 = .ok (.aload_n 0, 1) := dL_b88.2.2.2.1
theorem dL_law_1676 : decode cL_law 1676 = .ok (.iload_n 3, 1) := dL_b88.2.2.2.2.1
theorem dL_law_1677 : decode cL_law 1677 = .ok (.iconst 1, 1) := dL_b88.2.2.2.2.2.1
theorem dL_law_1678 : decode cL_law 1678 = .ok (.iadd, 1) := dL_b88.2.2.2.2.2.2.1
theorem dL_law_1679 : decode cL_law 1679 = .ok (.iaload, 1) := dL_b88.2.2.2.2.2.2.2.1
theorem dL_law_1680 : decode cL_law 1680 = .ok (.aload_n 0, 1) := dL_b88.2.2.2.2.2.2.2.2.1
theorem dL_law_1681 : decode cL_law 1681 = .ok (.iload_n 3, 1) := dL_b88.2.2.2.2.2.2.2.2.2.1
theorem dL_law_1682 : decode cL_law 1682 = .ok (.iconst 2, 1) := dL_b88.2.2.2.2.2.2.2.2.2.2.1
theorem dL_law_1683 : decode cL_law 1683 = .ok (.iadd, 1) := dL_b88.2.2.2.2.2.2.2.2.2.2.2
theorem dL_b89 : (decode cL_law 1684 = .ok (.iaload, 1)) ∧ (decode cL_law 1685 = .ok (.aload_n 0, 1)) ∧ (decode cL_law 1686 = .ok (.iload_n 3, 1)) ∧ (decode cL_law 1687 = .ok (.iconst 3, 1)) ∧ (decode cL_law 1688 = .ok (.iadd, 1)) ∧ (decode cL_law 1689 = .ok (.iaload, 1)) ∧ (decode cL_law 1690 = .ok (.invokevirtual 234, 3)) ∧ (decode cL_law 1693 = .ok (.pop, 1)) ∧ (decode cL_law 1694 = .ok (.aload_n 2, 1)) ∧ (decode cL_law 1695 = .ok (.aload_n 0, 1)) ∧ (decode cL_law 1696 = .ok (.iload_n 3, 1)) ∧ (decode cL_law 1697 = .ok (.iconst 1, 1)) := by decide +kernel
theorem dL_law_1684 : decode cL_law 1684 = .ok (.iaload, 1) := dL_b89.1
theorem dL_law_1685 : decode cL_law 1685 = .ok (.aload_n 0, 1) := dL_b89.2.1
theorem dL_law_1686 : decode cL_law 1686 = .ok (.iload_n 3, 1) := dL_b89.2.2.1
theorem dL_law_1687 : decode cL_law 1687 = .ok (.iconst 3, 1) := dL_b89.2.2.2.1
theorem dL_law_1688 : decode cL_law 1688 = .ok (.iadd, 1) := dL_b89.2.2.2.2.1
theorem dL_law_1689 : decode cL_law 1689 = .ok (.iaload, 1) := dL_b89.2.2.2.2.2.1
theorem dL_law_1690 : decode cL_law 1690 = .ok (.invokevirtual 234, 3) := dL_b89.2.2.2.2.2.2.1
theorem dL_law_1693 : decode cL_law 1693 = .ok (.pop, 1) := dL_b89.2.2.2.2.2.2.2.1
theorem dL_law_1694 : decode cL_law 1694 = .ok (.aload_n 2, 1) := dL_b89.2.2.2.2.2.2.2.2.1
theorem dL_law_1695 : decode cL_law 1695 = .ok (.aload_n 0, 1) := dL_b89.2.2.2.2.2.2.2.2.2.1
theorem dL_law_1696 : decode cL_law 1696 = .ok (.iload_n 3, 1) := dL_b89.2.2.2.2.2.2.2.2.2.2.1
theorem dL_law_1697 : decode cL_law 1697 = .ok (.iconst 1, 1) := dL_b89.2.2.2.2.2.2.2.2.2.2.2
theorem dL_b90 : (decode cL_law 1698 = .ok (.iadd, 1)) ∧ (decode cL_law 1699 = .ok (.iaload, 1)) ∧ (decode cL_law 1700 = .ok (.aload_n 0, 1)) ∧ (decode cL_law 1701 = .ok (.iload_n 3, 1)) ∧ (decode cL_law 1702 = .ok (.iconst 2, 1)) ∧ (decode cL_law 1703 = .ok (.iadd, 1)) ∧ (decode cL_law 1704 = .ok (.iaload, 1)) ∧ (decode cL_law 1705 = .ok (.aload_n 0, 1)) ∧ (decode cL_law 1706 = .ok (.iload_n 3, 1)) ∧ (decode cL_law 1707 = .ok (.iconst 3, 1)) ∧ (decode cL_law 1708 = .ok (.iadd, 1)) ∧ (decode cL_law 1709 = .ok (.iaload, 1)) := by decide +kernel
theorem dL_law_1698 : decode cL_law 1698 = .ok (.iadd, 1) := dL_b90.1
theorem dL_law_1699 : decode cL_law 1699 = .ok (.iaload, 1) := dL_b90.2.1
theorem dL_law_1700 : decode cL_law 1700 = .ok (.aload_n 0, 1) := dL_b90.2.2.1
theorem dL_law_1701 : decode cL_law 1701 = .ok (.iload_n 3, 1) := dL_b90.2.2.2.1
theorem dL_law_1702 : decode cL_law 1702 = .ok (.iconst 2, 1) := dL_b90.2.2.2.2.1
theorem dL_law_1703 : decode cL_law 1703 = .ok (.iadd, 1) := dL_b90.2.2.2.2.2.1
theorem dL_law_1704 : decode cL_law 1704 = .ok (.iaload, 1) := dL_b90.2.2.2.2.2.2.1
theorem dL_law_1705 : decode cL_law 1705 = .ok (.aload_n 0, 1) := dL_b90.2.2.2.2.2.2.2.1
theorem dL_law_1706 : decode cL_law 1706 = .ok (.iload_n 3, 1) := dL_b90.2.2.2.2.2.2.2.2.1
theorem dL_law_1707 : decode cL_law 1707 = .ok (.iconst 3, 1) := dL_b90.2.2.2.2.2.2.2.2.2.1
theorem dL_law_1708 : decode cL_law 1708 = .ok (.iadd, 1) := dL_b90.2.2.2.2.2.2.2.2.2.2.1
theorem dL_law_1709 : decode cL_law 1709 = .ok (.iaload, 1) := dL_b90.2.2.2.2.2.2.2.2.2.2.2
theorem dL_b91 : (decode cL_law 1710 = .ok (.invokevirtual 237, 3)) ∧ (decode cL_law 1713 = .ok (.pop, 1)) ∧ (decode cL_law 1714 = .ok (.goto 251, 3)) ∧ (decode cL_law 1717 = .ok (.aload_n 1, 1)) ∧ (decode cL_law 1718 = .ok (.aload_n 0, 1)) ∧ (decode cL_law 1719 = .ok (.iload_n 3, 1)) ∧ (decode cL_law 1720 = .ok (.iconst 1, 1)) ∧ (decode cL_law 1721 = .ok (.iadd, 1)) ∧ (decode cL_law 1722 = .ok (.iaload, 1)) ∧ (decode cL_law 1723 = .ok (.invokevirtual 238, 3)) ∧ (decode cL_law 1726 = .ok (.pop, 1)) ∧ (decode cL_law 1727 = .ok (.aload_n 2, 1)) := by decide +kernel
theorem dL_law_1710 : decode cL_law 1710 = .ok (.invokevirtual 237, 3) := dL_b91.1
theorem dL_law_1713 : decode cL_law 1713 = .ok (.pop, 1) := dL_b91.2.1
theorem dL_law_1714 : decode cL_law 1714 = .ok (.goto 251, 3) := dL_b91.2.2.1
theorem dL_law_1717 : decode cL_law 1717 = .ok (.aload_n 1, 1) := dL_b91.2.2.2.1
theorem dL_law_1718 : decode cL_law 1718 = .ok (.aload_n 0, 1) := dL_b91.2.2.2.2.1
theorem dL_law_1719 : decode cL_law 1719 = .ok (.iload_n 3, 1) := dL_b91.2.2.2.2.2.1
theorem dL_law_1720 : decode cL_law 1720 = .ok (.iconst 1, 1) := dL_b91.2.2.2.2.2.2.1
theorem dL_law_1721 : decode cL_law 1721 = .ok (.iadd, 1) := dL_b91.2.2.2.2.2.2.2.1
theorem dL_law_1722 : decode cL_law 1722 = .ok (.iaload, 1) := dL_b91.2.2.2.2.2.2.2.2.1
theorem dL_law_1723 : decode cL_law 1723 = .ok (.invokevirtual 238, 3) := dL_b91.2.2.2.2.2.2.2.2.2.1
theorem dL_law_1726 : decode cL_law 1726 = .ok (.pop, 1) := dL_b91.2.2.2.2.2.2.2.2.2.2.1
theorem dL_law_1727 : decode cL_law 1727 = .ok (.aload_n 2, 1) := dL_b91.2.2.2.2.2.2.2.2.2.2.2
theorem dL_b92 : (decode cL_law 1728 = .ok (.aload_n 0, 1)) ∧ (decode cL_law 1729 = .ok (.iload_n 3, 1)) ∧ (decode cL_law 1730 = .ok (.iconst 1, 1)) ∧ (decode cL_law 1731 = .ok (.iadd, 1)) ∧ (decode cL_law 1732 = .ok (.iaload, 1)) ∧ (decode cL_law 1733 = .ok (.invokevirtual 241, 3)) ∧ (decode cL_law 1736 = .ok (.pop, 1)) ∧ (decode cL_law 1737 = .ok (.goto 228, 3)) ∧ (decode cL_law 1740 = .ok (.aload_n 1, 1)) ∧ (decode cL_law 1741 = .ok (.aload_n 0, 1)) ∧ (decode cL_law 1742 = .ok (.iload_n 3, 1)) ∧ (decode cL_law 1743 = .ok (.iconst 1, 1)) := by decide +kernel
theorem dL_law_1728 : decode cL_law 1728 = .ok (.aload_n 0, 1) := dL_b92.1
theorem dL_law_1729 : decode cL_law 1729 = .ok (.iload_n 3, 1) := dL_b92.2.1
theorem dL_law_1730 : decode cL_law 1730 = .ok (.iconst 1, 1) := dL_b92.2.2.1
theorem dL_law_1731 : decode cL_law 1731 = .ok (.iadd, 1) := dL_b92.2.2.2.1
theorem dL_law_1732 : decode cL_law 1732 = .ok (.iaload, 1) := dL_b92.2.2.2.2.1
theorem dL_law_1733 : decode cL_law 1733 = .ok (.invokevirtual 241, 3) := dL_b92.2.2.2.2.2.1
theorem dL_law_1736 : decode cL_law 1736 = .ok (.pop, 1) := dL_b92.2.2.2.2.2.2.1
theorem dL_law_1737 : decode cL_law 1737 = .ok (.goto 228, 3) := dL_b92.2.2.2.2.2.2.2.1
theorem dL_law_1740 : decode cL_law 1740 = .ok (.aload_n 1, 1) := dL_b92.2.2.2.2.2.2.2.2.1
theorem dL_law_1741 : decode cL_law 1741 = .ok (.aload_n 0, 1) := dL_b92.2.2.2.2.2.2.2.2.2.1
theorem dL_law_1742 : decode cL_law 1742 = .ok (.iload_n 3, 1) := dL_b92.2.2.2.2.2.2.2.2.2.2.1
theorem dL_law_1743 : decode cL_law 1743 = .ok (.iconst 1, 1) := dL_b92.2.2.2.2.2.2.2.2.2.2.2
theorem dL_b93 : (decode cL_law 1744 = .ok (.iadd, 1)) ∧ (decode cL_law 1745 = .ok (.iaload, 1)) ∧ (decode cL_law 1746 = .ok (.invokevirtual 242, 3)) ∧ (decode cL_law 1749 = .ok (.pop, 1)) ∧ (decode cL_law 1750 = .ok (.aload_n 2, 1)) ∧ (decode cL_law 1751 = .ok (.aload_n 0, 1)) ∧ (decode cL_law 1752 = .ok (.iload_n 3, 1)) ∧ (decode cL_law 1753 = .ok (.iconst 1, 1)) ∧ (decode cL_law 1754 = .ok (.iadd, 1)) ∧ (decode cL_law 1755 = .ok (.iaload, 1)) ∧ (decode cL_law 1756 = .ok (.invokevirtual 245, 3)) ∧ (decode cL_law 1759 = .ok (.pop, 1)) := by decide +kernel
theorem dL_law_1744 : decode cL_law 1744 = .ok (.iadd, 1) := dL_b93.1
theorem dL_law_1745 : decode cL_law 1745 = .ok (.iaload, 1) := dL_b93.2.1
theorem dL_law_1746 : decode cL_law 1746 = .ok (.invokevirtual 242, 3) := dL_b93.2.2.1
theorem dL_law_1749 : decode cL_law 1749 = .ok (.pop, 1) := dL_b93.2.2.2.1
theorem dL_law_1750 : decode cL_law 1750 = .ok (.aload_n 2, 1) := dL_b93.2.2.2.2.1
theorem dL_law_1751 : decode cL_law 1751 = .ok (.aload_n 0, 1) := dL_b93.2.2.2.2.2.1
theorem dL_law_1752 : decode cL_law 1752 = .ok (.iload_n 3, 1) := dL_b93.2.2.2.2.2.2.1
theorem dL_law_1753 : decode cL_law 1753 = .ok (.iconst 1, 1) := dL_b93.2.2.2.2.2.2.2.1
theorem dL_law_1754 : decode cL_law 1754 = .ok (.iadd, 1) := dL_b93.2.2.2.2.2.2.2.2.1
theorem dL_law_1755 : decode cL_law 1755 = .ok (.iaload, 1) := dL_b93.2.2.2.2.2.2.2.2.2.1
theorem dL_law_1756 : decode cL_law 1756 = .ok (.invokevirtual 245, 3) := dL_b93.2.2.2.2.2.2.2.2.2.2.1
theorem dL_law_1759 : decode cL_law 1759 = .ok (.pop, 1) := dL_b93.2.2.2.2.2.2.2.2.2.2.2
theorem dL_b94 : (decode cL_law 1760 = .ok (.goto 205, 3)) ∧ (decode cL_law 1763 = .ok (.aload_n 1, 1)) ∧ (decode cL_law 1764 = .ok (.aload_n 0, 1)) ∧ (decode cL_law 1765 = .ok (.iload_n 3, 1)) ∧ (decode cL_law 1766 = .ok (.iconst 1, 1)) ∧ (decode cL_law 1767 = .ok (.iadd, 1)) ∧ (decode cL_law 1768 = .ok (.iaload, 1)) ∧ (decode cL_law 1769 = .ok (.invokevirtual 246, 3)) ∧ (decode cL_law 1772 = .ok (.pop, 1)) ∧ (decode cL_law 1773 = .ok (.aload_n 2, 1)) ∧ (decode cL_law 1774 = .ok (.aload_n 0, 1)) ∧ (decode cL_law 1775 = .ok (.iload_n 3, 1)) := by decide +kernel
theorem dL_law_1760 : decode cL_law 1760 = .ok (.goto 205, 3) := dL_b94.1
theorem dL_law_1763 : decode cL_law 1763 = .ok (.aload_n 1, 1) := dL_b94.2.1
theorem dL_law_1764 : decode cL_law 1764 = .ok (.aload_n 0, 1) := dL_b94.2.2.1
theorem dL_law_1765 : decode cL_law 1765 = .ok (.iload_n 3, 1) := dL_b94.2.2.2.1
theorem dL_law_1766 : decode cL_law 1766 = .ok (.iconst 1, 1) := dL_b94.2.2.2.2.1
theorem dL_law_1767 : decode cL_law 1767 = .ok (.iadd, 1) := dL_b94.2.2.2.2.2.1
theorem dL_law_1768 : decode cL_law 1768 = .ok (.iaload, 1) := dL_b94.2.2.2.2.2.2.1
theorem dL_law_1769 : decode cL_law 1769 = .ok (.invokevirtual 246, 3) := dL_b94.2.2.2.2.2.2.2.1
theorem dL_law_1772 : decode cL_law 1772 = .ok (.pop, 1) := dL_b94.2.2.2.2.2.2.2.2.1
theorem dL_law_1773 : decode cL_law 1773 = .ok (.aload_n 2, 1) := dL_b94.2.2.2.2.2.2.2.2.2.1
theorem dL_law_1774 : decode cL_law 1774 = .ok (.aload_n 0, 1) := dL_b94.2.2.2.2.2.2.2.2.2.2.1
theorem dL_law_1775 : decode cL_law 1775 = .ok (.iload_n 3, 1) := dL_b94.2.2.2.2.2.2.2.2.2.2.2
theorem dL_b95 : (decode cL_law 1776 = .ok (.iconst 1, 1)) ∧ (decode cL_law 1777 = .ok (.iadd, 1)) ∧ (decode cL_law 1778 = .ok (.iaload, 1)) ∧ (decode cL_law 1779 = .ok (.invokevirtual 249, 3)) ∧ (decode cL_law 1782 = .ok (.pop, 1)) ∧ (decode cL_law 1783 = .ok (.goto 182, 3)) ∧ (decode cL_law 1786 = .ok (.aload_n 1, 1)) ∧ (decode cL_law 1787 = .ok (.aload_n 0, 1)) ∧ (decode cL_law 1788 = .ok (.iload_n 3, 1)) ∧ (decode cL_law 1789 = .ok (.iconst 1, 1)) ∧ (decode cL_law 1790 = .ok (.iadd, 1)) ∧ (decode cL_law 1791 = .ok (.iaload, 1)) := by decide +kernel
theorem dL_law_1776 : decode cL_law 1776 = .ok (.iconst 1, 1) := dL_b95.1
theorem dL_law_1777 : decode cL_law 1777 = .ok (.iadd, 1) := dL_b95.2.1
theorem dL_law_1778 : decode cL_law 1778 = .ok (.iaload, 1) := dL_b95.2.2.1
theorem dL_law_1779 : decode cL_law 1779 = .ok (.invokevirtual 249, 3) := dL_b95.2.2.2.1
theorem dL_law_1782 : decode cL_law 1782 = .ok (.pop, 1) := dL_b95.2.2.2.2.1
theorem dL_law_1783 : decode cL_law 1783 = .ok (.goto 182, 3) := dL_b95.2.2.2.2.2.1
theorem dL_law_1786 : decode cL_law 1786 = .ok (.aload_n 1, 1) := dL_b95.2.2.2.2.2.2.1
theorem dL_law_1787 : decode cL_law 1787 = .ok (.aload_n 0, 1) := dL_b95.2.2.2.2.2.2.2.1
theorem dL_law_1788 : decode cL_law 1788 = .ok (.iload_n 3, 1) := dL_b95.2.2.2.2.2.2.2.2.1
theorem dL_law_1789 : decode cL_law 1789 = .ok (.iconst 1, 1) := dL_b95.2.2.2.2.2.2.2.2.2.1
theorem dL_law_1790 : decode cL_law 1790 = .ok (.iadd, 1) := dL_b95.2.2.2.2.2.2.2.2.2.2.1
theorem dL_law_1791 : decode cL_law 1791 = .ok (.iaload, 1) := dL_b95.2.2.2.2.2.2.2.2.2.2.2
theorem dL_b96 : (decode cL_law 1792 = .ok (.aload_n 0, 1)) ∧ (decode cL_law 1793 = .ok (.iload_n 3, 1)) ∧ (decode cL_law 1794 = .ok (.iconst 2, 1)) ∧ (decode cL_law 1795 = .ok (.iadd, 1)) ∧ (decode cL_law 1796 = .ok (.iaload, 1)) ∧ (decode cL_law 1797 = .ok (.aload_n 0, 1)) ∧ (decode cL_law 1798 = .ok (.iload_n 3, 1)) ∧ (decode cL_law 1799 = .ok (.iconst 3, 1)) ∧ (decode cL_law 1800 = .ok (.iadd, 1)) ∧ (decode cL_law 1801 = .ok (.iaload, 1)) ∧ (decode cL_law 1802 = .ok (.invokevirtual 250, 3)) ∧ (decode cL_law 1805 = .ok (.pop, 1)) := by decide +kernel
theorem dL_law_1792 : decode cL_law 1792 = .ok (.aload_n 0, 1) := dL_b96.1
theorem dL_law_1793 : decode cL_law 1793 = .ok (.iload_n 3, 1) := dL_b96.2.1
theorem dL_law_1794 : decode cL_law 1794 = .ok (.iconst 2, 1) := dL_b96.2.2.1
theorem dL_law_1795 : decode cL_law 1795 = .ok (.iadd, 1) := dL_b96.2.2.2.1
theorem dL_law_1796 : decode cL_law 1796 = .ok (.iaload, 1) := dL_b96.2.2.2.2.1
theorem dL_law_1797 : decode cL_law 1797 = .ok (.aload_n 0, 1) := dL_b96.2.2.2.2.2.1
theorem dL_law_1798 : decode cL_law 1798 = .ok (.iload_n 3, 1) := dL_b96.2.2.2.2.2.2.1
theorem dL_law_1799 : decode cL_law 1799 = .ok (.iconst 3, 1) := dL_b96.2.2.2.2.2.2.2.1
theorem dL_law_1800 : decode cL_law 1800 = .ok (.iadd, 1) := dL_b96.2.2.2.2.2.2.2.2.1
theorem dL_law_1801 : decode cL_law 1801 = .ok (.iaload, 1) := dL_b96.2.2.2.2.2.2.2.2.2.1
theorem dL_law_1802 : decode cL_law 1802 = .ok (.invokevirtual 250, 3) := dL_b96.2.2.2.2.2.2.2.2.2.2.1
theorem dL_law_1805 : decode cL_law 1805 = .ok (.pop, 1) := dL_b96.2.2.2.2.2.2.2.2.2.2.2
theorem dL_b97 : (decode cL_law 1806 = .ok (.aload_n 2, 1)) ∧ (decode cL_law 1807 = .ok (.aload_n 0, 1)) ∧ (decode cL_law 1808 = .ok (.iload_n 3, 1)) ∧ (decode cL_law 1809 = .ok (.iconst 1, 1)) ∧ (decode cL_law 1810 = .ok (.iadd, 1)) ∧ (decode cL_law 1811 = .ok (.iaload, 1)) ∧ (decode cL_law 1812 = .ok (.aload_n 0, 1)) ∧ (decode cL_law 1813 = .ok (.iload_n 3, 1)) ∧ (decode cL_law 1814 = .ok (.iconst 2, 1)) ∧ (decode cL_law 1815 = .ok (.iadd, 1)) ∧ (decode cL_law 1816 = .ok (.iaload, 1)) ∧ (decode cL_law 1817 = .ok (.aload_n 0, 1)) := by decide +kernel
theorem dL_law_1806 : decode cL_law 1806 = .ok (.aload_n 2, 1) := dL_b97.1
theorem dL_law_1807 : decode cL_law 1807 = .ok (.aload_n 0, 1) := dL_b97.2.1
theorem dL_law_1808 : decode cL_law 1808 = .ok (.iload_n 3, 1) := dL_b97.2.2.1
theorem dL_law_1809 : decode cL_law 1809 = .ok (.iconst 1, 1) := dL_b97.2.2.2.1
theorem dL_law_1810 : decode cL_law 1810 = .ok (.iadd, 1) := dL_b97.2.2.2.2.1
theorem dL_law_1811 : decode cL_law 1811 = .ok (.iaload, 1) := dL_b97.2.2.2.2.2.1
theorem dL_law_1812 : decode cL_law 1812 = .ok (.aload_n 0, 1) := dL_b97.2.2.2.2.2.2.1
theorem dL_law_1813 : decode cL_law 1813 = .ok (.iload_n 3, 1) := dL_b97.2.2.2.2.2.2.2.1
theorem dL_law_1814 : decode cL_law 1814 = .ok (.iconst 2, 1) := dL_b97.2.2.2.2.2.2.2.2.1
theorem dL_law_1815 : decode cL_law 1815 = .ok (.iadd, 1) := dL_b97.2.2.2.2.2.2.2.2.2.1
theorem dL_law_1816 : decode cL_law 1816 = .ok (.iaload, 1) := dL_b97.2.2.2.2.2.2.2.2.2.2.1
theorem dL_law_1817 : decode cL_law 1817 = .ok (.aload_n 0, 1) := dL_b97.2.2.2.2.2.2.2.2.2.2.2
theorem dL_b98 : (decode cL_law 1818 = .ok (.iload_n 3, 1)) ∧ (decode cL_law 1819 = .ok (.iconst 3, 1)) ∧ (decode cL_law 1820 = .ok (.iadd, 1)) ∧ (decode cL_law 1821 = .ok (.iaload, 1)) ∧ (decode cL_law 1822 = .ok (.invokevirtual 253, 3)) ∧ (decode cL_law 1825 = .ok (.pop, 1)) ∧ (decode cL_law 1826 = .ok (.goto 139, 3)) ∧ (decode cL_law 1829 = .ok (.aload_n 1, 1)) ∧ (decode cL_law 1830 = .ok (.aload_n 0, 1)) ∧ (decode cL_law 1831 = .ok (.iload_n 3, 1)) ∧ (decode cL_law 1832 = .ok (.iconst 1, 1)) ∧ (decode cL_law 1833 = .ok (.iadd, 1)) := by decide +kernel
theorem dL_law_1818 : decode cL_law 1818 = .ok (.iload_n 3, 1) := dL_b98.1
theorem dL_law_1819 : decode cL_law 1819 = .ok (.iconst 3, 1) := dL_b98.2.1
theorem dL_law_1820 : decode cL_law 1820 = .ok (.iadd, 1) := dL_b98.2.2.1
theorem dL_law_1821 : decode cL_law 1821 = .ok (.iaload, 1) := dL_b98.2.2.2.1
theorem dL_law_1822 : decode cL_law 1822 = .ok (.invokevirtual 253, 3) := dL_b98.2.2.2.2.1
theorem dL_law_1825 : decode cL_law 1825 = .ok (.pop, 1) := dL_b98.2.2.2.2.2.1
theorem dL_law_1826 : decode cL_law 1826 = .ok (.goto 139, 3) := dL_b98.2.2.2.2.2.2.1
theorem dL_law_1829 : decode cL_law 1829 = .ok (.aload_n 1, 1) := dL_b98.2.2.2.2.2.2.2.1
theorem dL_law_1830 : decode cL_law 1830 = .ok (.aload_n 0, 1) := dL_b98.2.2.2.2.2.2.2.2.1
theorem dL_law_1831 : decode cL_law 1831 = .ok (.iload_n 3, 1) := dL_b98.2.2.2.2.2.2.2.2.2.1
theorem dL_law_1832 : decode cL_law 1832 = .ok (.iconst 1, 1) := dL_b98.2.2.2.2.2.2.2.2.2.2.1
theorem dL_law_1833 : decode cL_law 1833 = .ok (.iadd, 1) := dL_b98.2.2.2.2.2.2.2.2.2.2.2
theorem dL_b99 : (decode cL_law 1834 = .ok (.iaload, 1)) ∧ (decode cL_law 1835 = .ok (.aload_n 0, 1)) ∧ (decode cL_law 1836 = .ok (.iload_n 3, 1)) ∧ (decode cL_law 1837 = .ok (.iconst 2, 1)) ∧ (decode cL_law 1838 = .ok (.iadd, 1)) ∧ (decode cL_law 1839 = .ok (.iaload, 1)) ∧ (decode cL_law 1840 = .ok (.aload_n 0, 1)) ∧ (decode cL_law 1841 = .ok (.iload_n 3, 1)) ∧ (decode cL_law 1842 = .ok (.iconst 3, 1)) ∧ (decode cL_law 1843 = .ok (.iadd, 1)) ∧ (decode cL_law 1844 = .ok (.iaload, 1)) ∧ (decode cL_law 1845 = .ok (.i2l, 1)) := by decide +kernel
theorem dL_law_1834 : decode cL_law 1834 = .ok (.iaload, 1) := dL_b99.1
theorem dL_law_1835 : decode cL_law 1835 = .ok (.aload_n 0, 1) := dL_b99.2.1
theorem dL_law_1836 : decode cL_law 1836 = .ok (.iload_n 3, 1) := dL_b99.2.2.1
theorem dL_law_1837 : decode cL_law 1837 = .ok (.iconst 2, 1) := dL_b99.2.2.2.1
theorem dL_law_1838 : decode cL_law 1838 = .ok (.iadd, 1) := dL_b99.2.2.2.2.1
theorem dL_law_1839 : decode cL_law 1839 = .ok (.iaload, 1) := dL_b99.2.2.2.2.2.1
theorem dL_law_1840 : decode cL_law 1840 = .ok (.aload_n 0, 1) := dL_b99.2.2.2.2.2.2.1
theorem dL_law_1841 : decode cL_law 1841 = .ok (.iload_n 3, 1) := dL_b99.2.2.2.2.2.2.2.1
theorem dL_law_1842 : decode cL_law 1842 = .ok (.iconst 3, 1) := dL_b99.2.2.2.2.2.2.2.2.1
theorem dL_law_1843 : decode cL_law 1843 = .ok (.iadd, 1) := dL_b99.2.2.2.2.2.2.2.2.2.1
theorem dL_law_1844 : decode cL_law 1844 = .ok (.iaload, 1) := dL_b99.2.2.2.2.2.2.2.2.2.2.1
theorem dL_law_1845 : decode cL_law 1845 = .ok (.i2l, 1) := dL_b99.2.2.2.2.2.2.2.2.2.2.2
theorem dL_b100 : (decode cL_law 1846 = .ok (.bipush 32, 2)) ∧ (decode cL_law 1848 = .ok (.lshl, 1)) ∧ (decode cL_law 1849 = .ok (.aload_n 0, 1)) ∧ (decode cL_law 1850 = .ok (.iload_n 3, 1)) ∧ (decode cL_law 1851 = .ok (.iconst 4, 1)) ∧ (decode cL_law 1852 = .ok (.iadd, 1)) ∧ (decode cL_law 1853 = .ok (.iaload, 1)) ∧ (decode cL_law 1854 = .ok (.i2l, 1)) ∧ (decode cL_law 1855 = .ok (.ldc2_w 254, 3)) ∧ (decode cL_law 1858 = .ok (.land, 1)) ∧ (decode cL_law 1859 = .ok (.lor, 1)) ∧ (decode cL_law 1860 = .ok (.invokevirtual 256, 3)) := by decide +kernel
theorem dL_law_1846 : decode cL_law 1846 = .ok (.bipush 32, 2) := dL_b100.1
theorem dL_law_1848 : decode cL_law 1848 = .ok (.lshl, 1) := dL_b100.2.1
theorem dL_law_1849 : decode cL_law 1849 = .ok (.aload_n 0, 1) := dL_b100.2.2.1
theorem dL_law_1850 : decode cL_law 1850 = .ok (.iload_n 3, 1) := dL_b100.2.2.2.1
theorem dL_law_1851 : decode cL_law 1851 = .ok (.iconst 4, 1) := dL_b100.2.2.2.2.1
theorem dL_law_1852 : decode cL_law 1852 = .ok (.iadd, 1) := dL_b100.2.2.2.2.2.1
theorem dL_law_1853 : decode cL_law 1853 = .ok (.iaload, 1) := dL_b100.2.2.2.2.2.2.1
theorem dL_law_1854 : decode cL_law 1854 = .ok (.i2l, 1) := dL_b100.2.2.2.2.2.2.2.1
theorem dL_law_1855 : decode cL_law 1855 = .ok (.ldc2_w 254, 3) := dL_b100.2.2.2.2.2.2.2.2.1
theorem dL_law_1858 : decode cL_law 1858 = .ok (.land, 1) := dL_b100.2.2.2.2.2.2.2.2.2.1
theorem dL_law_1859 : decode cL_law 1859 = .ok (.lor, 1) := dL_b100.2.2.2.2.2.2.2.2.2.2.1
theorem dL_law_1860 : decode cL_law 1860 = .ok (.invokevirtual 256, 3) := dL_b100.2.2.2.2.2.2.2.2.2.2.2
theorem dL_b101 : (decode cL_law 1863 = .ok (.pop, 1)) ∧ (decode cL_law 1864 = .ok (.aload_n 2, 1)) ∧ (decode cL_law 1865 = .ok (.aload_n 0, 1)) ∧ (decode cL_law 1866 = .ok (.iload_n 3, 1)) ∧ (decode cL_law 1867 = .ok (.iconst 1, 1)) ∧ (decode cL_law 1868 = .ok (.iadd, 1)) ∧ (decode cL_law 1869 = .ok (.iaload, 1)) ∧ (decode cL_law 1870 = .ok (.aload_n 0, 1)) ∧ (decode cL_law 1871 = .ok (.iload_n 3, 1)) ∧ (decode cL_law 1872 = .ok (.iconst 2, 1)) ∧ (decode cL_law 1873 = .ok (.iadd, 1)) ∧ (decode cL_law 1874 = .ok (.iaload, 1)) := by decide +kernel
theorem dL_law_1863 : decode cL_law 1863 = .ok (.pop, 1) := dL_b101.1
theorem dL_law_1864 : decode cL_law 1864 = .ok (.aload_n 2, 1) := dL_b101.2.1
theorem dL_law_1865 : decode cL_law 1865 = .ok (.aload_n 0, 1) := dL_b101.2.2.1
theorem dL_law_1866 : decode cL_law 1866 = .ok (.iload_n 3, 1) := dL_b101.2.2.2.1
theorem dL_law_1867 : decode cL_law 1867 = .ok (.iconst 1, 1) := dL_b101.2.2.2.2.1
theorem dL_law_1868 : decode cL_law 1868 = .ok (.iadd, 1) := dL_b101.2.2.2.2.2.1
theorem dL_law_1869 : decode cL_law 1869 = .ok (.iaload, 1) := dL_b101.2.2.2.2.2.2.1
theorem dL_law_1870 : decode cL_law 1870 = .ok (.aload_n 0, 1) := dL_b101.2.2.2.2.2.2.2.1
theorem dL_law_1871 : decode cL_law 1871 = .ok (.iload_n 3, 1) := dL_b101.2.2.2.2.2.2.2.2.1
theorem dL_law_1872 : decode cL_law 1872 = .ok (.iconst 2, 1) := dL_b101.2.2.2.2.2.2.2.2.2.1
theorem dL_law_1873 : decode cL_law 1873 = .ok (.iadd, 1) := dL_b101.2.2.2.2.2.2.2.2.2.2.1
theorem dL_law_1874 : decode cL_law 1874 = .ok (.iaload, 1) := dL_b101.2.2.2.2.2.2.2.2.2.2.2
theorem dL_b102 : (decode cL_law 1875 = .ok (.aload_n 0, 1)) ∧ (decode cL_law 1876 = .ok (.iload_n 3, 1)) ∧ (decode cL_law 1877 = .ok (.iconst 3, 1)) ∧ (decode cL_law 1878 = .ok (.iadd, 1)) ∧ (decode cL_law 1879 = .ok (.iaload, 1)) ∧ (decode cL_law 1880 = .ok (.i2l, 1)) ∧ (decode cL_law 1881 = .ok (.bipush 32, 2)) ∧ (decode cL_law 1883 = .ok (.lshl, 1)) ∧ (decode cL_law 1884 = .ok (.aload_n 0, 1)) ∧ (decode cL_law 1885 = .ok (.iload_n 3, 1)) ∧ (decode cL_law 1886 = .ok (.iconst 4, 1)) ∧ (decode cL_law 1887 = .ok (.iadd, 1)) := by decide +kernel
theorem dL_law_1875 : decode cL_law 1875 = .ok (.aload_n 0, 1) := dL_b102.1
theorem dL_law_1876 : decode cL_law 1876 = .ok (.iload_n 3, 1) := dL_b102.2.1
theorem dL_law_1877 : decode cL_law 1877 = .ok (.iconst 3, 1) := dL_b102.2.2.1
theorem dL_law_1878 : decode cL_law 1878 = .ok (.iadd, 1) := dL_b102.2.2.2.1
theorem dL_law_1879 : decode cL_law 1879 = .ok (.iaload, 1) := dL_b102.2.2.2.2.1
theorem dL_law_1880 : decode cL_law 1880 = .ok (.i2l, 1) := dL_b102.2.2.2.2.2.1
theorem dL_law_1881 : decode cL_law 1881 = .ok (.bipush 32, 2) := dL_b102.2.2.2.2.2.2.1
theorem dL_law_1883 : decode cL_law 1883 = .ok (.lshl, 1) := dL_b102.2.2.2.2.2.2.2.1
theorem dL_law_1884 : decode cL_law 1884 = .ok (.aload_n 0, 1) := dL_b102.2.2.2.2.2.2.2.2.1
theorem dL_law_1885 : decode cL_law 1885 = .ok (.iload_n 3, 1) := dL_b102.2.2.2.2.2.2.2.2.2.1
theorem dL_law_1886 : decode cL_law 1886 = .ok (.iconst 4, 1) := dL_b102.2.2.2.2.2.2.2.2.2.2.1
theorem dL_law_1887 : decode cL_law 1887 = .ok (.iadd, 1) := dL_b102.2.2.2.2.2.2.2.2.2.2.2
theorem dL_b103 : (decode cL_law 1888 = .ok (.iaload, 1)) ∧ (decode cL_law 1889 = .ok (.i2l, 1)) ∧ (decode cL_law 1890 = .ok (.ldc2_w 254, 3)) ∧ (decode cL_law 1893 = .ok (.land, 1)) ∧ (decode cL_law 1894 = .ok (.lor, 1)) ∧ (decode cL_law 1895 = .ok (.invokevirtual 260, 3)) ∧ (decode cL_law 1898 = .ok (.pop, 1)) ∧ (decode cL_law 1899 = .ok (.goto 66, 3)) ∧ (decode cL_law 1902 = .ok (.aload_n 1, 1)) ∧ (decode cL_law 1903 = .ok (.aload_n 0, 1)) ∧ (decode cL_law 1904 = .ok (.iload_n 3, 1)) ∧ (decode cL_law 1905 = .ok (.iconst 1, 1)) := by decide +kernel
theorem dL_law_1888 : decode cL_law 1888 = .ok (.iaload, 1) := dL_b103.1
theorem dL_law_1889 : decode cL_law 1889 = .ok (.i2l, 1) := dL_b103.2.1
theorem dL_law_1890 : decode cL_law 1890 = .ok (.ldc2_w 254, 3) := dL_b103.2.2.1
theorem dL_law_1893 : decode cL_law 1893 = .ok (.land, 1) := dL_b103.2.2.2.1
theorem dL_law_1894 : decode cL_law 1894 = .ok (.lor, 1) := dL_b103.2.2.2.2.1
theorem dL_law_1895 : decode cL_law 1895 = .ok (.invokevirtual 260, 3) := dL_b103.2.2.2.2.2.1
theorem dL_law_1898 : decode cL_law 1898 = .ok (.pop, 1) := dL_b103.2.2.2.2.2.2.1
theorem dL_law_1899 : decode cL_law 1899 = .ok (.goto 66, 3) := dL_b103.2.2.2.2.2.2.2.1
theorem dL_law_1902 : decode cL_law 1902 = .ok (.aload_n 1, 1) := dL_b103.2.2.2.2.2.2.2.2.1
theorem dL_law_1903 : decode cL_law 1903 = .ok (.aload_n 0, 1) := dL_b103.2.2.2.2.2.2.2.2.2.1
theorem dL_law_1904 : decode cL_law 1904 = .ok (.iload_n 3, 1) := dL_b103.2.2.2.2.2.2.2.2.2.2.1
theorem dL_law_1905 : decode cL_law 1905 = .ok (.iconst 1, 1) := dL_b103.2.2.2.2.2.2.2.2.2.2.2
theorem dL_b104 : (decode cL_law 1906 = .ok (.iadd, 1)) ∧ (decode cL_law 1907 = .ok (.iaload, 1)) ∧ (decode cL_law 1908 = .ok (.aload_n 0, 1)) ∧ (decode cL_law 1909 = .ok (.iload_n 3, 1)) ∧ (decode cL_law 1910 = .ok (.iconst 2, 1)) ∧ (decode cL_law 1911 = .ok (.iadd, 1)) ∧ (decode cL_law 1912 = .ok (.iaload, 1)) ∧ (decode cL_law 1913 = .ok (.aload_n 0, 1)) ∧ (decode cL_law 1914 = .ok (.iload_n 3, 1)) ∧ (decode cL_law 1915 = .ok (.iconst 3, 1)) ∧ (decode cL_law 1916 = .ok (.iadd, 1)) ∧ (decode cL_law 1917 = .ok (.iaload, 1)) := by decide +kernel
theorem dL_law_1906 : decode cL_law 1906 = .ok (.iadd, 1) := dL_b104.1
theorem dL_law_1907 : decode cL_law 1907 = .ok (.iaload, 1) := dL_b104.2.1
theorem dL_law_1908 : decode cL_law 1908 = .ok (.aload_n 0, 1) := dL_b104.2.2.1
theorem dL_law_1909 : decode cL_law 1909 = .ok (.iload_n 3, 1) := dL_b104.2.2.2.1
theorem dL_law_1910 : decode cL_law 1910 = .ok (.iconst 2, 1) := dL_b104.2.2.2.2.1
theorem dL_law_1911 : decode cL_law 1911 = .ok (.iadd, 1) := dL_b104.2.2.2.2.2.1
theorem dL_law_1912 : decode cL_law 1912 = .ok (.iaload, 1) := dL_b104.2.2.2.2.2.2.1
theorem dL_law_1913 : decode cL_law 1913 = .ok (.aload_n 0, 1) := dL_b104.2.2.2.2.2.2.2.1
theorem dL_law_1914 : decode cL_law 1914 = .ok (.iload_n 3, 1) := dL_b104.2.2.2.2.2.2.2.2.1
theorem dL_law_1915 : decode cL_law 1915 = .ok (.iconst 3, 1) := dL_b104.2.2.2.2.2.2.2.2.2.1
theorem dL_law_1916 : decode cL_law 1916 = .ok (.iadd, 1) := dL_b104.2.2.2.2.2.2.2.2.2.2.1
theorem dL_law_1917 : decode cL_law 1917 = .ok (.iaload, 1) := dL_b104.2.2.2.2.2.2.2.2.2.2.2
theorem dL_b105 : (decode cL_law 1918 = .ok (.aload_n 0, 1)) ∧ (decode cL_law 1919 = .ok (.iload_n 3, 1)) ∧ (decode cL_law 1920 = .ok (.iconst 4, 1)) ∧ (decode cL_law 1921 = .ok (.iadd, 1)) ∧ (decode cL_law 1922 = .ok (.iaload, 1)) ∧ (decode cL_law 1923 = .ok (.aload_n 0, 1)) ∧ (decode cL_law 1924 = .ok (.iload_n 3, 1)) ∧ (decode cL_law 1925 = .ok (.iconst 5, 1)) ∧ (decode cL_law 1926 = .ok (.iadd, 1)) ∧ (decode cL_law 1927 = .ok (.iaload, 1)) ∧ (decode cL_law 1928 = .ok (.invokevirtual 261, 3)) ∧ (decode cL_law 1931 = .ok (.aload_n 2, 1)) := by decide +kernel
theorem dL_law_1918 : decode cL_law 1918 = .ok (.aload_n 0, 1) := dL_b105.1
theorem dL_law_1919 : decode cL_law 1919 = .ok (.iload_n 3, 1) := dL_b105.2.1
theorem dL_law_1920 : decode cL_law 1920 = .ok (.iconst 4, 1) := dL_b105.2.2.1
theorem dL_law_1921 : decode cL_law 1921 = .ok (.iadd, 1) := dL_b105.2.2.2.1
theorem dL_law_1922 : decode cL_law 1922 = .ok (.iaload, 1) := dL_b105.2.2.2.2.1
theorem dL_law_1923 : decode cL_law 1923 = .ok (.aload_n 0, 1) := dL_b105.2.2.2.2.2.1
theorem dL_law_1924 : decode cL_law 1924 = .ok (.iload_n 3, 1) := dL_b105.2.2.2.2.2.2.1
theorem dL_law_1925 : decode cL_law 1925 = .ok (.iconst 5, 1) := dL_b105.2.2.2.2.2.2.2.1
theorem dL_law_1926 : decode cL_law 1926 = .ok (.iadd, 1) := dL_b105.2.2.2.2.2.2.2.2.1
theorem dL_law_1927 : decode cL_law 1927 = .ok (.iaload, 1) := dL_b105.2.2.2.2.2.2.2.2.2.1
theorem dL_law_1928 : decode cL_law 1928 = .ok (.invokevirtual 261, 3) := dL_b105.2.2.2.2.2.2.2.2.2.2.1
theorem dL_law_1931 : decode cL_law 1931 = .ok (.aload_n 2, 1) := dL_b105.2.2.2.2.2.2.2.2.2.2.2
theorem dL_b106 : (decode cL_law 1932 = .ok (.aload_n 0, 1)) ∧ (decode cL_law 1933 = .ok (.iload_n 3, 1)) ∧ (decode cL_law 1934 = .ok (.iconst 1, 1)) ∧ (decode cL_law 1935 = .ok (.iadd, 1)) ∧ (decode cL_law 1936 = .ok (.iaload, 1)) ∧ (decode cL_law 1937 = .ok (.aload_n 0, 1)) ∧ (decode cL_law 1938 = .ok (.iload_n 3, 1)) ∧ (decode cL_law 1939 = .ok (.iconst 2, 1)) ∧ (decode cL_law 1940 = .ok (.iadd, 1)) ∧ (decode cL_law 1941 = .ok (.iaload, 1)) ∧ (decode cL_law 1942 = .ok (.aload_n 0, 1)) ∧ (decode cL_law 1943 = .ok (.iload_n 3, 1)) := by decide +kernel
theorem dL_law_1932 : decode cL_law 1932 = .ok (.aload_n 0, 1) := dL_b106.1
theorem dL_law_1933 : decode cL_law 1933 = .ok (.iload_n 3, 1) := dL_b106.2.1
theorem dL_law_1934 : decode cL_law 1934 = .ok (.iconst 1, 1) := dL_b106.2.2.1
theorem dL_law_1935 : decode cL_law 1935 = .ok (.iadd, 1) := dL_b106.2.2.2.1
theorem dL_law_1936 : decode cL_law 1936 = .ok (.iaload, 1) := dL_b106.2.2.2.2.1
theorem dL_law_1937 : decode cL_law 1937 = .ok (.aload_n 0, 1) := dL_b106.2.2.2.2.2.1
theorem dL_law_1938 : decode cL_law 1938 = .ok (.iload_n 3, 1) := dL_b106.2.2.2.2.2.2.1
theorem dL_law_1939 : decode cL_law 1939 = .ok (.iconst 2, 1) := dL_b106.2.2.2.2.2.2.2.1
theorem dL_law_1940 : decode cL_law 1940 = .ok (.iadd, 1) := dL_b106.2.2.2.2.2.2.2.2.1
theorem dL_law_1941 : decode cL_law 1941 = .ok (.iaload, 1) := dL_b106.2.2.2.2.2.2.2.2.2.1
theorem dL_law_1942 : decode cL_law 1942 = .ok (.aload_n 0, 1) := dL_b106.2.2.2.2.2.2.2.2.2.2.1
theorem dL_law_1943 : decode cL_law 1943 = .ok (.iload_n 3, 1) := dL_b106.2.2.2.2.2.2.2.2.2.2.2
theorem dL_b107 : (decode cL_law 1944 = .ok (.iconst 3, 1)) ∧ (decode cL_law 1945 = .ok (.iadd, 1)) ∧ (decode cL_law 1946 = .ok (.iaload, 1)) ∧ (decode cL_law 1947 = .ok (.aload_n 0, 1)) ∧ (decode cL_law 1948 = .ok (.iload_n 3, 1)) ∧ (decode cL_law 1949 = .ok (.iconst 4, 1)) ∧ (decode cL_law 1950 = .ok (.iadd, 1)) ∧ (decode cL_law 1951 = .ok (.iaload, 1)) ∧ (decode cL_law 1952 = .ok (.aload_n 0, 1)) ∧ (decode cL_law 1953 = .ok (.iload_n 3, 1)) ∧ (decode cL_law 1954 = .ok (.iconst 5, 1)) ∧ (decode cL_law 1955 = .ok (.iadd, 1)) := by decide +kernel
theorem dL_law_1944 : decode cL_law 1944 = .ok (.iconst 3, 1) := dL_b107.1
theorem dL_law_1945 : decode cL_law 1945 = .ok (.iadd, 1) := dL_b107.2.1
theorem dL_law_1946 : decode cL_law 1946 = .ok (.iaload, 1) := dL_b107.2.2.1
theorem dL_law_1947 : decode cL_law 1947 = .ok (.aload_n 0, 1) := dL_b107.2.2.2.1
theorem dL_law_1948 : decode cL_law 1948 = .ok (.iload_n 3, 1) := dL_b107.2.2.2.2.1
theorem dL_law_1949 : decode cL_law 1949 = .ok (.iconst 4, 1) := dL_b107.2.2.2.2.2.1
theorem dL_law_1950 : decode cL_law 1950 = .ok (.iadd, 1) := dL_b107.2.2.2.2.2.2.1
theorem dL_law_1951 : decode cL_law 1951 = .ok (.iaload, 1) := dL_b107.2.2.2.2.2.2.2.1
theorem dL_law_1952 : decode cL_law 1952 = .ok (.aload_n 0, 1) := dL_b107.2.2.2.2.2.2.2.2.1
theorem dL_law_1953 : decode cL_law 1953 = .ok (.iload_n 3, 1) := dL_b107.2.2.2.2.2.2.2.2.2.1
theorem dL_law_1954 : decode cL_law 1954 = .ok (.iconst 5, 1) := dL_b107.2.2.2.2.2.2.2.2.2.2.1
theorem dL_law_1955 : decode cL_law 1955 = .ok (.iadd, 1) := dL_b107.2.2.2.2.2.2.2.2.2.2.2
theorem dL_b108 : (decode cL_law 1956 = .ok (.iaload, 1)) ∧ (decode cL_law 1957 = .ok (.invokevirtual 264, 3)) ∧ (decode cL_law 1960 = .ok (.if_icmp .eq 5, 3)) ∧ (decode cL_law 18 = .ok (.iload_n 3, 1)) ∧ (decode cL_law 19 = .ok (.aload_n 0, 1)) ∧ (decode cL_law 20 = .ok (.arraylength, 1)) ∧ (decode cL_law 21 = .ok (.bipush 6, 2)) ∧ (decode cL_law 23 = .ok (.isub, 1)) ∧ (decode cL_law 24 = .ok (.if_icmp .gt 1947, 3)) ∧ (decode cL_law 1965 = .ok (.iinc 3 6, 3)) ∧ (decode cL_law 1968 = .ok (.goto (-1950), 3)) ∧ (decode cL_law 27 = .ok (.aload_n 0, 1)) := by decide +kernel
theorem dL_law_1956 : decode cL_law 1956 = .ok (.iaload, 1) := dL_b108.1
theorem dL_law_1957 : decode cL_law 1957 = .ok (.invokevirtual 264, 3) := dL_b108.2.1
theorem dL_law_1960 : decode cL_law 1960 = .ok (.if_icmp .eq 5, 3) := dL_b108.2.2.1
theorem dL_law_18 : decode cL_law 18 = .ok (.iload_n 3, 1) := dL_b108.2.2.2.1
theorem dL_law_19 : decode cL_law 19 = .ok (.aload_n 0, 1) := dL_b108.2.2.2.2.1
theorem dL_law_20 : decode cL_law 20 = .ok (.arraylength, 1) := dL_b108.2.2.2.2.2.1
theorem dL_law_21 : decode cL_law 21 = .ok (.bipush 6, 2) := dL_b108.2.2.2.2.2.2.1
theorem dL_law_23 : decode cL_law 23 = .ok (.isub, 1) := dL_b108.2.2.2.2.2.2.2.1
theorem dL_law_24 : decode cL_law 24 = .ok (.if_icmp .gt 1947, 3) := dL_b108.2.2.2.2.2.2.2.2.1
theorem dL_law_1965 : decode cL_law 1965 = .ok (.iinc 3 6, 3) := dL_b108.2.2.2.2.2.2.2.2.2.1
theorem dL_law_1968 : decode cL_law 1968 = .ok (.goto (-1950), 3) := dL_b108.2.2.2.2.2.2.2.2.2.2.1
theorem dL_law_27 : decode cL_law 27 = .ok (.aload_n 0, 1) := dL_b108.2.2.2.2.2.2.2.2.2.2.2
theorem dL_b109 : (decode cL_law 28 = .ok (.iload_n 3, 1)) ∧ (decode cL_law 29 = .ok (.iaload, 1)) ∧ (decode cL_law 30 = .ok (.bipush 63, 2)) ∧ (decode cL_law 32 = .ok (.iand, 1)) ∧ (decode cL_law 33 = .ok (.tableswitch 1932 0 60 #[259, 322, 345, 358, 381, 414, 447, 480, 513, 536, 559, 602, 635, 658, 681, 714, 727, 740, 753, 776, 799, 832, 845, 868, 881, 894, 907, 940, 963, 986, 999, 1022, 1035, 1058, 1081, 1104, 1137, 1170, 1183, 1206, 1229, 1262, 1305, 1338, 1351, 1374, 1397, 1420, 1433, 1456, 1479, 1502, 1545, 1608, 1641, 1684, 1707, 1730, 1753, 1796, 1869], 259)) ∧ (decode cL_law 1971 = .ok (.iconst 1, 1)) ∧ (decode cL_law 1972 = .ok (.ireturn, 1)) ∧ (decode cL_law 0 = .ok (.new 7, 3)) ∧ (decode cL_law 3 = .ok (.dup, 1)) ∧ (decode cL_law 4 = .ok (.invokespecial 9, 3)) ∧ (decode cL_law 7 = .ok (.astore_n 1, 1)) ∧ (decode cL_law 8 = .ok (.new 10, 3)) := by decide +kernel
theorem dL_law_28 : decode cL_law 28 = .ok (.iload_n 3, 1) := dL_b109.1
theorem dL_law_29 : decode cL_law 29 = .ok (.iaload, 1) := dL_b109.2.1
theorem dL_law_30 : decode cL_law 30 = .ok (.bipush 63, 2) := dL_b109.2.2.1
theorem dL_law_32 : decode cL_law 32 = .ok (.iand, 1) := dL_b109.2.2.2.1
theorem dL_law_33 : decode cL_law 33 = .ok (.tableswitch 1932 0 60 #[259, 322, 345, 358, 381, 414, 447, 480, 513, 536, 559, 602, 635, 658, 681, 714, 727, 740, 753, 776, 799, 832, 845, 868, 881, 894, 907, 940, 963, 986, 999, 1022, 1035, 1058, 1081, 1104, 1137, 1170, 1183, 1206, 1229, 1262, 1305, 1338, 1351, 1374, 1397, 1420, 1433, 1456, 1479, 1502, 1545, 1608, 1641, 1684, 1707, 1730, 1753, 1796, 1869], 259) := dL_b109.2.2.2.2.1
theorem dL_law_1971 : decode cL_law 1971 = .ok (.iconst 1, 1) := dL_b109.2.2.2.2.2.1
theorem dL_law_1972 : decode cL_law 1972 = .ok (.ireturn, 1) := dL_b109.2.2.2.2.2.2.1
theorem dL_law_0 : decode cL_law 0 = .ok (.new 7, 3) := dL_b109.2.2.2.2.2.2.2.1
theorem dL_law_3 : decode cL_law 3 = .ok (.dup, 1) := dL_b109.2.2.2.2.2.2.2.2.1
theorem dL_law_4 : decode cL_law 4 = .ok (.invokespecial 9, 3) := dL_b109.2.2.2.2.2.2.2.2.2.1
theorem dL_law_7 : decode cL_law 7 = .ok (.astore_n 1, 1) := dL_b109.2.2.2.2.2.2.2.2.2.2.1
theorem dL_law_8 : decode cL_law 8 = .ok (.new 10, 3) := dL_b109.2.2.2.2.2.2.2.2.2.2.2
theorem dL_b110 : (decode cL_law 11 = .ok (.dup, 1)) ∧ (decode cL_law 12 = .ok (.invokespecial 12, 3)) ∧ (decode cL_law 15 = .ok (.astore_n 2, 1)) ∧ (decode cL_law 16 = .ok (.iconst 0, 1)) ∧ (decode cL_law 17 = .ok (.istore_n 3, 1)) := by decide +kernel
theorem dL_law_11 : decode cL_law 11 = .ok (.dup, 1) := dL_b110.1
theorem dL_law_12 : decode cL_law 12 = .ok (.invokespecial 12, 3) := dL_b110.2.1
theorem dL_law_15 : decode cL_law 15 = .ok (.astore_n 2, 1) := dL_b110.2.2.1
theorem dL_law_16 : decode cL_law 16 = .ok (.iconst 0, 1) := dL_b110.2.2.2.1
theorem dL_law_17 : decode cL_law 17 = .ok (.istore_n 3, 1) := dL_b110.2.2.2.2
