theorem dL_law_1438 : decode cL_law 1438 = .ok (.aload_n 0, 1) := by decide +kernel
theorem dL_law_1439 : decode cL_law 1439 = .ok (.iload_n 3, 1) := by decide +kernel
theorem dL_law_1440 : decode cL_law 1440 = .ok (.iconst 1, 1) := by decide +kernel
theorem dL_law_1441 : decode cL_law 1441 = .ok (.iadd, 1) := by decide +kernel
theorem dL_law_1442 : decode cL_law 1442 = .ok (.iaload, 1) := by decide +kernel
theorem dL_law_1443 : decode cL_law 1443 = .ok (.aload_n 0, 1) := by decide +kernel
theorem dL_law_1444 : decode cL_law 1444 = .ok (.iload_n 3, 1) := by decide +kernel
theorem dL_law_1445 : decode cL_law 1445 = .ok (.iconst 2, 1) := by decide +kernel
theorem dL_law_1446 : decode cL_law 1446 = .ok (.iadd, 1) := by decide +kernel
theorem dL_law_1447 : decode cL_law 1447 = .ok (.iaload, 1) := by decide +kernel
theorem dL_law_1448 : decode cL_law 1448 = .ok (.invokevirtual 168, 3) := by decide +kernel
theorem dL_law_1451 : decode cL_law 1451 = .ok (.if_icmp .eq 387, 3) := by decide +kernel
theorem dL_law_1454 : decode cL_law 1454 = .ok (.iconst 0, 1) := by decide +kernel
theorem dL_law_1455 : decode cL_law 1455 = .ok (.ireturn, 1) := by decide +kernel
theorem dL_law_1456 : decode cL_law 1456 = .ok (.aload_n 1, 1) := by decide +kernel
theorem dL_law_1457 : decode cL_law 1457 = .ok (.invokevirtual 169, 3) := by decide +kernel
theorem dL_law_1460 : decode cL_law 1460 = .ok (.aload_n 2, 1) := by decide +kernel
theorem dL_law_1461 : decode cL_law 1461 = .ok (.invokevirtual 172, 3) := by decide +kernel
theorem dL_law_1464 : decode cL_law 1464 = .ok (.if_icmp .eq 374, 3) := by decide +kernel
theorem dL_law_1467 : decode cL_law 1467 = .ok (.iconst 0, 1) := by decide +kernel
theorem dL_law_1468 : decode cL_law 1468 = .ok (.ireturn, 1) := by decide +kernel
theorem dL_law_1469 : decode cL_law 1469 = .ok (.aload_n 1, 1) := by decide +kernel
theorem dL_law_1470 : decode cL_law 1470 = .ok (.invokevirtual 173, 3) := by decide +kernel
theorem dL_law_1473 : decode cL_law 1473 = .ok (.aload_n 2, 1) := by decide +kernel
theorem dL_law_1474 : decode cL_law 1474 = .ok (.invokevirtual 176, 3) := by decide +kernel
theorem dL_law_1477 : decode cL_law 1477 = .ok (.if_icmp .eq 361, 3) := by decide +kernel
theorem dL_law_1480 : decode cL_law 1480 = .ok (.iconst 0, 1) := by decide +kernel
theorem dL_law_1481 : decode cL_law 1481 = .ok (.ireturn, 1) := by decide +kernel
theorem dL_law_1482 : decode cL_law 1482 = .ok (.aload_n 1, 1) := by decide +kernel
theorem dL_law_1483 : decode cL_law 1483 = .ok (.aload_n 0, 1) := by decide +kernel
theorem dL_law_1484 : decode cL_law 1484 = .ok (.iload_n 3, 1) := by decide +kernel
theorem dL_law_1485 : decode cL_law 1485 = .ok (.iconst 1, 1) := by decide +kernel
theorem dL_law_1486 : decode cL_law 1486 = .ok (.iadd, 1) := by decide +kernel
theorem dL_law_1487 : decode cL_law 1487 = .ok (.iaload, 1) := by decide +kernel
theorem dL_law_1488 : decode cL_law 1488 = .ok (.aload_n 0, 1) := by decide +kernel
theorem dL_law_1489 : decode cL_law 1489 = .ok (.iload_n 3, 1) := by decide +kernel
theorem dL_law_1490 : decode cL_law 1490 = .ok (.iconst 2, 1) := by decide +kernel
theorem dL_law_1491 : decode cL_law 1491 = .ok (.iadd, 1) := by decide +kernel
theorem dL_law_1492 : decode cL_law 1492 = .ok (.iaload, 1) := by decide +kernel
theorem dL_law_1493 : decode cL_law 1493 = .ok (.invokevirtual 177, 3) := by decide +kernel
theorem dL_law_1496 : decode cL_law 1496 = .ok (.aload_n 2, 1) := by decide +kernel
theorem dL_law_1497 : decode cL_law 1497 = .ok (.aload_n 0, 1) := by decide +kernel
theorem dL_law_1498 : decode cL_law 1498 = .ok (.iload_n 3, 1) := by decide +kernel
theorem dL_law_1499 : decode cL_law 1499 = .ok (.iconst 1, 1) := by decide +kernel
theorem dL_law_1500 : decode cL_law 1500 = .ok (.iadd, 1) := by decide +kernel
theorem dL_law_1501 : decode cL_law 1501 = .ok (.iaload, 1) := by decide +kernel
theorem dL_law_1502 : decode cL_law 1502 = .ok (.aload_n 0, 1) := by decide +kernel
theorem dL_law_1503 : decode cL_law 1503 = .ok (.iload_n 3, 1) := by decide +kernel
theorem dL_law_1504 : decode cL_law 1504 = .ok (.iconst 2, 1) := by decide +kernel
theorem dL_law_1505 : decode cL_law 1505 = .ok (.iadd, 1) := by decide +kernel
theorem dL_law_1506 : decode cL_law 1506 = .ok (.iaload, 1) := by decide +kernel
theorem dL_law_1507 : decode cL_law 1507 = .ok (.invokevirtual 180, 3) := by decide +kernel
theorem dL_law_1510 : decode cL_law 1510 = .ok (.if_icmp .eq 328, 3) := by decide +kernel
theorem dL_law_1513 : decode cL_law 1513 = .ok (.iconst 0, 1) := by decide +kernel
theorem dL_law_1514 : decode cL_law 1514 = .ok (.ireturn, 1) := by decide +kernel
theorem dL_law_1515 : decode cL_law 1515 = .ok (.aload_n 1, 1) := by decide +kernel
theorem dL_law_1516 : decode cL_law 1516 = .ok (.aload_n 0, 1) := by decide +kernel
theorem dL_law_1517 : decode cL_law 1517 = .ok (.iload_n 3, 1) := by decide +kernel
theorem dL_law_1518 : decode cL_law 1518 = .ok (.iconst 1, 1) := by decide +kernel
theorem dL_law_1519 : decode cL_law 1519 = .ok (.iadd, 1) := by decide +kernel
theorem dL_law_1520 : decode cL_law 1520 = .ok (.iaload, 1) := by decide +kernel
theorem dL_law_1521 : decode cL_law 1521 = .ok (.aload_n 0, 1) := by decide +kernel
theorem dL_law_1522 : decode cL_law 1522 = .ok (.iload_n 3, 1) := by decide +kernel
theorem dL_law_1523 : decode cL_law 1523 = .ok (.iconst 2, 1) := by decide +kernel
theorem dL_law_1524 : decode cL_law 1524 = .ok (.iadd, 1) := by decide +kernel
theorem dL_law_1525 : decode cL_law 1525 = .ok (.iaload, 1) := by decide +kernel
theorem dL_law_1526 : decode cL_law 1526 = .ok (.invokevirtual 181, 3) := by decide +kernel
theorem dL_law_1529 : decode cL_law 1529 = .ok (.aload_n 2, 1) := by decide +kernel
theorem dL_law_1530 : decode cL_law 1530 = .ok (.aload_n 0, 1) := by decide +kernel
theorem dL_law_1531 : decode cL_law 1531 = .ok (.iload_n 3, 1) := by decide +kernel
theorem dL_law_1532 : decode cL_law 1532 = .ok (.iconst 1, 1) := by decide +kernel
theorem dL_law_1533 : decode cL_law 1533 = .ok (.iadd, 1) := by decide +kernel
theorem dL_law_1534 : decode cL_law 1534 = .ok (.iaload, 1) := by decide +kernel
theorem dL_law_1535 : decode cL_law 1535 = .ok (.aload_n 0, 1) := by decide +kernel
theorem dL_law_1536 : decode cL_law 1536 = .ok (.iload_n 3, 1) := by decide +kernel
theorem dL_law_1537 : decode cL_law 1537 = .ok (.iconst 2, 1) := by decide +kernel
theorem dL_law_1538 : decode cL_law 1538 = .ok (.iadd, 1) := by decide +kernel
theorem dL_law_1539 : decode cL_law 1539 = .ok (.iaload, 1) := by decide +kernel
theorem dL_law_1540 : decode cL_law 1540 = .ok (.invokevirtual 184, 3) := by decide +kernel
theorem dL_law_1543 : decode cL_law 1543 = .ok (.if_icmp .eq 295, 3) := by decide +kernel
theorem dL_law_1546 : decode cL_law 1546 = .ok (.iconst 0, 1) := by decide +kernel
theorem dL_law_1547 : decode cL_law 1547 = .ok (.ireturn, 1) := by decide +kernel
theorem dL_law_1548 : decode cL_law 1548 = .ok (.aload_n 1, 1) := by decide +kernel
theorem dL_law_1549 : decode cL_law 1549 = .ok (.aload_n 0, 1) := by decide +kernel
theorem dL_law_1550 : decode cL_law 1550 = .ok (.iload_n 3, 1) := by decide +kernel
theorem dL_law_1551 : decode cL_law 1551 = .ok (.iconst 1, 1) := by decide +kernel
theorem dL_law_1552 : decode cL_law 1552 = .ok (.iadd, 1) := by decide +kernel
theorem dL_law_1553 : decode cL_law 1553 = .ok (.iaload, 1) := by decide +kernel
theorem dL_law_1554 : decode cL_law 1554 = .ok (.aload_n 0, 1) := by decide +kernel
theorem dL_law_1555 : decode cL_law 1555 = .ok (.iload_n 3, 1) := by decide +kernel
theorem dL_law_1556 : decode cL_law 1556 = .ok (.iconst 2, 1) := by decide +kernel
theorem dL_law_1557 : decode cL_law 1557 = .ok (.iadd, 1) := by decide +kernel
theorem dL_law_1558 : decode cL_law 1558 = .ok (.iaload, 1) := by decide +kernel
theorem dL_law_1559 : decode cL_law 1559 = .ok (.aload_n 0, 1) := by decide +kernel
theorem dL_law_1560 : decode cL_law 1560 = .ok (.iload_n 3, 1) := by decide +kernel
theorem dL_law_1561 : decode cL_law 1561 = .ok (.iconst 3, 1) := by decide +kernel
theorem dL_law_1562 : decode cL_law 1562 = .ok (.iadd, 1) := by decide +kernel
theorem dL_law_1563 : decode cL_law 1563 = .ok (.iaload, 1) := by decide +kernel
theorem dL_law_1564 : decode cL_law 1564 = .ok (.invokevirtual 185, 3) := by decide +kernel
theorem dL_law_1567 : decode cL_law 1567 = .ok (.aload_n 2, 1) := by decide +kernel
theorem dL_law_1568 : decode cL_law 1568 = .ok (.aload_n 0, 1) := by decide +kernel
theorem dL_law_1569 : decode cL_law 1569 = .ok (.iload_n 3, 1) := by decide +kernel
theorem dL_law_1570 : decode cL_law 1570 = .ok (.iconst 1, 1) := by decide +kernel
theorem dL_law_1571 : decode cL_law 1571 = .ok (.iadd, 1) := by decide +kernel
theorem dL_law_1572 : decode cL_law 1572 = .ok (.iaload, 1) := by decide +kernel
theorem dL_law_1573 : decode cL_law 1573 = .ok (.aload_n 0, 1) := by decide +kernel
theorem dL_law_1574 : decode cL_law 1574 = .ok (.iload_n 3, 1) := by decide +kernel
theorem dL_law_1575 : decode cL_law 1575 = .ok (.iconst 2, 1) := by decide +kernel
theorem dL_law_1576 : decode cL_law 1576 = .ok (.iadd, 1) := by decide +kernel
theorem dL_law_1577 : decode cL_law 1577 = .ok (.iaload, 1) := by decide +kernel
