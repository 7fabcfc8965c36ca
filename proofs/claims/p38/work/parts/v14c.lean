theorem dL_law_1421 : decode cL_law 1421 = .ok (.aload_n 1, 1) := dc_aload1 (dl_at 1408 13 lb_44 rfl)
theorem dL_law_1422 : decode cL_law 1422 = .ok (.aload_n 0, 1) := dc_aload0 (dl_at 1408 14 lb_44 rfl)
theorem dL_law_1423 : decode cL_law 1423 = .ok (.iload_n 3, 1) := dc_iload3 (dl_at 1408 15 lb_44 rfl)
theorem dL_law_1424 : decode cL_law 1424 = .ok (.iconst 1, 1) := dc_iconst1 (dl_at 1408 16 lb_44 rfl)
theorem dL_law_1425 : decode cL_law 1425 = .ok (.iadd, 1) := dc_iadd (dl_at 1408 17 lb_44 rfl)
theorem dL_law_1426 : decode cL_law 1426 = .ok (.iaload, 1) := dc_iaload (dl_at 1408 18 lb_44 rfl)
theorem dL_law_1427 : decode cL_law 1427 = .ok (.aload_n 0, 1) := dc_aload0 (dl_at 1408 19 lb_44 rfl)
theorem dL_law_1428 : decode cL_law 1428 = .ok (.iload_n 3, 1) := dc_iload3 (dl_at 1408 20 lb_44 rfl)
theorem dL_law_1429 : decode cL_law 1429 = .ok (.iconst 2, 1) := dc_iconst2 (dl_at 1408 21 lb_44 rfl)
theorem dL_law_1430 : decode cL_law 1430 = .ok (.iadd, 1) := dc_iadd (dl_at 1408 22 lb_44 rfl)
theorem dL_law_1431 : decode cL_law 1431 = .ok (.iaload, 1) := dc_iaload (dl_at 1408 23 lb_44 rfl)
theorem dL_law_1432 : decode cL_law 1432 = .ok (.invokevirtual 174, 3) := dc_virt (a := 0) (b := 174) (dl_at 1408 24 lb_44 rfl) (dl_at 1408 25 lb_44 rfl) (dl_at 1408 26 lb_44 rfl)
theorem dL_law_1435 : decode cL_law 1435 = .ok (.pop, 1) := dc_pop (dl_at 1408 27 lb_44 rfl)
theorem dL_law_1436 : decode cL_law 1436 = .ok (.aload_n 2, 1) := dc_aload2 (dl_at 1408 28 lb_44 rfl)
theorem dL_law_1437 : decode cL_law 1437 = .ok (.aload_n 0, 1) := dc_aload0 (dl_at 1408 29 lb_44 rfl)
theorem dL_law_1438 : decode cL_law 1438 = .ok (.iload_n 3, 1) := dc_iload3 (dl_at 1408 30 lb_44 rfl)
theorem dL_law_1439 : decode cL_law 1439 = .ok (.iconst 1, 1) := dc_iconst1 (dl_at 1408 31 lb_44 rfl)
theorem dL_law_1440 : decode cL_law 1440 = .ok (.iadd, 1) := dc_iadd (dl_at 1440 0 lb_45 rfl)
theorem dL_law_1441 : decode cL_law 1441 = .ok (.iaload, 1) := dc_iaload (dl_at 1440 1 lb_45 rfl)
theorem dL_law_1442 : decode cL_law 1442 = .ok (.aload_n 0, 1) := dc_aload0 (dl_at 1440 2 lb_45 rfl)
theorem dL_law_1443 : decode cL_law 1443 = .ok (.iload_n 3, 1) := dc_iload3 (dl_at 1440 3 lb_45 rfl)
theorem dL_law_1444 : decode cL_law 1444 = .ok (.iconst 2, 1) := dc_iconst2 (dl_at 1440 4 lb_45 rfl)
theorem dL_law_1445 : decode cL_law 1445 = .ok (.iadd, 1) := dc_iadd (dl_at 1440 5 lb_45 rfl)
theorem dL_law_1446 : decode cL_law 1446 = .ok (.iaload, 1) := dc_iaload (dl_at 1440 6 lb_45 rfl)
theorem dL_law_1447 : decode cL_law 1447 = .ok (.invokevirtual 177, 3) := dc_virt (a := 0) (b := 177) (dl_at 1440 7 lb_45 rfl) (dl_at 1440 8 lb_45 rfl) (dl_at 1440 9 lb_45 rfl)
theorem dL_law_1450 : decode cL_law 1450 = .ok (.pop, 1) := dc_pop (dl_at 1440 10 lb_45 rfl)
theorem dL_law_1451 : decode cL_law 1451 = .ok (.goto 190, 3) := dc_goto (a := 0) (b := 190) (dl_at 1440 11 lb_45 rfl) (dl_at 1440 12 lb_45 rfl) (dl_at 1440 13 lb_45 rfl) (by decide +kernel)
theorem dL_law_1454 : decode cL_law 1454 = .ok (.aload_n 1, 1) := dc_aload1 (dl_at 1440 14 lb_45 rfl)
theorem dL_law_1455 : decode cL_law 1455 = .ok (.aload_n 0, 1) := dc_aload0 (dl_at 1440 15 lb_45 rfl)
theorem dL_law_1456 : decode cL_law 1456 = .ok (.iload_n 3, 1) := dc_iload3 (dl_at 1440 16 lb_45 rfl)
theorem dL_law_1457 : decode cL_law 1457 = .ok (.iconst 1, 1) := dc_iconst1 (dl_at 1440 17 lb_45 rfl)
theorem dL_law_1458 : decode cL_law 1458 = .ok (.iadd, 1) := dc_iadd (dl_at 1440 18 lb_45 rfl)
theorem dL_law_1459 : decode cL_law 1459 = .ok (.iaload, 1) := dc_iaload (dl_at 1440 19 lb_45 rfl)
theorem dL_law_1460 : decode cL_law 1460 = .ok (.aload_n 0, 1) := dc_aload0 (dl_at 1440 20 lb_45 rfl)
theorem dL_law_1461 : decode cL_law 1461 = .ok (.iload_n 3, 1) := dc_iload3 (dl_at 1440 21 lb_45 rfl)
theorem dL_law_1462 : decode cL_law 1462 = .ok (.iconst 2, 1) := dc_iconst2 (dl_at 1440 22 lb_45 rfl)
theorem dL_law_1463 : decode cL_law 1463 = .ok (.iadd, 1) := dc_iadd (dl_at 1440 23 lb_45 rfl)
theorem dL_law_1464 : decode cL_law 1464 = .ok (.iaload, 1) := dc_iaload (dl_at 1440 24 lb_45 rfl)
theorem dL_law_1465 : decode cL_law 1465 = .ok (.aload_n 0, 1) := dc_aload0 (dl_at 1440 25 lb_45 rfl)
theorem dL_law_1466 : decode cL_law 1466 = .ok (.iload_n 3, 1) := dc_iload3 (dl_at 1440 26 lb_45 rfl)
theorem dL_law_1467 : decode cL_law 1467 = .ok (.iconst 3, 1) := dc_iconst3 (dl_at 1440 27 lb_45 rfl)
theorem dL_law_1468 : decode cL_law 1468 = .ok (.iadd, 1) := dc_iadd (dl_at 1440 28 lb_45 rfl)
theorem dL_law_1469 : decode cL_law 1469 = .ok (.iaload, 1) := dc_iaload (dl_at 1440 29 lb_45 rfl)
theorem dL_law_1470 : decode cL_law 1470 = .ok (.invokevirtual 178, 3) := dc_virt (a := 0) (b := 178) (dl_at 1440 30 lb_45 rfl) (dl_at 1440 31 lb_45 rfl) (dl_at 1472 0 lb_46 rfl)
theorem dL_law_1473 : decode cL_law 1473 = .ok (.pop, 1) := dc_pop (dl_at 1472 1 lb_46 rfl)
theorem dL_law_1474 : decode cL_law 1474 = .ok (.aload_n 2, 1) := dc_aload2 (dl_at 1472 2 lb_46 rfl)
theorem dL_law_1475 : decode cL_law 1475 = .ok (.aload_n 0, 1) := dc_aload0 (dl_at 1472 3 lb_46 rfl)
theorem dL_law_1476 : decode cL_law 1476 = .ok (.iload_n 3, 1) := dc_iload3 (dl_at 1472 4 lb_46 rfl)
theorem dL_law_1477 : decode cL_law 1477 = .ok (.iconst 1, 1) := dc_iconst1 (dl_at 1472 5 lb_46 rfl)
theorem dL_law_1478 : decode cL_law 1478 = .ok (.iadd, 1) := dc_iadd (dl_at 1472 6 lb_46 rfl)
theorem dL_law_1479 : decode cL_law 1479 = .ok (.iaload, 1) := dc_iaload (dl_at 1472 7 lb_46 rfl)
theorem dL_law_1480 : decode cL_law 1480 = .ok (.aload_n 0, 1) := dc_aload0 (dl_at 1472 8 lb_46 rfl)
theorem dL_law_1481 : decode cL_law 1481 = .ok (.iload_n 3, 1) := dc_iload3 (dl_at 1472 9 lb_46 rfl)
theorem dL_law_1482 : decode cL_law 1482 = .ok (.iconst 2, 1) := dc_iconst2 (dl_at 1472 10 lb_46 rfl)
theorem dL_law_1483 : decode cL_law 1483 = .ok (.iadd, 1) := dc_iadd (dl_at 1472 11 lb_46 rfl)
theorem dL_law_1484 : decode cL_law 1484 = .ok (.iaload, 1) := dc_iaload (dl_at 1472 12 lb_46 rfl)
theorem dL_law_1485 : decode cL_law 1485 = .ok (.aload_n 0, 1) := dc_aload0 (dl_at 1472 13 lb_46 rfl)
theorem dL_law_1486 : decode cL_law 1486 = .ok (.iload_n 3, 1) := dc_iload3 (dl_at 1472 14 lb_46 rfl)
theorem dL_law_1487 : decode cL_law 1487 = .ok (.iconst 3, 1) := dc_iconst3 (dl_at 1472 15 lb_46 rfl)
theorem dL_law_1488 : decode cL_law 1488 = .ok (.iadd, 1) := dc_iadd (dl_at 1472 16 lb_46 rfl)
theorem dL_law_1489 : decode cL_law 1489 = .ok (.iaload, 1) := dc_iaload (dl_at 1472 17 lb_46 rfl)
theorem dL_law_1490 : decode cL_law 1490 = .ok (.invokevirtual 181, 3) := dc_virt (a := 0) (b := 181) (dl_at 1472 18 lb_46 rfl) (dl_at 1472 19 lb_46 rfl) (dl_at 1472 20 lb_46 rfl)
theorem dL_law_1493 : decode cL_law 1493 = .ok (.pop, 1) := dc_pop (dl_at 1472 21 lb_46 rfl)
theorem dL_law_1494 : decode cL_law 1494 = .ok (.goto 147, 3) := dc_goto (a := 0) (b := 147) (dl_at 1472 22 lb_46 rfl) (dl_at 1472 23 lb_46 rfl) (dl_at 1472 24 lb_46 rfl) (by decide +kernel)
theorem dL_law_1497 : decode cL_law 1497 = .ok (.aload_n 1, 1) := dc_aload1 (dl_at 1472 25 lb_46 rfl)
theorem dL_law_1498 : decode cL_law 1498 = .ok (.aload_n 0, 1) := dc_aload0 (dl_at 1472 26 lb_46 rfl)
theorem dL_law_1499 : decode cL_law 1499 = .ok (.iload_n 3, 1) := dc_iload3 (dl_at 1472 27 lb_46 rfl)
theorem dL_law_1500 : decode cL_law 1500 = .ok (.iconst 1, 1) := dc_iconst1 (dl_at 1472 28 lb_46 rfl)
theorem dL_law_1501 : decode cL_law 1501 = .ok (.iadd, 1) := dc_iadd (dl_at 1472 29 lb_46 rfl)
theorem dL_law_1502 : decode cL_law 1502 = .ok (.iaload, 1) := dc_iaload (dl_at 1472 30 lb_46 rfl)
theorem dL_law_1503 : decode cL_law 1503 = .ok (.aload_n 0, 1) := dc_aload0 (dl_at 1472 31 lb_46 rfl)
theorem dL_law_1504 : decode cL_law 1504 = .ok (.iload_n 3, 1) := dc_iload3 (dl_at 1504 0 lb_47 rfl)
theorem dL_law_1505 : decode cL_law 1505 = .ok (.iconst 2, 1) := dc_iconst2 (dl_at 1504 1 lb_47 rfl)
theorem dL_law_1506 : decode cL_law 1506 = .ok (.iadd, 1) := dc_iadd (dl_at 1504 2 lb_47 rfl)
theorem dL_law_1507 : decode cL_law 1507 = .ok (.iaload, 1) := dc_iaload (dl_at 1504 3 lb_47 rfl)
theorem dL_law_1508 : decode cL_law 1508 = .ok (.invokevirtual 182, 3) := dc_virt (a := 0) (b := 182) (dl_at 1504 4 lb_47 rfl) (dl_at 1504 5 lb_47 rfl) (dl_at 1504 6 lb_47 rfl)
theorem dL_law_1511 : decode cL_law 1511 = .ok (.pop, 1) := dc_pop (dl_at 1504 7 lb_47 rfl)
theorem dL_law_1512 : decode cL_law 1512 = .ok (.aload_n 2, 1) := dc_aload2 (dl_at 1504 8 lb_47 rfl)
theorem dL_law_1513 : decode cL_law 1513 = .ok (.aload_n 0, 1) := dc_aload0 (dl_at 1504 9 lb_47 rfl)
theorem dL_law_1514 : decode cL_law 1514 = .ok (.iload_n 3, 1) := dc_iload3 (dl_at 1504 10 lb_47 rfl)
theorem dL_law_1515 : decode cL_law 1515 = .ok (.iconst 1, 1) := dc_iconst1 (dl_at 1504 11 lb_47 rfl)
theorem dL_law_1516 : decode cL_law 1516 = .ok (.iadd, 1) := dc_iadd (dl_at 1504 12 lb_47 rfl)
theorem dL_law_1517 : decode cL_law 1517 = .ok (.iaload, 1) := dc_iaload (dl_at 1504 13 lb_47 rfl)
theorem dL_law_1518 : decode cL_law 1518 = .ok (.aload_n 0, 1) := dc_aload0 (dl_at 1504 14 lb_47 rfl)
theorem dL_law_1519 : decode cL_law 1519 = .ok (.iload_n 3, 1) := dc_iload3 (dl_at 1504 15 lb_47 rfl)
theorem dL_law_1520 : decode cL_law 1520 = .ok (.iconst 2, 1) := dc_iconst2 (dl_at 1504 16 lb_47 rfl)
theorem dL_law_1521 : decode cL_law 1521 = .ok (.iadd, 1) := dc_iadd (dl_at 1504 17 lb_47 rfl)
theorem dL_law_1522 : decode cL_law 1522 = .ok (.iaload, 1) := dc_iaload (dl_at 1504 18 lb_47 rfl)
theorem dL_law_1523 : decode cL_law 1523 = .ok (.invokevirtual 185, 3) := dc_virt (a := 0) (b := 185) (dl_at 1504 19 lb_47 rfl) (dl_at 1504 20 lb_47 rfl) (dl_at 1504 21 lb_47 rfl)
theorem dL_law_1526 : decode cL_law 1526 = .ok (.pop, 1) := dc_pop (dl_at 1504 22 lb_47 rfl)
theorem dL_law_1527 : decode cL_law 1527 = .ok (.goto 114, 3) := dc_goto (a := 0) (b := 114) (dl_at 1504 23 lb_47 rfl) (dl_at 1504 24 lb_47 rfl) (dl_at 1504 25 lb_47 rfl) (by decide +kernel)
theorem dL_law_1530 : decode cL_law 1530 = .ok (.aload_n 1, 1) := dc_aload1 (dl_at 1504 26 lb_47 rfl)
theorem dL_law_1531 : decode cL_law 1531 = .ok (.invokevirtual 186, 3) := dc_virt (a := 0) (b := 186) (dl_at 1504 27 lb_47 rfl) (dl_at 1504 28 lb_47 rfl) (dl_at 1504 29 lb_47 rfl)
theorem dL_law_1534 : decode cL_law 1534 = .ok (.pop, 1) := dc_pop (dl_at 1504 30 lb_47 rfl)
theorem dL_law_1535 : decode cL_law 1535 = .ok (.aload_n 2, 1) := dc_aload2 (dl_at 1504 31 lb_47 rfl)
theorem dL_law_1536 : decode cL_law 1536 = .ok (.invokevirtual 190, 3) := dc_virt (a := 0) (b := 190) (dl_at 1536 0 lb_48 rfl) (dl_at 1536 1 lb_48 rfl) (dl_at 1536 2 lb_48 rfl)
theorem dL_law_1539 : decode cL_law 1539 = .ok (.pop, 1) := dc_pop (dl_at 1536 3 lb_48 rfl)
theorem dL_law_1540 : decode cL_law 1540 = .ok (.goto 101, 3) := dc_goto (a := 0) (b := 101) (dl_at 1536 4 lb_48 rfl) (dl_at 1536 5 lb_48 rfl) (dl_at 1536 6 lb_48 rfl) (by decide +kernel)
theorem dL_law_1543 : decode cL_law 1543 = .ok (.aload_n 1, 1) := dc_aload1 (dl_at 1536 7 lb_48 rfl)
theorem dL_law_1544 : decode cL_law 1544 = .ok (.invokevirtual 191, 3) := dc_virt (a := 0) (b := 191) (dl_at 1536 8 lb_48 rfl) (dl_at 1536 9 lb_48 rfl) (dl_at 1536 10 lb_48 rfl)
theorem dL_law_1547 : decode cL_law 1547 = .ok (.pop2, 1) := dc_pop2 (dl_at 1536 11 lb_48 rfl)
theorem dL_law_1548 : decode cL_law 1548 = .ok (.aload_n 2, 1) := dc_aload2 (dl_at 1536 12 lb_48 rfl)
theorem dL_law_1549 : decode cL_law 1549 = .ok (.invokevirtual 195, 3) := dc_virt (a := 0) (b := 195) (dl_at 1536 13 lb_48 rfl) (dl_at 1536 14 lb_48 rfl) (dl_at 1536 15 lb_48 rfl)
theorem dL_law_1552 : decode cL_law 1552 = .ok (.pop2, 1) := dc_pop2 (dl_at 1536 16 lb_48 rfl)
theorem dL_law_1553 : decode cL_law 1553 = .ok (.goto 88, 3) := dc_goto (a := 0) (b := 88) (dl_at 1536 17 lb_48 rfl) (dl_at 1536 18 lb_48 rfl) (dl_at 1536 19 lb_48 rfl) (by decide +kernel)
theorem dL_law_1556 : decode cL_law 1556 = .ok (.aload_n 1, 1) := dc_aload1 (dl_at 1536 20 lb_48 rfl)
theorem dL_law_1557 : decode cL_law 1557 = .ok (.invokevirtual 196, 3) := dc_virt (a := 0) (b := 196) (dl_at 1536 21 lb_48 rfl) (dl_at 1536 22 lb_48 rfl) (dl_at 1536 23 lb_48 rfl)
theorem dL_law_1560 : decode cL_law 1560 = .ok (.pop2, 1) := dc_pop2 (dl_at 1536 24 lb_48 rfl)
theorem dL_law_1561 : decode cL_law 1561 = .ok (.aload_n 2, 1) := dc_aload2 (dl_at 1536 25 lb_48 rfl)
theorem dL_law_1562 : decode cL_law 1562 = .ok (.invokevirtual 199, 3) := dc_virt (a := 0) (b := 199) (dl_at 1536 26 lb_48 rfl) (dl_at 1536 27 lb_48 rfl) (dl_at 1536 28 lb_48 rfl)
theorem dL_law_1565 : decode cL_law 1565 = .ok (.pop2, 1) := dc_pop2 (dl_at 1536 29 lb_48 rfl)
theorem dL_law_1566 : decode cL_law 1566 = .ok (.goto 75, 3) := dc_goto (a := 0) (b := 75) (dl_at 1536 30 lb_48 rfl) (dl_at 1536 31 lb_48 rfl) (dl_at 1568 0 lb_49 rfl) (by decide +kernel)
theorem dL_law_1569 : decode cL_law 1569 = .ok (.aload_n 1, 1) := dc_aload1 (dl_at 1568 1 lb_49 rfl)
theorem dL_law_1570 : decode cL_law 1570 = .ok (.aload_n 0, 1) := dc_aload0 (dl_at 1568 2 lb_49 rfl)
theorem dL_law_1571 : decode cL_law 1571 = .ok (.iload_n 3, 1) := dc_iload3 (dl_at 1568 3 lb_49 rfl)
theorem dL_law_1572 : decode cL_law 1572 = .ok (.iconst 1, 1) := dc_iconst1 (dl_at 1568 4 lb_49 rfl)
theorem dL_law_1573 : decode cL_law 1573 = .ok (.iadd, 1) := dc_iadd (dl_at 1568 5 lb_49 rfl)
theorem dL_law_1574 : decode cL_law 1574 = .ok (.iaload, 1) := dc_iaload (dl_at 1568 6 lb_49 rfl)
theorem dL_law_1575 : decode cL_law 1575 = .ok (.invokevirtual 200, 3) := dc_virt (a := 0) (b := 200) (dl_at 1568 7 lb_49 rfl) (dl_at 1568 8 lb_49 rfl) (dl_at 1568 9 lb_49 rfl)
theorem dL_law_1578 : decode cL_law 1578 = .ok (.pop, 1) := dc_pop (dl_at 1568 10 lb_49 rfl)
theorem dL_law_1579 : decode cL_law 1579 = .ok (.aload_n 2, 1) := dc_aload2 (dl_at 1568 11 lb_49 rfl)
theorem dL_law_1580 : decode cL_law 1580 = .ok (.aload_n 0, 1) := dc_aload0 (dl_at 1568 12 lb_49 rfl)
theorem dL_law_1581 : decode cL_law 1581 = .ok (.iload_n 3, 1) := dc_iload3 (dl_at 1568 13 lb_49 rfl)
theorem dL_law_1582 : decode cL_law 1582 = .ok (.iconst 1, 1) := dc_iconst1 (dl_at 1568 14 lb_49 rfl)
theorem dL_law_1583 : decode cL_law 1583 = .ok (.iadd, 1) := dc_iadd (dl_at 1568 15 lb_49 rfl)
theorem dL_law_1584 : decode cL_law 1584 = .ok (.iaload, 1) := dc_iaload (dl_at 1568 16 lb_49 rfl)
theorem dL_law_1585 : decode cL_law 1585 = .ok (.invokevirtual 203, 3) := dc_virt (a := 0) (b := 203) (dl_at 1568 17 lb_49 rfl) (dl_at 1568 18 lb_49 rfl) (dl_at 1568 19 lb_49 rfl)
theorem dL_law_1588 : decode cL_law 1588 = .ok (.pop, 1) := dc_pop (dl_at 1568 20 lb_49 rfl)
theorem dL_law_1589 : decode cL_law 1589 = .ok (.goto 52, 3) := dc_goto (a := 0) (b := 52) (dl_at 1568 21 lb_49 rfl) (dl_at 1568 22 lb_49 rfl) (dl_at 1568 23 lb_49 rfl) (by decide +kernel)
theorem dL_law_1592 : decode cL_law 1592 = .ok (.aload_n 1, 1) := dc_aload1 (dl_at 1568 24 lb_49 rfl)
theorem dL_law_1593 : decode cL_law 1593 = .ok (.invokevirtual 204, 3) := dc_virt (a := 0) (b := 204) (dl_at 1568 25 lb_49 rfl) (dl_at 1568 26 lb_49 rfl) (dl_at 1568 27 lb_49 rfl)
theorem dL_law_1596 : decode cL_law 1596 = .ok (.pop, 1) := dc_pop (dl_at 1568 28 lb_49 rfl)
theorem dL_law_1597 : decode cL_law 1597 = .ok (.aload_n 2, 1) := dc_aload2 (dl_at 1568 29 lb_49 rfl)
theorem dL_law_1598 : decode cL_law 1598 = .ok (.invokevirtual 207, 3) := dc_virt (a := 0) (b := 207) (dl_at 1568 30 lb_49 rfl) (dl_at 1568 31 lb_49 rfl) (dl_at 1600 0 lb_50 rfl)
theorem dL_law_1601 : decode cL_law 1601 = .ok (.pop, 1) := dc_pop (dl_at 1600 1 lb_50 rfl)
theorem dL_law_1602 : decode cL_law 1602 = .ok (.goto 39, 3) := dc_goto (a := 0) (b := 39) (dl_at 1600 2 lb_50 rfl) (dl_at 1600 3 lb_50 rfl) (dl_at 1600 4 lb_50 rfl) (by decide +kernel)
theorem dL_law_1605 : decode cL_law 1605 = .ok (.aload_n 1, 1) := dc_aload1 (dl_at 1600 5 lb_50 rfl)
theorem dL_law_1606 : decode cL_law 1606 = .ok (.aload_n 0, 1) := dc_aload0 (dl_at 1600 6 lb_50 rfl)
theorem dL_law_1607 : decode cL_law 1607 = .ok (.iload_n 3, 1) := dc_iload3 (dl_at 1600 7 lb_50 rfl)
theorem dL_law_1608 : decode cL_law 1608 = .ok (.iconst 1, 1) := dc_iconst1 (dl_at 1600 8 lb_50 rfl)
theorem dL_law_1609 : decode cL_law 1609 = .ok (.iadd, 1) := dc_iadd (dl_at 1600 9 lb_50 rfl)
theorem dL_law_1610 : decode cL_law 1610 = .ok (.iaload, 1) := dc_iaload (dl_at 1600 10 lb_50 rfl)
theorem dL_law_1611 : decode cL_law 1611 = .ok (.invokevirtual 208, 3) := dc_virt (a := 0) (b := 208) (dl_at 1600 11 lb_50 rfl) (dl_at 1600 12 lb_50 rfl) (dl_at 1600 13 lb_50 rfl)
theorem dL_law_1614 : decode cL_law 1614 = .ok (.pop, 1) := dc_pop (dl_at 1600 14 lb_50 rfl)
theorem dL_law_1615 : decode cL_law 1615 = .ok (.aload_n 2, 1) := dc_aload2 (dl_at 1600 15 lb_50 rfl)
theorem dL_law_1616 : decode cL_law 1616 = .ok (.aload_n 0, 1) := dc_aload0 (dl_at 1600 16 lb_50 rfl)
theorem dL_law_1617 : decode cL_law 1617 = .ok (.iload_n 3, 1) := dc_iload3 (dl_at 1600 17 lb_50 rfl)
theorem dL_law_1618 : decode cL_law 1618 = .ok (.iconst 1, 1) := dc_iconst1 (dl_at 1600 18 lb_50 rfl)
theorem dL_law_1619 : decode cL_law 1619 = .ok (.iadd, 1) := dc_iadd (dl_at 1600 19 lb_50 rfl)
theorem dL_law_1620 : decode cL_law 1620 = .ok (.iaload, 1) := dc_iaload (dl_at 1600 20 lb_50 rfl)
theorem dL_law_1621 : decode cL_law 1621 = .ok (.invokevirtual 211, 3) := dc_virt (a := 0) (b := 211) (dl_at 1600 21 lb_50 rfl) (dl_at 1600 22 lb_50 rfl) (dl_at 1600 23 lb_50 rfl)
theorem dL_law_1624 : decode cL_law 1624 = .ok (.pop, 1) := dc_pop (dl_at 1600 24 lb_50 rfl)
theorem dL_law_1625 : decode cL_law 1625 = .ok (.goto 16, 3) := dc_goto (a := 0) (b := 16) (dl_at 1600 25 lb_50 rfl) (dl_at 1600 26 lb_50 rfl) (dl_at 1600 27 lb_50 rfl) (by decide +kernel)
theorem dL_law_1628 : decode cL_law 1628 = .ok (.aload_n 1, 1) := dc_aload1 (dl_at 1600 28 lb_50 rfl)
theorem dL_law_1629 : decode cL_law 1629 = .ok (.invokevirtual 212, 3) := dc_virt (a := 0) (b := 212) (dl_at 1600 29 lb_50 rfl) (dl_at 1600 30 lb_50 rfl) (dl_at 1600 31 lb_50 rfl)
theorem dL_law_1632 : decode cL_law 1632 = .ok (.pop2, 1) := dc_pop2 (dl_at 1632 0 lb_51 rfl)
theorem dL_law_1633 : decode cL_law 1633 = .ok (.aload_n 2, 1) := dc_aload2 (dl_at 1632 1 lb_51 rfl)
theorem dL_law_1634 : decode cL_law 1634 = .ok (.invokevirtual 215, 3) := dc_virt (a := 0) (b := 215) (dl_at 1632 2 lb_51 rfl) (dl_at 1632 3 lb_51 rfl) (dl_at 1632 4 lb_51 rfl)
theorem dL_law_1637 : decode cL_law 1637 = .ok (.pop2, 1) := dc_pop2 (dl_at 1632 5 lb_51 rfl)
theorem dL_law_1638 : decode cL_law 1638 = .ok (.goto 3, 3) := dc_goto (a := 0) (b := 3) (dl_at 1632 6 lb_51 rfl) (dl_at 1632 7 lb_51 rfl) (dl_at 1632 8 lb_51 rfl) (by decide +kernel)
set_option maxHeartbeats 4000000 in
set_option maxRecDepth 100000 in
theorem le_39 {p : Program} {e : Env} {s : State} {m : MethodId} {below : List Frame} {meth : Method} {c : Code} (l : Launch) {b L : Nat} {xs : Nat → Int32} {dC : Nat → ClassId} {dI : Nat → Nat → Nat} {cs : Nat → ClassId} {tt : Nat} {adx adm : Nat → Nat} {i : Int32} {cc : Int} (F1 : lw_F p s m meth c b L xs dC dI cs tt) {mux mum : Nat → Nat → Int32} {H : Heap} {locs : List Loc} {ls : Array Slot} (J0 : lw_J s b dC dI cs adx adm i cc mux mum H locs ls) (hL : L ≤ 384) (hcc : 1000 ≤ cc ∧ cc ≤ 900000) (hi : 0 ≤ i.toInt ∧ i.toInt + 6 ≤ L) (KE : ∀ (mux mum : Nat → Nat → Int32) (H : Heap) (locs : List Loc) (ls : Array Slot), lw_J s b dC dI cs adx adm i (cc + 1000) mux mum H locs ls → W p l e room_1 s m #[Value.ref b] below meth c H locs 178 3099 (lw_Z below #[Value.ref b] s) (F0 m 1641 ls [])) : W p l e room_1 s m #[Value.ref b] below meth c H locs 178 3099 (lw_Z below #[Value.ref b] s) (F0 m 1421 ls []) := by
  have F2 := F1
  have J1 := J0
  obtain ⟨C0, hKx, hKm, hz, hks⟩ := F1
  obtain ⟨hx, hb, hr, hml, hown0, hts0, hX, hbl, hlocks, hgv⟩ := C0
  obtain ⟨okx, okm, hsim, hPx, hPm, hD, hS, hl⟩ := J0
  have okx0 := okx
  have okm0 := okm
  have hown : s.vm.findClass RL = some m.cls := hown0
  have hts := hts0
  have hbA : ¬ (fun q : Nat => s.heap.size ≤ q) b := Nat.not_le.mpr hbl
  have hA : ∀ q : Nat, s.heap.size ≤ q → (fun q : Nat => s.heap.size ≤ q) q := fun _ h => h
  refine lv_aload_n hx hb dL_law_1421 rfl (lv_at hl 2 rfl) ?_
  refine lv_aload_n hx hb dL_law_1422 rfl (lv_at hl 3 rfl) ?_
  refine lv_iload_n hx hb dL_law_1423 rfl (lv_at hl 0 rfl) ?_
  refine lv_iconst (v := 1) hx hb dL_law_1424 (by decide) ?_
  refine lv_iadd hx hb dL_law_1425 ?_
  refine lv_topi (fun t1 et1 => ?_)
  have at1 : t1.toInt = i.toInt + 1 := by rw [et1]; exact tI_add rfl (rfl : (1 : Int32).toInt = _) (by show _ ≤ i.toInt + (1 : Int); omega) (by show i.toInt + (1 : Int) < _; omega)
  refine va_sld hx hb hX hbl hbA hS (show vp_in t1 L from vi_of (by omega) (by omega)) dL_law_1426 ?_
  refine lv_topi (fun a1 ea1 => ?_)
  refine lv_aload_n hx hb dL_law_1427 rfl (lv_at hl 3 rfl) ?_
  refine lv_iload_n hx hb dL_law_1428 rfl (lv_at hl 0 rfl) ?_
  refine lv_iconst (v := 2) hx hb dL_law_1429 (by decide) ?_
  refine lv_iadd hx hb dL_law_1430 ?_
  refine lv_topi (fun t2 et2 => ?_)
  have at2 : t2.toInt = i.toInt + 2 := by rw [et2]; exact tI_add rfl (rfl : (2 : Int32).toInt = _) (by show _ ≤ i.toInt + (2 : Int); omega) (by show i.toInt + (2 : Int) < _; omega)
  refine va_sld hx hb hX hbl hbA hS (show vp_in t2 L from vi_of (by omega) (by omega)) dL_law_1431 ?_
  refine lv_topi (fun a2 ea2 => ?_)
  have hDx := dl_left hD
  have hDm := dl_right hD
  have hFx := fr_all hDx hS hA
  refine va_calli (va_runV (As := [.int a1, .int a2]) (rest := []) ⟨hx, hb, hml, hown, hts⟩ (qx_sure l dC dI cs adx mux okx H hPx (hDx.weaken (fun _ _ _ _ => trivial)) a1 a2) (cwV 2 hts (wL_V mw_4_182 mw_4_179 mw_4_180 mw_4_181 mw_1_1) rfl rfl rfl (by decide +kernel) ⟨Nat.le_of_ble_eq_true rfl, Nat.le_of_ble_eq_true rfl⟩) ⟨sz_c, va_recv hKx hPx (ci := 11) (q0 := 0) rfl (gX_0 cs adx mux), sz_m hKx hz⟩ rfl rfl hl.1 rfl (lv_room (Nat.le_of_ble_eq_true rfl)) dL_law_1432 ⟨Nat.le_of_ble_eq_true rfl, Nat.le_of_ble_eq_true rfl⟩) hS (fun q _ h => hFx q h) hFx (fun r1 xi1 t H1 locs ht hvm hw1 hB hz1 hk1 hS => ?_)
  obtain ⟨okx, hw1, hkp1⟩ := hw1
  have hPx : va_P (dC, dI) vwCl (wR 157 adx (EX cs adx) xi1) H1 := by rw [← ht]; exact hB
  have hPm := kp_rest hD hPm hk1
  have hD : va_D (fun q : Nat => s.heap.size ≤ q) ((wR 157 adx (EX cs adx) xi1) ++ (wR 21 adm (EM cs adm) mum)) := wR_DD _ _ hD
  refine lv_pop hx hb dL_law_1435 rfl ?_
  refine lv_aload_n hx hb dL_law_1436 rfl (lv_at hl 1 rfl) ?_
  refine lv_aload_n hx hb dL_law_1437 rfl (lv_at hl 3 rfl) ?_
  refine lv_iload_n hx hb dL_law_1438 rfl (lv_at hl 0 rfl) ?_
  refine lv_iconst (v := 1) hx hb dL_law_1439 (by decide) ?_
  refine lv_iadd hx hb dL_law_1440 ?_
  refine lq_i t1 et1.symm ?_
  refine va_sld hx hb hX hbl hbA hS (show vp_in t1 L from vi_of (by omega) (by omega)) dL_law_1441 ?_
  refine lq_i a1 ea1.symm ?_
  refine lv_aload_n hx hb dL_law_1442 rfl (lv_at hl 3 rfl) ?_
  refine lv_iload_n hx hb dL_law_1443 rfl (lv_at hl 0 rfl) ?_
  refine lv_iconst (v := 2) hx hb dL_law_1444 (by decide) ?_
  refine lv_iadd hx hb dL_law_1445 ?_
  refine lq_i t2 et2.symm ?_
  refine va_sld hx hb hX hbl hbA hS (show vp_in t2 L from vi_of (by omega) (by omega)) dL_law_1446 ?_
  refine lq_i a2 ea2.symm ?_
  have hDx := dl_left hD
  have hDm := dl_right hD
  have hFm := fr_all hDm hS hA
  refine va_calli (va_runV (As := [.int a1, .int a2]) (rest := []) ⟨hx, hb, hml, hown, hts⟩ (qm_sure l dC dI cs adm mum okm H1 hPm (hDm.weaken (fun _ _ _ _ => trivial)) a1 a2) (cwV 2 hts (wL_V mw_7_28 mw_7_25 mw_7_26 mw_7_27 mw_1_13) rfl rfl rfl (by decide +kernel) ⟨Nat.le_of_ble_eq_true rfl, Nat.le_of_ble_eq_true rfl⟩) ⟨sz_c, va_recv hKm hPm (ci := 12) (q0 := 0) rfl (gM_0 cs adm mum), sz_m hKm hz⟩ rfl rfl hl.1 rfl (lv_room (Nat.le_of_ble_eq_true rfl)) dL_law_1447 ⟨Nat.le_of_ble_eq_true rfl, Nat.le_of_ble_eq_true rfl⟩) hS (fun q _ h => hFm q h) hFm (fun r2 xi2 t H2 locs ht hvm hw2 hB hz1 hk1 hS => ?_)
  obtain ⟨okm, hw2, hkp2⟩ := hw2
  have hPm : va_P (dC, dI) vwCl (wR 21 adm (EM cs adm) xi2) H2 := by rw [← ht]; exact hB
  have hPx := kp_rest (pm_D List.perm_append_comm hD) hPx hk1
  have hD : va_D (fun q : Nat => s.heap.size ≤ q) ((wR 157 adx (EX cs adx) xi1) ++ (wR 21 adm (EM cs adm) xi2)) := wR_DD _ _ hD
  refine lv_pop hx hb dL_law_1450 rfl ?_
  refine lv_goto (tgt := 1641) hx hb dL_law_1451 (by decide) ?_
  exact KE xi1 xi2 _ _ _ ⟨okx, okm, ⟨simT_keep (by decide) (by decide) hkp1 hkp2 hsim.1, core_keep okm0 (by decide) (by decide) hkp1 hkp2 hsim.2.1, mon_le (mon_keep (by decide) hkp2 hsim.2.2) (by omega)⟩, hPx, hPm, hD, hS, hl⟩
set_option maxHeartbeats 4000000 in
set_option maxRecDepth 100000 in
theorem le_40 {p : Program} {e : Env} {s : State} {m : MethodId} {below : List Frame} {meth : Method} {c : Code} (l : Launch) {b L : Nat} {xs : Nat → Int32} {dC : Nat → ClassId} {dI : Nat → Nat → Nat} {cs : Nat → ClassId} {tt : Nat} {adx adm : Nat → Nat} {i : Int32} {cc : Int} (F1 : lw_F p s m meth c b L xs dC dI cs tt) {mux mum : Nat → Nat → Int32} {H : Heap} {locs : List Loc} {ls : Array Slot} (J0 : lw_J s b dC dI cs adx adm i cc mux mum H locs ls) (hL : L ≤ 384) (hcc : 1000 ≤ cc ∧ cc ≤ 900000) (hi : 0 ≤ i.toInt ∧ i.toInt + 6 ≤ L) (KE : ∀ (mux mum : Nat → Nat → Int32) (H : Heap) (locs : List Loc) (ls : Array Slot), lw_J s b dC dI cs adx adm i (cc + 1000) mux mum H locs ls → W p l e room_1 s m #[Value.ref b] below meth c H locs 178 3099 (lw_Z below #[Value.ref b] s) (F0 m 1641 ls [])) : W p l e room_1 s m #[Value.ref b] below meth c H locs 178 3099 (lw_Z below #[Value.ref b] s) (F0 m 1454 ls []) := by
  have F2 := F1
  have J1 := J0
  obtain ⟨C0, hKx, hKm, hz, hks⟩ := F1
  obtain ⟨hx, hb, hr, hml, hown0, hts0, hX, hbl, hlocks, hgv⟩ := C0
  obtain ⟨okx, okm, hsim, hPx, hPm, hD, hS, hl⟩ := J0
  have okx0 := okx
  have okm0 := okm
  have hown : s.vm.findClass RL = some m.cls := hown0
  have hts := hts0
  have hbA : ¬ (fun q : Nat => s.heap.size ≤ q) b := Nat.not_le.mpr hbl
  have hA : ∀ q : Nat, s.heap.size ≤ q → (fun q : Nat => s.heap.size ≤ q) q := fun _ h => h
  refine lv_aload_n hx hb dL_law_1454 rfl (lv_at hl 2 rfl) ?_
  refine lv_aload_n hx hb dL_law_1455 rfl (lv_at hl 3 rfl) ?_
  refine lv_iload_n hx hb dL_law_1456 rfl (lv_at hl 0 rfl) ?_
  refine lv_iconst (v := 1) hx hb dL_law_1457 (by decide) ?_
  refine lv_iadd hx hb dL_law_1458 ?_
  refine lv_topi (fun t1 et1 => ?_)
  have at1 : t1.toInt = i.toInt + 1 := by rw [et1]; exact tI_add rfl (rfl : (1 : Int32).toInt = _) (by show _ ≤ i.toInt + (1 : Int); omega) (by show i.toInt + (1 : Int) < _; omega)
  refine va_sld hx hb hX hbl hbA hS (show vp_in t1 L from vi_of (by omega) (by omega)) dL_law_1459 ?_
  refine lv_topi (fun a1 ea1 => ?_)
  refine lv_aload_n hx hb dL_law_1460 rfl (lv_at hl 3 rfl) ?_
  refine lv_iload_n hx hb dL_law_1461 rfl (lv_at hl 0 rfl) ?_
  refine lv_iconst (v := 2) hx hb dL_law_1462 (by decide) ?_
  refine lv_iadd hx hb dL_law_1463 ?_
  refine lv_topi (fun t2 et2 => ?_)
  have at2 : t2.toInt = i.toInt + 2 := by rw [et2]; exact tI_add rfl (rfl : (2 : Int32).toInt = _) (by show _ ≤ i.toInt + (2 : Int); omega) (by show i.toInt + (2 : Int) < _; omega)
  refine va_sld hx hb hX hbl hbA hS (show vp_in t2 L from vi_of (by omega) (by omega)) dL_law_1464 ?_
  refine lv_topi (fun a2 ea2 => ?_)
  refine lv_aload_n hx hb dL_law_1465 rfl (lv_at hl 3 rfl) ?_
  refine lv_iload_n hx hb dL_law_1466 rfl (lv_at hl 0 rfl) ?_
  refine lv_iconst (v := 3) hx hb dL_law_1467 (by decide) ?_
  refine lv_iadd hx hb dL_law_1468 ?_
  refine lv_topi (fun t3 et3 => ?_)
  have at3 : t3.toInt = i.toInt + 3 := by rw [et3]; exact tI_add rfl (rfl : (3 : Int32).toInt = _) (by show _ ≤ i.toInt + (3 : Int); omega) (by show i.toInt + (3 : Int) < _; omega)
  refine va_sld hx hb hX hbl hbA hS (show vp_in t3 L from vi_of (by omega) (by omega)) dL_law_1469 ?_
  refine lv_topi (fun a3 ea3 => ?_)
  have hDx := dl_left hD
  have hDm := dl_right hD
  have hFx := fr_all hDx hS hA
  refine va_calli (va_runV (As := [.int a1, .int a2, .int a3]) (rest := []) ⟨hx, hb, hml, hown, hts⟩ (qx_first l dC dI cs adx mux okx H hPx (hDx.weaken (fun _ _ _ _ => trivial)) a1 a2 a3) (cwV 3 hts (wL_V mw_4_186 mw_4_183 mw_4_184 mw_4_185 mw_1_1) rfl rfl rfl (by decide +kernel) ⟨Nat.le_of_ble_eq_true rfl, Nat.le_of_ble_eq_true rfl⟩) ⟨sz_c, va_recv hKx hPx (ci := 11) (q0 := 0) rfl (gX_0 cs adx mux), sz_m hKx hz⟩ rfl rfl hl.1 rfl (lv_room (Nat.le_of_ble_eq_true rfl)) dL_law_1470 ⟨Nat.le_of_ble_eq_true rfl, Nat.le_of_ble_eq_true rfl⟩) hS (fun q _ h => hFx q h) hFx (fun r1 xi1 t H1 locs ht hvm hw1 hB hz1 hk1 hS => ?_)
  obtain ⟨okx, hw1, hkp1⟩ := hw1
  have hPx : va_P (dC, dI) vwCl (wR 157 adx (EX cs adx) xi1) H1 := by rw [← ht]; exact hB
  have hPm := kp_rest hD hPm hk1
  have hD : va_D (fun q : Nat => s.heap.size ≤ q) ((wR 157 adx (EX cs adx) xi1) ++ (wR 21 adm (EM cs adm) mum)) := wR_DD _ _ hD
  refine lv_pop hx hb dL_law_1473 rfl ?_
  refine lv_aload_n hx hb dL_law_1474 rfl (lv_at hl 1 rfl) ?_
  refine lv_aload_n hx hb dL_law_1475 rfl (lv_at hl 3 rfl) ?_
  refine lv_iload_n hx hb dL_law_1476 rfl (lv_at hl 0 rfl) ?_
  refine lv_iconst (v := 1) hx hb dL_law_1477 (by decide) ?_
  refine lv_iadd hx hb dL_law_1478 ?_
  refine lq_i t1 et1.symm ?_
  refine va_sld hx hb hX hbl hbA hS (show vp_in t1 L from vi_of (by omega) (by omega)) dL_law_1479 ?_
  refine lq_i a1 ea1.symm ?_
  refine lv_aload_n hx hb dL_law_1480 rfl (lv_at hl 3 rfl) ?_
  refine lv_iload_n hx hb dL_law_1481 rfl (lv_at hl 0 rfl) ?_
  refine lv_iconst (v := 2) hx hb dL_law_1482 (by decide) ?_
  refine lv_iadd hx hb dL_law_1483 ?_
  refine lq_i t2 et2.symm ?_
  refine va_sld hx hb hX hbl hbA hS (show vp_in t2 L from vi_of (by omega) (by omega)) dL_law_1484 ?_
  refine lq_i a2 ea2.symm ?_
  refine lv_aload_n hx hb dL_law_1485 rfl (lv_at hl 3 rfl) ?_
  refine lv_iload_n hx hb dL_law_1486 rfl (lv_at hl 0 rfl) ?_
  refine lv_iconst (v := 3) hx hb dL_law_1487 (by decide) ?_
  refine lv_iadd hx hb dL_law_1488 ?_
  refine lq_i t3 et3.symm ?_
  refine va_sld hx hb hX hbl hbA hS (show vp_in t3 L from vi_of (by omega) (by omega)) dL_law_1489 ?_
  refine lq_i a3 ea3.symm ?_
  have hDx := dl_left hD
  have hDm := dl_right hD
  have hFm := fr_all hDm hS hA
  refine va_calli (va_runV (As := [.int a1, .int a2, .int a3]) (rest := []) ⟨hx, hb, hml, hown, hts⟩ (qm_first l dC dI cs adm mum okm H1 hPm (hDm.weaken (fun _ _ _ _ => trivial)) a1 a2 a3) (cwV 3 hts (wL_V mw_7_32 mw_7_29 mw_7_30 mw_7_31 mw_1_13) rfl rfl rfl (by decide +kernel) ⟨Nat.le_of_ble_eq_true rfl, Nat.le_of_ble_eq_true rfl⟩) ⟨sz_c, va_recv hKm hPm (ci := 12) (q0 := 0) rfl (gM_0 cs adm mum), sz_m hKm hz⟩ rfl rfl hl.1 rfl (lv_room (Nat.le_of_ble_eq_true rfl)) dL_law_1490 ⟨Nat.le_of_ble_eq_true rfl, Nat.le_of_ble_eq_true rfl⟩) hS (fun q _ h => hFm q h) hFm (fun r2 xi2 t H2 locs ht hvm hw2 hB hz1 hk1 hS => ?_)
  obtain ⟨okm, hw2, hkp2⟩ := hw2
  have hPm : va_P (dC, dI) vwCl (wR 21 adm (EM cs adm) xi2) H2 := by rw [← ht]; exact hB
  have hPx := kp_rest (pm_D List.perm_append_comm hD) hPx hk1
  have hD : va_D (fun q : Nat => s.heap.size ≤ q) ((wR 157 adx (EX cs adx) xi1) ++ (wR 21 adm (EM cs adm) xi2)) := wR_DD _ _ hD
  refine lv_pop hx hb dL_law_1493 rfl ?_
  refine lv_goto (tgt := 1641) hx hb dL_law_1494 (by decide) ?_
  exact KE xi1 xi2 _ _ _ ⟨okx, okm, ⟨simT_keep (by decide) (by decide) hkp1 hkp2 hsim.1, core_keep okm0 (by decide) (by decide) hkp1 hkp2 hsim.2.1, mon_le (mon_keep (by decide) hkp2 hsim.2.2) (by omega)⟩, hPx, hPm, hD, hS, hl⟩
set_option maxHeartbeats 4000000 in
set_option maxRecDepth 100000 in
theorem le_41 {p : Program} {e : Env} {s : State} {m : MethodId} {below : List Frame} {meth : Method} {c : Code} (l : Launch) {b L : Nat} {xs : Nat → Int32} {dC : Nat → ClassId} {dI : Nat → Nat → Nat} {cs : Nat → ClassId} {tt : Nat} {adx adm : Nat → Nat} {i : Int32} {cc : Int} (F1 : lw_F p s m meth c b L xs dC dI cs tt) {mux mum : Nat → Nat → Int32} {H : Heap} {locs : List Loc} {ls : Array Slot} (J0 : lw_J s b dC dI cs adx adm i cc mux mum H locs ls) (hL : L ≤ 384) (hcc : 1000 ≤ cc ∧ cc ≤ 900000) (hi : 0 ≤ i.toInt ∧ i.toInt + 6 ≤ L) (KE : ∀ (mux mum : Nat → Nat → Int32) (H : Heap) (locs : List Loc) (ls : Array Slot), lw_J s b dC dI cs adx adm i (cc + 1000) mux mum H locs ls → W p l e room_1 s m #[Value.ref b] below meth c H locs 178 3099 (lw_Z below #[Value.ref b] s) (F0 m 1641 ls [])) : W p l e room_1 s m #[Value.ref b] below meth c H locs 178 3099 (lw_Z below #[Value.ref b] s) (F0 m 1497 ls []) := by
  have F2 := F1
  have J1 := J0
  obtain ⟨C0, hKx, hKm, hz, hks⟩ := F1
  obtain ⟨hx, hb, hr, hml, hown0, hts0, hX, hbl, hlocks, hgv⟩ := C0
  obtain ⟨okx, okm, hsim, hPx, hPm, hD, hS, hl⟩ := J0
  have okx0 := okx
  have okm0 := okm
  have hown : s.vm.findClass RL = some m.cls := hown0
  have hts := hts0
  have hbA : ¬ (fun q : Nat => s.heap.size ≤ q) b := Nat.not_le.mpr hbl
  have hA : ∀ q : Nat, s.heap.size ≤ q → (fun q : Nat => s.heap.size ≤ q) q := fun _ h => h
  refine lv_aload_n hx hb dL_law_1497 rfl (lv_at hl 2 rfl) ?_
  refine lv_aload_n hx hb dL_law_1498 rfl (lv_at hl 3 rfl) ?_
  refine lv_iload_n hx hb dL_law_1499 rfl (lv_at hl 0 rfl) ?_
  refine lv_iconst (v := 1) hx hb dL_law_1500 (by decide) ?_
  refine lv_iadd hx hb dL_law_1501 ?_
  refine lv_topi (fun t1 et1 => ?_)
  have at1 : t1.toInt = i.toInt + 1 := by rw [et1]; exact tI_add rfl (rfl : (1 : Int32).toInt = _) (by show _ ≤ i.toInt + (1 : Int); omega) (by show i.toInt + (1 : Int) < _; omega)
  refine va_sld hx hb hX hbl hbA hS (show vp_in t1 L from vi_of (by omega) (by omega)) dL_law_1502 ?_
  refine lv_topi (fun a1 ea1 => ?_)
  refine lv_aload_n hx hb dL_law_1503 rfl (lv_at hl 3 rfl) ?_
  refine lv_iload_n hx hb dL_law_1504 rfl (lv_at hl 0 rfl) ?_
  refine lv_iconst (v := 2) hx hb dL_law_1505 (by decide) ?_
  refine lv_iadd hx hb dL_law_1506 ?_
  refine lv_topi (fun t2 et2 => ?_)
  have at2 : t2.toInt = i.toInt + 2 := by rw [et2]; exact tI_add rfl (rfl : (2 : Int32).toInt = _) (by show _ ≤ i.toInt + (2 : Int); omega) (by show i.toInt + (2 : Int) < _; omega)
  refine va_sld hx hb hX hbl hbA hS (show vp_in t2 L from vi_of (by omega) (by omega)) dL_law_1507 ?_
  refine lv_topi (fun a2 ea2 => ?_)
  have hDx := dl_left hD
  have hDm := dl_right hD
  have hFx := fr_all hDx hS hA
  refine va_calli (va_runV (As := [.int a1, .int a2]) (rest := []) ⟨hx, hb, hml, hown, hts⟩ (qx_luck l dC dI cs adx mux okx H hPx (hDx.weaken (fun _ _ _ _ => trivial)) a1 a2) (cwV 2 hts (wL_V mw_4_190 mw_4_187 mw_4_188 mw_4_189 mw_1_1) rfl rfl rfl (by decide +kernel) ⟨Nat.le_of_ble_eq_true rfl, Nat.le_of_ble_eq_true rfl⟩) ⟨sz_c, va_recv hKx hPx (ci := 11) (q0 := 0) rfl (gX_0 cs adx mux), sz_m hKx hz⟩ rfl rfl hl.1 rfl (lv_room (Nat.le_of_ble_eq_true rfl)) dL_law_1508 ⟨Nat.le_of_ble_eq_true rfl, Nat.le_of_ble_eq_true rfl⟩) hS (fun q _ h => hFx q h) hFx (fun r1 xi1 t H1 locs ht hvm hw1 hB hz1 hk1 hS => ?_)
  obtain ⟨hfe1, okx, hw1, hkp1⟩ := hw1
  have hPx : va_P (dC, dI) vwCl (wR 157 adx (EX cs adx) xi1) H1 := by rw [← ht]; exact hB
  have hPm := kp_rest hD hPm hk1
  have hD : va_D (fun q : Nat => s.heap.size ≤ q) ((wR 157 adx (EX cs adx) xi1) ++ (wR 21 adm (EM cs adm) mum)) := wR_DD _ _ hD
  refine lv_pop hx hb dL_law_1511 rfl ?_
  refine lv_aload_n hx hb dL_law_1512 rfl (lv_at hl 1 rfl) ?_
  refine lv_aload_n hx hb dL_law_1513 rfl (lv_at hl 3 rfl) ?_
  refine lv_iload_n hx hb dL_law_1514 rfl (lv_at hl 0 rfl) ?_
  refine lv_iconst (v := 1) hx hb dL_law_1515 (by decide) ?_
  refine lv_iadd hx hb dL_law_1516 ?_
  refine lq_i t1 et1.symm ?_
  refine va_sld hx hb hX hbl hbA hS (show vp_in t1 L from vi_of (by omega) (by omega)) dL_law_1517 ?_
  refine lq_i a1 ea1.symm ?_
  refine lv_aload_n hx hb dL_law_1518 rfl (lv_at hl 3 rfl) ?_
  refine lv_iload_n hx hb dL_law_1519 rfl (lv_at hl 0 rfl) ?_
  refine lv_iconst (v := 2) hx hb dL_law_1520 (by decide) ?_
  refine lv_iadd hx hb dL_law_1521 ?_
  refine lq_i t2 et2.symm ?_
  refine va_sld hx hb hX hbl hbA hS (show vp_in t2 L from vi_of (by omega) (by omega)) dL_law_1522 ?_
  refine lq_i a2 ea2.symm ?_
  have hDx := dl_left hD
  have hDm := dl_right hD
  have hFm := fr_all hDm hS hA
  refine va_calli (va_runV (As := [.int a1, .int a2]) (rest := []) ⟨hx, hb, hml, hown, hts⟩ (qm_luck l dC dI cs adm mum okm H1 hPm (hDm.weaken (fun _ _ _ _ => trivial)) a1 a2) (cwV 2 hts (wL_V mw_7_36 mw_7_33 mw_7_34 mw_7_35 mw_1_13) rfl rfl rfl (by decide +kernel) ⟨Nat.le_of_ble_eq_true rfl, Nat.le_of_ble_eq_true rfl⟩) ⟨sz_c, va_recv hKm hPm (ci := 12) (q0 := 0) rfl (gM_0 cs adm mum), sz_m hKm hz⟩ rfl rfl hl.1 rfl (lv_room (Nat.le_of_ble_eq_true rfl)) dL_law_1523 ⟨Nat.le_of_ble_eq_true rfl, Nat.le_of_ble_eq_true rfl⟩) hS (fun q _ h => hFm q h) hFm (fun r2 xi2 t H2 locs ht hvm hw2 hB hz1 hk1 hS => ?_)
  obtain ⟨hfe2, okm, hw2, hkp2⟩ := hw2
  have hPm : va_P (dC, dI) vwCl (wR 21 adm (EM cs adm) xi2) H2 := by rw [← ht]; exact hB
  have hPx := kp_rest (pm_D List.perm_append_comm hD) hPx hk1
  have hD : va_D (fun q : Nat => s.heap.size ≤ q) ((wR 157 adx (EX cs adx) xi1) ++ (wR 21 adm (EM cs adm) xi2)) := wR_DD _ _ hD
  refine lv_pop hx hb dL_law_1526 rfl ?_
  refine lv_goto (tgt := 1641) hx hb dL_law_1527 (by decide) ?_
  exact KE xi1 xi2 _ _ _ ⟨okx, okm, ⟨simT_keep (by decide) (by decide) hkp1 hkp2 hsim.1, (luck_rel okm0 hsim.2.1 hfe1 hfe2).2, mon_le (luck_mon ⟨Int.le_trans (by decide) hcc.1, Int.le_trans hcc.2 (by decide)⟩ okm0 hsim.2.1 hsim.2.2 hfe2) (by omega)⟩, hPx, hPm, hD, hS, hl⟩
set_option maxHeartbeats 4000000 in
set_option maxRecDepth 100000 in
theorem le_42 {p : Program} {e : Env} {s : State} {m : MethodId} {below : List Frame} {meth : Method} {c : Code} (l : Launch) {b L : Nat} {xs : Nat → Int32} {dC : Nat → ClassId} {dI : Nat → Nat → Nat} {cs : Nat → ClassId} {tt : Nat} {adx adm : Nat → Nat} {i : Int32} {cc : Int} (F1 : lw_F p s m meth c b L xs dC dI cs tt) {mux mum : Nat → Nat → Int32} {H : Heap} {locs : List Loc} {ls : Array Slot} (J0 : lw_J s b dC dI cs adx adm i cc mux mum H locs ls) (hL : L ≤ 384) (hcc : 1000 ≤ cc ∧ cc ≤ 900000) (hi : 0 ≤ i.toInt ∧ i.toInt + 6 ≤ L) (KE : ∀ (mux mum : Nat → Nat → Int32) (H : Heap) (locs : List Loc) (ls : Array Slot), lw_J s b dC dI cs adx adm i (cc + 1000) mux mum H locs ls → W p l e room_1 s m #[Value.ref b] below meth c H locs 178 3099 (lw_Z below #[Value.ref b] s) (F0 m 1641 ls [])) : W p l e room_1 s m #[Value.ref b] below meth c H locs 178 3099 (lw_Z below #[Value.ref b] s) (F0 m 1530 ls []) := by
  have F2 := F1
  have J1 := J0
  obtain ⟨C0, hKx, hKm, hz, hks⟩ := F1
  obtain ⟨hx, hb, hr, hml, hown0, hts0, hX, hbl, hlocks, hgv⟩ := C0
  obtain ⟨okx, okm, hsim, hPx, hPm, hD, hS, hl⟩ := J0
  have okx0 := okx
  have okm0 := okm
  have hown : s.vm.findClass RL = some m.cls := hown0
  have hts := hts0
  have hbA : ¬ (fun q : Nat => s.heap.size ≤ q) b := Nat.not_le.mpr hbl
  have hA : ∀ q : Nat, s.heap.size ≤ q → (fun q : Nat => s.heap.size ≤ q) q := fun _ h => h
  refine lv_aload_n hx hb dL_law_1530 rfl (lv_at hl 2 rfl) ?_
  have hDx := dl_left hD
  have hDm := dl_right hD
  have hFx := fr_all hDx hS hA
  refine va_calli (va_runV (As := []) (rest := []) ⟨hx, hb, hml, hown, hts⟩ (qx_asked l dC dI cs adx mux okx H hPx (hDx.weaken (fun _ _ _ _ => trivial))) (cwV 0 hts (wL_V mw_4_199 mw_4_196 mw_4_197 mw_4_198 mw_1_1) rfl rfl rfl (by decide +kernel) ⟨Nat.le_of_ble_eq_true rfl, Nat.le_of_ble_eq_true rfl⟩) ⟨sz_c, va_recv hKx hPx (ci := 11) (q0 := 0) rfl (gX_0 cs adx mux), sz_m hKx hz⟩ rfl rfl hl.1 rfl (lv_room (Nat.le_of_ble_eq_true rfl)) dL_law_1531 ⟨Nat.le_of_ble_eq_true rfl, Nat.le_of_ble_eq_true rfl⟩) hS (fun q _ h => hFx q h) hFx (fun r1 xi1 t H1 locs ht hvm hw1 hB hz1 hk1 hS => ?_)
  obtain ⟨okx, hw1, hkp1⟩ := hw1
  have hPx : va_P (dC, dI) vwCl (wR 157 adx (EX cs adx) xi1) H1 := by rw [← ht]; exact hB
  have hPm := kp_rest hD hPm hk1
  have hD : va_D (fun q : Nat => s.heap.size ≤ q) ((wR 157 adx (EX cs adx) xi1) ++ (wR 21 adm (EM cs adm) mum)) := wR_DD _ _ hD
  refine lv_pop hx hb dL_law_1534 rfl ?_
  refine lv_aload_n hx hb dL_law_1535 rfl (lv_at hl 1 rfl) ?_
  have hDx := dl_left hD
  have hDm := dl_right hD
  have hFm := fr_all hDm hS hA
  refine va_calli (va_runV (As := []) (rest := []) ⟨hx, hb, hml, hown, hts⟩ (qm_asked l dC dI cs adm mum okm H1 hPm (hDm.weaken (fun _ _ _ _ => trivial))) (cwV 0 hts (wL_V mw_7_43 mw_7_40 mw_7_41 mw_7_42 mw_1_13) rfl rfl rfl (by decide +kernel) ⟨Nat.le_of_ble_eq_true rfl, Nat.le_of_ble_eq_true rfl⟩) ⟨sz_c, va_recv hKm hPm (ci := 12) (q0 := 0) rfl (gM_0 cs adm mum), sz_m hKm hz⟩ rfl rfl hl.1 rfl (lv_room (Nat.le_of_ble_eq_true rfl)) dL_law_1536 ⟨Nat.le_of_ble_eq_true rfl, Nat.le_of_ble_eq_true rfl⟩) hS (fun q _ h => hFm q h) hFm (fun r2 xi2 t H2 locs ht hvm hw2 hB hz1 hk1 hS => ?_)
  obtain ⟨okm, hw2, hkp2⟩ := hw2
  have hPm : va_P (dC, dI) vwCl (wR 21 adm (EM cs adm) xi2) H2 := by rw [← ht]; exact hB
  have hPx := kp_rest (pm_D List.perm_append_comm hD) hPx hk1
  have hD : va_D (fun q : Nat => s.heap.size ≤ q) ((wR 157 adx (EX cs adx) xi1) ++ (wR 21 adm (EM cs adm) xi2)) := wR_DD _ _ hD
  refine lv_pop hx hb dL_law_1539 rfl ?_
  refine lv_goto (tgt := 1641) hx hb dL_law_1540 (by decide) ?_
  exact KE xi1 xi2 _ _ _ ⟨okx, okm, ⟨simT_keep (by decide) (by decide) hkp1 hkp2 hsim.1, core_keep okm0 (by decide) (by decide) hkp1 hkp2 hsim.2.1, mon_le (mon_keep (by decide) hkp2 hsim.2.2) (by omega)⟩, hPx, hPm, hD, hS, hl⟩
set_option maxHeartbeats 4000000 in
set_option maxRecDepth 100000 in
theorem le_43 {p : Program} {e : Env} {s : State} {m : MethodId} {below : List Frame} {meth : Method} {c : Code} (l : Launch) {b L : Nat} {xs : Nat → Int32} {dC : Nat → ClassId} {dI : Nat → Nat → Nat} {cs : Nat → ClassId} {tt : Nat} {adx adm : Nat → Nat} {i : Int32} {cc : Int} (F1 : lw_F p s m meth c b L xs dC dI cs tt) {mux mum : Nat → Nat → Int32} {H : Heap} {locs : List Loc} {ls : Array Slot} (J0 : lw_J s b dC dI cs adx adm i cc mux mum H locs ls) (hL : L ≤ 384) (hcc : 1000 ≤ cc ∧ cc ≤ 900000) (hi : 0 ≤ i.toInt ∧ i.toInt + 6 ≤ L) (KE : ∀ (mux mum : Nat → Nat → Int32) (H : Heap) (locs : List Loc) (ls : Array Slot), lw_J s b dC dI cs adx adm i (cc + 1000) mux mum H locs ls → W p l e room_1 s m #[Value.ref b] below meth c H locs 178 3099 (lw_Z below #[Value.ref b] s) (F0 m 1641 ls [])) : W p l e room_1 s m #[Value.ref b] below meth c H locs 178 3099 (lw_Z below #[Value.ref b] s) (F0 m 1543 ls []) := by
  have F2 := F1
  have J1 := J0
  obtain ⟨C0, hKx, hKm, hz, hks⟩ := F1
  obtain ⟨hx, hb, hr, hml, hown0, hts0, hX, hbl, hlocks, hgv⟩ := C0
  obtain ⟨okx, okm, hsim, hPx, hPm, hD, hS, hl⟩ := J0
  have okx0 := okx
  have okm0 := okm
  have hown : s.vm.findClass RL = some m.cls := hown0
  have hts := hts0
  have hbA : ¬ (fun q : Nat => s.heap.size ≤ q) b := Nat.not_le.mpr hbl
  have hA : ∀ q : Nat, s.heap.size ≤ q → (fun q : Nat => s.heap.size ≤ q) q := fun _ h => h
  refine lv_aload_n hx hb dL_law_1543 rfl (lv_at hl 2 rfl) ?_
  have hDx := dl_left hD
  have hDm := dl_right hD
  have hFx := fr_all hDx hS hA
  refine va_calll (va_runV (As := []) (rest := []) ⟨hx, hb, hml, hown, hts⟩ (qx_upper l dC dI cs adx mux okx H hPx (hDx.weaken (fun _ _ _ _ => trivial))) (cwV 0 hts (wL_V mw_4_203 mw_4_200 mw_4_201 mw_4_202 mw_1_1) rfl rfl rfl (by decide +kernel) ⟨Nat.le_of_ble_eq_true rfl, Nat.le_of_ble_eq_true rfl⟩) ⟨sz_c, va_recv hKx hPx (ci := 11) (q0 := 0) rfl (gX_0 cs adx mux), sz_m hKx hz⟩ rfl rfl hl.1 rfl (lv_room (Nat.le_of_ble_eq_true rfl)) dL_law_1544 ⟨Nat.le_of_ble_eq_true rfl, Nat.le_of_ble_eq_true rfl⟩) hS (fun q _ h => hFx q h) hFx (fun r1 xi1 t H1 locs ht hvm hw1 hB hz1 hk1 hS => ?_)
  obtain ⟨hfe1, okx, hw1, hkp1⟩ := hw1
  have hPx : va_P (dC, dI) vwCl (wR 157 adx (EX cs adx) xi1) H1 := by rw [← ht]; exact hB
  have hPm := kp_rest hD hPm hk1
  have hD : va_D (fun q : Nat => s.heap.size ≤ q) ((wR 157 adx (EX cs adx) xi1) ++ (wR 21 adm (EM cs adm) mum)) := wR_DD _ _ hD
  refine lv_pop2_2 hx hb dL_law_1547 rfl ?_
  refine lv_aload_n hx hb dL_law_1548 rfl (lv_at hl 1 rfl) ?_
  have hDx := dl_left hD
  have hDm := dl_right hD
  have hFm := fr_all hDm hS hA
  refine va_calll (va_runV (As := []) (rest := []) ⟨hx, hb, hml, hown, hts⟩ (qm_upper l dC dI cs adm mum okm H1 hPm (hDm.weaken (fun _ _ _ _ => trivial))) (cwV 0 hts (wL_V mw_7_47 mw_7_44 mw_7_45 mw_7_46 mw_1_13) rfl rfl rfl (by decide +kernel) ⟨Nat.le_of_ble_eq_true rfl, Nat.le_of_ble_eq_true rfl⟩) ⟨sz_c, va_recv hKm hPm (ci := 12) (q0 := 0) rfl (gM_0 cs adm mum), sz_m hKm hz⟩ rfl rfl hl.1 rfl (lv_room (Nat.le_of_ble_eq_true rfl)) dL_law_1549 ⟨Nat.le_of_ble_eq_true rfl, Nat.le_of_ble_eq_true rfl⟩) hS (fun q _ h => hFm q h) hFm (fun r2 xi2 t H2 locs ht hvm hw2 hB hz1 hk1 hS => ?_)
  obtain ⟨hfe2, okm, hw2, hkp2⟩ := hw2
  have hPm : va_P (dC, dI) vwCl (wR 21 adm (EM cs adm) xi2) H2 := by rw [← ht]; exact hB
  have hPx := kp_rest (pm_D List.perm_append_comm hD) hPx hk1
  have hD : va_D (fun q : Nat => s.heap.size ≤ q) ((wR 157 adx (EX cs adx) xi1) ++ (wR 21 adm (EM cs adm) xi2)) := wR_DD _ _ hD
  refine lv_pop2_2 hx hb dL_law_1552 rfl ?_
  refine lv_goto (tgt := 1641) hx hb dL_law_1553 (by decide) ?_
  exact KE xi1 xi2 _ _ _ ⟨okx, okm, ⟨simT_keep (by decide) (by decide) hkp1 hkp2 hsim.1, core_keep okm0 (by decide) (by decide) hkp1 hkp2 hsim.2.1, mon_le (mon_keep (by decide) hkp2 hsim.2.2) (by omega)⟩, hPx, hPm, hD, hS, hl⟩
set_option maxHeartbeats 4000000 in
set_option maxRecDepth 100000 in
theorem le_44 {p : Program} {e : Env} {s : State} {m : MethodId} {below : List Frame} {meth : Method} {c : Code} (l : Launch) {b L : Nat} {xs : Nat → Int32} {dC : Nat → ClassId} {dI : Nat → Nat → Nat} {cs : Nat → ClassId} {tt : Nat} {adx adm : Nat → Nat} {i : Int32} {cc : Int} (F1 : lw_F p s m meth c b L xs dC dI cs tt) {mux mum : Nat → Nat → Int32} {H : Heap} {locs : List Loc} {ls : Array Slot} (J0 : lw_J s b dC dI cs adx adm i cc mux mum H locs ls) (hL : L ≤ 384) (hcc : 1000 ≤ cc ∧ cc ≤ 900000) (hi : 0 ≤ i.toInt ∧ i.toInt + 6 ≤ L) (KE : ∀ (mux mum : Nat → Nat → Int32) (H : Heap) (locs : List Loc) (ls : Array Slot), lw_J s b dC dI cs adx adm i (cc + 1000) mux mum H locs ls → W p l e room_1 s m #[Value.ref b] below meth c H locs 178 3099 (lw_Z below #[Value.ref b] s) (F0 m 1641 ls [])) : W p l e room_1 s m #[Value.ref b] below meth c H locs 178 3099 (lw_Z below #[Value.ref b] s) (F0 m 1556 ls []) := by
  have F2 := F1
  have J1 := J0
  obtain ⟨C0, hKx, hKm, hz, hks⟩ := F1
  obtain ⟨hx, hb, hr, hml, hown0, hts0, hX, hbl, hlocks, hgv⟩ := C0
  obtain ⟨okx, okm, hsim, hPx, hPm, hD, hS, hl⟩ := J0
  have okx0 := okx
  have okm0 := okm
  have hown : s.vm.findClass RL = some m.cls := hown0
  have hts := hts0
  have hbA : ¬ (fun q : Nat => s.heap.size ≤ q) b := Nat.not_le.mpr hbl
  have hA : ∀ q : Nat, s.heap.size ≤ q → (fun q : Nat => s.heap.size ≤ q) q := fun _ h => h
  refine lv_aload_n hx hb dL_law_1556 rfl (lv_at hl 2 rfl) ?_
  have hDx := dl_left hD
  have hDm := dl_right hD
  have hFx := fr_all hDx hS hA
  refine va_calll (va_runV (As := []) (rest := []) ⟨hx, hb, hml, hown, hts⟩ (qx_lower l dC dI cs adx mux okx H hPx (hDx.weaken (fun _ _ _ _ => trivial))) (cwV 0 hts (wL_V mw_4_221 mw_4_218 mw_4_219 mw_4_220 mw_1_1) rfl rfl rfl (by decide +kernel) ⟨Nat.le_of_ble_eq_true rfl, Nat.le_of_ble_eq_true rfl⟩) ⟨sz_c, va_recv hKx hPx (ci := 11) (q0 := 0) rfl (gX_0 cs adx mux), sz_m hKx hz⟩ rfl rfl hl.1 rfl (lv_room (Nat.le_of_ble_eq_true rfl)) dL_law_1557 ⟨Nat.le_of_ble_eq_true rfl, Nat.le_of_ble_eq_true rfl⟩) hS (fun q _ h => hFx q h) hFx (fun r1 xi1 t H1 locs ht hvm hw1 hB hz1 hk1 hS => ?_)
  obtain ⟨hfe1, okx, hw1, hkp1⟩ := hw1
  have hPx : va_P (dC, dI) vwCl (wR 157 adx (EX cs adx) xi1) H1 := by rw [← ht]; exact hB
  have hPm := kp_rest hD hPm hk1
  have hD : va_D (fun q : Nat => s.heap.size ≤ q) ((wR 157 adx (EX cs adx) xi1) ++ (wR 21 adm (EM cs adm) mum)) := wR_DD _ _ hD
  refine lv_pop2_2 hx hb dL_law_1560 rfl ?_
  refine lv_aload_n hx hb dL_law_1561 rfl (lv_at hl 1 rfl) ?_
  have hDx := dl_left hD
  have hDm := dl_right hD
  have hFm := fr_all hDm hS hA
  refine va_calll (va_runV (As := []) (rest := []) ⟨hx, hb, hml, hown, hts⟩ (qm_lower l dC dI cs adm mum okm H1 hPm (hDm.weaken (fun _ _ _ _ => trivial))) (cwV 0 hts (wL_V mw_7_62 mw_7_59 mw_7_60 mw_7_61 mw_1_13) rfl rfl rfl (by decide +kernel) ⟨Nat.le_of_ble_eq_true rfl, Nat.le_of_ble_eq_true rfl⟩) ⟨sz_c, va_recv hKm hPm (ci := 12) (q0 := 0) rfl (gM_0 cs adm mum), sz_m hKm hz⟩ rfl rfl hl.1 rfl (lv_room (Nat.le_of_ble_eq_true rfl)) dL_law_1562 ⟨Nat.le_of_ble_eq_true rfl, Nat.le_of_ble_eq_true rfl⟩) hS (fun q _ h => hFm q h) hFm (fun r2 xi2 t H2 locs ht hvm hw2 hB hz1 hk1 hS => ?_)
  obtain ⟨hfe2, okm, hw2, hkp2⟩ := hw2
  have hPm : va_P (dC, dI) vwCl (wR 21 adm (EM cs adm) xi2) H2 := by rw [← ht]; exact hB
  have hPx := kp_rest (pm_D List.perm_append_comm hD) hPx hk1
  have hD : va_D (fun q : Nat => s.heap.size ≤ q) ((wR 157 adx (EX cs adx) xi1) ++ (wR 21 adm (EM cs adm) xi2)) := wR_DD _ _ hD
  refine lv_pop2_2 hx hb dL_law_1565 rfl ?_
  refine lv_goto (tgt := 1641) hx hb dL_law_1566 (by decide) ?_
  exact KE xi1 xi2 _ _ _ ⟨okx, okm, ⟨simT_keep (by decide) (by decide) hkp1 hkp2 hsim.1, core_keep okm0 (by decide) (by decide) hkp1 hkp2 hsim.2.1, mon_le (mon_keep (by decide) hkp2 hsim.2.2) (by omega)⟩, hPx, hPm, hD, hS, hl⟩
set_option maxHeartbeats 4000000 in
set_option maxRecDepth 100000 in
theorem le_45 {p : Program} {e : Env} {s : State} {m : MethodId} {below : List Frame} {meth : Method} {c : Code} (l : Launch) {b L : Nat} {xs : Nat → Int32} {dC : Nat → ClassId} {dI : Nat → Nat → Nat} {cs : Nat → ClassId} {tt : Nat} {adx adm : Nat → Nat} {i : Int32} {cc : Int} (F1 : lw_F p s m meth c b L xs dC dI cs tt) {mux mum : Nat → Nat → Int32} {H : Heap} {locs : List Loc} {ls : Array Slot} (J0 : lw_J s b dC dI cs adx adm i cc mux mum H locs ls) (hL : L ≤ 384) (hcc : 1000 ≤ cc ∧ cc ≤ 900000) (hi : 0 ≤ i.toInt ∧ i.toInt + 6 ≤ L) (KE : ∀ (mux mum : Nat → Nat → Int32) (H : Heap) (locs : List Loc) (ls : Array Slot), lw_J s b dC dI cs adx adm i (cc + 1000) mux mum H locs ls → W p l e room_1 s m #[Value.ref b] below meth c H locs 178 3099 (lw_Z below #[Value.ref b] s) (F0 m 1641 ls [])) : W p l e room_1 s m #[Value.ref b] below meth c H locs 178 3099 (lw_Z below #[Value.ref b] s) (F0 m 1569 ls []) := by
  have F2 := F1
  have J1 := J0
  obtain ⟨C0, hKx, hKm, hz, hks⟩ := F1
  obtain ⟨hx, hb, hr, hml, hown0, hts0, hX, hbl, hlocks, hgv⟩ := C0
  obtain ⟨okx, okm, hsim, hPx, hPm, hD, hS, hl⟩ := J0
  have okx0 := okx
  have okm0 := okm
  have hown : s.vm.findClass RL = some m.cls := hown0
  have hts := hts0
  have hbA : ¬ (fun q : Nat => s.heap.size ≤ q) b := Nat.not_le.mpr hbl
  have hA : ∀ q : Nat, s.heap.size ≤ q → (fun q : Nat => s.heap.size ≤ q) q := fun _ h => h
  refine lv_aload_n hx hb dL_law_1569 rfl (lv_at hl 2 rfl) ?_
  refine lv_aload_n hx hb dL_law_1570 rfl (lv_at hl 3 rfl) ?_
  refine lv_iload_n hx hb dL_law_1571 rfl (lv_at hl 0 rfl) ?_
  refine lv_iconst (v := 1) hx hb dL_law_1572 (by decide) ?_
  refine lv_iadd hx hb dL_law_1573 ?_
  refine lv_topi (fun t1 et1 => ?_)
  have at1 : t1.toInt = i.toInt + 1 := by rw [et1]; exact tI_add rfl (rfl : (1 : Int32).toInt = _) (by show _ ≤ i.toInt + (1 : Int); omega) (by show i.toInt + (1 : Int) < _; omega)
  refine va_sld hx hb hX hbl hbA hS (show vp_in t1 L from vi_of (by omega) (by omega)) dL_law_1574 ?_
  refine lv_topi (fun a1 ea1 => ?_)
  have hDx := dl_left hD
  have hDm := dl_right hD
  have hFx := fr_all hDx hS hA
  refine va_calli (va_runV (As := [.int a1]) (rest := []) ⟨hx, hb, hml, hown, hts⟩ (qx_count l dC dI cs adx mux okx H hPx (hDx.weaken (fun _ _ _ _ => trivial)) a1) (cwV 1 hts (wL_V mw_4_225 mw_4_222 mw_4_223 mw_4_224 mw_1_1) rfl rfl rfl (by decide +kernel) ⟨Nat.le_of_ble_eq_true rfl, Nat.le_of_ble_eq_true rfl⟩) ⟨sz_c, va_recv hKx hPx (ci := 11) (q0 := 0) rfl (gX_0 cs adx mux), sz_m hKx hz⟩ rfl rfl hl.1 rfl (lv_room (Nat.le_of_ble_eq_true rfl)) dL_law_1575 ⟨Nat.le_of_ble_eq_true rfl, Nat.le_of_ble_eq_true rfl⟩) hS (fun q _ h => hFx q h) hFx (fun r1 xi1 t H1 locs ht hvm hw1 hB hz1 hk1 hS => ?_)
  obtain ⟨okx, hw1, hkp1⟩ := hw1
  have hPx : va_P (dC, dI) vwCl (wR 157 adx (EX cs adx) xi1) H1 := by rw [← ht]; exact hB
  have hPm := kp_rest hD hPm hk1
  have hD : va_D (fun q : Nat => s.heap.size ≤ q) ((wR 157 adx (EX cs adx) xi1) ++ (wR 21 adm (EM cs adm) mum)) := wR_DD _ _ hD
  refine lv_pop hx hb dL_law_1578 rfl ?_
  refine lv_aload_n hx hb dL_law_1579 rfl (lv_at hl 1 rfl) ?_
  refine lv_aload_n hx hb dL_law_1580 rfl (lv_at hl 3 rfl) ?_
  refine lv_iload_n hx hb dL_law_1581 rfl (lv_at hl 0 rfl) ?_
  refine lv_iconst (v := 1) hx hb dL_law_1582 (by decide) ?_
  refine lv_iadd hx hb dL_law_1583 ?_
  refine lq_i t1 et1.symm ?_
  refine va_sld hx hb hX hbl hbA hS (show vp_in t1 L from vi_of (by omega) (by omega)) dL_law_1584 ?_
  refine lq_i a1 ea1.symm ?_
  have hDx := dl_left hD
  have hDm := dl_right hD
  have hFm := fr_all hDm hS hA
  refine va_calli (va_runV (As := [.int a1]) (rest := []) ⟨hx, hb, hml, hown, hts⟩ (qm_count l dC dI cs adm mum okm H1 hPm (hDm.weaken (fun _ _ _ _ => trivial)) a1) (cwV 1 hts (wL_V mw_7_66 mw_7_63 mw_7_64 mw_7_65 mw_1_13) rfl rfl rfl (by decide +kernel) ⟨Nat.le_of_ble_eq_true rfl, Nat.le_of_ble_eq_true rfl⟩) ⟨sz_c, va_recv hKm hPm (ci := 12) (q0 := 0) rfl (gM_0 cs adm mum), sz_m hKm hz⟩ rfl rfl hl.1 rfl (lv_room (Nat.le_of_ble_eq_true rfl)) dL_law_1585 ⟨Nat.le_of_ble_eq_true rfl, Nat.le_of_ble_eq_true rfl⟩) hS (fun q _ h => hFm q h) hFm (fun r2 xi2 t H2 locs ht hvm hw2 hB hz1 hk1 hS => ?_)
  obtain ⟨okm, hw2, hkp2⟩ := hw2
  have hPm : va_P (dC, dI) vwCl (wR 21 adm (EM cs adm) xi2) H2 := by rw [← ht]; exact hB
  have hPx := kp_rest (pm_D List.perm_append_comm hD) hPx hk1
  have hD : va_D (fun q : Nat => s.heap.size ≤ q) ((wR 157 adx (EX cs adx) xi1) ++ (wR 21 adm (EM cs adm) xi2)) := wR_DD _ _ hD
  refine lv_pop hx hb dL_law_1588 rfl ?_
  refine lv_goto (tgt := 1641) hx hb dL_law_1589 (by decide) ?_
  exact KE xi1 xi2 _ _ _ ⟨okx, okm, ⟨simT_keep (by decide) (by decide) hkp1 hkp2 hsim.1, core_keep okm0 (by decide) (by decide) hkp1 hkp2 hsim.2.1, mon_le (mon_keep (by decide) hkp2 hsim.2.2) (by omega)⟩, hPx, hPm, hD, hS, hl⟩
set_option maxHeartbeats 4000000 in
set_option maxRecDepth 100000 in
theorem le_46 {p : Program} {e : Env} {s : State} {m : MethodId} {below : List Frame} {meth : Method} {c : Code} (l : Launch) {b L : Nat} {xs : Nat → Int32} {dC : Nat → ClassId} {dI : Nat → Nat → Nat} {cs : Nat → ClassId} {tt : Nat} {adx adm : Nat → Nat} {i : Int32} {cc : Int} (F1 : lw_F p s m meth c b L xs dC dI cs tt) {mux mum : Nat → Nat → Int32} {H : Heap} {locs : List Loc} {ls : Array Slot} (J0 : lw_J s b dC dI cs adx adm i cc mux mum H locs ls) (hL : L ≤ 384) (hcc : 1000 ≤ cc ∧ cc ≤ 900000) (hi : 0 ≤ i.toInt ∧ i.toInt + 6 ≤ L) (KE : ∀ (mux mum : Nat → Nat → Int32) (H : Heap) (locs : List Loc) (ls : Array Slot), lw_J s b dC dI cs adx adm i (cc + 1000) mux mum H locs ls → W p l e room_1 s m #[Value.ref b] below meth c H locs 178 3099 (lw_Z below #[Value.ref b] s) (F0 m 1641 ls [])) : W p l e room_1 s m #[Value.ref b] below meth c H locs 178 3099 (lw_Z below #[Value.ref b] s) (F0 m 1592 ls []) := by
  have F2 := F1
  have J1 := J0
  obtain ⟨C0, hKx, hKm, hz, hks⟩ := F1
  obtain ⟨hx, hb, hr, hml, hown0, hts0, hX, hbl, hlocks, hgv⟩ := C0
  obtain ⟨okx, okm, hsim, hPx, hPm, hD, hS, hl⟩ := J0
  have okx0 := okx
  have okm0 := okm
  have hown : s.vm.findClass RL = some m.cls := hown0
  have hts := hts0
  have hbA : ¬ (fun q : Nat => s.heap.size ≤ q) b := Nat.not_le.mpr hbl
  have hA : ∀ q : Nat, s.heap.size ≤ q → (fun q : Nat => s.heap.size ≤ q) q := fun _ h => h
  refine lv_aload_n hx hb dL_law_1592 rfl (lv_at hl 2 rfl) ?_
  have hDx := dl_left hD
  have hDm := dl_right hD
  have hFx := fr_all hDx hS hA
  refine va_calli (va_runV (As := []) (rest := []) ⟨hx, hb, hml, hown, hts⟩ (qx_finding l dC dI cs adx mux okx H hPx (hDx.weaken (fun _ _ _ _ => trivial))) (cwV 0 hts (wL_V mw_5_1 mw_4_238 mw_4_239 mw_5_0 mw_1_1) rfl rfl rfl (by decide +kernel) ⟨Nat.le_of_ble_eq_true rfl, Nat.le_of_ble_eq_true rfl⟩) ⟨sz_c, va_recv hKx hPx (ci := 11) (q0 := 0) rfl (gX_0 cs adx mux), sz_m hKx hz⟩ rfl rfl hl.1 rfl (lv_room (Nat.le_of_ble_eq_true rfl)) dL_law_1593 ⟨Nat.le_of_ble_eq_true rfl, Nat.le_of_ble_eq_true rfl⟩) hS (fun q _ h => hFx q h) hFx (fun r1 xi1 t H1 locs ht hvm hw1 hB hz1 hk1 hS => ?_)
  obtain ⟨okx, hw1, hkp1⟩ := hw1
  have hPx : va_P (dC, dI) vwCl (wR 157 adx (EX cs adx) xi1) H1 := by rw [← ht]; exact hB
  have hPm := kp_rest hD hPm hk1
  have hD : va_D (fun q : Nat => s.heap.size ≤ q) ((wR 157 adx (EX cs adx) xi1) ++ (wR 21 adm (EM cs adm) mum)) := wR_DD _ _ hD
  refine lv_pop hx hb dL_law_1596 rfl ?_
  refine lv_aload_n hx hb dL_law_1597 rfl (lv_at hl 1 rfl) ?_
  have hDx := dl_left hD
  have hDm := dl_right hD
  have hFm := fr_all hDm hS hA
  refine va_calli (va_runV (As := []) (rest := []) ⟨hx, hb, hml, hown, hts⟩ (qm_finding l dC dI cs adm mum okm H1 hPm (hDm.weaken (fun _ _ _ _ => trivial))) (cwV 0 hts (wL_V mw_7_74 mw_7_71 mw_7_72 mw_7_73 mw_1_13) rfl rfl rfl (by decide +kernel) ⟨Nat.le_of_ble_eq_true rfl, Nat.le_of_ble_eq_true rfl⟩) ⟨sz_c, va_recv hKm hPm (ci := 12) (q0 := 0) rfl (gM_0 cs adm mum), sz_m hKm hz⟩ rfl rfl hl.1 rfl (lv_room (Nat.le_of_ble_eq_true rfl)) dL_law_1598 ⟨Nat.le_of_ble_eq_true rfl, Nat.le_of_ble_eq_true rfl⟩) hS (fun q _ h => hFm q h) hFm (fun r2 xi2 t H2 locs ht hvm hw2 hB hz1 hk1 hS => ?_)
  obtain ⟨okm, hw2, hkp2⟩ := hw2
  have hPm : va_P (dC, dI) vwCl (wR 21 adm (EM cs adm) xi2) H2 := by rw [← ht]; exact hB
  have hPx := kp_rest (pm_D List.perm_append_comm hD) hPx hk1
  have hD : va_D (fun q : Nat => s.heap.size ≤ q) ((wR 157 adx (EX cs adx) xi1) ++ (wR 21 adm (EM cs adm) xi2)) := wR_DD _ _ hD
  refine lv_pop hx hb dL_law_1601 rfl ?_
  refine lv_goto (tgt := 1641) hx hb dL_law_1602 (by decide) ?_
  exact KE xi1 xi2 _ _ _ ⟨okx, okm, ⟨simT_keep (by decide) (by decide) hkp1 hkp2 hsim.1, core_keep okm0 (by decide) (by decide) hkp1 hkp2 hsim.2.1, mon_le (mon_keep (by decide) hkp2 hsim.2.2) (by omega)⟩, hPx, hPm, hD, hS, hl⟩
set_option maxHeartbeats 4000000 in
set_option maxRecDepth 100000 in
theorem le_47 {p : Program} {e : Env} {s : State} {m : MethodId} {below : List Frame} {meth : Method} {c : Code} (l : Launch) {b L : Nat} {xs : Nat → Int32} {dC : Nat → ClassId} {dI : Nat → Nat → Nat} {cs : Nat → ClassId} {tt : Nat} {adx adm : Nat → Nat} {i : Int32} {cc : Int} (F1 : lw_F p s m meth c b L xs dC dI cs tt) {mux mum : Nat → Nat → Int32} {H : Heap} {locs : List Loc} {ls : Array Slot} (J0 : lw_J s b dC dI cs adx adm i cc mux mum H locs ls) (hL : L ≤ 384) (hcc : 1000 ≤ cc ∧ cc ≤ 900000) (hi : 0 ≤ i.toInt ∧ i.toInt + 6 ≤ L) (KE : ∀ (mux mum : Nat → Nat → Int32) (H : Heap) (locs : List Loc) (ls : Array Slot), lw_J s b dC dI cs adx adm i (cc + 1000) mux mum H locs ls → W p l e room_1 s m #[Value.ref b] below meth c H locs 178 3099 (lw_Z below #[Value.ref b] s) (F0 m 1641 ls [])) : W p l e room_1 s m #[Value.ref b] below meth c H locs 178 3099 (lw_Z below #[Value.ref b] s) (F0 m 1605 ls []) := by
  have F2 := F1
  have J1 := J0
  obtain ⟨C0, hKx, hKm, hz, hks⟩ := F1
  obtain ⟨hx, hb, hr, hml, hown0, hts0, hX, hbl, hlocks, hgv⟩ := C0
  obtain ⟨okx, okm, hsim, hPx, hPm, hD, hS, hl⟩ := J0
  have okx0 := okx
  have okm0 := okm
  have hown : s.vm.findClass RL = some m.cls := hown0
  have hts := hts0
  have hbA : ¬ (fun q : Nat => s.heap.size ≤ q) b := Nat.not_le.mpr hbl
  have hA : ∀ q : Nat, s.heap.size ≤ q → (fun q : Nat => s.heap.size ≤ q) q := fun _ h => h
  refine lv_aload_n hx hb dL_law_1605 rfl (lv_at hl 2 rfl) ?_
  refine lv_aload_n hx hb dL_law_1606 rfl (lv_at hl 3 rfl) ?_
  refine lv_iload_n hx hb dL_law_1607 rfl (lv_at hl 0 rfl) ?_
  refine lv_iconst (v := 1) hx hb dL_law_1608 (by decide) ?_
  refine lv_iadd hx hb dL_law_1609 ?_
  refine lv_topi (fun t1 et1 => ?_)
  have at1 : t1.toInt = i.toInt + 1 := by rw [et1]; exact tI_add rfl (rfl : (1 : Int32).toInt = _) (by show _ ≤ i.toInt + (1 : Int); omega) (by show i.toInt + (1 : Int) < _; omega)
  refine va_sld hx hb hX hbl hbA hS (show vp_in t1 L from vi_of (by omega) (by omega)) dL_law_1610 ?_
  refine lv_topi (fun a1 ea1 => ?_)
  have hDx := dl_left hD
  have hDm := dl_right hD
  have hFx := fr_all hDx hS hA
  refine va_calli (va_runV (As := [.int a1]) (rest := []) ⟨hx, hb, hml, hown, hts⟩ (qx_findings l dC dI cs adx mux okx H hPx (hDx.weaken (fun _ _ _ _ => trivial)) a1) (cwV 1 hts (wL_V mw_5_5 mw_5_2 mw_5_3 mw_5_4 mw_1_1) rfl rfl rfl (by decide +kernel) ⟨Nat.le_of_ble_eq_true rfl, Nat.le_of_ble_eq_true rfl⟩) ⟨sz_c, va_recv hKx hPx (ci := 11) (q0 := 0) rfl (gX_0 cs adx mux), sz_m hKx hz⟩ rfl rfl hl.1 rfl (lv_room (Nat.le_of_ble_eq_true rfl)) dL_law_1611 ⟨Nat.le_of_ble_eq_true rfl, Nat.le_of_ble_eq_true rfl⟩) hS (fun q _ h => hFx q h) hFx (fun r1 xi1 t H1 locs ht hvm hw1 hB hz1 hk1 hS => ?_)
  obtain ⟨okx, hw1, hkp1⟩ := hw1
  have hPx : va_P (dC, dI) vwCl (wR 157 adx (EX cs adx) xi1) H1 := by rw [← ht]; exact hB
  have hPm := kp_rest hD hPm hk1
  have hD : va_D (fun q : Nat => s.heap.size ≤ q) ((wR 157 adx (EX cs adx) xi1) ++ (wR 21 adm (EM cs adm) mum)) := wR_DD _ _ hD
  refine lv_pop hx hb dL_law_1614 rfl ?_
  refine lv_aload_n hx hb dL_law_1615 rfl (lv_at hl 1 rfl) ?_
  refine lv_aload_n hx hb dL_law_1616 rfl (lv_at hl 3 rfl) ?_
  refine lv_iload_n hx hb dL_law_1617 rfl (lv_at hl 0 rfl) ?_
  refine lv_iconst (v := 1) hx hb dL_law_1618 (by decide) ?_
  refine lv_iadd hx hb dL_law_1619 ?_
  refine lq_i t1 et1.symm ?_
  refine va_sld hx hb hX hbl hbA hS (show vp_in t1 L from vi_of (by omega) (by omega)) dL_law_1620 ?_
  refine lq_i a1 ea1.symm ?_
  have hDx := dl_left hD
  have hDm := dl_right hD
  have hFm := fr_all hDm hS hA
  refine va_calli (va_runV (As := [.int a1]) (rest := []) ⟨hx, hb, hml, hown, hts⟩ (qm_findings l dC dI cs adm mum okm H1 hPm (hDm.weaken (fun _ _ _ _ => trivial)) a1) (cwV 1 hts (wL_V mw_7_78 mw_7_75 mw_7_76 mw_7_77 mw_1_13) rfl rfl rfl (by decide +kernel) ⟨Nat.le_of_ble_eq_true rfl, Nat.le_of_ble_eq_true rfl⟩) ⟨sz_c, va_recv hKm hPm (ci := 12) (q0 := 0) rfl (gM_0 cs adm mum), sz_m hKm hz⟩ rfl rfl hl.1 rfl (lv_room (Nat.le_of_ble_eq_true rfl)) dL_law_1621 ⟨Nat.le_of_ble_eq_true rfl, Nat.le_of_ble_eq_true rfl⟩) hS (fun q _ h => hFm q h) hFm (fun r2 xi2 t H2 locs ht hvm hw2 hB hz1 hk1 hS => ?_)
  obtain ⟨okm, hw2, hkp2⟩ := hw2
  have hPm : va_P (dC, dI) vwCl (wR 21 adm (EM cs adm) xi2) H2 := by rw [← ht]; exact hB
  have hPx := kp_rest (pm_D List.perm_append_comm hD) hPx hk1
  have hD : va_D (fun q : Nat => s.heap.size ≤ q) ((wR 157 adx (EX cs adx) xi1) ++ (wR 21 adm (EM cs adm) xi2)) := wR_DD _ _ hD
  refine lv_pop hx hb dL_law_1624 rfl ?_
  refine lv_goto (tgt := 1641) hx hb dL_law_1625 (by decide) ?_
  exact KE xi1 xi2 _ _ _ ⟨okx, okm, ⟨simT_keep (by decide) (by decide) hkp1 hkp2 hsim.1, core_keep okm0 (by decide) (by decide) hkp1 hkp2 hsim.2.1, mon_le (mon_keep (by decide) hkp2 hsim.2.2) (by omega)⟩, hPx, hPm, hD, hS, hl⟩
set_option maxHeartbeats 4000000 in
set_option maxRecDepth 100000 in
theorem le_48 {p : Program} {e : Env} {s : State} {m : MethodId} {below : List Frame} {meth : Method} {c : Code} (l : Launch) {b L : Nat} {xs : Nat → Int32} {dC : Nat → ClassId} {dI : Nat → Nat → Nat} {cs : Nat → ClassId} {tt : Nat} {adx adm : Nat → Nat} {i : Int32} {cc : Int} (F1 : lw_F p s m meth c b L xs dC dI cs tt) {mux mum : Nat → Nat → Int32} {H : Heap} {locs : List Loc} {ls : Array Slot} (J0 : lw_J s b dC dI cs adx adm i cc mux mum H locs ls) (hL : L ≤ 384) (hcc : 1000 ≤ cc ∧ cc ≤ 900000) (hi : 0 ≤ i.toInt ∧ i.toInt + 6 ≤ L) (KE : ∀ (mux mum : Nat → Nat → Int32) (H : Heap) (locs : List Loc) (ls : Array Slot), lw_J s b dC dI cs adx adm i (cc + 1000) mux mum H locs ls → W p l e room_1 s m #[Value.ref b] below meth c H locs 178 3099 (lw_Z below #[Value.ref b] s) (F0 m 1641 ls [])) : W p l e room_1 s m #[Value.ref b] below meth c H locs 178 3099 (lw_Z below #[Value.ref b] s) (F0 m 1628 ls []) := by
  have F2 := F1
  have J1 := J0
  obtain ⟨C0, hKx, hKm, hz, hks⟩ := F1
  obtain ⟨hx, hb, hr, hml, hown0, hts0, hX, hbl, hlocks, hgv⟩ := C0
  obtain ⟨okx, okm, hsim, hPx, hPm, hD, hS, hl⟩ := J0
  have okx0 := okx
  have okm0 := okm
  have hown : s.vm.findClass RL = some m.cls := hown0
  have hts := hts0
  have hbA : ¬ (fun q : Nat => s.heap.size ≤ q) b := Nat.not_le.mpr hbl
  have hA : ∀ q : Nat, s.heap.size ≤ q → (fun q : Nat => s.heap.size ≤ q) q := fun _ h => h
  refine lv_aload_n hx hb dL_law_1628 rfl (lv_at hl 2 rfl) ?_
  have hDx := dl_left hD
  have hDm := dl_right hD
  have hFx := fr_all hDx hS hA
  refine va_calll (va_runV (As := []) (rest := []) ⟨hx, hb, hml, hown, hts⟩ (qx_digest l dC dI cs adx mux okx H hPx (hDx.weaken (fun _ _ _ _ => trivial))) (cwV 0 hts (wL_V mw_5_9 mw_5_6 mw_5_7 mw_5_8 mw_1_1) rfl rfl rfl (by decide +kernel) ⟨Nat.le_of_ble_eq_true rfl, Nat.le_of_ble_eq_true rfl⟩) ⟨sz_c, va_recv hKx hPx (ci := 11) (q0 := 0) rfl (gX_0 cs adx mux), sz_m hKx hz⟩ rfl rfl hl.1 rfl (lv_room (Nat.le_of_ble_eq_true rfl)) dL_law_1629 ⟨Nat.le_of_ble_eq_true rfl, Nat.le_of_ble_eq_true rfl⟩) hS (fun q _ h => hFx q h) hFx (fun r1 xi1 t H1 locs ht hvm hw1 hB hz1 hk1 hS => ?_)
  obtain ⟨okx, hw1, hkp1⟩ := hw1
  have hPx : va_P (dC, dI) vwCl (wR 157 adx (EX cs adx) xi1) H1 := by rw [← ht]; exact hB
  have hPm := kp_rest hD hPm hk1
  have hD : va_D (fun q : Nat => s.heap.size ≤ q) ((wR 157 adx (EX cs adx) xi1) ++ (wR 21 adm (EM cs adm) mum)) := wR_DD _ _ hD
  refine lv_pop2_2 hx hb dL_law_1632 rfl ?_
  refine lv_aload_n hx hb dL_law_1633 rfl (lv_at hl 1 rfl) ?_
  have hDx := dl_left hD
  have hDm := dl_right hD
  have hFm := fr_all hDm hS hA
  refine va_calll (va_runV (As := []) (rest := []) ⟨hx, hb, hml, hown, hts⟩ (qm_digest l dC dI cs adm mum okm H1 hPm (hDm.weaken (fun _ _ _ _ => trivial))) (cwV 0 hts (wL_V mw_7_82 mw_7_79 mw_7_80 mw_7_81 mw_1_13) rfl rfl rfl (by decide +kernel) ⟨Nat.le_of_ble_eq_true rfl, Nat.le_of_ble_eq_true rfl⟩) ⟨sz_c, va_recv hKm hPm (ci := 12) (q0 := 0) rfl (gM_0 cs adm mum), sz_m hKm hz⟩ rfl rfl hl.1 rfl (lv_room (Nat.le_of_ble_eq_true rfl)) dL_law_1634 ⟨Nat.le_of_ble_eq_true rfl, Nat.le_of_ble_eq_true rfl⟩) hS (fun q _ h => hFm q h) hFm (fun r2 xi2 t H2 locs ht hvm hw2 hB hz1 hk1 hS => ?_)
  obtain ⟨okm, hw2, hkp2⟩ := hw2
  have hPm : va_P (dC, dI) vwCl (wR 21 adm (EM cs adm) xi2) H2 := by rw [← ht]; exact hB
  have hPx := kp_rest (pm_D List.perm_append_comm hD) hPx hk1
  have hD : va_D (fun q : Nat => s.heap.size ≤ q) ((wR 157 adx (EX cs adx) xi1) ++ (wR 21 adm (EM cs adm) xi2)) := wR_DD _ _ hD
  refine lv_pop2_2 hx hb dL_law_1637 rfl ?_
  refine lv_goto (tgt := 1641) hx hb dL_law_1638 (by decide) ?_
  exact KE xi1 xi2 _ _ _ ⟨okx, okm, ⟨simT_keep (by decide) (by decide) hkp1 hkp2 hsim.1, core_keep okm0 (by decide) (by decide) hkp1 hkp2 hsim.2.1, mon_le (mon_keep (by decide) hkp2 hsim.2.2) (by omega)⟩, hPx, hPm, hD, hS, hl⟩
theorem dL_law_27 : decode cL_law 27 = .ok (.aload_n 0, 1) := dc_aload0 (dl_at 0 27 lb_0 rfl)
theorem dL_law_28 : decode cL_law 28 = .ok (.iload_n 3, 1) := dc_iload3 (dl_at 0 28 lb_0 rfl)
theorem dL_law_29 : decode cL_law 29 = .ok (.iaload, 1) := dc_iaload (dl_at 0 29 lb_0 rfl)
theorem dL_law_30 : decode cL_law 30 = .ok (.bipush 63, 2) := by decide +kernel
theorem dL_law_32 : decode cL_law 32 = .ok (.iand, 1) := by decide +kernel
theorem dL_law_33 : decode cL_law 33 = .ok (.tableswitch 1608 0 48 #[211, 244, 287, 320, 343, 406, 429, 462, 505, 528, 551, 584, 617, 650, 683, 716, 739, 792, 825, 848, 871, 904, 927, 950, 973, 996, 1029, 1062, 1085, 1108, 1131, 1154, 1177, 1200, 1243, 1266, 1289, 1332, 1355, 1388, 1421, 1464, 1497, 1510, 1523, 1536, 1559, 1572, 1595], 211) := by decide +kernel
theorem dL_law_18 : decode cL_law 18 = .ok (.iload_n 3, 1) := dc_iload3 (dl_at 0 18 lb_0 rfl)
theorem dL_law_19 : decode cL_law 19 = .ok (.aload_n 0, 1) := dc_aload0 (dl_at 0 19 lb_0 rfl)
theorem dL_law_20 : decode cL_law 20 = .ok (.arraylength, 1) := by decide +kernel
theorem dL_law_21 : decode cL_law 21 = .ok (.bipush 6, 2) := by decide +kernel
theorem dL_law_23 : decode cL_law 23 = .ok (.isub, 1) := by decide +kernel
theorem dL_law_24 : decode cL_law 24 = .ok (.if_icmp .gt 1623, 3) := by decide +kernel
theorem dL_law_1647 : decode cL_law 1647 = .ok (.iconst 1, 1) := dc_iconst1 (dl_at 1632 15 lb_51 rfl)
theorem dL_law_1648 : decode cL_law 1648 = .ok (.ireturn, 1) := by decide +kernel
theorem dL_law_1641 : decode cL_law 1641 = .ok (.iinc 3 6, 3) := by decide +kernel
theorem dL_law_1644 : decode cL_law 1644 = .ok (.goto (-1626), 3) := dc_goto (a := 249) (b := 166) (dl_at 1632 12 lb_51 rfl) (dl_at 1632 13 lb_51 rfl) (dl_at 1632 14 lb_51 rfl) (by decide +kernel)
set_option maxHeartbeats 4000000 in
set_option maxRecDepth 100000 in
theorem le_switch {p : Program} {e : Env} {s : State} {m : MethodId} {below : List Frame} {meth : Method} {c : Code} (l : Launch) {b L : Nat} {xs : Nat → Int32} {dC : Nat → ClassId} {dI : Nat → Nat → Nat} {cs : Nat → ClassId} {tt : Nat} {adx adm : Nat → Nat} {i : Int32} {cc : Int} (F1 : lw_F p s m meth c b L xs dC dI cs tt) {mux mum : Nat → Nat → Int32} {H : Heap} {locs : List Loc} {ls : Array Slot} (J0 : lw_J s b dC dI cs adx adm i cc mux mum H locs ls) (hL : L ≤ 384) (hcc : 1000 ≤ cc ∧ cc ≤ 900000) (hi : 0 ≤ i.toInt ∧ i.toInt + 6 ≤ L) (KE : ∀ (mux mum : Nat → Nat → Int32) (H : Heap) (locs : List Loc) (ls : Array Slot), lw_J s b dC dI cs adx adm i (cc + 1000) mux mum H locs ls → W p l e room_1 s m #[Value.ref b] below meth c H locs 178 3099 (lw_Z below #[Value.ref b] s) (F0 m 1641 ls [])) : W p l e room_1 s m #[Value.ref b] below meth c H locs 178 3099 (lw_Z below #[Value.ref b] s) (F0 m 27 ls []) := by
  have F2 := F1
  have J1 := J0
  obtain ⟨C0, hKx, hKm, hz, hks⟩ := F1
  obtain ⟨hx, hb, hr, hml, hown0, hts0, hX, hbl, hlocks, hgv⟩ := C0
  obtain ⟨okx, okm, hsim, hPx, hPm, hD, hS, hl⟩ := J0
  have okx0 := okx
  have okm0 := okm
  have hown : s.vm.findClass RL = some m.cls := hown0
  have hts := hts0
  have hbA : ¬ (fun q : Nat => s.heap.size ≤ q) b := Nat.not_le.mpr hbl
  have hA : ∀ q : Nat, s.heap.size ≤ q → (fun q : Nat => s.heap.size ≤ q) q := fun _ h => h
  refine lv_aload_n hx hb dL_law_27 rfl (lv_at hl 3 rfl) ?_
  refine lv_iload_n hx hb dL_law_28 rfl (lv_at hl 0 rfl) ?_
  refine va_sld hx hb hX hbl hbA hS (show vp_in i L from vi_of (by omega) (by omega)) dL_law_29 ?_
  refine lv_bipush (v := 63) hx hb dL_law_30 (by decide) ?_
  refine lv_iand hx hb dL_law_32 ?_
  refine lv_topi (fun y ey => ?_)
  by_cases c_0 : y.toInt < 0 ∨ 48 < y.toInt
  · refine lv_tableOut (tgt := 1641) hx hb dL_law_33 c_0 (by decide) ?_
    exact KE _ _ _ _ _ ⟨okx, okm, ⟨hsim.1, hsim.2.1, mon_le hsim.2.2 (by omega)⟩, hPx, hPm, hD, hS, hl⟩
  obtain ⟨k, hk, d⟩ : ∃ k : Nat, k < 49 ∧ y.toInt = (k : Int) := ⟨y.toInt.toNat, by omega, by omega⟩
  clear c_0 ey hKx hKm hPx hPm hD hX hbA hgv hts hts0 hks hz hsim okx okm
  by_cases e0 : k = 0
  · subst e0
    refine lv_tableIn (off := 211) (tgt := 244) hx hb dL_law_33 (by rw [d]; decide) (by rw [d]; decide) (by rw [d]; rfl) (by decide) ?_
    exact le_0 l F2 J1 hL hcc hi KE
  by_cases e1 : k = 1
  · subst e1
    refine lv_tableIn (off := 244) (tgt := 277) hx hb dL_law_33 (by rw [d]; decide) (by rw [d]; decide) (by rw [d]; rfl) (by decide) ?_
    exact le_1 l F2 J1 hL hcc hi KE
  by_cases e2 : k = 2
  · subst e2
    refine lv_tableIn (off := 287) (tgt := 320) hx hb dL_law_33 (by rw [d]; decide) (by rw [d]; decide) (by rw [d]; rfl) (by decide) ?_
    exact le_2 l F2 J1 hL hcc hi KE
  by_cases e3 : k = 3
  · subst e3
    refine lv_tableIn (off := 320) (tgt := 353) hx hb dL_law_33 (by rw [d]; decide) (by rw [d]; decide) (by rw [d]; rfl) (by decide) ?_
    exact le_3 l F2 J1 hL hcc hi KE
  by_cases e4 : k = 4
  · subst e4
    refine lv_tableIn (off := 343) (tgt := 376) hx hb dL_law_33 (by rw [d]; decide) (by rw [d]; decide) (by rw [d]; rfl) (by decide) ?_
    exact le_4 l F2 J1 hL hcc hi KE
  by_cases e5 : k = 5
  · subst e5
    refine lv_tableIn (off := 406) (tgt := 439) hx hb dL_law_33 (by rw [d]; decide) (by rw [d]; decide) (by rw [d]; rfl) (by decide) ?_
    exact le_5 l F2 J1 hL hcc hi KE
  by_cases e6 : k = 6
  · subst e6
    refine lv_tableIn (off := 429) (tgt := 462) hx hb dL_law_33 (by rw [d]; decide) (by rw [d]; decide) (by rw [d]; rfl) (by decide) ?_
    exact le_6 l F2 J1 hL hcc hi KE
  by_cases e7 : k = 7
  · subst e7
    refine lv_tableIn (off := 462) (tgt := 495) hx hb dL_law_33 (by rw [d]; decide) (by rw [d]; decide) (by rw [d]; rfl) (by decide) ?_
    exact le_7 l F2 J1 hL hcc hi KE
  by_cases e8 : k = 8
  · subst e8
    refine lv_tableIn (off := 505) (tgt := 538) hx hb dL_law_33 (by rw [d]; decide) (by rw [d]; decide) (by rw [d]; rfl) (by decide) ?_
    exact le_8 l F2 J1 hL hcc hi KE
  by_cases e9 : k = 9
  · subst e9
    refine lv_tableIn (off := 528) (tgt := 561) hx hb dL_law_33 (by rw [d]; decide) (by rw [d]; decide) (by rw [d]; rfl) (by decide) ?_
    exact le_9 l F2 J1 hL hcc hi KE
  by_cases e10 : k = 10
  · subst e10
    refine lv_tableIn (off := 551) (tgt := 584) hx hb dL_law_33 (by rw [d]; decide) (by rw [d]; decide) (by rw [d]; rfl) (by decide) ?_
    exact le_10 l F2 J1 hL hcc hi KE
  by_cases e11 : k = 11
  · subst e11
    refine lv_tableIn (off := 584) (tgt := 617) hx hb dL_law_33 (by rw [d]; decide) (by rw [d]; decide) (by rw [d]; rfl) (by decide) ?_
    exact le_11 l F2 J1 hL hcc hi KE
  by_cases e12 : k = 12
  · subst e12
    refine lv_tableIn (off := 617) (tgt := 650) hx hb dL_law_33 (by rw [d]; decide) (by rw [d]; decide) (by rw [d]; rfl) (by decide) ?_
    exact le_12 l F2 J1 hL hcc hi KE
  by_cases e13 : k = 13
  · subst e13
    refine lv_tableIn (off := 650) (tgt := 683) hx hb dL_law_33 (by rw [d]; decide) (by rw [d]; decide) (by rw [d]; rfl) (by decide) ?_
    exact le_13 l F2 J1 hL hcc hi KE
  by_cases e14 : k = 14
  · subst e14
    refine lv_tableIn (off := 683) (tgt := 716) hx hb dL_law_33 (by rw [d]; decide) (by rw [d]; decide) (by rw [d]; rfl) (by decide) ?_
    exact le_14 l F2 J1 hL hcc hi KE
  by_cases e15 : k = 15
  · subst e15
    refine lv_tableIn (off := 716) (tgt := 749) hx hb dL_law_33 (by rw [d]; decide) (by rw [d]; decide) (by rw [d]; rfl) (by decide) ?_
    exact le_15 l F2 J1 hL hcc hi KE
  by_cases e16 : k = 16
  · subst e16
    refine lv_tableIn (off := 739) (tgt := 772) hx hb dL_law_33 (by rw [d]; decide) (by rw [d]; decide) (by rw [d]; rfl) (by decide) ?_
    exact le_16 l F2 J1 hL hcc hi KE
  by_cases e17 : k = 17
  · subst e17
    refine lv_tableIn (off := 792) (tgt := 825) hx hb dL_law_33 (by rw [d]; decide) (by rw [d]; decide) (by rw [d]; rfl) (by decide) ?_
    exact le_17 l F2 J1 hL hcc hi KE
  by_cases e18 : k = 18
  · subst e18
    refine lv_tableIn (off := 825) (tgt := 858) hx hb dL_law_33 (by rw [d]; decide) (by rw [d]; decide) (by rw [d]; rfl) (by decide) ?_
    exact le_18 l F2 J1 hL hcc hi KE
  by_cases e19 : k = 19
  · subst e19
    refine lv_tableIn (off := 848) (tgt := 881) hx hb dL_law_33 (by rw [d]; decide) (by rw [d]; decide) (by rw [d]; rfl) (by decide) ?_
    exact le_19 l F2 J1 hL hcc hi KE
  by_cases e20 : k = 20
  · subst e20
    refine lv_tableIn (off := 871) (tgt := 904) hx hb dL_law_33 (by rw [d]; decide) (by rw [d]; decide) (by rw [d]; rfl) (by decide) ?_
    exact le_20 l F2 J1 hL hcc hi KE
  by_cases e21 : k = 21
  · subst e21
    refine lv_tableIn (off := 904) (tgt := 937) hx hb dL_law_33 (by rw [d]; decide) (by rw [d]; decide) (by rw [d]; rfl) (by decide) ?_
    exact le_21 l F2 J1 hL hcc hi KE
  by_cases e22 : k = 22
  · subst e22
    refine lv_tableIn (off := 927) (tgt := 960) hx hb dL_law_33 (by rw [d]; decide) (by rw [d]; decide) (by rw [d]; rfl) (by decide) ?_
    exact le_22 l F2 J1 hL hcc hi KE
  by_cases e23 : k = 23
  · subst e23
    refine lv_tableIn (off := 950) (tgt := 983) hx hb dL_law_33 (by rw [d]; decide) (by rw [d]; decide) (by rw [d]; rfl) (by decide) ?_
    exact le_23 l F2 J1 hL hcc hi KE
  by_cases e24 : k = 24
  · subst e24
    refine lv_tableIn (off := 973) (tgt := 1006) hx hb dL_law_33 (by rw [d]; decide) (by rw [d]; decide) (by rw [d]; rfl) (by decide) ?_
    exact le_24 l F2 J1 hL hcc hi KE
  by_cases e25 : k = 25
  · subst e25
    refine lv_tableIn (off := 996) (tgt := 1029) hx hb dL_law_33 (by rw [d]; decide) (by rw [d]; decide) (by rw [d]; rfl) (by decide) ?_
    exact le_25 l F2 J1 hL hcc hi KE
  by_cases e26 : k = 26
  · subst e26
    refine lv_tableIn (off := 1029) (tgt := 1062) hx hb dL_law_33 (by rw [d]; decide) (by rw [d]; decide) (by rw [d]; rfl) (by decide) ?_
    exact le_26 l F2 J1 hL hcc hi KE
  by_cases e27 : k = 27
  · subst e27
    refine lv_tableIn (off := 1062) (tgt := 1095) hx hb dL_law_33 (by rw [d]; decide) (by rw [d]; decide) (by rw [d]; rfl) (by decide) ?_
    exact le_27 l F2 J1 hL hcc hi KE
  by_cases e28 : k = 28
  · subst e28
    refine lv_tableIn (off := 1085) (tgt := 1118) hx hb dL_law_33 (by rw [d]; decide) (by rw [d]; decide) (by rw [d]; rfl) (by decide) ?_
    exact le_28 l F2 J1 hL hcc hi KE
  by_cases e29 : k = 29
  · subst e29
    refine lv_tableIn (off := 1108) (tgt := 1141) hx hb dL_law_33 (by rw [d]; decide) (by rw [d]; decide) (by rw [d]; rfl) (by decide) ?_
    exact le_29 l F2 J1 hL hcc hi KE
  by_cases e30 : k = 30
  · subst e30
    refine lv_tableIn (off := 1131) (tgt := 1164) hx hb dL_law_33 (by rw [d]; decide) (by rw [d]; decide) (by rw [d]; rfl) (by decide) ?_
    exact le_30 l F2 J1 hL hcc hi KE
  by_cases e31 : k = 31
  · subst e31
    refine lv_tableIn (off := 1154) (tgt := 1187) hx hb dL_law_33 (by rw [d]; decide) (by rw [d]; decide) (by rw [d]; rfl) (by decide) ?_
    exact le_31 l F2 J1 hL hcc hi KE
  by_cases e32 : k = 32
  · subst e32
    refine lv_tableIn (off := 1177) (tgt := 1210) hx hb dL_law_33 (by rw [d]; decide) (by rw [d]; decide) (by rw [d]; rfl) (by decide) ?_
    exact le_32 l F2 J1 hL hcc hi KE
  by_cases e33 : k = 33
  · subst e33
    refine lv_tableIn (off := 1200) (tgt := 1233) hx hb dL_law_33 (by rw [d]; decide) (by rw [d]; decide) (by rw [d]; rfl) (by decide) ?_
    exact le_33 l F2 J1 hL hcc hi KE
  by_cases e34 : k = 34
  · subst e34
    refine lv_tableIn (off := 1243) (tgt := 1276) hx hb dL_law_33 (by rw [d]; decide) (by rw [d]; decide) (by rw [d]; rfl) (by decide) ?_
    exact le_34 l F2 J1 hL hcc hi KE
  by_cases e35 : k = 35
  · subst e35
    refine lv_tableIn (off := 1266) (tgt := 1299) hx hb dL_law_33 (by rw [d]; decide) (by rw [d]; decide) (by rw [d]; rfl) (by decide) ?_
    exact le_35 l F2 J1 hL hcc hi KE
  by_cases e36 : k = 36
  · subst e36
    refine lv_tableIn (off := 1289) (tgt := 1322) hx hb dL_law_33 (by rw [d]; decide) (by rw [d]; decide) (by rw [d]; rfl) (by decide) ?_
    exact le_36 l F2 J1 hL hcc hi KE
  by_cases e37 : k = 37
  · subst e37
    refine lv_tableIn (off := 1332) (tgt := 1365) hx hb dL_law_33 (by rw [d]; decide) (by rw [d]; decide) (by rw [d]; rfl) (by decide) ?_
    exact le_37 l F2 J1 hL hcc hi KE
  by_cases e38 : k = 38
  · subst e38
    refine lv_tableIn (off := 1355) (tgt := 1388) hx hb dL_law_33 (by rw [d]; decide) (by rw [d]; decide) (by rw [d]; rfl) (by decide) ?_
    exact le_38 l F2 J1 hL hcc hi KE
  by_cases e39 : k = 39
  · subst e39
    refine lv_tableIn (off := 1388) (tgt := 1421) hx hb dL_law_33 (by rw [d]; decide) (by rw [d]; decide) (by rw [d]; rfl) (by decide) ?_
    exact le_39 l F2 J1 hL hcc hi KE
  by_cases e40 : k = 40
  · subst e40
    refine lv_tableIn (off := 1421) (tgt := 1454) hx hb dL_law_33 (by rw [d]; decide) (by rw [d]; decide) (by rw [d]; rfl) (by decide) ?_
    exact le_40 l F2 J1 hL hcc hi KE
  by_cases e41 : k = 41
  · subst e41
    refine lv_tableIn (off := 1464) (tgt := 1497) hx hb dL_law_33 (by rw [d]; decide) (by rw [d]; decide) (by rw [d]; rfl) (by decide) ?_
    exact le_41 l F2 J1 hL hcc hi KE
  by_cases e42 : k = 42
  · subst e42
    refine lv_tableIn (off := 1497) (tgt := 1530) hx hb dL_law_33 (by rw [d]; decide) (by rw [d]; decide) (by rw [d]; rfl) (by decide) ?_
    exact le_42 l F2 J1 hL hcc hi KE
  by_cases e43 : k = 43
  · subst e43
    refine lv_tableIn (off := 1510) (tgt := 1543) hx hb dL_law_33 (by rw [d]; decide) (by rw [d]; decide) (by rw [d]; rfl) (by decide) ?_
    exact le_43 l F2 J1 hL hcc hi KE
  by_cases e44 : k = 44
  · subst e44
    refine lv_tableIn (off := 1523) (tgt := 1556) hx hb dL_law_33 (by rw [d]; decide) (by rw [d]; decide) (by rw [d]; rfl) (by decide) ?_
    exact le_44 l F2 J1 hL hcc hi KE
  by_cases e45 : k = 45
  · subst e45
    refine lv_tableIn (off := 1536) (tgt := 1569) hx hb dL_law_33 (by rw [d]; decide) (by rw [d]; decide) (by rw [d]; rfl) (by decide) ?_
    exact le_45 l F2 J1 hL hcc hi KE
  by_cases e46 : k = 46
  · subst e46
    refine lv_tableIn (off := 1559) (tgt := 1592) hx hb dL_law_33 (by rw [d]; decide) (by rw [d]; decide) (by rw [d]; rfl) (by decide) ?_
    exact le_46 l F2 J1 hL hcc hi KE
  by_cases e47 : k = 47
  · subst e47
    refine lv_tableIn (off := 1572) (tgt := 1605) hx hb dL_law_33 (by rw [d]; decide) (by rw [d]; decide) (by rw [d]; rfl) (by decide) ?_
    exact le_47 l F2 J1 hL hcc hi KE
  by_cases e48 : k = 48
  · subst e48
    refine lv_tableIn (off := 1595) (tgt := 1628) hx hb dL_law_33 (by rw [d]; decide) (by rw [d]; decide) (by rw [d]; rfl) (by decide) ?_
    exact le_48 l F2 J1 hL hcc hi KE
  exact absurd hk (by clear d; omega)
set_option maxHeartbeats 4000000 in
set_option maxRecDepth 100000 in
theorem le_loop {p : Program} {e : Env} {s : State} {m : MethodId} {below : List Frame} {meth : Method} {c : Code} (l : Launch) {b L : Nat} {xs : Nat → Int32} {dC : Nat → ClassId} {dI : Nat → Nat → Nat} {cs : Nat → ClassId} {tt : Nat} {adx adm : Nat → Nat} {i : Int32} {cc : Int} (F1 : lw_F p s m meth c b L xs dC dI cs tt) (hL : L ≤ 384) (n : Nat) {mux mum : Nat → Nat → Int32} {H : Heap} {locs : List Loc} {ls : Array Slot} (hn : (400 - i.toInt).toNat < n) (hi : 0 ≤ i.toInt ∧ i.toInt ≤ 390) (hcc : 1000 ≤ cc ∧ cc ≤ 1000 * (i.toInt + 1)) (J0 : lw_J s b dC dI cs adx adm i cc mux mum H locs ls) : W p l e room_1 s m #[Value.ref b] below meth c H locs 178 3099 (lw_Z below #[Value.ref b] s) (F0 m 18 ls []) := by
  induction n generalizing i cc mux mum H locs ls with
  | zero => exact absurd hn (Nat.not_lt_zero _)
  | succ n ih =>
    have F2 := F1
    have J1 := J0
    obtain ⟨C0, hKx, hKm, hz, hks⟩ := F1
    obtain ⟨hx, hb, hr, hml, hown0, hts0, hX, hbl, hlocks, hgv⟩ := C0
    obtain ⟨okx, okm, hsim, hPx, hPm, hD, hS, hl⟩ := J0
    have okx0 := okx
    have okm0 := okm
    have hown : s.vm.findClass RL = some m.cls := hown0
    have hts := hts0
    have hbA : ¬ (fun q : Nat => s.heap.size ≤ q) b := Nat.not_le.mpr hbl
    have hA : ∀ q : Nat, s.heap.size ≤ q → (fun q : Nat => s.heap.size ≤ q) q := fun _ h => h
    refine lv_iload_n hx hb dL_law_18 rfl (lv_at hl 0 rfl) ?_
    refine lv_aload_n hx hb dL_law_19 rfl (lv_at hl 3 rfl) ?_
    refine va_slen hx hb hX hbl hbA hS dL_law_20 ?_
    refine lv_bipush (v := 6) hx hb dL_law_21 (by decide) ?_
    refine lv_isub hx hb dL_law_23 ?_
    refine lv_topi (fun y ey => ?_)
    have ay : y.toInt = (L : Int) - 6 := by
      have h1 : (Int32.ofNat L).toInt = (L : Int) := nI_toInt (by omega)
      rw [ey]; exact tI_sub h1 (rfl : (6 : Int32).toInt = _) (by show _ ≤ (L : Int) - (6 : Int); omega) (by show (L : Int) - (6 : Int) < _; omega)
    refine lv_icmp_gt (tgt := 1647) hx hb dL_law_24 (by decide) (fun c9 => ?_) (fun c9 => ?_)
    · refine lv_iconst (v := 1) hx hb dL_law_1647 (by decide) ?_
      refine va_forget (fun q hq => hS.2.2 q hq) ?_
      refine W.widen (k := 600000) (n := 7302250) (Nat.le_of_ble_eq_true rfl) (Nat.le_of_ble_eq_true rfl) ?_
      exact lw_ret hx hb hr hlocks dL_law_1648
    · have c9 := il_nlt c9
      refine le_switch l F2 J1 hL ⟨by omega, by omega⟩ ⟨by omega, by omega⟩ (fun mux2 mum2 H locs ls J2 => ?_)
      obtain ⟨okx, okm, hsim, hPx, hPm, hD, hS, hl⟩ := J2
      refine lv_iinc (v := (i + 6)) (lv' := [(3, .int (i + 6)), (2, .ref (adm 0)), (1, .ref (adx 0)), (0, .ref b)]) hx hb dL_law_1641 hl (k := 0) rfl rfl (by decide) rfl (fun ls hl => ?_)
      refine lv_goto (tgt := 18) hx hb dL_law_1644 (by decide) ?_
      have ai : (i + 6 : Int32).toInt = i.toInt + 6 := tI_add rfl (rfl : (6 : Int32).toInt = _) (by show _ ≤ i.toInt + (6 : Int); omega) (by show i.toInt + (6 : Int) < _; omega)
      exact ih (by rw [ai]; omega) (by rw [ai]; omega) (by rw [ai]; omega) ⟨okx, okm, hsim, hPx, hPm, hD, hS, hl⟩
theorem inX0 : ∀ w ∈ wsX00, w ∈ lw_tbl := fun w h => (goodIn_q wsX00 [(2, 37), (2, 39), (2, 41), (2, 43)] (by decide +kernel) (by decide +kernel) w h).1
theorem inX1 : ∀ w ∈ wsX10, w ∈ lw_tbl := fun w h => (goodIn_q wsX10 [(2, 113), (2, 115), (2, 117), (2, 119), (2, 121)] (by decide +kernel) (by decide +kernel) w h).1
theorem inX2 : ∀ w ∈ wsX20, w ∈ lw_tbl := fun w h => (goodIn_q wsX20 [(2, 9), (2, 11)] (by decide +kernel) (by decide +kernel) w h).1
theorem inX3 : ∀ w ∈ wsX30, w ∈ lw_tbl := fun w h => (goodIn_q wsX30 [(1, 81), (1, 83), (1, 85), (1, 87), (1, 89), (1, 91), (1, 93), (1, 95), (1, 97), (1, 99)] (by decide +kernel) (by decide +kernel) w h).1
theorem inX4 : ∀ w ∈ wsX40, w ∈ lw_tbl := fun w h => (goodIn_q wsX40 [(1, 197), (1, 199), (1, 201), (1, 203), (1, 205), (1, 207)] (by decide +kernel) (by decide +kernel) w h).1
theorem inX5 : ∀ w ∈ wsX50, w ∈ lw_tbl := fun w h => (goodIn_q wsX50 [(2, 67), (2, 69), (2, 71), (2, 73), (2, 75), (2, 77), (2, 79), (2, 81), (2, 83), (2, 85), (2, 87), (2, 89), (2, 91), (2, 93), (2, 95)] (by decide +kernel) (by decide +kernel) w h).1
theorem inX6 : ∀ w ∈ wsX60, w ∈ lw_tbl := fun w h => (goodIn_q wsX60 [(2, 135), (2, 137)] (by decide +kernel) (by decide +kernel) w h).1
theorem inX7 : ∀ w ∈ wsX70, w ∈ lw_tbl := fun w h => (goodIn_q wsX70 [(1, 231), (1, 233), (1, 235), (1, 237), (1, 239), (2, 1), (2, 3)] (by decide +kernel) (by decide +kernel) w h).1
theorem inX8 : ∀ w ∈ wsX80, w ∈ lw_tbl := fun w h => (goodIn_q wsX80 [(1, 130), (1, 132), (1, 134), (1, 136), (1, 138), (1, 140)] (by decide +kernel) (by decide +kernel) w h).1
theorem inX9 : ∀ w ∈ wsX90, w ∈ lw_tbl := fun w h => (goodIn_q wsX90 [(2, 151), (2, 153)] (by decide +kernel) (by decide +kernel) w h).1
theorem inX10 : ∀ w ∈ wsX100, w ∈ lw_tbl := fun w h => (goodIn_q wsX100 [(1, 168), (1, 170), (1, 172), (1, 174), (1, 176), (1, 178), (1, 180), (1, 182)] (by decide +kernel) (by decide +kernel) w h).1
theorem inX11 : ∀ w ∈ wsX110, w ∈ lw_tbl := fun w h => (goodIn_q wsX110 [(2, 169), (2, 171), (2, 173), (2, 175), (2, 177), (2, 179), (2, 181), (2, 183), (2, 185), (2, 187), (2, 189)] (by decide +kernel) (by decide +kernel) w h).1
theorem inX12 : ∀ w ∈ wsX120, w ∈ lw_tbl := fun w h => (goodIn_q wsX120 [(5, 87), (5, 89), (5, 91), (5, 93), (5, 95), (5, 97), (5, 99), (5, 101), (5, 103), (5, 105), (5, 107), (5, 109), (5, 111), (5, 113), (5, 115), (5, 117), (5, 119), (5, 121), (5, 123), (5, 125), (5, 127), (5, 129), (5, 131), (5, 133), (5, 135), (5, 137), (5, 139), (5, 141), (5, 143), (5, 145), (5, 147), (5, 149), (5, 151), (5, 153), (5, 155), (5, 157), (5, 159), (5, 161), (5, 163), (5, 165), (5, 167), (5, 169), (5, 171), (5, 173), (5, 175), (5, 177)] (by decide +kernel) (by decide +kernel) w h).1
set_option maxHeartbeats 4000000 in
set_option maxRecDepth 100000 in
theorem ls_kq {p : Program} {s : State} {m : MethodId} {meth : Method} {c : Code} {b L : Nat} {xs : Nat → Int32} (C0 : lw_At p s m meth c b L xs) : kq s := by
  obtain ⟨hx, hb, hr, hml, hown0, hts, hX, hbl, hlocks, hgv⟩ := C0
  have k_0 := va_Nw.of rfl (A := #[Value.ref b]) (hts (.methodLinkNest RX11 29 yX10_init "DearLetters") ((tbq_at 1 34 (by decide +kernel))))
  have k_1 := va_Nw.of rfl (A := #[Value.ref b]) (hts (.methodLinkNest RX11 36 yX4_init "DearLetters") ((tbq_at 1 187 (by decide +kernel))))
  have k_2 := va_Nw.of rfl (A := #[Value.ref b]) (hts (.methodLinkNest RX11 50 yX5_init "DearLetters") ((tbq_at 2 16 (by decide +kernel))))
  have k_3 := va_Nw.of rfl (A := #[Value.ref b]) (hts (.methodLinkNest RX11 57 yX1_init "DearLetters") ((tbq_at 2 100 (by decide +kernel))))
  have k_4 := va_Nw.of rfl (A := #[Value.ref b]) (hts (.methodLinkNest RX11 66 yX6_init "DearLetters") ((tbq_at 2 125 (by decide +kernel))))
  have k_5 := va_Nw.of rfl (A := #[Value.ref b]) (hts (.methodLinkNest RX11 67 yX9_init "DearLetters") ((tbq_at 2 141 (by decide +kernel))))
  have k_6 := va_Nw.of rfl (A := #[Value.ref b]) (hts (.methodLinkNest RX2 17 yX7_init "DearLetters") ((tbq_at 1 219 (by decide +kernel))))
  have k_7 := va_Nw.of rfl (A := #[Value.ref b]) (hts (.methodLinkNest RX5 23 yX0_init "DearLetters") ((tbq_at 2 22 (by decide +kernel))))
  have k_8 := va_Nw.of rfl (A := #[Value.ref b]) (hts (.methodLinkNest RX8 21 yX3_init "DearLetters") ((tbq_at 1 47 (by decide +kernel))))
  have k_9 := va_AO.of (A := #[Value.ref b]) (hts (.arrayOver (.object RX6)) ((tbq_at 1 27 (by decide +kernel))))
  have k_10 := va_AO.of (A := #[Value.ref b]) (hts (.arrayOver (.object RX9)) ((tbq_at 1 29 (by decide +kernel))))
  have k_11 := va_AO.of (A := #[Value.ref b]) (hts (.arrayOver (.object RX8)) ((tbq_at 1 31 (by decide +kernel))))
  have k_12 := va_AO.of (A := #[Value.ref b]) (hts (.arrayOver (.object RX3)) ((tbq_at 1 45 (by decide +kernel))))
  have k_13 := va_AO.of (A := #[Value.ref b]) (hts (.arrayOver (.object RX7)) ((tbq_at 1 217 (by decide +kernel))))
  exact ⟨k_0, k_1, k_2, k_3, k_4, k_5, k_6, k_7, k_8, k_9, k_10, k_11, k_12, k_13⟩
set_option maxHeartbeats 4000000 in
set_option maxRecDepth 100000 in
theorem ls_kz {p : Program} {s : State} {m : MethodId} {meth : Method} {c : Code} {b L : Nat} {xs : Nat → Int32} (C0 : lw_At p s m meth c b L xs) : kz s := by
  obtain ⟨hx, hb, hr, hml, hown0, hts, hX, hbl, hlocks, hgv⟩ := C0
  have k_0 := va_Nw.of rfl (A := #[Value.ref b]) (hts (.methodLinkNest RX1 49 yX11_priceAsked "DearLetters") ((tbq_at 4 176 (by decide +kernel))))
  have k_1 := va_Nw.of rfl (A := #[Value.ref b]) (hts (.methodLinkNest RX1 68 yX11_hasBit "DearLetters") ((tbq_at 4 178 (by decide +kernel))))
  have k_2 := va_Nw.of rfl (A := #[Value.ref b]) (hts (.methodLinkNest RX10 41 yX11_hasBit "DearLetters") ((tbq_at 3 85 (by decide +kernel))))
  have k_3 := va_Nw.of rfl (A := #[Value.ref b]) (hts (.methodLinkNest RX10 86 yX11_isOfKind "DearLetters") ((tbq_at 3 112 (by decide +kernel))))
  have k_4 := va_Nw.of rfl (A := #[Value.ref b]) (hts (.methodLinkNest RX10 89 yX11_priceAsked "DearLetters") ((tbq_at 3 166 (by decide +kernel))))
  have k_5 := va_Nw.of rfl (A := #[Value.ref b]) (hts (.methodLinkNest RX11 29 yX10_init "DearLetters") ((tbq_at 1 34 (by decide +kernel))))
  have k_6 := va_Nw.of rfl (A := #[Value.ref b]) (hts (.methodLinkNest RX11 36 yX4_init "DearLetters") ((tbq_at 1 187 (by decide +kernel))))
  have k_7 := va_Nw.of rfl (A := #[Value.ref b]) (hts (.methodLinkNest RX11 50 yX5_init "DearLetters") ((tbq_at 2 16 (by decide +kernel))))
  have k_8 := va_Nw.of rfl (A := #[Value.ref b]) (hts (.methodLinkNest RX11 57 yX1_init "DearLetters") ((tbq_at 2 100 (by decide +kernel))))
  have k_9 := va_Nw.of rfl (A := #[Value.ref b]) (hts (.methodLinkNest RX11 66 yX6_init "DearLetters") ((tbq_at 2 125 (by decide +kernel))))
  have k_10 := va_Nw.of rfl (A := #[Value.ref b]) (hts (.methodLinkNest RX11 67 yX9_init "DearLetters") ((tbq_at 2 141 (by decide +kernel))))
  have k_11 := va_Nw.of rfl (A := #[Value.ref b]) (hts (.methodLinkNest RX2 17 yX7_init "DearLetters") ((tbq_at 1 219 (by decide +kernel))))
  have k_12 := va_Nw.of rfl (A := #[Value.ref b]) (hts (.methodLinkNest RX5 23 yX0_init "DearLetters") ((tbq_at 2 22 (by decide +kernel))))
  have k_13 := va_Nw.of rfl (A := #[Value.ref b]) (hts (.methodLinkNest RX5 135 yX11_priceAsked "DearLetters") ((tbq_at 4 30 (by decide +kernel))))
  have k_14 := va_Nw.of rfl (A := #[Value.ref b]) (hts (.methodLinkNest RX5 146 yX11_hasBit "DearLetters") ((tbq_at 4 35 (by decide +kernel))))
  have k_15 := va_Nw.of rfl (A := #[Value.ref b]) (hts (.methodLinkNest RX8 21 yX3_init "DearLetters") ((tbq_at 1 47 (by decide +kernel))))
  have k_16 := va_Nw.of rfl (A := #[Value.ref b]) (hts (.fieldLinkNest RX4 54 RX11 "KIND_SIGNS" "[C" "DearLetters") ((tbq_at 3 58 (by decide +kernel))))
  exact ⟨k_0, k_1, k_2, k_3, k_4, k_5, k_6, k_7, k_8, k_9, k_10, k_11, k_12, k_13, k_14, k_15, k_16⟩
set_option maxHeartbeats 4000000 in
set_option maxRecDepth 100000 in
theorem ls_K {p : Program} {s : State} {m : MethodId} {meth : Method} {c : Code} {b L : Nat} {xs : Nat → Int32} (C0 : lw_At p s m meth c b L xs) : ∃ (dC : Nat → ClassId) (dI : Nat → Nat → Nat), va_K (dC, dI) vwCl [] s := by
  obtain ⟨hx, hb, hr, hml, hown0, hts, hX, hbl, hlocks, hgv⟩ := C0
  have hts0 := hts
  obtain ⟨c0, i0, hKn0⟩ := u_known (C := RX0) (T := TX0) (N := 4) (n := 4) hts0 inX0 (hts (.instantiable RX0 4) (tbq_at 2 21 (by decide +kernel)))
  obtain ⟨c1, i1, hKn1⟩ := u_known (C := RX1) (T := TX1) (N := 5) (n := 5) hts0 inX1 (hts (.instantiable RX1 5) (tbq_at 2 99 (by decide +kernel)))
  obtain ⟨c2, i2, hKn2⟩ := u_known (C := RX2) (T := TX2) (N := 2) (n := 2) hts0 inX2 (hts (.instantiable RX2 2) (tbq_at 1 211 (by decide +kernel)))
  obtain ⟨c3, i3, hKn3⟩ := u_known (C := RX3) (T := TX3) (N := 10) (n := 10) hts0 inX3 (hts (.instantiable RX3 10) (tbq_at 1 46 (by decide +kernel)))
  obtain ⟨c4, i4, hKn4⟩ := u_known (C := RX4) (T := TX4) (N := 6) (n := 6) hts0 inX4 (hts (.instantiable RX4 6) (tbq_at 1 186 (by decide +kernel)))
  obtain ⟨c5, i5, hKn5⟩ := u_known (C := RX5) (T := TX5) (N := 15) (n := 15) hts0 inX5 (hts (.instantiable RX5 15) (tbq_at 2 15 (by decide +kernel)))
  obtain ⟨c6, i6, hKn6⟩ := u_known (C := RX6) (T := TX6) (N := 2) (n := 2) hts0 inX6 (hts (.instantiable RX6 2) (tbq_at 2 124 (by decide +kernel)))
  obtain ⟨c7, i7, hKn7⟩ := u_known (C := RX7) (T := TX7) (N := 7) (n := 7) hts0 inX7 (hts (.instantiable RX7 7) (tbq_at 1 218 (by decide +kernel)))
  obtain ⟨c8, i8, hKn8⟩ := u_known (C := RX8) (T := TX8) (N := 6) (n := 6) hts0 inX8 (hts (.instantiable RX8 6) (tbq_at 1 39 (by decide +kernel)))
  obtain ⟨c9, i9, hKn9⟩ := u_known (C := RX9) (T := TX9) (N := 2) (n := 2) hts0 inX9 (hts (.instantiable RX9 2) (tbq_at 2 140 (by decide +kernel)))
  obtain ⟨c10, i10, hKn10⟩ := u_known (C := RX10) (T := TX10) (N := 8) (n := 8) hts0 inX10 (hts (.instantiable RX10 8) (tbq_at 1 33 (by decide +kernel)))
  obtain ⟨c11, i11, hKn11⟩ := u_known (C := RX11) (T := TX11) (N := 11) (n := 11) hts0 inX11 (hts (.instantiable RX11 11) (tbq_at 1 19 (by decide +kernel)))
  obtain ⟨c12, i12, hKn12⟩ := u_known (C := RX12) (T := TX12) (N := 46) (n := 46) hts0 inX12 (hts (.instantiable RX12 46) (tbq_at 5 36 (by decide +kernel)))
  refine ⟨fun k => if k = 0 then c0 else if k = 1 then c1 else if k = 2 then c2 else if k = 3 then c3 else if k = 4 then c4 else if k = 5 then c5 else if k = 6 then c6 else if k = 7 then c7 else if k = 8 then c8 else if k = 9 then c9 else if k = 10 then c10 else if k = 11 then c11 else c12, fun k => if k = 0 then i0 else if k = 1 then i1 else if k = 2 then i2 else if k = 3 then i3 else if k = 4 then i4 else if k = 5 then i5 else if k = 6 then i6 else if k = 7 then i7 else if k = 8 then i8 else if k = 9 then i9 else if k = 10 then i10 else if k = 11 then i11 else i12, ?_, fun k q h => by simp at h⟩
  intro k q hq
  match k, hq with
  | 0, hq => cases hq; exact hKn0
  | 1, hq => cases hq; exact hKn1
  | 2, hq => cases hq; exact hKn2
  | 3, hq => cases hq; exact hKn3
  | 4, hq => cases hq; exact hKn4
  | 5, hq => cases hq; exact hKn5
  | 6, hq => cases hq; exact hKn6
  | 7, hq => cases hq; exact hKn7
  | 8, hq => cases hq; exact hKn8
  | 9, hq => cases hq; exact hKn9
  | 10, hq => cases hq; exact hKn10
  | 11, hq => cases hq; exact hKn11
  | 12, hq => cases hq; exact hKn12
  | k + 13, hq => simp [vwCl] at hq
set_option maxHeartbeats 4000000 in
set_option maxRecDepth 100000 in
theorem ls_ty {p : Program} {s : State} {m : MethodId} {meth : Method} {c : Code} {b L : Nat} {xs : Nat → Int32} (C0 : lw_At p s m meth c b L xs) {dC : Nat → ClassId} {dI : Nat → Nat → Nat} (hK : va_K (dC, dI) vwCl [] s) : ∃ cs : Nat → ClassId, va_K (dC, dI) vwCl (tyW cs) s ∧ va_K (dC, dI) vwCl (tyM cs) s := by
  have hq := ls_kq C0
  obtain ⟨hx, hb, hr, hml, hown0, hts, hX, hbl, hlocks, hgv⟩ := C0
  obtain ⟨a0, p0, q0⟩ := ka_int (hts (.arrayClass .int) ((tbq_at 1 102 (by decide +kernel))))
  obtain ⟨a1, p1, q1⟩ := ka_byte (hts (.arrayClass .byte) ((tbq_at 2 156 (by decide +kernel))))
  obtain ⟨a2, p2, q2⟩ := ka_obj (hq.2.2.2.2.2.2.2.2.2.1)
  obtain ⟨a3, p3, q3⟩ := ka_obj (hq.2.2.2.2.2.2.2.2.2.2.1)
  obtain ⟨a4, p4, q4⟩ := ka_obj (hq.2.2.2.2.2.2.2.2.2.2.2.1)
  obtain ⟨a5, p5, q5⟩ := ka_obj (hq.2.2.2.2.2.2.2.2.2.2.2.2.1)
  obtain ⟨a6, p6, q6⟩ := ka_obj (hq.2.2.2.2.2.2.2.2.2.2.2.2.2)
  refine ⟨fun k => if k = 0 then a0 else if k = 1 then a1 else if k = 2 then a2 else if k = 3 then a3 else if k = 4 then a4 else if k = 5 then a5 else a6, ⟨hK.1, ?_⟩, ⟨hK.1, ?_⟩⟩
  · intro k q hq
    match k, hq with
    | 0, hq => cases hq; exact ⟨p0, q0⟩
    | 1, hq => cases hq; exact ⟨p1, q1⟩
    | 2, hq => cases hq; exact ⟨p2, q2⟩
    | 3, hq => cases hq; exact ⟨p3, q3⟩
    | 4, hq => cases hq; exact ⟨p4, q4⟩
    | 5, hq => cases hq; exact ⟨p5, q5⟩
    | 6, hq => cases hq; exact ⟨p6, q6⟩
    | k + 7, hq => simp [tyW] at hq
  · intro k q hq
    match k, hq with
    | 0, hq => cases hq; exact ⟨p0, q0⟩
    | k + 1, hq => simp [tyM] at hq
set_option maxHeartbeats 4000000 in
set_option maxRecDepth 100000 in
theorem ls_ks {p : Program} {s : State} {m : MethodId} {meth : Method} {c : Code} {b L : Nat} {xs : Nat → Int32} (C0 : lw_At p s m meth c b L xs) : ∃ tt : Nat, ks (fun q : Nat => s.heap.size ≤ q) tt s.heap s := by
  obtain ⟨hx, hb, hr, hml, hown0, hts, hX, hbl, hlocks, hgv⟩ := C0
  have hs := flat_of_before _ hgv
  have hA : ∀ a : Nat, a < s.heap.size → ¬ (fun q : Nat => s.heap.size ≤ q) a := fun a h => Nat.not_le.mpr h
  have h1 : (Cond.arrayOf (Term.static "DearLetters" "KIND_SIGNS" "[C") .char).before #[Value.ref b] s = true := hs _ (by decide +kernel)
  have h2 : (Cond.eq (.length (Term.static "DearLetters" "KIND_SIGNS" "[C")) (.int 6)).before #[Value.ref b] s = true := hs _ (by decide +kernel)
  have e0 : (Cond.eq (.elem (Term.static "DearLetters" "KIND_SIGNS" "[C") (.int 0)) (.int 98)).before #[Value.ref b] s = true := hs _ (by decide +kernel)
  have e1 : (Cond.eq (.elem (Term.static "DearLetters" "KIND_SIGNS" "[C") (.int 1)) (.int 109)).before #[Value.ref b] s = true := hs _ (by decide +kernel)
  have e2 : (Cond.eq (.elem (Term.static "DearLetters" "KIND_SIGNS" "[C") (.int 2)) (.int 102)).before #[Value.ref b] s = true := hs _ (by decide +kernel)
  have e3 : (Cond.eq (.elem (Term.static "DearLetters" "KIND_SIGNS" "[C") (.int 3)) (.int 114)).before #[Value.ref b] s = true := hs _ (by decide +kernel)
  have e4 : (Cond.eq (.elem (Term.static "DearLetters" "KIND_SIGNS" "[C") (.int 4)) (.int 117)).before #[Value.ref b] s = true := hs _ (by decide +kernel)
  have e5 : (Cond.eq (.elem (Term.static "DearLetters" "KIND_SIGNS" "[C") (.int 5)) (.int 115)).before #[Value.ref b] s = true := hs _ (by decide +kernel)
  obtain ⟨t, ht, hT⟩ := va_Tof (N := 6) (f := fun j => .int (([98, 109, 102, 114, 117, 115] : List Int32).getD j 0)) (A := (fun q : Nat => s.heap.size ≤ q)) (by decide) h1 (va_eqt h2) (fun j hj => match j, hj with | 0, _ => va_eqt e0 | 1, _ => va_eqt e1 | 2, _ => va_eqt e2 | 3, _ => va_eqt e3 | 4, _ => va_eqt e4 | 5, _ => va_eqt e5 | _ + 6, hj => absurd hj (by omega)) hA
  exact ⟨t, va_Zof (hts (.laysStatic RX11 "KIND_SIGNS" "[C") ((tbq_at 3 59 (by decide +kernel)))) (hts (.initialized RX11) ((tbq_at 1 1 (by decide +kernel)))) ht hA, hT⟩
theorem mw_1_18 : (Cond.classLink RL 7 RX11 : Cond) ∈ lw_good := lg_at 1 18 rfl rfl
theorem mw_1_19 : (Cond.instantiable RX11 11 : Cond) ∈ lw_good := lg_at 1 19 rfl rfl
theorem mw_1_22 : (Cond.code yX11_init cX11_init 2 none : Cond) ∈ lw_good := lg_at 1 22 rfl rfl
theorem mw_1_20 : (Cond.methodLink RL 9 yX11_init : Cond) ∈ lw_good := lg_at 1 20 rfl rfl
theorem mw_1_21 : (Cond.instanceMethod yX11_init : Cond) ∈ lw_good := lg_at 1 21 rfl rfl
theorem mw_5_35 : (Cond.classLink RL 10 RX12 : Cond) ∈ lw_good := lg_at 5 35 rfl rfl
theorem mw_5_36 : (Cond.instantiable RX12 46 : Cond) ∈ lw_good := lg_at 5 36 rfl rfl
theorem mw_5_39 : (Cond.code yX12_init cX12_init 2 none : Cond) ∈ lw_good := lg_at 5 39 rfl rfl
theorem mw_5_37 : (Cond.methodLink RL 12 yX12_init : Cond) ∈ lw_good := lg_at 5 37 rfl rfl
theorem mw_5_38 : (Cond.instanceMethod yX12_init : Cond) ∈ lw_good := lg_at 5 38 rfl rfl
theorem dL_law_0 : decode cL_law 0 = .ok (.new 7, 3) := by decide +kernel
theorem dL_law_3 : decode cL_law 3 = .ok (.dup, 1) := by decide +kernel
theorem dL_law_4 : decode cL_law 4 = .ok (.invokespecial 9, 3) := by decide +kernel
theorem dL_law_7 : decode cL_law 7 = .ok (.astore_n 1, 1) := by decide +kernel
theorem dL_law_8 : decode cL_law 8 = .ok (.new 10, 3) := by decide +kernel
theorem dL_law_11 : decode cL_law 11 = .ok (.dup, 1) := by decide +kernel
theorem dL_law_12 : decode cL_law 12 = .ok (.invokespecial 12, 3) := by decide +kernel
theorem dL_law_15 : decode cL_law 15 = .ok (.astore_n 2, 1) := by decide +kernel
theorem dL_law_16 : decode cL_law 16 = .ok (.iconst 0, 1) := dc_iconst0 (dl_at 0 16 lb_0 rfl)
theorem dL_law_17 : decode cL_law 17 = .ok (.istore_n 3, 1) := by decide +kernel
