theorem dL_law_1324 : decode cL_law 1324 = .ok (.invokevirtual 189, 3) := by decide +kernel
theorem dL_law_1327 : decode cL_law 1327 = .ok (.pop, 1) := by decide +kernel
theorem dL_law_1328 : decode cL_law 1328 = .ok (.goto 587, 3) := by decide +kernel
theorem dL_law_1331 : decode cL_law 1331 = .ok (.aload_n 1, 1) := by decide +kernel
theorem dL_law_1332 : decode cL_law 1332 = .ok (.invokevirtual 190, 3) := by decide +kernel
theorem dL_law_1335 : decode cL_law 1335 = .ok (.pop, 1) := by decide +kernel
theorem dL_law_1336 : decode cL_law 1336 = .ok (.aload_n 2, 1) := by decide +kernel
theorem dL_law_1337 : decode cL_law 1337 = .ok (.invokevirtual 193, 3) := by decide +kernel
theorem dL_law_1340 : decode cL_law 1340 = .ok (.pop, 1) := by decide +kernel
theorem dL_law_1341 : decode cL_law 1341 = .ok (.goto 574, 3) := by decide +kernel
theorem dL_law_1344 : decode cL_law 1344 = .ok (.aload_n 1, 1) := by decide +kernel
theorem dL_law_1345 : decode cL_law 1345 = .ok (.invokevirtual 194, 3) := by decide +kernel
theorem dL_law_1348 : decode cL_law 1348 = .ok (.pop, 1) := by decide +kernel
theorem dL_law_1349 : decode cL_law 1349 = .ok (.aload_n 2, 1) := by decide +kernel
theorem dL_law_1350 : decode cL_law 1350 = .ok (.invokevirtual 197, 3) := by decide +kernel
theorem dL_law_1353 : decode cL_law 1353 = .ok (.pop, 1) := by decide +kernel
theorem dL_law_1354 : decode cL_law 1354 = .ok (.goto 561, 3) := by decide +kernel
theorem dL_law_1357 : decode cL_law 1357 = .ok (.aload_n 1, 1) := by decide +kernel
theorem dL_law_1358 : decode cL_law 1358 = .ok (.invokevirtual 198, 3) := by decide +kernel
theorem dL_law_1361 : decode cL_law 1361 = .ok (.pop, 1) := by decide +kernel
theorem dL_law_1362 : decode cL_law 1362 = .ok (.aload_n 2, 1) := by decide +kernel
theorem dL_law_1363 : decode cL_law 1363 = .ok (.invokevirtual 201, 3) := by decide +kernel
theorem dL_law_1366 : decode cL_law 1366 = .ok (.pop, 1) := by decide +kernel
theorem dL_law_1367 : decode cL_law 1367 = .ok (.goto 548, 3) := by decide +kernel
theorem dL_law_1370 : decode cL_law 1370 = .ok (.aload_n 1, 1) := by decide +kernel
theorem dL_law_1371 : decode cL_law 1371 = .ok (.aload_n 0, 1) := by decide +kernel
theorem dL_law_1372 : decode cL_law 1372 = .ok (.iload_n 3, 1) := by decide +kernel
theorem dL_law_1373 : decode cL_law 1373 = .ok (.iconst 1, 1) := by decide +kernel
theorem dL_law_1374 : decode cL_law 1374 = .ok (.iadd, 1) := by decide +kernel
theorem dL_law_1375 : decode cL_law 1375 = .ok (.iaload, 1) := by decide +kernel
theorem dL_law_1376 : decode cL_law 1376 = .ok (.aload_n 0, 1) := by decide +kernel
theorem dL_law_1377 : decode cL_law 1377 = .ok (.iload_n 3, 1) := by decide +kernel
theorem dL_law_1378 : decode cL_law 1378 = .ok (.iconst 2, 1) := by decide +kernel
theorem dL_law_1379 : decode cL_law 1379 = .ok (.iadd, 1) := by decide +kernel
theorem dL_law_1380 : decode cL_law 1380 = .ok (.iaload, 1) := by decide +kernel
theorem dL_law_1381 : decode cL_law 1381 = .ok (.aload_n 0, 1) := by decide +kernel
theorem dL_law_1382 : decode cL_law 1382 = .ok (.iload_n 3, 1) := by decide +kernel
theorem dL_law_1383 : decode cL_law 1383 = .ok (.iconst 3, 1) := by decide +kernel
theorem dL_law_1384 : decode cL_law 1384 = .ok (.iadd, 1) := by decide +kernel
theorem dL_law_1385 : decode cL_law 1385 = .ok (.iaload, 1) := by decide +kernel
theorem dL_law_1386 : decode cL_law 1386 = .ok (.invokevirtual 202, 3) := by decide +kernel
theorem dL_law_1389 : decode cL_law 1389 = .ok (.pop2, 1) := by decide +kernel
theorem dL_law_1390 : decode cL_law 1390 = .ok (.aload_n 2, 1) := by decide +kernel
theorem dL_law_1391 : decode cL_law 1391 = .ok (.aload_n 0, 1) := by decide +kernel
theorem dL_law_1392 : decode cL_law 1392 = .ok (.iload_n 3, 1) := by decide +kernel
theorem dL_law_1393 : decode cL_law 1393 = .ok (.iconst 1, 1) := by decide +kernel
theorem dL_law_1394 : decode cL_law 1394 = .ok (.iadd, 1) := by decide +kernel
theorem dL_law_1395 : decode cL_law 1395 = .ok (.iaload, 1) := by decide +kernel
theorem dL_law_1396 : decode cL_law 1396 = .ok (.aload_n 0, 1) := by decide +kernel
theorem dL_law_1397 : decode cL_law 1397 = .ok (.iload_n 3, 1) := by decide +kernel
theorem dL_law_1398 : decode cL_law 1398 = .ok (.iconst 2, 1) := by decide +kernel
theorem dL_law_1399 : decode cL_law 1399 = .ok (.iadd, 1) := by decide +kernel
theorem dL_law_1400 : decode cL_law 1400 = .ok (.iaload, 1) := by decide +kernel
theorem dL_law_1401 : decode cL_law 1401 = .ok (.aload_n 0, 1) := by decide +kernel
theorem dL_law_1402 : decode cL_law 1402 = .ok (.iload_n 3, 1) := by decide +kernel
theorem dL_law_1403 : decode cL_law 1403 = .ok (.iconst 3, 1) := by decide +kernel
theorem dL_law_1404 : decode cL_law 1404 = .ok (.iadd, 1) := by decide +kernel
theorem dL_law_1405 : decode cL_law 1405 = .ok (.iaload, 1) := by decide +kernel
theorem dL_law_1406 : decode cL_law 1406 = .ok (.invokevirtual 206, 3) := by decide +kernel
theorem dL_law_1409 : decode cL_law 1409 = .ok (.pop2, 1) := by decide +kernel
theorem dL_law_1410 : decode cL_law 1410 = .ok (.goto 505, 3) := by decide +kernel
theorem dL_law_1413 : decode cL_law 1413 = .ok (.aload_n 1, 1) := by decide +kernel
theorem dL_law_1414 : decode cL_law 1414 = .ok (.aload_n 0, 1) := by decide +kernel
theorem dL_law_1415 : decode cL_law 1415 = .ok (.iload_n 3, 1) := by decide +kernel
theorem dL_law_1416 : decode cL_law 1416 = .ok (.iconst 1, 1) := by decide +kernel
theorem dL_law_1417 : decode cL_law 1417 = .ok (.iadd, 1) := by decide +kernel
theorem dL_law_1418 : decode cL_law 1418 = .ok (.iaload, 1) := by decide +kernel
theorem dL_law_1419 : decode cL_law 1419 = .ok (.aload_n 0, 1) := by decide +kernel
theorem dL_law_1420 : decode cL_law 1420 = .ok (.iload_n 3, 1) := by decide +kernel
theorem dL_law_1421 : decode cL_law 1421 = .ok (.iconst 2, 1) := by decide +kernel
theorem dL_law_1422 : decode cL_law 1422 = .ok (.iadd, 1) := by decide +kernel
theorem dL_law_1423 : decode cL_law 1423 = .ok (.iaload, 1) := by decide +kernel
theorem dL_law_1424 : decode cL_law 1424 = .ok (.invokevirtual 207, 3) := by decide +kernel
theorem dL_law_1427 : decode cL_law 1427 = .ok (.pop, 1) := by decide +kernel
theorem dL_law_1428 : decode cL_law 1428 = .ok (.aload_n 2, 1) := by decide +kernel
theorem dL_law_1429 : decode cL_law 1429 = .ok (.aload_n 0, 1) := by decide +kernel
theorem dL_law_1430 : decode cL_law 1430 = .ok (.iload_n 3, 1) := by decide +kernel
theorem dL_law_1431 : decode cL_law 1431 = .ok (.iconst 1, 1) := by decide +kernel
theorem dL_law_1432 : decode cL_law 1432 = .ok (.iadd, 1) := by decide +kernel
theorem dL_law_1433 : decode cL_law 1433 = .ok (.iaload, 1) := by decide +kernel
theorem dL_law_1434 : decode cL_law 1434 = .ok (.aload_n 0, 1) := by decide +kernel
theorem dL_law_1435 : decode cL_law 1435 = .ok (.iload_n 3, 1) := by decide +kernel
theorem dL_law_1436 : decode cL_law 1436 = .ok (.iconst 2, 1) := by decide +kernel
theorem dL_law_1437 : decode cL_law 1437 = .ok (.iadd, 1) := by decide +kernel
theorem dL_law_1438 : decode cL_law 1438 = .ok (.iaload, 1) := by decide +kernel
theorem dL_law_1439 : decode cL_law 1439 = .ok (.invokevirtual 210, 3) := by decide +kernel
theorem dL_law_1442 : decode cL_law 1442 = .ok (.pop, 1) := by decide +kernel
theorem dL_law_1443 : decode cL_law 1443 = .ok (.goto 472, 3) := by decide +kernel
theorem dL_law_1446 : decode cL_law 1446 = .ok (.aload_n 1, 1) := by decide +kernel
theorem dL_law_1447 : decode cL_law 1447 = .ok (.aload_n 0, 1) := by decide +kernel
theorem dL_law_1448 : decode cL_law 1448 = .ok (.iload_n 3, 1) := by decide +kernel
theorem dL_law_1449 : decode cL_law 1449 = .ok (.iconst 1, 1) := by decide +kernel
theorem dL_law_1450 : decode cL_law 1450 = .ok (.iadd, 1) := by decide +kernel
theorem dL_law_1451 : decode cL_law 1451 = .ok (.iaload, 1) := by decide +kernel
theorem dL_law_1452 : decode cL_law 1452 = .ok (.aload_n 0, 1) := by decide +kernel
theorem dL_law_1453 : decode cL_law 1453 = .ok (.iload_n 3, 1) := by decide +kernel
theorem dL_law_1454 : decode cL_law 1454 = .ok (.iconst 2, 1) := by decide +kernel
theorem dL_law_1455 : decode cL_law 1455 = .ok (.iadd, 1) := by decide +kernel
theorem dL_law_1456 : decode cL_law 1456 = .ok (.iaload, 1) := by decide +kernel
theorem dL_law_1457 : decode cL_law 1457 = .ok (.invokevirtual 211, 3) := by decide +kernel
theorem dL_law_1460 : decode cL_law 1460 = .ok (.pop, 1) := by decide +kernel
theorem dL_law_1461 : decode cL_law 1461 = .ok (.aload_n 2, 1) := by decide +kernel
theorem dL_law_1462 : decode cL_law 1462 = .ok (.aload_n 0, 1) := by decide +kernel
theorem dL_law_1463 : decode cL_law 1463 = .ok (.iload_n 3, 1) := by decide +kernel
theorem dL_law_1464 : decode cL_law 1464 = .ok (.iconst 1, 1) := by decide +kernel
theorem dL_law_1465 : decode cL_law 1465 = .ok (.iadd, 1) := by decide +kernel
theorem dL_law_1466 : decode cL_law 1466 = .ok (.iaload, 1) := by decide +kernel
theorem dL_law_1467 : decode cL_law 1467 = .ok (.aload_n 0, 1) := by decide +kernel
theorem dL_law_1468 : decode cL_law 1468 = .ok (.iload_n 3, 1) := by decide +kernel
theorem dL_law_1469 : decode cL_law 1469 = .ok (.iconst 2, 1) := by decide +kernel
theorem dL_law_1470 : decode cL_law 1470 = .ok (.iadd, 1) := by decide +kernel
theorem dL_law_1471 : decode cL_law 1471 = .ok (.iaload, 1) := by decide +kernel
theorem dL_law_1472 : decode cL_law 1472 = .ok (.invokevirtual 214, 3) := by decide +kernel
theorem dL_law_1475 : decode cL_law 1475 = .ok (.pop, 1) := by decide +kernel
theorem dL_law_1476 : decode cL_law 1476 = .ok (.goto 439, 3) := by decide +kernel
theorem dL_law_1479 : decode cL_law 1479 = .ok (.aload_n 1, 1) := by decide +kernel
theorem dL_law_1480 : decode cL_law 1480 = .ok (.aload_n 0, 1) := by decide +kernel
theorem dL_law_1481 : decode cL_law 1481 = .ok (.iload_n 3, 1) := by decide +kernel
theorem dL_law_1482 : decode cL_law 1482 = .ok (.iconst 1, 1) := by decide +kernel
theorem dL_law_1483 : decode cL_law 1483 = .ok (.iadd, 1) := by decide +kernel
theorem dL_law_1484 : decode cL_law 1484 = .ok (.iaload, 1) := by decide +kernel
theorem dL_law_1485 : decode cL_law 1485 = .ok (.aload_n 0, 1) := by decide +kernel
theorem dL_law_1486 : decode cL_law 1486 = .ok (.iload_n 3, 1) := by decide +kernel
theorem dL_law_1487 : decode cL_law 1487 = .ok (.iconst 2, 1) := by decide +kernel
theorem dL_law_1488 : decode cL_law 1488 = .ok (.iadd, 1) := by decide +kernel
theorem dL_law_1489 : decode cL_law 1489 = .ok (.iaload, 1) := by decide +kernel
theorem dL_law_1490 : decode cL_law 1490 = .ok (.invokevirtual 215, 3) := by decide +kernel
theorem dL_law_1493 : decode cL_law 1493 = .ok (.pop, 1) := by decide +kernel
theorem dL_law_1494 : decode cL_law 1494 = .ok (.aload_n 2, 1) := by decide +kernel
theorem dL_law_1495 : decode cL_law 1495 = .ok (.aload_n 0, 1) := by decide +kernel
theorem dL_law_1496 : decode cL_law 1496 = .ok (.iload_n 3, 1) := by decide +kernel
theorem dL_law_1497 : decode cL_law 1497 = .ok (.iconst 1, 1) := by decide +kernel
theorem dL_law_1498 : decode cL_law 1498 = .ok (.iadd, 1) := by decide +kernel
theorem dL_law_1499 : decode cL_law 1499 = .ok (.iaload, 1) := by decide +kernel
theorem dL_law_1500 : decode cL_law 1500 = .ok (.aload_n 0, 1) := by decide +kernel
theorem dL_law_1501 : decode cL_law 1501 = .ok (.iload_n 3, 1) := by decide +kernel
theorem dL_law_1502 : decode cL_law 1502 = .ok (.iconst 2, 1) := by decide +kernel
theorem dL_law_1503 : decode cL_law 1503 = .ok (.iadd, 1) := by decide +kernel
theorem dL_law_1504 : decode cL_law 1504 = .ok (.iaload, 1) := by decide +kernel
theorem dL_law_1505 : decode cL_law 1505 = .ok (.invokevirtual 218, 3) := by decide +kernel
theorem dL_law_1508 : decode cL_law 1508 = .ok (.pop, 1) := by decide +kernel
theorem dL_law_1509 : decode cL_law 1509 = .ok (.goto 406, 3) := by decide +kernel
theorem dL_law_1512 : decode cL_law 1512 = .ok (.aload_n 1, 1) := by decide +kernel
theorem dL_law_1513 : decode cL_law 1513 = .ok (.invokevirtual 219, 3) := by decide +kernel
theorem dL_law_1516 : decode cL_law 1516 = .ok (.pop, 1) := by decide +kernel
theorem dL_law_1517 : decode cL_law 1517 = .ok (.aload_n 2, 1) := by decide +kernel
theorem dL_law_1518 : decode cL_law 1518 = .ok (.invokevirtual 222, 3) := by decide +kernel
theorem dL_law_1521 : decode cL_law 1521 = .ok (.pop, 1) := by decide +kernel
theorem dL_law_1522 : decode cL_law 1522 = .ok (.goto 393, 3) := by decide +kernel
theorem dL_law_1525 : decode cL_law 1525 = .ok (.aload_n 1, 1) := by decide +kernel
theorem dL_law_1526 : decode cL_law 1526 = .ok (.invokevirtual 223, 3) := by decide +kernel
theorem dL_law_1529 : decode cL_law 1529 = .ok (.pop, 1) := by decide +kernel
theorem dL_law_1530 : decode cL_law 1530 = .ok (.aload_n 2, 1) := by decide +kernel
theorem dL_law_1531 : decode cL_law 1531 = .ok (.invokevirtual 226, 3) := by decide +kernel
theorem dL_law_1534 : decode cL_law 1534 = .ok (.pop, 1) := by decide +kernel
theorem dL_law_1535 : decode cL_law 1535 = .ok (.goto 380, 3) := by decide +kernel
theorem dL_law_1538 : decode cL_law 1538 = .ok (.aload_n 1, 1) := by decide +kernel
theorem dL_law_1539 : decode cL_law 1539 = .ok (.aload_n 0, 1) := by decide +kernel
theorem dL_law_1540 : decode cL_law 1540 = .ok (.iload_n 3, 1) := by decide +kernel
theorem dL_law_1541 : decode cL_law 1541 = .ok (.iconst 1, 1) := by decide +kernel
theorem dL_law_1542 : decode cL_law 1542 = .ok (.iadd, 1) := by decide +kernel
theorem dL_law_1543 : decode cL_law 1543 = .ok (.iaload, 1) := by decide +kernel
theorem dL_law_1544 : decode cL_law 1544 = .ok (.aload_n 0, 1) := by decide +kernel
theorem dL_law_1545 : decode cL_law 1545 = .ok (.iload_n 3, 1) := by decide +kernel
theorem dL_law_1546 : decode cL_law 1546 = .ok (.iconst 2, 1) := by decide +kernel
theorem dL_law_1547 : decode cL_law 1547 = .ok (.iadd, 1) := by decide +kernel
theorem dL_law_1548 : decode cL_law 1548 = .ok (.iaload, 1) := by decide +kernel
theorem dL_law_1549 : decode cL_law 1549 = .ok (.invokevirtual 227, 3) := by decide +kernel
theorem dL_law_1552 : decode cL_law 1552 = .ok (.pop, 1) := by decide +kernel
theorem dL_law_1553 : decode cL_law 1553 = .ok (.aload_n 2, 1) := by decide +kernel
theorem dL_law_1554 : decode cL_law 1554 = .ok (.aload_n 0, 1) := by decide +kernel
theorem dL_law_1555 : decode cL_law 1555 = .ok (.iload_n 3, 1) := by decide +kernel
theorem dL_law_1556 : decode cL_law 1556 = .ok (.iconst 1, 1) := by decide +kernel
theorem dL_law_1557 : decode cL_law 1557 = .ok (.iadd, 1) := by decide +kernel
theorem dL_law_1558 : decode cL_law 1558 = .ok (.iaload, 1) := by decide +kernel
theorem dL_law_1559 : decode cL_law 1559 = .ok (.aload_n 0, 1) := by decide +kernel
theorem dL_law_1560 : decode cL_law 1560 = .ok (.iload_n 3, 1) := by decide +kernel
theorem dL_law_1561 : decode cL_law 1561 = .ok (.iconst 2, 1) := by decide +kernel
theorem dL_law_1562 : decode cL_law 1562 = .ok (.iadd, 1) := by decide +kernel
theorem dL_law_1563 : decode cL_law 1563 = .ok (.iaload, 1) := by decide +kernel
theorem dL_law_1564 : decode cL_law 1564 = .ok (.invokevirtual 230, 3) := by decide +kernel
theorem dL_law_1567 : decode cL_law 1567 = .ok (.pop, 1) := by decide +kernel
theorem dL_law_1568 : decode cL_law 1568 = .ok (.goto 347, 3) := by decide +kernel
theorem dL_law_1571 : decode cL_law 1571 = .ok (.aload_n 1, 1) := by decide +kernel
theorem dL_law_1572 : decode cL_law 1572 = .ok (.aload_n 0, 1) := by decide +kernel
theorem dL_law_1573 : decode cL_law 1573 = .ok (.iload_n 3, 1) := by decide +kernel
theorem dL_law_1574 : decode cL_law 1574 = .ok (.iconst 1, 1) := by decide +kernel
theorem dL_law_1575 : decode cL_law 1575 = .ok (.iadd, 1) := by decide +kernel
theorem dL_law_1576 : decode cL_law 1576 = .ok (.iaload, 1) := by decide +kernel
theorem dL_law_1577 : decode cL_law 1577 = .ok (.aload_n 0, 1) := by decide +kernel
theorem dL_law_1578 : decode cL_law 1578 = .ok (.iload_n 3, 1) := by decide +kernel
theorem dL_law_1579 : decode cL_law 1579 = .ok (.iconst 2, 1) := by decide +kernel
theorem dL_law_1580 : decode cL_law 1580 = .ok (.iadd, 1) := by decide +kernel
theorem dL_law_1581 : decode cL_law 1581 = .ok (.iaload, 1) := by decide +kernel
theorem dL_law_1582 : decode cL_law 1582 = .ok (.aload_n 0, 1) := by decide +kernel
theorem dL_law_1583 : decode cL_law 1583 = .ok (.iload_n 3, 1) := by decide +kernel
theorem dL_law_1584 : decode cL_law 1584 = .ok (.iconst 3, 1) := by decide +kernel
theorem dL_law_1585 : decode cL_law 1585 = .ok (.iadd, 1) := by decide +kernel
theorem dL_law_1586 : decode cL_law 1586 = .ok (.iaload, 1) := by decide +kernel
theorem dL_law_1587 : decode cL_law 1587 = .ok (.aload_n 0, 1) := by decide +kernel
theorem dL_law_1588 : decode cL_law 1588 = .ok (.iload_n 3, 1) := by decide +kernel
theorem dL_law_1589 : decode cL_law 1589 = .ok (.iconst 4, 1) := by decide +kernel
theorem dL_law_1590 : decode cL_law 1590 = .ok (.iadd, 1) := by decide +kernel
theorem dL_law_1591 : decode cL_law 1591 = .ok (.iaload, 1) := by decide +kernel
theorem dL_law_1592 : decode cL_law 1592 = .ok (.invokevirtual 231, 3) := by decide +kernel
theorem dL_law_1595 : decode cL_law 1595 = .ok (.pop, 1) := by decide +kernel
theorem dL_law_1596 : decode cL_law 1596 = .ok (.aload_n 2, 1) := by decide +kernel
theorem dL_law_1597 : decode cL_law 1597 = .ok (.aload_n 0, 1) := by decide +kernel
theorem dL_law_1598 : decode cL_law 1598 = .ok (.iload_n 3, 1) := by decide +kernel
theorem dL_law_1599 : decode cL_law 1599 = .ok (.iconst 1, 1) := by decide +kernel
theorem dL_law_1600 : decode cL_law 1600 = .ok (.iadd, 1) := by decide +kernel
theorem dL_law_1601 : decode cL_law 1601 = .ok (.iaload, 1) := by decide +kernel
theorem dL_law_1602 : decode cL_law 1602 = .ok (.aload_n 0, 1) := by decide +kernel
theorem dL_law_1603 : decode cL_law 1603 = .ok (.iload_n 3, 1) := by decide +kernel
theorem dL_law_1604 : decode cL_law 1604 = .ok (.iconst 2, 1) := by decide +kernel
theorem dL_law_1605 : decode cL_law 1605 = .ok (.iadd, 1) := by decide +kernel
theorem dL_law_1606 : decode cL_law 1606 = .ok (.iaload, 1) := by decide +kernel
theorem dL_law_1607 : decode cL_law 1607 = .ok (.aload_n 0, 1) := by decide +kernel
theorem dL_law_1608 : decode cL_law 1608 = .ok (.iload_n 3, 1) := by decide +kernel
theorem dL_law_1609 : decode cL_law 1609 = .ok (.iconst 3, 1) := by decide +kernel
theorem dL_law_1610 : decode cL_law 1610 = .ok (.iadd, 1) := by decide +kernel
theorem dL_law_1611 : decode cL_law 1611 = .ok (.iaload, 1) := by decide +kernel
theorem dL_law_1612 : decode cL_law 1612 = .ok (.aload_n 0, 1) := by decide +kernel
theorem dL_law_1613 : decode cL_law 1613 = .ok (.iload_n 3, 1) := by decide +kernel
theorem dL_law_1614 : decode cL_law 1614 = .ok (.iconst 4, 1) := by decide +kernel
theorem dL_law_1615 : decode cL_law 1615 = .ok (.iadd, 1) := by decide +kernel
theorem dL_law_1616 : decode cL_law 1616 = .ok (.iaload, 1) := by decide +kernel
theorem dL_law_1617 : decode cL_law 1617 = .ok (.invokevirtual 235, 3) := by decide +kernel
theorem dL_law_1620 : decode cL_law 1620 = .ok (.pop, 1) := by decide +kernel
theorem dL_law_1621 : decode cL_law 1621 = .ok (.goto 294, 3) := by decide +kernel
theorem dL_law_1624 : decode cL_law 1624 = .ok (.aload_n 1, 1) := by decide +kernel
theorem dL_law_1625 : decode cL_law 1625 = .ok (.aload_n 0, 1) := by decide +kernel
theorem dL_law_1626 : decode cL_law 1626 = .ok (.iload_n 3, 1) := by decide +kernel
theorem dL_law_1627 : decode cL_law 1627 = .ok (.iconst 1, 1) := by decide +kernel
theorem dL_law_1628 : decode cL_law 1628 = .ok (.iadd, 1) := by decide +kernel
theorem dL_law_1629 : decode cL_law 1629 = .ok (.iaload, 1) := by decide +kernel
theorem dL_law_1630 : decode cL_law 1630 = .ok (.aload_n 0, 1) := by decide +kernel
theorem dL_law_1631 : decode cL_law 1631 = .ok (.iload_n 3, 1) := by decide +kernel
theorem dL_law_1632 : decode cL_law 1632 = .ok (.iconst 2, 1) := by decide +kernel
theorem dL_law_1633 : decode cL_law 1633 = .ok (.iadd, 1) := by decide +kernel
theorem dL_law_1634 : decode cL_law 1634 = .ok (.iaload, 1) := by decide +kernel
theorem dL_law_1635 : decode cL_law 1635 = .ok (.aload_n 0, 1) := by decide +kernel
theorem dL_law_1636 : decode cL_law 1636 = .ok (.iload_n 3, 1) := by decide +kernel
theorem dL_law_1637 : decode cL_law 1637 = .ok (.iconst 3, 1) := by decide +kernel
theorem dL_law_1638 : decode cL_law 1638 = .ok (.iadd, 1) := by decide +kernel
theorem dL_law_1639 : decode cL_law 1639 = .ok (.iaload, 1) := by decide +kernel
theorem dL_law_1640 : decode cL_law 1640 = .ok (.invokevirtual 236, 3) := by decide +kernel
theorem dL_law_1643 : decode cL_law 1643 = .ok (.pop, 1) := by decide +kernel
theorem dL_law_1644 : decode cL_law 1644 = .ok (.aload_n 2, 1) := by decide +kernel
theorem dL_law_1645 : decode cL_law 1645 = .ok (.aload_n 0, 1) := by decide +kernel
theorem dL_law_1646 : decode cL_law 1646 = .ok (.iload_n 3, 1) := by decide +kernel
theorem dL_law_1647 : decode cL_law 1647 = .ok (.iconst 1, 1) := by decide +kernel
theorem dL_law_1648 : decode cL_law 1648 = .ok (.iadd, 1) := by decide +kernel
theorem dL_law_1649 : decode cL_law 1649 = .ok (.iaload, 1) := by decide +kernel
theorem dL_law_1650 : decode cL_law 1650 = .ok (.aload_n 0, 1) := by decide +kernel
theorem dL_law_1651 : decode cL_law 1651 = .ok (.iload_n 3, 1) := by decide +kernel
theorem dL_law_1652 : decode cL_law 1652 = .ok (.iconst 2, 1) := by decide +kernel
theorem dL_law_1653 : decode cL_law 1653 = .ok (.iadd, 1) := by decide +kernel
theorem dL_law_1654 : decode cL_law 1654 = .ok (.iaload, 1) := by decide +kernel
theorem dL_law_1655 : decode cL_law 1655 = .ok (.aload_n 0, 1) := by decide +kernel
theorem dL_law_1656 : decode cL_law 1656 = .ok (.iload_n 3, 1) := by decide +kernel
theorem dL_law_1657 : decode cL_law 1657 = .ok (.iconst 3, 1) := by decide +kernel
theorem dL_law_1658 : decode cL_law 1658 = .ok (.iadd, 1) := by decide +kernel
theorem dL_law_1659 : decode cL_law 1659 = .ok (.iaload, 1) := by decide +kernel
theorem dL_law_1660 : decode cL_law 1660 = .ok (.invokevirtual 239, 3) := by decide +kernel
theorem dL_law_1663 : decode cL_law 1663 = .ok (.pop, 1) := by decide +kernel
theorem dL_law_1664 : decode cL_law 1664 = .ok (.goto 251, 3) := by decide +kernel
theorem dL_law_1667 : decode cL_law 1667 = .ok (.aload_n 1, 1) := by decide +kernel
theorem dL_law_1668 : decode cL_law 1668 = .ok (.aload_n 0, 1) := by decide +kernel
theorem dL_law_1669 : decode cL_law 1669 = .ok (.iload_n 3, 1) := by decide +kernel
theorem dL_law_1670 : decode cL_law 1670 = .ok (.iconst 1, 1) := by decide +kernel
theorem dL_law_1671 : decode cL_law 1671 = .ok (.iadd, 1) := by decide +kernel
theorem dL_law_1672 : decode cL_law 1672 = .ok (.iaload, 1) := by decide +kernel
theorem dL_law_1673 : decode cL_law 1673 = .ok (.invokevirtual 240, 3) := by decide +kernel
theorem dL_law_1676 : decode cL_law 1676 = .ok (.pop, 1) := by decide +kernel
theorem dL_law_1677 : decode cL_law 1677 = .ok (.aload_n 2, 1) := by decide +kernel
theorem dL_law_1678 : decode cL_law 1678 = .ok (.aload_n 0, 1) := by decide +kernel
theorem dL_law_1679 : decode cL_law 1679 = .ok (.iload_n 3, 1) := by decide +kernel
theorem dL_law_1680 : decode cL_law 1680 = .ok (.iconst 1, 1) := by decide +kernel
theorem dL_law_1681 : decode cL_law 1681 = .ok (.iadd, 1) := by decide +kernel
theorem dL_law_1682 : decode cL_law 1682 = .ok (.iaload, 1) := by decide +kernel
theorem dL_law_1683 : decode cL_law 1683 = .ok (.invokevirtual 243, 3) := by decide +kernel
theorem dL_law_1686 : decode cL_law 1686 = .ok (.pop, 1) := by decide +kernel
theorem dL_law_1687 : decode cL_law 1687 = .ok (.goto 228, 3) := by decide +kernel
theorem dL_law_1690 : decode cL_law 1690 = .ok (.aload_n 1, 1) := by decide +kernel
theorem dL_law_1691 : decode cL_law 1691 = .ok (.aload_n 0, 1) := by decide +kernel
theorem dL_law_1692 : decode cL_law 1692 = .ok (.iload_n 3, 1) := by decide +kernel
theorem dL_law_1693 : decode cL_law 1693 = .ok (.iconst 1, 1) := by decide +kernel
theorem dL_law_1694 : decode cL_law 1694 = .ok (.iadd, 1) := by decide +kernel
theorem dL_law_1695 : decode cL_law 1695 = .ok (.iaload, 1) := by decide +kernel
theorem dL_law_1696 : decode cL_law 1696 = .ok (.invokevirtual 244, 3) := by decide +kernel
theorem dL_law_1699 : decode cL_law 1699 = .ok (.pop, 1) := by decide +kernel
theorem dL_law_1700 : decode cL_law 1700 = .ok (.aload_n 2, 1) := by decide +kernel
theorem dL_law_1701 : decode cL_law 1701 = .ok (.aload_n 0, 1) := by decide +kernel
theorem dL_law_1702 : decode cL_law 1702 = .ok (.iload_n 3, 1) := by decide +kernel
theorem dL_law_1703 : decode cL_law 1703 = .ok (.iconst 1, 1) := by decide +kernel
theorem dL_law_1704 : decode cL_law 1704 = .ok (.iadd, 1) := by decide +kernel
theorem dL_law_1705 : decode cL_law 1705 = .ok (.iaload, 1) := by decide +kernel
theorem dL_law_1706 : decode cL_law 1706 = .ok (.invokevirtual 247, 3) := by decide +kernel
theorem dL_law_1709 : decode cL_law 1709 = .ok (.pop, 1) := by decide +kernel
theorem dL_law_1710 : decode cL_law 1710 = .ok (.goto 205, 3) := by decide +kernel
theorem dL_law_1713 : decode cL_law 1713 = .ok (.aload_n 1, 1) := by decide +kernel
theorem dL_law_1714 : decode cL_law 1714 = .ok (.aload_n 0, 1) := by decide +kernel
theorem dL_law_1715 : decode cL_law 1715 = .ok (.iload_n 3, 1) := by decide +kernel
theorem dL_law_1716 : decode cL_law 1716 = .ok (.iconst 1, 1) := by decide +kernel
theorem dL_law_1717 : decode cL_law 1717 = .ok (.iadd, 1) := by decide +kernel
theorem dL_law_1718 : decode cL_law 1718 = .ok (.iaload, 1) := by decide +kernel
theorem dL_law_1719 : decode cL_law 1719 = .ok (.invokevirtual 248, 3) := by decide +kernel
theorem dL_law_1722 : decode cL_law 1722 = .ok (.pop, 1) := by decide +kernel
theorem dL_law_1723 : decode cL_law 1723 = .ok (.aload_n 2, 1) := by decide +kernel
theorem dL_law_1724 : decode cL_law 1724 = .ok (.aload_n 0, 1) := by decide +kernel
theorem dL_law_1725 : decode cL_law 1725 = .ok (.iload_n 3, 1) := by decide +kernel
theorem dL_law_1726 : decode cL_law 1726 = .ok (.iconst 1, 1) := by decide +kernel
theorem dL_law_1727 : decode cL_law 1727 = .ok (.iadd, 1) := by decide +kernel
theorem dL_law_1728 : decode cL_law 1728 = .ok (.iaload, 1) := by decide +kernel
theorem dL_law_1729 : decode cL_law 1729 = .ok (.invokevirtual 251, 3) := by decide +kernel
theorem dL_law_1732 : decode cL_law 1732 = .ok (.pop, 1) := by decide +kernel
theorem dL_law_1733 : decode cL_law 1733 = .ok (.goto 182, 3) := by decide +kernel
theorem dL_law_1736 : decode cL_law 1736 = .ok (.aload_n 1, 1) := by decide +kernel
theorem dL_law_1737 : decode cL_law 1737 = .ok (.aload_n 0, 1) := by decide +kernel
theorem dL_law_1738 : decode cL_law 1738 = .ok (.iload_n 3, 1) := by decide +kernel
theorem dL_law_1739 : decode cL_law 1739 = .ok (.iconst 1, 1) := by decide +kernel
theorem dL_law_1740 : decode cL_law 1740 = .ok (.iadd, 1) := by decide +kernel
theorem dL_law_1741 : decode cL_law 1741 = .ok (.iaload, 1) := by decide +kernel
theorem dL_law_1742 : decode cL_law 1742 = .ok (.aload_n 0, 1) := by decide +kernel
theorem dL_law_1743 : decode cL_law 1743 = .ok (.iload_n 3, 1) := by decide +kernel
theorem dL_law_1744 : decode cL_law 1744 = .ok (.iconst 2, 1) := by decide +kernel
theorem dL_law_1745 : decode cL_law 1745 = .ok (.iadd, 1) := by decide +kernel
theorem dL_law_1746 : decode cL_law 1746 = .ok (.iaload, 1) := by decide +kernel
theorem dL_law_1747 : decode cL_law 1747 = .ok (.aload_n 0, 1) := by decide +kernel
theorem dL_law_1748 : decode cL_law 1748 = .ok (.iload_n 3, 1) := by decide +kernel
theorem dL_law_1749 : decode cL_law 1749 = .ok (.iconst 3, 1) := by decide +kernel
theorem dL_law_1750 : decode cL_law 1750 = .ok (.iadd, 1) := by decide +kernel
theorem dL_law_1751 : decode cL_law 1751 = .ok (.iaload, 1) := by decide +kernel
theorem dL_law_1752 : decode cL_law 1752 = .ok (.invokevirtual 252, 3) := by decide +kernel
theorem dL_law_1755 : decode cL_law 1755 = .ok (.pop, 1) := by decide +kernel
theorem dL_law_1756 : decode cL_law 1756 = .ok (.aload_n 2, 1) := by decide +kernel
theorem dL_law_1757 : decode cL_law 1757 = .ok (.aload_n 0, 1) := by decide +kernel
theorem dL_law_1758 : decode cL_law 1758 = .ok (.iload_n 3, 1) := by decide +kernel
theorem dL_law_1759 : decode cL_law 1759 = .ok (.iconst 1, 1) := by decide +kernel
theorem dL_law_1760 : decode cL_law 1760 = .ok (.iadd, 1) := by decide +kernel
theorem dL_law_1761 : decode cL_law 1761 = .ok (.iaload, 1) := by decide +kernel
theorem dL_law_1762 : decode cL_law 1762 = .ok (.aload_n 0, 1) := by decide +kernel
theorem dL_law_1763 : decode cL_law 1763 = .ok (.iload_n 3, 1) := by decide +kernel
theorem dL_law_1764 : decode cL_law 1764 = .ok (.iconst 2, 1) := by decide +kernel
theorem dL_law_1765 : decode cL_law 1765 = .ok (.iadd, 1) := by decide +kernel
theorem dL_law_1766 : decode cL_law 1766 = .ok (.iaload, 1) := by decide +kernel
theorem dL_law_1767 : decode cL_law 1767 = .ok (.aload_n 0, 1) := by decide +kernel
theorem dL_law_1768 : decode cL_law 1768 = .ok (.iload_n 3, 1) := by decide +kernel
theorem dL_law_1769 : decode cL_law 1769 = .ok (.iconst 3, 1) := by decide +kernel
theorem dL_law_1770 : decode cL_law 1770 = .ok (.iadd, 1) := by decide +kernel
theorem dL_law_1771 : decode cL_law 1771 = .ok (.iaload, 1) := by decide +kernel
theorem dL_law_1772 : decode cL_law 1772 = .ok (.invokevirtual 255, 3) := by decide +kernel
theorem dL_law_1775 : decode cL_law 1775 = .ok (.pop, 1) := by decide +kernel
theorem dL_law_1776 : decode cL_law 1776 = .ok (.goto 139, 3) := by decide +kernel
theorem dL_law_1779 : decode cL_law 1779 = .ok (.aload_n 1, 1) := by decide +kernel
theorem dL_law_1780 : decode cL_law 1780 = .ok (.aload_n 0, 1) := by decide +kernel
theorem dL_law_1781 : decode cL_law 1781 = .ok (.iload_n 3, 1) := by decide +kernel
theorem dL_law_1782 : decode cL_law 1782 = .ok (.iconst 1, 1) := by decide +kernel
theorem dL_law_1783 : decode cL_law 1783 = .ok (.iadd, 1) := by decide +kernel
theorem dL_law_1784 : decode cL_law 1784 = .ok (.iaload, 1) := by decide +kernel
theorem dL_law_1785 : decode cL_law 1785 = .ok (.aload_n 0, 1) := by decide +kernel
theorem dL_law_1786 : decode cL_law 1786 = .ok (.iload_n 3, 1) := by decide +kernel
theorem dL_law_1787 : decode cL_law 1787 = .ok (.iconst 2, 1) := by decide +kernel
theorem dL_law_1788 : decode cL_law 1788 = .ok (.iadd, 1) := by decide +kernel
theorem dL_law_1789 : decode cL_law 1789 = .ok (.iaload, 1) := by decide +kernel
theorem dL_law_1790 : decode cL_law 1790 = .ok (.aload_n 0, 1) := by decide +kernel
theorem dL_law_1791 : decode cL_law 1791 = .ok (.iload_n 3, 1) := by decide +kernel
theorem dL_law_1792 : decode cL_law 1792 = .ok (.iconst 3, 1) := by decide +kernel
theorem dL_law_1793 : decode cL_law 1793 = .ok (.iadd, 1) := by decide +kernel
theorem dL_law_1794 : decode cL_law 1794 = .ok (.iaload, 1) := by decide +kernel
theorem dL_law_1795 : decode cL_law 1795 = .ok (.i2l, 1) := by decide +kernel
theorem dL_law_1796 : decode cL_law 1796 = .ok (.bipush 32, 2) := by decide +kernel
theorem dL_law_1798 : decode cL_law 1798 = .ok (.lshl, 1) := by decide +kernel
theorem dL_law_1799 : decode cL_law 1799 = .ok (.aload_n 0, 1) := by decide +kernel
theorem dL_law_1800 : decode cL_law 1800 = .ok (.iload_n 3, 1) := by decide +kernel
theorem dL_law_1801 : decode cL_law 1801 = .ok (.iconst 4, 1) := by decide +kernel
theorem dL_law_1802 : decode cL_law 1802 = .ok (.iadd, 1) := by decide +kernel
theorem dL_law_1803 : decode cL_law 1803 = .ok (.iaload, 1) := by decide +kernel
theorem dL_law_1804 : decode cL_law 1804 = .ok (.i2l, 1) := by decide +kernel
theorem dL_law_1805 : decode cL_law 1805 = .ok (.ldc2_w 256, 3) := by decide +kernel
theorem dL_law_1808 : decode cL_law 1808 = .ok (.land, 1) := by decide +kernel
theorem dL_law_1809 : decode cL_law 1809 = .ok (.lor, 1) := by decide +kernel
theorem dL_law_1810 : decode cL_law 1810 = .ok (.invokevirtual 258, 3) := by decide +kernel
theorem dL_law_1813 : decode cL_law 1813 = .ok (.pop, 1) := by decide +kernel
theorem dL_law_1814 : decode cL_law 1814 = .ok (.aload_n 2, 1) := by decide +kernel
theorem dL_law_1815 : decode cL_law 1815 = .ok (.aload_n 0, 1) := by decide +kernel
theorem dL_law_1816 : decode cL_law 1816 = .ok (.iload_n 3, 1) := by decide +kernel
theorem dL_law_1817 : decode cL_law 1817 = .ok (.iconst 1, 1) := by decide +kernel
theorem dL_law_1818 : decode cL_law 1818 = .ok (.iadd, 1) := by decide +kernel
theorem dL_law_1819 : decode cL_law 1819 = .ok (.iaload, 1) := by decide +kernel
theorem dL_law_1820 : decode cL_law 1820 = .ok (.aload_n 0, 1) := by decide +kernel
theorem dL_law_1821 : decode cL_law 1821 = .ok (.iload_n 3, 1) := by decide +kernel
theorem dL_law_1822 : decode cL_law 1822 = .ok (.iconst 2, 1) := by decide +kernel
theorem dL_law_1823 : decode cL_law 1823 = .ok (.iadd, 1) := by decide +kernel
theorem dL_law_1824 : decode cL_law 1824 = .ok (.iaload, 1) := by decide +kernel
theorem dL_law_1825 : decode cL_law 1825 = .ok (.aload_n 0, 1) := by decide +kernel
theorem dL_law_1826 : decode cL_law 1826 = .ok (.iload_n 3, 1) := by decide +kernel
theorem dL_law_1827 : decode cL_law 1827 = .ok (.iconst 3, 1) := by decide +kernel
theorem dL_law_1828 : decode cL_law 1828 = .ok (.iadd, 1) := by decide +kernel
