/-! the law: its instructions -/
theorem d_Law_law_1286 : decode code 1286 = .ok (.invokevirtual 163, 3) := by decide +kernel
theorem d_Law_law_1289 : decode code 1289 = .ok (.iload 6, 2) := by decide +kernel
theorem d_Law_law_1291 : decode code 1291 = .ok (.if_icmp .eq 5, 3) := by decide +kernel
theorem d_Law_law_1294 : decode code 1294 = .ok (.iconst 0, 1) := by decide +kernel
theorem d_Law_law_1295 : decode code 1295 = .ok (.ireturn, 1) := by decide +kernel
theorem d_Law_law_1296 : decode code 1296 = .ok (.iload 6, 2) := by decide +kernel
theorem d_Law_law_1298 : decode code 1298 = .ok (.ifCond .ne 15, 3) := by decide +kernel
theorem d_Law_law_1301 : decode code 1301 = .ok (.aload_n 3, 1) := by decide +kernel
theorem d_Law_law_1302 : decode code 1302 = .ok (.iconst 0, 1) := by decide +kernel
theorem d_Law_law_1303 : decode code 1303 = .ok (.laload, 1) := by decide +kernel
theorem d_Law_law_1304 : decode code 1304 = .ok (.iload 7, 2) := by decide +kernel
theorem d_Law_law_1306 : decode code 1306 = .ok (.i2l, 1) := by decide +kernel
theorem d_Law_law_1307 : decode code 1307 = .ok (.lcmp, 1) := by decide +kernel
theorem d_Law_law_1308 : decode code 1308 = .ok (.ifCond .eq 5, 3) := by decide +kernel
theorem d_Law_law_1311 : decode code 1311 = .ok (.iconst 0, 1) := by decide +kernel
theorem d_Law_law_1312 : decode code 1312 = .ok (.ireturn, 1) := by decide +kernel
theorem d_Law_law_1313 : decode code 1313 = .ok (.goto 1620, 3) := by decide +kernel
theorem d_Law_law_1316 : decode code 1316 = .ok (.aload_n 1, 1) := by decide +kernel
theorem d_Law_law_1317 : decode code 1317 = .ok (.aload_n 0, 1) := by decide +kernel
theorem d_Law_law_1318 : decode code 1318 = .ok (.iload 5, 2) := by decide +kernel
theorem d_Law_law_1320 : decode code 1320 = .ok (.iconst 1, 1) := by decide +kernel
theorem d_Law_law_1321 : decode code 1321 = .ok (.iadd, 1) := by decide +kernel
theorem d_Law_law_1322 : decode code 1322 = .ok (.iaload, 1) := by decide +kernel
theorem d_Law_law_1323 : decode code 1323 = .ok (.aload_n 3, 1) := by decide +kernel
theorem d_Law_law_1324 : decode code 1324 = .ok (.invokestatic 253, 3) := by decide +kernel
theorem d_Law_law_1327 : decode code 1327 = .ok (.istore 6, 2) := by decide +kernel
theorem d_Law_law_1329 : decode code 1329 = .ok (.aload_n 2, 1) := by decide +kernel
theorem d_Law_law_1330 : decode code 1330 = .ok (.aload_n 0, 1) := by decide +kernel
theorem d_Law_law_1331 : decode code 1331 = .ok (.iload 5, 2) := by decide +kernel
theorem d_Law_law_1333 : decode code 1333 = .ok (.iconst 1, 1) := by decide +kernel
theorem d_Law_law_1334 : decode code 1334 = .ok (.iadd, 1) := by decide +kernel
theorem d_Law_law_1335 : decode code 1335 = .ok (.iaload, 1) := by decide +kernel
theorem d_Law_law_1336 : decode code 1336 = .ok (.invokevirtual 255, 3) := by decide +kernel
theorem d_Law_law_1339 : decode code 1339 = .ok (.istore 7, 2) := by decide +kernel
theorem d_Law_law_1341 : decode code 1341 = .ok (.aload_n 2, 1) := by decide +kernel
theorem d_Law_law_1342 : decode code 1342 = .ok (.invokevirtual 163, 3) := by decide +kernel
theorem d_Law_law_1345 : decode code 1345 = .ok (.iload 6, 2) := by decide +kernel
theorem d_Law_law_1347 : decode code 1347 = .ok (.if_icmp .eq 5, 3) := by decide +kernel
theorem d_Law_law_1350 : decode code 1350 = .ok (.iconst 0, 1) := by decide +kernel
theorem d_Law_law_1351 : decode code 1351 = .ok (.ireturn, 1) := by decide +kernel
theorem d_Law_law_1352 : decode code 1352 = .ok (.iload 6, 2) := by decide +kernel
theorem d_Law_law_1354 : decode code 1354 = .ok (.ifCond .ne 15, 3) := by decide +kernel
theorem d_Law_law_1357 : decode code 1357 = .ok (.aload_n 3, 1) := by decide +kernel
theorem d_Law_law_1358 : decode code 1358 = .ok (.iconst 0, 1) := by decide +kernel
theorem d_Law_law_1359 : decode code 1359 = .ok (.laload, 1) := by decide +kernel
theorem d_Law_law_1360 : decode code 1360 = .ok (.iload 7, 2) := by decide +kernel
theorem d_Law_law_1362 : decode code 1362 = .ok (.i2l, 1) := by decide +kernel
theorem d_Law_law_1363 : decode code 1363 = .ok (.lcmp, 1) := by decide +kernel
theorem d_Law_law_1364 : decode code 1364 = .ok (.ifCond .eq 5, 3) := by decide +kernel
theorem d_Law_law_1367 : decode code 1367 = .ok (.iconst 0, 1) := by decide +kernel
theorem d_Law_law_1368 : decode code 1368 = .ok (.ireturn, 1) := by decide +kernel
theorem d_Law_law_1369 : decode code 1369 = .ok (.goto 1564, 3) := by decide +kernel
theorem d_Law_law_1372 : decode code 1372 = .ok (.aload_n 1, 1) := by decide +kernel
theorem d_Law_law_1373 : decode code 1373 = .ok (.aload_n 0, 1) := by decide +kernel
theorem d_Law_law_1374 : decode code 1374 = .ok (.iload 5, 2) := by decide +kernel
theorem d_Law_law_1376 : decode code 1376 = .ok (.iconst 1, 1) := by decide +kernel
theorem d_Law_law_1377 : decode code 1377 = .ok (.iadd, 1) := by decide +kernel
theorem d_Law_law_1378 : decode code 1378 = .ok (.iaload, 1) := by decide +kernel
theorem d_Law_law_1379 : decode code 1379 = .ok (.aload_n 3, 1) := by decide +kernel
theorem d_Law_law_1380 : decode code 1380 = .ok (.invokestatic 256, 3) := by decide +kernel
theorem d_Law_law_1383 : decode code 1383 = .ok (.istore 6, 2) := by decide +kernel
theorem d_Law_law_1385 : decode code 1385 = .ok (.aload_n 2, 1) := by decide +kernel
theorem d_Law_law_1386 : decode code 1386 = .ok (.aload_n 0, 1) := by decide +kernel
theorem d_Law_law_1387 : decode code 1387 = .ok (.iload 5, 2) := by decide +kernel
theorem d_Law_law_1389 : decode code 1389 = .ok (.iconst 1, 1) := by decide +kernel
theorem d_Law_law_1390 : decode code 1390 = .ok (.iadd, 1) := by decide +kernel
theorem d_Law_law_1391 : decode code 1391 = .ok (.iaload, 1) := by decide +kernel
theorem d_Law_law_1392 : decode code 1392 = .ok (.invokevirtual 258, 3) := by decide +kernel
theorem d_Law_law_1395 : decode code 1395 = .ok (.istore 7, 2) := by decide +kernel
theorem d_Law_law_1397 : decode code 1397 = .ok (.aload_n 2, 1) := by decide +kernel
theorem d_Law_law_1398 : decode code 1398 = .ok (.invokevirtual 163, 3) := by decide +kernel
theorem d_Law_law_1401 : decode code 1401 = .ok (.iload 6, 2) := by decide +kernel
theorem d_Law_law_1403 : decode code 1403 = .ok (.if_icmp .eq 5, 3) := by decide +kernel
theorem d_Law_law_1406 : decode code 1406 = .ok (.iconst 0, 1) := by decide +kernel
theorem d_Law_law_1407 : decode code 1407 = .ok (.ireturn, 1) := by decide +kernel
theorem d_Law_law_1408 : decode code 1408 = .ok (.iload 6, 2) := by decide +kernel
theorem d_Law_law_1410 : decode code 1410 = .ok (.ifCond .ne 15, 3) := by decide +kernel
theorem d_Law_law_1413 : decode code 1413 = .ok (.aload_n 3, 1) := by decide +kernel
theorem d_Law_law_1414 : decode code 1414 = .ok (.iconst 0, 1) := by decide +kernel
theorem d_Law_law_1415 : decode code 1415 = .ok (.laload, 1) := by decide +kernel
theorem d_Law_law_1416 : decode code 1416 = .ok (.iload 7, 2) := by decide +kernel
theorem d_Law_law_1418 : decode code 1418 = .ok (.i2l, 1) := by decide +kernel
theorem d_Law_law_1419 : decode code 1419 = .ok (.lcmp, 1) := by decide +kernel
theorem d_Law_law_1420 : decode code 1420 = .ok (.ifCond .eq 5, 3) := by decide +kernel
theorem d_Law_law_1423 : decode code 1423 = .ok (.iconst 0, 1) := by decide +kernel
theorem d_Law_law_1424 : decode code 1424 = .ok (.ireturn, 1) := by decide +kernel
theorem d_Law_law_1425 : decode code 1425 = .ok (.goto 1508, 3) := by decide +kernel
theorem d_Law_law_1428 : decode code 1428 = .ok (.aload_n 1, 1) := by decide +kernel
theorem d_Law_law_1429 : decode code 1429 = .ok (.aload_n 0, 1) := by decide +kernel
theorem d_Law_law_1430 : decode code 1430 = .ok (.iload 5, 2) := by decide +kernel
theorem d_Law_law_1432 : decode code 1432 = .ok (.iconst 1, 1) := by decide +kernel
theorem d_Law_law_1433 : decode code 1433 = .ok (.iadd, 1) := by decide +kernel
theorem d_Law_law_1434 : decode code 1434 = .ok (.iaload, 1) := by decide +kernel
theorem d_Law_law_1435 : decode code 1435 = .ok (.aload_n 0, 1) := by decide +kernel
theorem d_Law_law_1436 : decode code 1436 = .ok (.iload 5, 2) := by decide +kernel
theorem d_Law_law_1438 : decode code 1438 = .ok (.iconst 2, 1) := by decide +kernel
theorem d_Law_law_1439 : decode code 1439 = .ok (.iadd, 1) := by decide +kernel
theorem d_Law_law_1440 : decode code 1440 = .ok (.iaload, 1) := by decide +kernel
theorem d_Law_law_1441 : decode code 1441 = .ok (.aload_n 3, 1) := by decide +kernel
theorem d_Law_law_1442 : decode code 1442 = .ok (.invokestatic 259, 3) := by decide +kernel
theorem d_Law_law_1445 : decode code 1445 = .ok (.istore 6, 2) := by decide +kernel
theorem d_Law_law_1447 : decode code 1447 = .ok (.aload_n 2, 1) := by decide +kernel
theorem d_Law_law_1448 : decode code 1448 = .ok (.aload_n 0, 1) := by decide +kernel
theorem d_Law_law_1449 : decode code 1449 = .ok (.iload 5, 2) := by decide +kernel
theorem d_Law_law_1451 : decode code 1451 = .ok (.iconst 1, 1) := by decide +kernel
theorem d_Law_law_1452 : decode code 1452 = .ok (.iadd, 1) := by decide +kernel
theorem d_Law_law_1453 : decode code 1453 = .ok (.iaload, 1) := by decide +kernel
theorem d_Law_law_1454 : decode code 1454 = .ok (.aload_n 0, 1) := by decide +kernel
theorem d_Law_law_1455 : decode code 1455 = .ok (.iload 5, 2) := by decide +kernel
theorem d_Law_law_1457 : decode code 1457 = .ok (.iconst 2, 1) := by decide +kernel
theorem d_Law_law_1458 : decode code 1458 = .ok (.iadd, 1) := by decide +kernel
theorem d_Law_law_1459 : decode code 1459 = .ok (.iaload, 1) := by decide +kernel
theorem d_Law_law_1460 : decode code 1460 = .ok (.invokevirtual 261, 3) := by decide +kernel
theorem d_Law_law_1463 : decode code 1463 = .ok (.istore 7, 2) := by decide +kernel
theorem d_Law_law_1465 : decode code 1465 = .ok (.aload_n 2, 1) := by decide +kernel
theorem d_Law_law_1466 : decode code 1466 = .ok (.invokevirtual 163, 3) := by decide +kernel
theorem d_Law_law_1469 : decode code 1469 = .ok (.iload 6, 2) := by decide +kernel
theorem d_Law_law_1471 : decode code 1471 = .ok (.if_icmp .eq 5, 3) := by decide +kernel
theorem d_Law_law_1474 : decode code 1474 = .ok (.iconst 0, 1) := by decide +kernel
theorem d_Law_law_1475 : decode code 1475 = .ok (.ireturn, 1) := by decide +kernel
theorem d_Law_law_1476 : decode code 1476 = .ok (.iload 6, 2) := by decide +kernel
theorem d_Law_law_1478 : decode code 1478 = .ok (.ifCond .ne 15, 3) := by decide +kernel
theorem d_Law_law_1481 : decode code 1481 = .ok (.aload_n 3, 1) := by decide +kernel
theorem d_Law_law_1482 : decode code 1482 = .ok (.iconst 0, 1) := by decide +kernel
theorem d_Law_law_1483 : decode code 1483 = .ok (.laload, 1) := by decide +kernel
theorem d_Law_law_1484 : decode code 1484 = .ok (.iload 7, 2) := by decide +kernel
theorem d_Law_law_1486 : decode code 1486 = .ok (.i2l, 1) := by decide +kernel
theorem d_Law_law_1487 : decode code 1487 = .ok (.lcmp, 1) := by decide +kernel
theorem d_Law_law_1488 : decode code 1488 = .ok (.ifCond .eq 5, 3) := by decide +kernel
theorem d_Law_law_1491 : decode code 1491 = .ok (.iconst 0, 1) := by decide +kernel
theorem d_Law_law_1492 : decode code 1492 = .ok (.ireturn, 1) := by decide +kernel
theorem d_Law_law_1493 : decode code 1493 = .ok (.goto 1440, 3) := by decide +kernel
theorem d_Law_law_1496 : decode code 1496 = .ok (.aload_n 1, 1) := by decide +kernel
theorem d_Law_law_1497 : decode code 1497 = .ok (.aload_n 0, 1) := by decide +kernel
theorem d_Law_law_1498 : decode code 1498 = .ok (.iload 5, 2) := by decide +kernel
theorem d_Law_law_1500 : decode code 1500 = .ok (.iconst 1, 1) := by decide +kernel
theorem d_Law_law_1501 : decode code 1501 = .ok (.iadd, 1) := by decide +kernel
theorem d_Law_law_1502 : decode code 1502 = .ok (.iaload, 1) := by decide +kernel
theorem d_Law_law_1503 : decode code 1503 = .ok (.aload_n 0, 1) := by decide +kernel
theorem d_Law_law_1504 : decode code 1504 = .ok (.iload 5, 2) := by decide +kernel
theorem d_Law_law_1506 : decode code 1506 = .ok (.iconst 2, 1) := by decide +kernel
theorem d_Law_law_1507 : decode code 1507 = .ok (.iadd, 1) := by decide +kernel
theorem d_Law_law_1508 : decode code 1508 = .ok (.iaload, 1) := by decide +kernel
theorem d_Law_law_1509 : decode code 1509 = .ok (.i2c, 1) := by decide +kernel
theorem d_Law_law_1510 : decode code 1510 = .ok (.aload_n 3, 1) := by decide +kernel
theorem d_Law_law_1511 : decode code 1511 = .ok (.invokestatic 262, 3) := by decide +kernel
theorem d_Law_law_1514 : decode code 1514 = .ok (.istore 6, 2) := by decide +kernel
theorem d_Law_law_1516 : decode code 1516 = .ok (.aload_n 2, 1) := by decide +kernel
theorem d_Law_law_1517 : decode code 1517 = .ok (.aload_n 0, 1) := by decide +kernel
theorem d_Law_law_1518 : decode code 1518 = .ok (.iload 5, 2) := by decide +kernel
theorem d_Law_law_1520 : decode code 1520 = .ok (.iconst 1, 1) := by decide +kernel
theorem d_Law_law_1521 : decode code 1521 = .ok (.iadd, 1) := by decide +kernel
theorem d_Law_law_1522 : decode code 1522 = .ok (.iaload, 1) := by decide +kernel
theorem d_Law_law_1523 : decode code 1523 = .ok (.aload_n 0, 1) := by decide +kernel
theorem d_Law_law_1524 : decode code 1524 = .ok (.iload 5, 2) := by decide +kernel
theorem d_Law_law_1526 : decode code 1526 = .ok (.iconst 2, 1) := by decide +kernel
theorem d_Law_law_1527 : decode code 1527 = .ok (.iadd, 1) := by decide +kernel
theorem d_Law_law_1528 : decode code 1528 = .ok (.iaload, 1) := by decide +kernel
theorem d_Law_law_1529 : decode code 1529 = .ok (.i2c, 1) := by decide +kernel
theorem d_Law_law_1530 : decode code 1530 = .ok (.invokevirtual 265, 3) := by decide +kernel
theorem d_Law_law_1533 : decode code 1533 = .ok (.istore 7, 2) := by decide +kernel
theorem d_Law_law_1535 : decode code 1535 = .ok (.aload_n 2, 1) := by decide +kernel
theorem d_Law_law_1536 : decode code 1536 = .ok (.invokevirtual 163, 3) := by decide +kernel
theorem d_Law_law_1539 : decode code 1539 = .ok (.iload 6, 2) := by decide +kernel
theorem d_Law_law_1541 : decode code 1541 = .ok (.if_icmp .eq 5, 3) := by decide +kernel
theorem d_Law_law_1544 : decode code 1544 = .ok (.iconst 0, 1) := by decide +kernel
theorem d_Law_law_1545 : decode code 1545 = .ok (.ireturn, 1) := by decide +kernel
theorem d_Law_law_1546 : decode code 1546 = .ok (.iload 6, 2) := by decide +kernel
theorem d_Law_law_1548 : decode code 1548 = .ok (.ifCond .ne 15, 3) := by decide +kernel
theorem d_Law_law_1551 : decode code 1551 = .ok (.aload_n 3, 1) := by decide +kernel
theorem d_Law_law_1552 : decode code 1552 = .ok (.iconst 0, 1) := by decide +kernel
theorem d_Law_law_1553 : decode code 1553 = .ok (.laload, 1) := by decide +kernel
theorem d_Law_law_1554 : decode code 1554 = .ok (.iload 7, 2) := by decide +kernel
theorem d_Law_law_1556 : decode code 1556 = .ok (.i2l, 1) := by decide +kernel
theorem d_Law_law_1557 : decode code 1557 = .ok (.lcmp, 1) := by decide +kernel
theorem d_Law_law_1558 : decode code 1558 = .ok (.ifCond .eq 5, 3) := by decide +kernel
theorem d_Law_law_1561 : decode code 1561 = .ok (.iconst 0, 1) := by decide +kernel
theorem d_Law_law_1562 : decode code 1562 = .ok (.ireturn, 1) := by decide +kernel
theorem d_Law_law_1563 : decode code 1563 = .ok (.goto 1370, 3) := by decide +kernel
theorem d_Law_law_1566 : decode code 1566 = .ok (.aload_n 1, 1) := by decide +kernel
theorem d_Law_law_1567 : decode code 1567 = .ok (.aload_n 0, 1) := by decide +kernel
theorem d_Law_law_1568 : decode code 1568 = .ok (.iload 5, 2) := by decide +kernel
theorem d_Law_law_1570 : decode code 1570 = .ok (.iconst 1, 1) := by decide +kernel
theorem d_Law_law_1571 : decode code 1571 = .ok (.iadd, 1) := by decide +kernel
theorem d_Law_law_1572 : decode code 1572 = .ok (.iaload, 1) := by decide +kernel
theorem d_Law_law_1573 : decode code 1573 = .ok (.aload_n 3, 1) := by decide +kernel
theorem d_Law_law_1574 : decode code 1574 = .ok (.invokestatic 266, 3) := by decide +kernel
theorem d_Law_law_1577 : decode code 1577 = .ok (.istore 6, 2) := by decide +kernel
theorem d_Law_law_1579 : decode code 1579 = .ok (.aload_n 2, 1) := by decide +kernel
theorem d_Law_law_1580 : decode code 1580 = .ok (.aload_n 0, 1) := by decide +kernel
theorem d_Law_law_1581 : decode code 1581 = .ok (.iload 5, 2) := by decide +kernel
theorem d_Law_law_1583 : decode code 1583 = .ok (.iconst 1, 1) := by decide +kernel
theorem d_Law_law_1584 : decode code 1584 = .ok (.iadd, 1) := by decide +kernel
theorem d_Law_law_1585 : decode code 1585 = .ok (.iaload, 1) := by decide +kernel
theorem d_Law_law_1586 : decode code 1586 = .ok (.invokevirtual 268, 3) := by decide +kernel
theorem d_Law_law_1589 : decode code 1589 = .ok (.istore 7, 2) := by decide +kernel
theorem d_Law_law_1591 : decode code 1591 = .ok (.aload_n 2, 1) := by decide +kernel
theorem d_Law_law_1592 : decode code 1592 = .ok (.invokevirtual 163, 3) := by decide +kernel
theorem d_Law_law_1595 : decode code 1595 = .ok (.iload 6, 2) := by decide +kernel
theorem d_Law_law_1597 : decode code 1597 = .ok (.if_icmp .eq 5, 3) := by decide +kernel
theorem d_Law_law_1600 : decode code 1600 = .ok (.iconst 0, 1) := by decide +kernel
theorem d_Law_law_1601 : decode code 1601 = .ok (.ireturn, 1) := by decide +kernel
theorem d_Law_law_1602 : decode code 1602 = .ok (.iload 6, 2) := by decide +kernel
theorem d_Law_law_1604 : decode code 1604 = .ok (.ifCond .ne 15, 3) := by decide +kernel
theorem d_Law_law_1607 : decode code 1607 = .ok (.aload_n 3, 1) := by decide +kernel
theorem d_Law_law_1608 : decode code 1608 = .ok (.iconst 0, 1) := by decide +kernel
theorem d_Law_law_1609 : decode code 1609 = .ok (.laload, 1) := by decide +kernel
theorem d_Law_law_1610 : decode code 1610 = .ok (.iload 7, 2) := by decide +kernel
theorem d_Law_law_1612 : decode code 1612 = .ok (.i2l, 1) := by decide +kernel
theorem d_Law_law_1613 : decode code 1613 = .ok (.lcmp, 1) := by decide +kernel
