/-! the law, decoded (3) -/
theorem d_Law_law_1236 : decode code 1236 = .ok (.istore 17, 2) := by decide +kernel
theorem d_Law_law_1238 : decode code 1238 = .ok (.iload 13, 2) := by decide +kernel
theorem d_Law_law_1240 : decode code 1240 = .ok (.iconst 1, 1) := by decide +kernel
theorem d_Law_law_1241 : decode code 1241 = .ok (.iand, 1) := by decide +kernel
theorem d_Law_law_1242 : decode code 1242 = .ok (.istore 18, 2) := by decide +kernel
theorem d_Law_law_1244 : decode code 1244 = .ok (.bipush 7, 2) := by decide +kernel
theorem d_Law_law_1246 : decode code 1246 = .ok (.newarray .int, 2) := by decide +kernel
theorem d_Law_law_1248 : decode code 1248 = .ok (.dup, 1) := by decide +kernel
theorem d_Law_law_1249 : decode code 1249 = .ok (.iconst 0, 1) := by decide +kernel
theorem d_Law_law_1250 : decode code 1250 = .ok (.iload 15, 2) := by decide +kernel
theorem d_Law_law_1252 : decode code 1252 = .ok (.iload 16, 2) := by decide +kernel
theorem d_Law_law_1254 : decode code 1254 = .ok (.ixor, 1) := by decide +kernel
theorem d_Law_law_1255 : decode code 1255 = .ok (.iload 18, 2) := by decide +kernel
theorem d_Law_law_1257 : decode code 1257 = .ok (.ixor, 1) := by decide +kernel
theorem d_Law_law_1258 : decode code 1258 = .ok (.iastore, 1) := by decide +kernel
theorem d_Law_law_1259 : decode code 1259 = .ok (.dup, 1) := by decide +kernel
theorem d_Law_law_1260 : decode code 1260 = .ok (.iconst 1, 1) := by decide +kernel
theorem d_Law_law_1261 : decode code 1261 = .ok (.iload 15, 2) := by decide +kernel
theorem d_Law_law_1263 : decode code 1263 = .ok (.iload 17, 2) := by decide +kernel
theorem d_Law_law_1265 : decode code 1265 = .ok (.ixor, 1) := by decide +kernel
theorem d_Law_law_1266 : decode code 1266 = .ok (.iload 18, 2) := by decide +kernel
theorem d_Law_law_1268 : decode code 1268 = .ok (.ixor, 1) := by decide +kernel
theorem d_Law_law_1269 : decode code 1269 = .ok (.iastore, 1) := by decide +kernel
theorem d_Law_law_1270 : decode code 1270 = .ok (.dup, 1) := by decide +kernel
theorem d_Law_law_1271 : decode code 1271 = .ok (.iconst 2, 1) := by decide +kernel
theorem d_Law_law_1272 : decode code 1272 = .ok (.iload 15, 2) := by decide +kernel
theorem d_Law_law_1274 : decode code 1274 = .ok (.iastore, 1) := by decide +kernel
theorem d_Law_law_1275 : decode code 1275 = .ok (.dup, 1) := by decide +kernel
theorem d_Law_law_1276 : decode code 1276 = .ok (.iconst 3, 1) := by decide +kernel
theorem d_Law_law_1277 : decode code 1277 = .ok (.iload 16, 2) := by decide +kernel
theorem d_Law_law_1279 : decode code 1279 = .ok (.iload 17, 2) := by decide +kernel
theorem d_Law_law_1281 : decode code 1281 = .ok (.ixor, 1) := by decide +kernel
theorem d_Law_law_1282 : decode code 1282 = .ok (.iload 18, 2) := by decide +kernel
theorem d_Law_law_1284 : decode code 1284 = .ok (.ixor, 1) := by decide +kernel
theorem d_Law_law_1285 : decode code 1285 = .ok (.iastore, 1) := by decide +kernel
theorem d_Law_law_1286 : decode code 1286 = .ok (.dup, 1) := by decide +kernel
theorem d_Law_law_1287 : decode code 1287 = .ok (.iconst 4, 1) := by decide +kernel
theorem d_Law_law_1288 : decode code 1288 = .ok (.iload 16, 2) := by decide +kernel
theorem d_Law_law_1290 : decode code 1290 = .ok (.iastore, 1) := by decide +kernel
theorem d_Law_law_1291 : decode code 1291 = .ok (.dup, 1) := by decide +kernel
theorem d_Law_law_1292 : decode code 1292 = .ok (.iconst 5, 1) := by decide +kernel
theorem d_Law_law_1293 : decode code 1293 = .ok (.iload 17, 2) := by decide +kernel
theorem d_Law_law_1295 : decode code 1295 = .ok (.iastore, 1) := by decide +kernel
theorem d_Law_law_1296 : decode code 1296 = .ok (.dup, 1) := by decide +kernel
theorem d_Law_law_1297 : decode code 1297 = .ok (.bipush 6, 2) := by decide +kernel
theorem d_Law_law_1299 : decode code 1299 = .ok (.iload 18, 2) := by decide +kernel
theorem d_Law_law_1301 : decode code 1301 = .ok (.iastore, 1) := by decide +kernel
theorem d_Law_law_1302 : decode code 1302 = .ok (.astore 19, 2) := by decide +kernel
theorem d_Law_law_1304 : decode code 1304 = .ok (.iconst 0, 1) := by decide +kernel
theorem d_Law_law_1305 : decode code 1305 = .ok (.istore 20, 2) := by decide +kernel
theorem d_Law_law_1307 : decode code 1307 = .ok (.iload 20, 2) := by decide +kernel
theorem d_Law_law_1309 : decode code 1309 = .ok (.bipush 7, 2) := by decide +kernel
theorem d_Law_law_1311 : decode code 1311 = .ok (.if_icmp .ge 72, 3) := by decide +kernel
theorem d_Law_law_1314 : decode code 1314 = .ok (.aload_n 1, 1) := by decide +kernel
theorem d_Law_law_1315 : decode code 1315 = .ok (.bipush 7, 2) := by decide +kernel
theorem d_Law_law_1317 : decode code 1317 = .ok (.iload 11, 2) := by decide +kernel
theorem d_Law_law_1319 : decode code 1319 = .ok (.imul, 1) := by decide +kernel
theorem d_Law_law_1320 : decode code 1320 = .ok (.iload 20, 2) := by decide +kernel
theorem d_Law_law_1322 : decode code 1322 = .ok (.iadd, 1) := by decide +kernel
theorem d_Law_law_1323 : decode code 1323 = .ok (.invokevirtual 65, 3) := by decide +kernel
theorem d_Law_law_1326 : decode code 1326 = .ok (.aload 19, 2) := by decide +kernel
theorem d_Law_law_1328 : decode code 1328 = .ok (.iload 20, 2) := by decide +kernel
theorem d_Law_law_1330 : decode code 1330 = .ok (.iaload, 1) := by decide +kernel
theorem d_Law_law_1331 : decode code 1331 = .ok (.if_icmp .eq 7, 3) := by decide +kernel
theorem d_Law_law_1334 : decode code 1334 = .ok (.iconst 1, 1) := by decide +kernel
theorem d_Law_law_1335 : decode code 1335 = .ok (.goto 4, 3) := by decide +kernel
theorem d_Law_law_1338 : decode code 1338 = .ok (.iconst 0, 1) := by decide +kernel
theorem d_Law_law_1339 : decode code 1339 = .ok (.istore 21, 2) := by decide +kernel
theorem d_Law_law_1341 : decode code 1341 = .ok (.iload 14, 2) := by decide +kernel
theorem d_Law_law_1343 : decode code 1343 = .ok (.iload 21, 2) := by decide +kernel
theorem d_Law_law_1345 : decode code 1345 = .ok (.ifCond .eq 7, 3) := by decide +kernel
theorem d_Law_law_1348 : decode code 1348 = .ok (.iconst 1, 1) := by decide +kernel
theorem d_Law_law_1349 : decode code 1349 = .ok (.goto 4, 3) := by decide +kernel
theorem d_Law_law_1352 : decode code 1352 = .ok (.iconst 0, 1) := by decide +kernel
theorem d_Law_law_1353 : decode code 1353 = .ok (.iadd, 1) := by decide +kernel
theorem d_Law_law_1354 : decode code 1354 = .ok (.istore 14, 2) := by decide +kernel
theorem d_Law_law_1356 : decode code 1356 = .ok (.iload 21, 2) := by decide +kernel
theorem d_Law_law_1358 : decode code 1358 = .ok (.iload 12, 2) := by decide +kernel
theorem d_Law_law_1360 : decode code 1360 = .ok (.iload 20, 2) := by decide +kernel
theorem d_Law_law_1362 : decode code 1362 = .ok (.iconst 1, 1) := by decide +kernel
theorem d_Law_law_1363 : decode code 1363 = .ok (.iadd, 1) := by decide +kernel
theorem d_Law_law_1364 : decode code 1364 = .ok (.if_icmp .ne 7, 3) := by decide +kernel
theorem d_Law_law_1367 : decode code 1367 = .ok (.iconst 1, 1) := by decide +kernel
theorem d_Law_law_1368 : decode code 1368 = .ok (.goto 4, 3) := by decide +kernel
theorem d_Law_law_1371 : decode code 1371 = .ok (.iconst 0, 1) := by decide +kernel
theorem d_Law_law_1372 : decode code 1372 = .ok (.if_icmp .eq 5, 3) := by decide +kernel
theorem d_Law_law_1375 : decode code 1375 = .ok (.iconst 0, 1) := by decide +kernel
theorem d_Law_law_1376 : decode code 1376 = .ok (.ireturn, 1) := by decide +kernel
theorem d_Law_law_1377 : decode code 1377 = .ok (.iinc 20 1, 3) := by decide +kernel
theorem d_Law_law_1380 : decode code 1380 = .ok (.goto (-73), 3) := by decide +kernel
theorem d_Law_law_1383 : decode code 1383 = .ok (.iload 12, 2) := by decide +kernel
theorem d_Law_law_1385 : decode code 1385 = .ok (.ifCond .lt 36, 3) := by decide +kernel
theorem d_Law_law_1388 : decode code 1388 = .ok (.iload 12, 2) := by decide +kernel
theorem d_Law_law_1390 : decode code 1390 = .ok (.bipush 7, 2) := by decide +kernel
theorem d_Law_law_1392 : decode code 1392 = .ok (.if_icmp .gt 29, 3) := by decide +kernel
theorem d_Law_law_1395 : decode code 1395 = .ok (.iload 14, 2) := by decide +kernel
theorem d_Law_law_1397 : decode code 1397 = .ok (.iload 12, 2) := by decide +kernel
theorem d_Law_law_1399 : decode code 1399 = .ok (.ifCond .ne 7, 3) := by decide +kernel
theorem d_Law_law_1402 : decode code 1402 = .ok (.iconst 0, 1) := by decide +kernel
theorem d_Law_law_1403 : decode code 1403 = .ok (.goto 4, 3) := by decide +kernel
theorem d_Law_law_1406 : decode code 1406 = .ok (.iconst 1, 1) := by decide +kernel
theorem d_Law_law_1407 : decode code 1407 = .ok (.if_icmp .ne 14, 3) := by decide +kernel
theorem d_Law_law_1410 : decode code 1410 = .ok (.aload_n 1, 1) := by decide +kernel
theorem d_Law_law_1411 : decode code 1411 = .ok (.iload 11, 2) := by decide +kernel
theorem d_Law_law_1413 : decode code 1413 = .ok (.invokevirtual 255, 3) := by decide +kernel
theorem d_Law_law_1416 : decode code 1416 = .ok (.iload 13, 2) := by decide +kernel
theorem d_Law_law_1418 : decode code 1418 = .ok (.if_icmp .eq 5, 3) := by decide +kernel
theorem d_Law_law_1421 : decode code 1421 = .ok (.iconst 0, 1) := by decide +kernel
theorem d_Law_law_1422 : decode code 1422 = .ok (.ireturn, 1) := by decide +kernel
theorem d_Law_law_1423 : decode code 1423 = .ok (.iload 9, 2) := by decide +kernel
theorem d_Law_law_1425 : decode code 1425 = .ok (.iload 12, 2) := by decide +kernel
theorem d_Law_law_1427 : decode code 1427 = .ok (.ifCond .ne 7, 3) := by decide +kernel
theorem d_Law_law_1430 : decode code 1430 = .ok (.iconst 0, 1) := by decide +kernel
theorem d_Law_law_1431 : decode code 1431 = .ok (.goto 4, 3) := by decide +kernel
theorem d_Law_law_1434 : decode code 1434 = .ok (.iconst 1, 1) := by decide +kernel
theorem d_Law_law_1435 : decode code 1435 = .ok (.iadd, 1) := by decide +kernel
theorem d_Law_law_1436 : decode code 1436 = .ok (.istore 9, 2) := by decide +kernel
theorem d_Law_law_1438 : decode code 1438 = .ok (.iinc 11 1, 3) := by decide +kernel
theorem d_Law_law_1441 : decode code 1441 = .ok (.goto (-253), 3) := by decide +kernel
theorem d_Law_law_1444 : decode code 1444 = .ok (.aload_n 1, 1) := by decide +kernel
theorem d_Law_law_1445 : decode code 1445 = .ok (.invokevirtual 112, 3) := by decide +kernel
theorem d_Law_law_1448 : decode code 1448 = .ok (.bipush 7, 2) := by decide +kernel
theorem d_Law_law_1450 : decode code 1450 = .ok (.irem, 1) := by decide +kernel
theorem d_Law_law_1451 : decode code 1451 = .ok (.ifCond .ne 137, 3) := by decide +kernel
theorem d_Law_law_1454 : decode code 1454 = .ok (.aload_n 1, 1) := by decide +kernel
theorem d_Law_law_1455 : decode code 1455 = .ok (.invokevirtual 108, 3) := by decide +kernel
theorem d_Law_law_1458 : decode code 1458 = .ok (.iload 10, 2) := by decide +kernel
theorem d_Law_law_1460 : decode code 1460 = .ok (.ifCond .le 7, 3) := by decide +kernel
theorem d_Law_law_1463 : decode code 1463 = .ok (.iconst 1, 1) := by decide +kernel
theorem d_Law_law_1464 : decode code 1464 = .ok (.goto 4, 3) := by decide +kernel
theorem d_Law_law_1467 : decode code 1467 = .ok (.iconst 0, 1) := by decide +kernel
theorem d_Law_law_1468 : decode code 1468 = .ok (.if_icmp .ne 120, 3) := by decide +kernel
theorem d_Law_law_1471 : decode code 1471 = .ok (.aload_n 1, 1) := by decide +kernel
theorem d_Law_law_1472 : decode code 1472 = .ok (.invokevirtual 258, 3) := by decide +kernel
theorem d_Law_law_1475 : decode code 1475 = .ok (.iload 9, 2) := by decide +kernel
theorem d_Law_law_1477 : decode code 1477 = .ok (.if_icmp .ne 111, 3) := by decide +kernel
theorem d_Law_law_1480 : decode code 1480 = .ok (.aload_n 1, 1) := by decide +kernel
theorem d_Law_law_1481 : decode code 1481 = .ok (.iload 10, 2) := by decide +kernel
theorem d_Law_law_1483 : decode code 1483 = .ok (.invokestatic 261, 3) := by decide +kernel
theorem d_Law_law_1486 : decode code 1486 = .ok (.sipush (-25000), 3) := by decide +kernel
theorem d_Law_law_1489 : decode code 1489 = .ok (.if_icmp .ne 99, 3) := by decide +kernel
theorem d_Law_law_1492 : decode code 1492 = .ok (.aload_n 1, 1) := by decide +kernel
theorem d_Law_law_1493 : decode code 1493 = .ok (.bipush 7, 2) := by decide +kernel
theorem d_Law_law_1495 : decode code 1495 = .ok (.iload 10, 2) := by decide +kernel
theorem d_Law_law_1497 : decode code 1497 = .ok (.imul, 1) := by decide +kernel
theorem d_Law_law_1498 : decode code 1498 = .ok (.invokestatic 263, 3) := by decide +kernel
theorem d_Law_law_1501 : decode code 1501 = .ok (.sipush (-25000), 3) := by decide +kernel
theorem d_Law_law_1504 : decode code 1504 = .ok (.if_icmp .ne 84, 3) := by decide +kernel
theorem d_Law_law_1507 : decode code 1507 = .ok (.aload_n 1, 1) := by decide +kernel
theorem d_Law_law_1508 : decode code 1508 = .ok (.aload_n 1, 1) := by decide +kernel
theorem d_Law_law_1509 : decode code 1509 = .ok (.invokevirtual 265, 3) := by decide +kernel
theorem d_Law_law_1512 : decode code 1512 = .ok (.invokestatic 268, 3) := by decide +kernel
theorem d_Law_law_1515 : decode code 1515 = .ok (.sipush (-25000), 3) := by decide +kernel
theorem d_Law_law_1518 : decode code 1518 = .ok (.if_icmp .ne 70, 3) := by decide +kernel
theorem d_Law_law_1521 : decode code 1521 = .ok (.aload_n 1, 1) := by decide +kernel
theorem d_Law_law_1522 : decode code 1522 = .ok (.invokevirtual 270, 3) := by decide +kernel
theorem d_Law_law_1525 : decode code 1525 = .ok (.aload_n 1, 1) := by decide +kernel
theorem d_Law_law_1526 : decode code 1526 = .ok (.invokevirtual 273, 3) := by decide +kernel
theorem d_Law_law_1529 : decode code 1529 = .ok (.if_icmp .gt 59, 3) := by decide +kernel
theorem d_Law_law_1532 : decode code 1532 = .ok (.aload_n 1, 1) := by decide +kernel
theorem d_Law_law_1533 : decode code 1533 = .ok (.invokevirtual 273, 3) := by decide +kernel
theorem d_Law_law_1536 : decode code 1536 = .ok (.aload_n 1, 1) := by decide +kernel
theorem d_Law_law_1537 : decode code 1537 = .ok (.invokevirtual 276, 3) := by decide +kernel
theorem d_Law_law_1540 : decode code 1540 = .ok (.if_icmp .gt 48, 3) := by decide +kernel
theorem d_Law_law_1543 : decode code 1543 = .ok (.aload_n 1, 1) := by decide +kernel
theorem d_Law_law_1544 : decode code 1544 = .ok (.invokevirtual 273, 3) := by decide +kernel
theorem d_Law_law_1547 : decode code 1547 = .ok (.ifCond .le 22, 3) := by decide +kernel
theorem d_Law_law_1550 : decode code 1550 = .ok (.aload_n 1, 1) := by decide +kernel
theorem d_Law_law_1551 : decode code 1551 = .ok (.invokevirtual 279, 3) := by decide +kernel
theorem d_Law_law_1554 : decode code 1554 = .ok (.aload_n 1, 1) := by decide +kernel
theorem d_Law_law_1555 : decode code 1555 = .ok (.invokevirtual 270, 3) := by decide +kernel
theorem d_Law_law_1558 : decode code 1558 = .ok (.i2f, 1) := by decide +kernel
theorem d_Law_law_1559 : decode code 1559 = .ok (.aload_n 1, 1) := by decide +kernel
theorem d_Law_law_1560 : decode code 1560 = .ok (.invokevirtual 273, 3) := by decide +kernel
theorem d_Law_law_1563 : decode code 1563 = .ok (.i2f, 1) := by decide +kernel
theorem d_Law_law_1564 : decode code 1564 = .ok (.fdiv, 1) := by decide +kernel
theorem d_Law_law_1565 : decode code 1565 = .ok (.fcmp .l, 1) := by decide +kernel
theorem d_Law_law_1566 : decode code 1566 = .ok (.ifCond .ne 22, 3) := by decide +kernel
theorem d_Law_law_1569 : decode code 1569 = .ok (.aload_n 1, 1) := by decide +kernel
theorem d_Law_law_1570 : decode code 1570 = .ok (.iload 6, 2) := by decide +kernel
theorem d_Law_law_1572 : decode code 1572 = .ok (.invokestatic 283, 3) := by decide +kernel
theorem d_Law_law_1575 : decode code 1575 = .ok (.sipush (-30000), 3) := by decide +kernel
theorem d_Law_law_1578 : decode code 1578 = .ok (.if_icmp .ne 10, 3) := by decide +kernel
theorem d_Law_law_1581 : decode code 1581 = .ok (.aload_n 1, 1) := by decide +kernel
theorem d_Law_law_1582 : decode code 1582 = .ok (.invokevirtual 285, 3) := by decide +kernel
theorem d_Law_law_1585 : decode code 1585 = .ok (.ifCond .ne 5, 3) := by decide +kernel
theorem d_Law_law_1588 : decode code 1588 = .ok (.iconst 0, 1) := by decide +kernel
theorem d_Law_law_1589 : decode code 1589 = .ok (.ireturn, 1) := by decide +kernel
theorem d_Law_law_1590 : decode code 1590 = .ok (.aload_n 1, 1) := by decide +kernel
theorem d_Law_law_1591 : decode code 1591 = .ok (.aload_n 0, 1) := by decide +kernel
theorem d_Law_law_1592 : decode code 1592 = .ok (.bipush 110, 2) := by decide +kernel
theorem d_Law_law_1594 : decode code 1594 = .ok (.iconst 3, 1) := by decide +kernel
theorem d_Law_law_1595 : decode code 1595 = .ok (.iload_n 2, 1) := by decide +kernel
theorem d_Law_law_1596 : decode code 1596 = .ok (.imul, 1) := by decide +kernel
theorem d_Law_law_1597 : decode code 1597 = .ok (.iadd, 1) := by decide +kernel
theorem d_Law_law_1598 : decode code 1598 = .ok (.invokestatic 91, 3) := by decide +kernel
theorem d_Law_law_1601 : decode code 1601 = .ok (.iinc 2 1, 3) := by decide +kernel
theorem d_Law_law_1604 : decode code 1604 = .ok (.goto (-1589), 3) := by decide +kernel
theorem d_Law_law_1607 : decode code 1607 = .ok (.iconst 1, 1) := by decide +kernel
theorem d_Law_law_1608 : decode code 1608 = .ok (.ireturn, 1) := by decide +kernel
