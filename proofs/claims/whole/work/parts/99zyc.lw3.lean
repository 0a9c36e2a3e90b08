/-! the law's calls, 4 -/
theorem l_344_1296 : look 344 1296 = some (.aload_n 1, 1, 0, 0, 0, 0) := by decide +kernel
theorem l_344_1297 : look 344 1297 = some (.aload_n 0, 1, 0, 0, 0, 0) := by decide +kernel
theorem l_344_1298 : look 344 1298 = some (.iload 4, 2, 0, 0, 0, 0) := by decide +kernel
theorem l_344_1300 : look 344 1300 = some (.iconst 1, 1, 0, 0, 0, 0) := by decide +kernel
theorem l_344_1301 : look 344 1301 = some (.iadd, 1, 0, 0, 0, 0) := by decide +kernel
theorem l_344_1302 : look 344 1302 = some (.iaload, 1, 0, 0, 0, 0) := by decide +kernel
theorem l_344_1303 : look 344 1303 = some (.aload_n 3, 1, 0, 0, 0, 0) := by decide +kernel
theorem l_344_1304 : look 344 1304 = some (.invokestatic 214, 3, 322, 3, 7, 1240) := by decide +kernel
theorem l_344_1307 : look 344 1307 = some (.istore 5, 2, 0, 0, 0, 0) := by decide +kernel
theorem l_344_1309 : look 344 1309 = some (.aload_n 2, 1, 0, 0, 0, 0) := by decide +kernel
theorem l_344_1310 : look 344 1310 = some (.aload_n 0, 1, 0, 0, 0, 0) := by decide +kernel
theorem l_344_1311 : look 344 1311 = some (.iload 4, 2, 0, 0, 0, 0) := by decide +kernel
theorem l_344_1313 : look 344 1313 = some (.iconst 1, 1, 0, 0, 0, 0) := by decide +kernel
theorem l_344_1314 : look 344 1314 = some (.iadd, 1, 0, 0, 0, 0) := by decide +kernel
theorem l_344_1315 : look 344 1315 = some (.iaload, 1, 0, 0, 0, 0) := by decide +kernel
theorem l_344_1316 : look 344 1316 = some (.invokevirtual 216, 3, 250, 2, 0, 2064) := by decide +kernel
theorem l_344_1319 : look 344 1319 = some (.istore 6, 2, 0, 0, 0, 0) := by decide +kernel
theorem l_344_1321 : look 344 1321 = some (.aload_n 2, 1, 0, 0, 0, 0) := by decide +kernel
theorem l_344_1322 : look 344 1322 = some (.invokevirtual 153, 3, 168, 1, 0, 1730) := by decide +kernel
theorem l_344_1325 : look 344 1325 = some (.iload 5, 2, 0, 0, 0, 0) := by decide +kernel
theorem l_344_1327 : look 344 1327 = some (.if_icmp .eq 5, 3, 0, 0, 0, 0) := by decide +kernel
theorem l_344_1332 : look 344 1332 = some (.iload 5, 2, 0, 0, 0, 0) := by decide +kernel
theorem l_344_1334 : look 344 1334 = some (.ifCond .ne 15, 3, 0, 0, 0, 0) := by decide +kernel
theorem l_344_1337 : look 344 1337 = some (.aload_n 3, 1, 0, 0, 0, 0) := by decide +kernel
theorem l_344_1338 : look 344 1338 = some (.iconst 0, 1, 0, 0, 0, 0) := by decide +kernel
theorem l_344_1339 : look 344 1339 = some (.laload, 1, 0, 0, 0, 0) := by decide +kernel
theorem l_344_1340 : look 344 1340 = some (.iload 6, 2, 0, 0, 0, 0) := by decide +kernel
theorem l_344_1342 : look 344 1342 = some (.i2l, 1, 0, 0, 0, 0) := by decide +kernel
theorem l_344_1343 : look 344 1343 = some (.lcmp, 1, 0, 0, 0, 0) := by decide +kernel
theorem l_344_1344 : look 344 1344 = some (.ifCond .eq 5, 3, 0, 0, 0, 0) := by decide +kernel
theorem l_344_1349 : look 344 1349 = some (.goto 1365, 3, 0, 0, 0, 0) := by decide +kernel
theorem l_344_1352 : look 344 1352 = some (.aload_n 1, 1, 0, 0, 0, 0) := by decide +kernel
theorem l_344_1353 : look 344 1353 = some (.aload_n 0, 1, 0, 0, 0, 0) := by decide +kernel
theorem l_344_1354 : look 344 1354 = some (.iload 4, 2, 0, 0, 0, 0) := by decide +kernel
theorem l_344_1356 : look 344 1356 = some (.iconst 1, 1, 0, 0, 0, 0) := by decide +kernel
theorem l_344_1357 : look 344 1357 = some (.iadd, 1, 0, 0, 0, 0) := by decide +kernel
theorem l_344_1358 : look 344 1358 = some (.iaload, 1, 0, 0, 0, 0) := by decide +kernel
theorem l_344_1359 : look 344 1359 = some (.aload_n 0, 1, 0, 0, 0, 0) := by decide +kernel
theorem l_344_1360 : look 344 1360 = some (.iload 4, 2, 0, 0, 0, 0) := by decide +kernel
theorem l_344_1362 : look 344 1362 = some (.iconst 2, 1, 0, 0, 0, 0) := by decide +kernel
theorem l_344_1363 : look 344 1363 = some (.iadd, 1, 0, 0, 0, 0) := by decide +kernel
theorem l_344_1364 : look 344 1364 = some (.iaload, 1, 0, 0, 0, 0) := by decide +kernel
theorem l_344_1365 : look 344 1365 = some (.aload_n 3, 1, 0, 0, 0, 0) := by decide +kernel
theorem l_344_1366 : look 344 1366 = some (.invokestatic 217, 3, 323, 4, 7, 1247) := by decide +kernel
theorem l_344_1369 : look 344 1369 = some (.istore 5, 2, 0, 0, 0, 0) := by decide +kernel
theorem l_344_1371 : look 344 1371 = some (.aload_n 2, 1, 0, 0, 0, 0) := by decide +kernel
theorem l_344_1372 : look 344 1372 = some (.aload_n 0, 1, 0, 0, 0, 0) := by decide +kernel
theorem l_344_1373 : look 344 1373 = some (.iload 4, 2, 0, 0, 0, 0) := by decide +kernel
theorem l_344_1375 : look 344 1375 = some (.iconst 1, 1, 0, 0, 0, 0) := by decide +kernel
theorem l_344_1376 : look 344 1376 = some (.iadd, 1, 0, 0, 0, 0) := by decide +kernel
theorem l_344_1377 : look 344 1377 = some (.iaload, 1, 0, 0, 0, 0) := by decide +kernel
theorem l_344_1378 : look 344 1378 = some (.aload_n 0, 1, 0, 0, 0, 0) := by decide +kernel
theorem l_344_1379 : look 344 1379 = some (.iload 4, 2, 0, 0, 0, 0) := by decide +kernel
theorem l_344_1381 : look 344 1381 = some (.iconst 2, 1, 0, 0, 0, 0) := by decide +kernel
theorem l_344_1382 : look 344 1382 = some (.iadd, 1, 0, 0, 0, 0) := by decide +kernel
theorem l_344_1383 : look 344 1383 = some (.iaload, 1, 0, 0, 0, 0) := by decide +kernel
theorem l_344_1384 : look 344 1384 = some (.invokevirtual 219, 3, 251, 3, 0, 2068) := by decide +kernel
theorem l_344_1387 : look 344 1387 = some (.istore 6, 2, 0, 0, 0, 0) := by decide +kernel
theorem l_344_1389 : look 344 1389 = some (.aload_n 2, 1, 0, 0, 0, 0) := by decide +kernel
theorem l_344_1390 : look 344 1390 = some (.invokevirtual 153, 3, 168, 1, 0, 1730) := by decide +kernel
theorem l_344_1393 : look 344 1393 = some (.iload 5, 2, 0, 0, 0, 0) := by decide +kernel
theorem l_344_1395 : look 344 1395 = some (.if_icmp .eq 5, 3, 0, 0, 0, 0) := by decide +kernel
theorem l_344_1400 : look 344 1400 = some (.iload 5, 2, 0, 0, 0, 0) := by decide +kernel
theorem l_344_1402 : look 344 1402 = some (.ifCond .ne 15, 3, 0, 0, 0, 0) := by decide +kernel
theorem l_344_1405 : look 344 1405 = some (.aload_n 3, 1, 0, 0, 0, 0) := by decide +kernel
theorem l_344_1406 : look 344 1406 = some (.iconst 0, 1, 0, 0, 0, 0) := by decide +kernel
theorem l_344_1407 : look 344 1407 = some (.laload, 1, 0, 0, 0, 0) := by decide +kernel
theorem l_344_1408 : look 344 1408 = some (.iload 6, 2, 0, 0, 0, 0) := by decide +kernel
theorem l_344_1410 : look 344 1410 = some (.i2l, 1, 0, 0, 0, 0) := by decide +kernel
theorem l_344_1411 : look 344 1411 = some (.lcmp, 1, 0, 0, 0, 0) := by decide +kernel
theorem l_344_1412 : look 344 1412 = some (.ifCond .eq 5, 3, 0, 0, 0, 0) := by decide +kernel
theorem l_344_1417 : look 344 1417 = some (.goto 1297, 3, 0, 0, 0, 0) := by decide +kernel
theorem l_344_1420 : look 344 1420 = some (.aload_n 1, 1, 0, 0, 0, 0) := by decide +kernel
theorem l_344_1421 : look 344 1421 = some (.aload_n 0, 1, 0, 0, 0, 0) := by decide +kernel
theorem l_344_1422 : look 344 1422 = some (.iload 4, 2, 0, 0, 0, 0) := by decide +kernel
theorem l_344_1424 : look 344 1424 = some (.iconst 1, 1, 0, 0, 0, 0) := by decide +kernel
theorem l_344_1425 : look 344 1425 = some (.iadd, 1, 0, 0, 0, 0) := by decide +kernel
theorem l_344_1426 : look 344 1426 = some (.iaload, 1, 0, 0, 0, 0) := by decide +kernel
theorem l_344_1427 : look 344 1427 = some (.aload_n 0, 1, 0, 0, 0, 0) := by decide +kernel
theorem l_344_1428 : look 344 1428 = some (.iload 4, 2, 0, 0, 0, 0) := by decide +kernel
theorem l_344_1430 : look 344 1430 = some (.iconst 2, 1, 0, 0, 0, 0) := by decide +kernel
theorem l_344_1431 : look 344 1431 = some (.iadd, 1, 0, 0, 0, 0) := by decide +kernel
theorem l_344_1432 : look 344 1432 = some (.iaload, 1, 0, 0, 0, 0) := by decide +kernel
theorem l_344_1433 : look 344 1433 = some (.aload_n 3, 1, 0, 0, 0, 0) := by decide +kernel
theorem l_344_1434 : look 344 1434 = some (.invokestatic 220, 3, 324, 4, 7, 1255) := by decide +kernel
theorem l_344_1437 : look 344 1437 = some (.istore 5, 2, 0, 0, 0, 0) := by decide +kernel
theorem l_344_1439 : look 344 1439 = some (.aload_n 2, 1, 0, 0, 0, 0) := by decide +kernel
theorem l_344_1440 : look 344 1440 = some (.aload_n 0, 1, 0, 0, 0, 0) := by decide +kernel
theorem l_344_1441 : look 344 1441 = some (.iload 4, 2, 0, 0, 0, 0) := by decide +kernel
theorem l_344_1443 : look 344 1443 = some (.iconst 1, 1, 0, 0, 0, 0) := by decide +kernel
theorem l_344_1444 : look 344 1444 = some (.iadd, 1, 0, 0, 0, 0) := by decide +kernel
theorem l_344_1445 : look 344 1445 = some (.iaload, 1, 0, 0, 0, 0) := by decide +kernel
theorem l_344_1446 : look 344 1446 = some (.aload_n 0, 1, 0, 0, 0, 0) := by decide +kernel
theorem l_344_1447 : look 344 1447 = some (.iload 4, 2, 0, 0, 0, 0) := by decide +kernel
theorem l_344_1449 : look 344 1449 = some (.iconst 2, 1, 0, 0, 0, 0) := by decide +kernel
theorem l_344_1450 : look 344 1450 = some (.iadd, 1, 0, 0, 0, 0) := by decide +kernel
theorem l_344_1451 : look 344 1451 = some (.iaload, 1, 0, 0, 0, 0) := by decide +kernel
theorem l_344_1452 : look 344 1452 = some (.invokevirtual 222, 3, 253, 3, 0, 2072) := by decide +kernel
theorem l_344_1455 : look 344 1455 = some (.istore 6, 2, 0, 0, 0, 0) := by decide +kernel
theorem l_344_1457 : look 344 1457 = some (.aload_n 2, 1, 0, 0, 0, 0) := by decide +kernel
theorem l_344_1458 : look 344 1458 = some (.invokevirtual 153, 3, 168, 1, 0, 1730) := by decide +kernel
theorem l_344_1461 : look 344 1461 = some (.iload 5, 2, 0, 0, 0, 0) := by decide +kernel
theorem l_344_1463 : look 344 1463 = some (.if_icmp .eq 5, 3, 0, 0, 0, 0) := by decide +kernel
theorem l_344_1468 : look 344 1468 = some (.iload 5, 2, 0, 0, 0, 0) := by decide +kernel
theorem l_344_1470 : look 344 1470 = some (.ifCond .ne 15, 3, 0, 0, 0, 0) := by decide +kernel
theorem l_344_1473 : look 344 1473 = some (.aload_n 3, 1, 0, 0, 0, 0) := by decide +kernel
theorem l_344_1474 : look 344 1474 = some (.iconst 0, 1, 0, 0, 0, 0) := by decide +kernel
theorem l_344_1475 : look 344 1475 = some (.laload, 1, 0, 0, 0, 0) := by decide +kernel
theorem l_344_1476 : look 344 1476 = some (.iload 6, 2, 0, 0, 0, 0) := by decide +kernel
theorem l_344_1478 : look 344 1478 = some (.i2l, 1, 0, 0, 0, 0) := by decide +kernel
theorem l_344_1479 : look 344 1479 = some (.lcmp, 1, 0, 0, 0, 0) := by decide +kernel
theorem l_344_1480 : look 344 1480 = some (.ifCond .eq 5, 3, 0, 0, 0, 0) := by decide +kernel
theorem l_344_1485 : look 344 1485 = some (.goto 1229, 3, 0, 0, 0, 0) := by decide +kernel
theorem l_344_1488 : look 344 1488 = some (.aload_n 1, 1, 0, 0, 0, 0) := by decide +kernel
theorem l_344_1489 : look 344 1489 = some (.aload_n 0, 1, 0, 0, 0, 0) := by decide +kernel
theorem l_344_1490 : look 344 1490 = some (.iload 4, 2, 0, 0, 0, 0) := by decide +kernel
theorem l_344_1492 : look 344 1492 = some (.iconst 1, 1, 0, 0, 0, 0) := by decide +kernel
theorem l_344_1493 : look 344 1493 = some (.iadd, 1, 0, 0, 0, 0) := by decide +kernel
theorem l_344_1494 : look 344 1494 = some (.iaload, 1, 0, 0, 0, 0) := by decide +kernel
theorem l_344_1495 : look 344 1495 = some (.aload_n 3, 1, 0, 0, 0, 0) := by decide +kernel
theorem l_344_1496 : look 344 1496 = some (.invokestatic 223, 3, 325, 3, 7, 1267) := by decide +kernel
theorem l_344_1499 : look 344 1499 = some (.istore 5, 2, 0, 0, 0, 0) := by decide +kernel
theorem l_344_1501 : look 344 1501 = some (.aload_n 2, 1, 0, 0, 0, 0) := by decide +kernel
theorem l_344_1502 : look 344 1502 = some (.aload_n 0, 1, 0, 0, 0, 0) := by decide +kernel
theorem l_344_1503 : look 344 1503 = some (.iload 4, 2, 0, 0, 0, 0) := by decide +kernel
theorem l_344_1505 : look 344 1505 = some (.iconst 1, 1, 0, 0, 0, 0) := by decide +kernel
theorem l_344_1506 : look 344 1506 = some (.iadd, 1, 0, 0, 0, 0) := by decide +kernel
theorem l_344_1507 : look 344 1507 = some (.iaload, 1, 0, 0, 0, 0) := by decide +kernel
theorem l_344_1508 : look 344 1508 = some (.invokevirtual 225, 3, 254, 2, 0, 2083) := by decide +kernel
theorem l_344_1511 : look 344 1511 = some (.istore 6, 2, 0, 0, 0, 0) := by decide +kernel
theorem l_344_1513 : look 344 1513 = some (.aload_n 2, 1, 0, 0, 0, 0) := by decide +kernel
theorem l_344_1514 : look 344 1514 = some (.invokevirtual 153, 3, 168, 1, 0, 1730) := by decide +kernel
theorem l_344_1517 : look 344 1517 = some (.iload 5, 2, 0, 0, 0, 0) := by decide +kernel
theorem l_344_1519 : look 344 1519 = some (.if_icmp .eq 5, 3, 0, 0, 0, 0) := by decide +kernel
theorem l_344_1524 : look 344 1524 = some (.iload 5, 2, 0, 0, 0, 0) := by decide +kernel
theorem l_344_1526 : look 344 1526 = some (.ifCond .ne 15, 3, 0, 0, 0, 0) := by decide +kernel
theorem l_344_1529 : look 344 1529 = some (.aload_n 3, 1, 0, 0, 0, 0) := by decide +kernel
theorem l_344_1530 : look 344 1530 = some (.iconst 0, 1, 0, 0, 0, 0) := by decide +kernel
theorem l_344_1531 : look 344 1531 = some (.laload, 1, 0, 0, 0, 0) := by decide +kernel
theorem l_344_1532 : look 344 1532 = some (.iload 6, 2, 0, 0, 0, 0) := by decide +kernel
theorem l_344_1534 : look 344 1534 = some (.i2l, 1, 0, 0, 0, 0) := by decide +kernel
theorem l_344_1535 : look 344 1535 = some (.lcmp, 1, 0, 0, 0, 0) := by decide +kernel
theorem l_344_1536 : look 344 1536 = some (.ifCond .eq 5, 3, 0, 0, 0, 0) := by decide +kernel
theorem l_344_1541 : look 344 1541 = some (.goto 1173, 3, 0, 0, 0, 0) := by decide +kernel
theorem l_344_1544 : look 344 1544 = some (.aload_n 1, 1, 0, 0, 0, 0) := by decide +kernel
theorem l_344_1545 : look 344 1545 = some (.aload_n 0, 1, 0, 0, 0, 0) := by decide +kernel
theorem l_344_1546 : look 344 1546 = some (.iload 4, 2, 0, 0, 0, 0) := by decide +kernel
theorem l_344_1548 : look 344 1548 = some (.iconst 1, 1, 0, 0, 0, 0) := by decide +kernel
theorem l_344_1549 : look 344 1549 = some (.iadd, 1, 0, 0, 0, 0) := by decide +kernel
theorem l_344_1550 : look 344 1550 = some (.iaload, 1, 0, 0, 0, 0) := by decide +kernel
theorem l_344_1551 : look 344 1551 = some (.aload_n 3, 1, 0, 0, 0, 0) := by decide +kernel
theorem l_344_1552 : look 344 1552 = some (.invokestatic 226, 3, 326, 3, 7, 1274) := by decide +kernel
theorem l_344_1555 : look 344 1555 = some (.istore 5, 2, 0, 0, 0, 0) := by decide +kernel
theorem l_344_1557 : look 344 1557 = some (.aload_n 2, 1, 0, 0, 0, 0) := by decide +kernel
theorem l_344_1558 : look 344 1558 = some (.aload_n 0, 1, 0, 0, 0, 0) := by decide +kernel
theorem l_344_1559 : look 344 1559 = some (.iload 4, 2, 0, 0, 0, 0) := by decide +kernel
theorem l_344_1561 : look 344 1561 = some (.iconst 1, 1, 0, 0, 0, 0) := by decide +kernel
theorem l_344_1562 : look 344 1562 = some (.iadd, 1, 0, 0, 0, 0) := by decide +kernel
theorem l_344_1563 : look 344 1563 = some (.iaload, 1, 0, 0, 0, 0) := by decide +kernel
theorem l_344_1564 : look 344 1564 = some (.invokevirtual 228, 3, 257, 2, 0, 2087) := by decide +kernel
theorem l_344_1567 : look 344 1567 = some (.istore 6, 2, 0, 0, 0, 0) := by decide +kernel
theorem l_344_1569 : look 344 1569 = some (.aload_n 2, 1, 0, 0, 0, 0) := by decide +kernel
theorem l_344_1570 : look 344 1570 = some (.invokevirtual 153, 3, 168, 1, 0, 1730) := by decide +kernel
theorem l_344_1573 : look 344 1573 = some (.iload 5, 2, 0, 0, 0, 0) := by decide +kernel
theorem l_344_1575 : look 344 1575 = some (.if_icmp .eq 5, 3, 0, 0, 0, 0) := by decide +kernel
theorem l_344_1580 : look 344 1580 = some (.iload 5, 2, 0, 0, 0, 0) := by decide +kernel
theorem l_344_1582 : look 344 1582 = some (.ifCond .ne 15, 3, 0, 0, 0, 0) := by decide +kernel
theorem l_344_1585 : look 344 1585 = some (.aload_n 3, 1, 0, 0, 0, 0) := by decide +kernel
theorem l_344_1586 : look 344 1586 = some (.iconst 0, 1, 0, 0, 0, 0) := by decide +kernel
theorem l_344_1587 : look 344 1587 = some (.laload, 1, 0, 0, 0, 0) := by decide +kernel
theorem l_344_1588 : look 344 1588 = some (.iload 6, 2, 0, 0, 0, 0) := by decide +kernel
theorem l_344_1590 : look 344 1590 = some (.i2l, 1, 0, 0, 0, 0) := by decide +kernel
theorem l_344_1591 : look 344 1591 = some (.lcmp, 1, 0, 0, 0, 0) := by decide +kernel
theorem l_344_1592 : look 344 1592 = some (.ifCond .eq 5, 3, 0, 0, 0, 0) := by decide +kernel
theorem l_344_1597 : look 344 1597 = some (.goto 1117, 3, 0, 0, 0, 0) := by decide +kernel
theorem l_344_1600 : look 344 1600 = some (.aload_n 1, 1, 0, 0, 0, 0) := by decide +kernel
theorem l_344_1601 : look 344 1601 = some (.aload_n 0, 1, 0, 0, 0, 0) := by decide +kernel
theorem l_344_1602 : look 344 1602 = some (.iload 4, 2, 0, 0, 0, 0) := by decide +kernel
theorem l_344_1604 : look 344 1604 = some (.iconst 1, 1, 0, 0, 0, 0) := by decide +kernel
theorem l_344_1605 : look 344 1605 = some (.iadd, 1, 0, 0, 0, 0) := by decide +kernel
theorem l_344_1606 : look 344 1606 = some (.iaload, 1, 0, 0, 0, 0) := by decide +kernel
theorem l_344_1607 : look 344 1607 = some (.aload_n 3, 1, 0, 0, 0, 0) := by decide +kernel
theorem l_344_1608 : look 344 1608 = some (.invokestatic 229, 3, 327, 3, 7, 1289) := by decide +kernel
theorem l_344_1611 : look 344 1611 = some (.istore 5, 2, 0, 0, 0, 0) := by decide +kernel
theorem l_344_1613 : look 344 1613 = some (.aload_n 2, 1, 0, 0, 0, 0) := by decide +kernel
theorem l_344_1614 : look 344 1614 = some (.aload_n 0, 1, 0, 0, 0, 0) := by decide +kernel
theorem l_344_1615 : look 344 1615 = some (.iload 4, 2, 0, 0, 0, 0) := by decide +kernel
theorem l_344_1617 : look 344 1617 = some (.iconst 1, 1, 0, 0, 0, 0) := by decide +kernel
theorem l_344_1618 : look 344 1618 = some (.iadd, 1, 0, 0, 0, 0) := by decide +kernel
theorem l_344_1619 : look 344 1619 = some (.iaload, 1, 0, 0, 0, 0) := by decide +kernel
theorem l_344_1620 : look 344 1620 = some (.invokevirtual 231, 3, 258, 2, 0, 2098) := by decide +kernel
theorem l_344_1623 : look 344 1623 = some (.istore 6, 2, 0, 0, 0, 0) := by decide +kernel
theorem l_344_1625 : look 344 1625 = some (.aload_n 2, 1, 0, 0, 0, 0) := by decide +kernel
theorem l_344_1626 : look 344 1626 = some (.invokevirtual 153, 3, 168, 1, 0, 1730) := by decide +kernel
theorem l_344_1629 : look 344 1629 = some (.iload 5, 2, 0, 0, 0, 0) := by decide +kernel
theorem l_344_1631 : look 344 1631 = some (.if_icmp .eq 5, 3, 0, 0, 0, 0) := by decide +kernel
theorem l_344_1636 : look 344 1636 = some (.iload 5, 2, 0, 0, 0, 0) := by decide +kernel
theorem l_344_1638 : look 344 1638 = some (.ifCond .ne 15, 3, 0, 0, 0, 0) := by decide +kernel
theorem l_344_1641 : look 344 1641 = some (.aload_n 3, 1, 0, 0, 0, 0) := by decide +kernel
theorem l_344_1642 : look 344 1642 = some (.iconst 0, 1, 0, 0, 0, 0) := by decide +kernel
theorem l_344_1643 : look 344 1643 = some (.laload, 1, 0, 0, 0, 0) := by decide +kernel
theorem l_344_1644 : look 344 1644 = some (.iload 6, 2, 0, 0, 0, 0) := by decide +kernel
theorem l_344_1646 : look 344 1646 = some (.i2l, 1, 0, 0, 0, 0) := by decide +kernel
theorem l_344_1647 : look 344 1647 = some (.lcmp, 1, 0, 0, 0, 0) := by decide +kernel
theorem l_344_1648 : look 344 1648 = some (.ifCond .eq 5, 3, 0, 0, 0, 0) := by decide +kernel
theorem l_344_1653 : look 344 1653 = some (.goto 1061, 3, 0, 0, 0, 0) := by decide +kernel
theorem l_344_1656 : look 344 1656 = some (.aload_n 1, 1, 0, 0, 0, 0) := by decide +kernel
theorem l_344_1657 : look 344 1657 = some (.aload_n 0, 1, 0, 0, 0, 0) := by decide +kernel
theorem l_344_1658 : look 344 1658 = some (.iload 4, 2, 0, 0, 0, 0) := by decide +kernel
theorem l_344_1660 : look 344 1660 = some (.iconst 1, 1, 0, 0, 0, 0) := by decide +kernel
theorem l_344_1661 : look 344 1661 = some (.iadd, 1, 0, 0, 0, 0) := by decide +kernel
theorem l_344_1662 : look 344 1662 = some (.iaload, 1, 0, 0, 0, 0) := by decide +kernel
theorem l_344_1663 : look 344 1663 = some (.aload_n 3, 1, 0, 0, 0, 0) := by decide +kernel
theorem l_344_1664 : look 344 1664 = some (.invokestatic 232, 3, 328, 3, 7, 1304) := by decide +kernel
theorem l_344_1667 : look 344 1667 = some (.istore 5, 2, 0, 0, 0, 0) := by decide +kernel
theorem l_344_1669 : look 344 1669 = some (.aload_n 2, 1, 0, 0, 0, 0) := by decide +kernel
theorem l_344_1670 : look 344 1670 = some (.aload_n 0, 1, 0, 0, 0, 0) := by decide +kernel
theorem l_344_1671 : look 344 1671 = some (.iload 4, 2, 0, 0, 0, 0) := by decide +kernel
theorem l_344_1673 : look 344 1673 = some (.iconst 1, 1, 0, 0, 0, 0) := by decide +kernel
theorem l_344_1674 : look 344 1674 = some (.iadd, 1, 0, 0, 0, 0) := by decide +kernel
theorem l_344_1675 : look 344 1675 = some (.iaload, 1, 0, 0, 0, 0) := by decide +kernel
theorem l_344_1676 : look 344 1676 = some (.invokevirtual 234, 3, 259, 2, 0, 2106) := by decide +kernel
theorem l_344_1679 : look 344 1679 = some (.istore 6, 2, 0, 0, 0, 0) := by decide +kernel
theorem l_344_1681 : look 344 1681 = some (.aload_n 2, 1, 0, 0, 0, 0) := by decide +kernel
theorem l_344_1682 : look 344 1682 = some (.invokevirtual 153, 3, 168, 1, 0, 1730) := by decide +kernel
theorem l_344_1685 : look 344 1685 = some (.iload 5, 2, 0, 0, 0, 0) := by decide +kernel
theorem l_344_1687 : look 344 1687 = some (.if_icmp .eq 5, 3, 0, 0, 0, 0) := by decide +kernel
theorem l_344_1692 : look 344 1692 = some (.iload 5, 2, 0, 0, 0, 0) := by decide +kernel
theorem l_344_1694 : look 344 1694 = some (.ifCond .ne 15, 3, 0, 0, 0, 0) := by decide +kernel
theorem l_344_1697 : look 344 1697 = some (.aload_n 3, 1, 0, 0, 0, 0) := by decide +kernel
theorem l_344_1698 : look 344 1698 = some (.iconst 0, 1, 0, 0, 0, 0) := by decide +kernel
theorem l_344_1699 : look 344 1699 = some (.laload, 1, 0, 0, 0, 0) := by decide +kernel
theorem l_344_1700 : look 344 1700 = some (.iload 6, 2, 0, 0, 0, 0) := by decide +kernel
theorem l_344_1702 : look 344 1702 = some (.i2l, 1, 0, 0, 0, 0) := by decide +kernel
theorem l_344_1703 : look 344 1703 = some (.lcmp, 1, 0, 0, 0, 0) := by decide +kernel
theorem l_344_1704 : look 344 1704 = some (.ifCond .eq 5, 3, 0, 0, 0, 0) := by decide +kernel
theorem l_344_1709 : look 344 1709 = some (.goto 1005, 3, 0, 0, 0, 0) := by decide +kernel
theorem l_344_1712 : look 344 1712 = some (.aload_n 1, 1, 0, 0, 0, 0) := by decide +kernel
theorem l_344_1713 : look 344 1713 = some (.invokevirtual 235, 3, 126, 1, 0, 618) := by decide +kernel
theorem l_344_1716 : look 344 1716 = some (.aload_n 2, 1, 0, 0, 0, 0) := by decide +kernel
theorem l_344_1717 : look 344 1717 = some (.invokevirtual 238, 3, 260, 1, 0, 2110) := by decide +kernel
theorem l_344_1720 : look 344 1720 = some (.if_icmp .eq 994, 3, 0, 0, 0, 0) := by decide +kernel
section LWA3
variable {xs : List Int} {S : List (Nat × Nat)} {T : Nat → Nat → Nat} {I : Ix} {cc zz s c i : Nat} {v5 v6 : AV} {Q : Res → Mem → Prop}
theorem cs_20 (IV : INV S T I s c) (hb : 1 ≤ cc ∧ 6 ≤ zz) (hc : c + 1 < 100000) (hi : i + 5 < xs.length) (hxl : xs.length ≤ 100000) (KK : KKP xs S s i cc zz c Q) : WP xs 344 35 1296 [vs 3, vr s, vr (s + 163), vr (s + 203), vi ((i : Nat) : Int), v5, v6] [] (S, I, T, cc, zz) Q := by
  have hms := oModel_sh IV.1
  have h203 := IV.2.1
  have hds := IV.sh
  refine w_aln l_344_1296 rfl ?_
  refine w_asn l_344_1297 rfl ?_
  refine w_il l_344_1298 rfl ?_
  refine w_ic l_344_1300 (by decide) ?_
  refine w_add ((i + 1 : Nat) : Int) l_344_1301 (by unfold wr; omega) ?_
  refine w_xs (i + 1) (xs.getD (i + 1) 0) l_344_1302 rfl (by omega) rfl ?_
  refine w_aln l_344_1303 rfl ?_
  refine w_st [vr s, vi (xs.getD (i + 1) 0), vr (s + 203)] [] l_344_1304 (by decide) rfl rfl (Nat.le_of_ble_eq_true rfl) (by rw [mx_322]; exact Nat.le_of_ble_eq_true rfl) (by rw [rk_322]; decide) (CL_mono (pr_322 IV hb hc) fun r1 m1 hr1 => ?_)
  obtain ⟨k, I1, T1, c1, z1, rfl, rfl, hcc, hzz, hr2⟩ := hr1
  show WP xs 344 35 1307 [vs 3, vr s, vr (s + 163), vr (s + 203), vi ((i : Nat) : Int), v5, v6] [vi k] (S, I1, T1, c1, z1) Q
  refine w_is l_344_1307 ⟨Nat.le_of_ble_eq_true rfl, rfl⟩ ?_
  refine w_aln l_344_1309 rfl ?_
  refine w_asn l_344_1310 rfl ?_
  refine w_il l_344_1311 rfl ?_
  refine w_ic l_344_1313 (by decide) ?_
  refine w_add ((i + 1 : Nat) : Int) l_344_1314 (by unfold wr; omega) ?_
  refine w_xs (i + 1) (xs.getD (i + 1) 0) l_344_1315 rfl (by omega) rfl ?_
  refine w_iv [vi (xs.getD (i + 1) 0)] [] l_344_1316 rfl rfl rfl (Nat.le_of_ble_eq_true rfl) (by rw [mx_250]; exact Nat.le_of_ble_eq_true rfl) (by rw [mt_250]; exact hms) (by rw [mt_250]; decide) (by rw [rk_250]; decide) (CL_mono hr2 fun r2 m2 h2 => ?_)
  obtain ⟨b, I2, c2, rfl, rfl, IV2, hc2, e0, eb, hB⟩ := h2
  show WP xs 344 35 1319 [vs 3, vr s, vr (s + 163), vr (s + 203), vi ((i : Nat) : Int), vi k, v6] [vi b] (S, I2, T1, c1, z1) Q
  refine w_is l_344_1319 ⟨Nat.le_of_ble_eq_true rfl, rfl⟩ ?_
  refine w_aln l_344_1321 rfl ?_
  refine q_iv [] [] l_344_1322 rfl rfl (Nat.le_of_ble_eq_true rfl) (by rw [mx_168]; exact Nat.le_of_ble_eq_true rfl) (by rw [mt_168]; exact oModel_sh IV2.1) (by rw [mt_168]; decide) (by rw [rk_168]; decide) (s_168 IV2.1) ?_
  refine w_il l_344_1325 rfl ?_
  refine w_ceq 1332 l_344_1327 (by decide) (fun _ => ?_) (fun hx => absurd hx (by exact fun q => q e0))
  refine w_il l_344_1332 rfl ?_
  refine w_zne 1349 l_344_1334 (by decide) (fun h1 => ?_) (fun h1 => ?_)
  · skip
    refine w_go 2714 l_344_1349 (by decide) ?_
    exact KK _ _ _ _ _ _ _ IV2 (by omega) (by omega) (by omega)
  · skip
    refine w_aln l_344_1337 rfl ?_
    refine w_ic l_344_1338 (by decide) ?_
    refine w_la 0 (I2 (s + 203) 0) l_344_1339 h203 rfl (by omega) rfl ?_
    refine w_il l_344_1340 rfl ?_
    refine w_i2l l_344_1342 ?_
    refine w_lcmp l_344_1343 ?_
    refine w_zeq 1349 l_344_1344 (by decide) (fun _ => ?_) (fun hx => absurd hx (by exact fun q => q (by rw [eb h1]; exact cmpL_rf)))
    refine w_go 2714 l_344_1349 (by decide) ?_
    exact KK _ _ _ _ _ _ _ IV2 (by omega) (by omega) (by omega)

theorem cs_21 (IV : INV S T I s c) (hb : 1 ≤ cc ∧ 6 ≤ zz) (hc : c + 1 < 100000) (hi : i + 5 < xs.length) (hxl : xs.length ≤ 100000) (KK : KKP xs S s i cc zz c Q) : WP xs 344 35 1352 [vs 3, vr s, vr (s + 163), vr (s + 203), vi ((i : Nat) : Int), v5, v6] [] (S, I, T, cc, zz) Q := by
  have hms := oModel_sh IV.1
  have h203 := IV.2.1
  have hds := IV.sh
  refine w_aln l_344_1352 rfl ?_
  refine w_asn l_344_1353 rfl ?_
  refine w_il l_344_1354 rfl ?_
  refine w_ic l_344_1356 (by decide) ?_
  refine w_add ((i + 1 : Nat) : Int) l_344_1357 (by unfold wr; omega) ?_
  refine w_xs (i + 1) (xs.getD (i + 1) 0) l_344_1358 rfl (by omega) rfl ?_
  refine w_asn l_344_1359 rfl ?_
  refine w_il l_344_1360 rfl ?_
  refine w_ic l_344_1362 (by decide) ?_
  refine w_add ((i + 2 : Nat) : Int) l_344_1363 (by unfold wr; omega) ?_
  refine w_xs (i + 2) (xs.getD (i + 2) 0) l_344_1364 rfl (by omega) rfl ?_
  refine w_aln l_344_1365 rfl ?_
  refine w_st [vr s, vi (xs.getD (i + 1) 0), vi (xs.getD (i + 2) 0), vr (s + 203)] [] l_344_1366 (by decide) rfl rfl (Nat.le_of_ble_eq_true rfl) (by rw [mx_323]; exact Nat.le_of_ble_eq_true rfl) (by rw [rk_323]; decide) (CL_mono (pr_323 IV hb hc) fun r1 m1 hr1 => ?_)
  obtain ⟨k, I1, T1, c1, z1, rfl, rfl, hcc, hzz, hr2⟩ := hr1
  show WP xs 344 35 1369 [vs 3, vr s, vr (s + 163), vr (s + 203), vi ((i : Nat) : Int), v5, v6] [vi k] (S, I1, T1, c1, z1) Q
  refine w_is l_344_1369 ⟨Nat.le_of_ble_eq_true rfl, rfl⟩ ?_
  refine w_aln l_344_1371 rfl ?_
  refine w_asn l_344_1372 rfl ?_
  refine w_il l_344_1373 rfl ?_
  refine w_ic l_344_1375 (by decide) ?_
  refine w_add ((i + 1 : Nat) : Int) l_344_1376 (by unfold wr; omega) ?_
  refine w_xs (i + 1) (xs.getD (i + 1) 0) l_344_1377 rfl (by omega) rfl ?_
  refine w_asn l_344_1378 rfl ?_
  refine w_il l_344_1379 rfl ?_
  refine w_ic l_344_1381 (by decide) ?_
  refine w_add ((i + 2 : Nat) : Int) l_344_1382 (by unfold wr; omega) ?_
  refine w_xs (i + 2) (xs.getD (i + 2) 0) l_344_1383 rfl (by omega) rfl ?_
  refine w_iv [vi (xs.getD (i + 1) 0), vi (xs.getD (i + 2) 0)] [] l_344_1384 rfl rfl rfl (Nat.le_of_ble_eq_true rfl) (by rw [mx_251]; exact Nat.le_of_ble_eq_true rfl) (by rw [mt_251]; exact hms) (by rw [mt_251]; decide) (by rw [rk_251]; decide) (CL_mono hr2 fun r2 m2 h2 => ?_)
  obtain ⟨b, I2, c2, rfl, rfl, IV2, hc2, e0, eb, hB⟩ := h2
  show WP xs 344 35 1387 [vs 3, vr s, vr (s + 163), vr (s + 203), vi ((i : Nat) : Int), vi k, v6] [vi b] (S, I2, T1, c1, z1) Q
  refine w_is l_344_1387 ⟨Nat.le_of_ble_eq_true rfl, rfl⟩ ?_
  refine w_aln l_344_1389 rfl ?_
  refine q_iv [] [] l_344_1390 rfl rfl (Nat.le_of_ble_eq_true rfl) (by rw [mx_168]; exact Nat.le_of_ble_eq_true rfl) (by rw [mt_168]; exact oModel_sh IV2.1) (by rw [mt_168]; decide) (by rw [rk_168]; decide) (s_168 IV2.1) ?_
  refine w_il l_344_1393 rfl ?_
  refine w_ceq 1400 l_344_1395 (by decide) (fun _ => ?_) (fun hx => absurd hx (by exact fun q => q e0))
  refine w_il l_344_1400 rfl ?_
  refine w_zne 1417 l_344_1402 (by decide) (fun h1 => ?_) (fun h1 => ?_)
  · skip
    refine w_go 2714 l_344_1417 (by decide) ?_
    exact KK _ _ _ _ _ _ _ IV2 (by omega) (by omega) (by omega)
  · skip
    refine w_aln l_344_1405 rfl ?_
    refine w_ic l_344_1406 (by decide) ?_
    refine w_la 0 (I2 (s + 203) 0) l_344_1407 h203 rfl (by omega) rfl ?_
    refine w_il l_344_1408 rfl ?_
    refine w_i2l l_344_1410 ?_
    refine w_lcmp l_344_1411 ?_
    refine w_zeq 1417 l_344_1412 (by decide) (fun _ => ?_) (fun hx => absurd hx (by exact fun q => q (by rw [eb h1]; exact cmpL_rf)))
    refine w_go 2714 l_344_1417 (by decide) ?_
    exact KK _ _ _ _ _ _ _ IV2 (by omega) (by omega) (by omega)

theorem cs_22 (IV : INV S T I s c) (hb : 1 ≤ cc ∧ 6 ≤ zz) (hc : c + 1 < 100000) (hi : i + 5 < xs.length) (hxl : xs.length ≤ 100000) (KK : KKP xs S s i cc zz c Q) : WP xs 344 35 1420 [vs 3, vr s, vr (s + 163), vr (s + 203), vi ((i : Nat) : Int), v5, v6] [] (S, I, T, cc, zz) Q := by
  have hms := oModel_sh IV.1
  have h203 := IV.2.1
  have hds := IV.sh
  refine w_aln l_344_1420 rfl ?_
  refine w_asn l_344_1421 rfl ?_
  refine w_il l_344_1422 rfl ?_
  refine w_ic l_344_1424 (by decide) ?_
  refine w_add ((i + 1 : Nat) : Int) l_344_1425 (by unfold wr; omega) ?_
  refine w_xs (i + 1) (xs.getD (i + 1) 0) l_344_1426 rfl (by omega) rfl ?_
  refine w_asn l_344_1427 rfl ?_
  refine w_il l_344_1428 rfl ?_
  refine w_ic l_344_1430 (by decide) ?_
  refine w_add ((i + 2 : Nat) : Int) l_344_1431 (by unfold wr; omega) ?_
  refine w_xs (i + 2) (xs.getD (i + 2) 0) l_344_1432 rfl (by omega) rfl ?_
  refine w_aln l_344_1433 rfl ?_
  refine w_st [vr s, vi (xs.getD (i + 1) 0), vi (xs.getD (i + 2) 0), vr (s + 203)] [] l_344_1434 (by decide) rfl rfl (Nat.le_of_ble_eq_true rfl) (by rw [mx_324]; exact Nat.le_of_ble_eq_true rfl) (by rw [rk_324]; decide) (CL_mono (pr_324 IV hb hc) fun r1 m1 hr1 => ?_)
  obtain ⟨k, I1, T1, c1, z1, rfl, rfl, hcc, hzz, hr2⟩ := hr1
  show WP xs 344 35 1437 [vs 3, vr s, vr (s + 163), vr (s + 203), vi ((i : Nat) : Int), v5, v6] [vi k] (S, I1, T1, c1, z1) Q
  refine w_is l_344_1437 ⟨Nat.le_of_ble_eq_true rfl, rfl⟩ ?_
  refine w_aln l_344_1439 rfl ?_
  refine w_asn l_344_1440 rfl ?_
  refine w_il l_344_1441 rfl ?_
  refine w_ic l_344_1443 (by decide) ?_
  refine w_add ((i + 1 : Nat) : Int) l_344_1444 (by unfold wr; omega) ?_
  refine w_xs (i + 1) (xs.getD (i + 1) 0) l_344_1445 rfl (by omega) rfl ?_
  refine w_asn l_344_1446 rfl ?_
  refine w_il l_344_1447 rfl ?_
  refine w_ic l_344_1449 (by decide) ?_
  refine w_add ((i + 2 : Nat) : Int) l_344_1450 (by unfold wr; omega) ?_
  refine w_xs (i + 2) (xs.getD (i + 2) 0) l_344_1451 rfl (by omega) rfl ?_
  refine w_iv [vi (xs.getD (i + 1) 0), vi (xs.getD (i + 2) 0)] [] l_344_1452 rfl rfl rfl (Nat.le_of_ble_eq_true rfl) (by rw [mx_253]; exact Nat.le_of_ble_eq_true rfl) (by rw [mt_253]; exact hms) (by rw [mt_253]; decide) (by rw [rk_253]; decide) (CL_mono hr2 fun r2 m2 h2 => ?_)
  obtain ⟨b, I2, c2, rfl, rfl, IV2, hc2, e0, eb, hB⟩ := h2
  show WP xs 344 35 1455 [vs 3, vr s, vr (s + 163), vr (s + 203), vi ((i : Nat) : Int), vi k, v6] [vi b] (S, I2, T1, c1, z1) Q
  refine w_is l_344_1455 ⟨Nat.le_of_ble_eq_true rfl, rfl⟩ ?_
  refine w_aln l_344_1457 rfl ?_
  refine q_iv [] [] l_344_1458 rfl rfl (Nat.le_of_ble_eq_true rfl) (by rw [mx_168]; exact Nat.le_of_ble_eq_true rfl) (by rw [mt_168]; exact oModel_sh IV2.1) (by rw [mt_168]; decide) (by rw [rk_168]; decide) (s_168 IV2.1) ?_
  refine w_il l_344_1461 rfl ?_
  refine w_ceq 1468 l_344_1463 (by decide) (fun _ => ?_) (fun hx => absurd hx (by exact fun q => q e0))
  refine w_il l_344_1468 rfl ?_
  refine w_zne 1485 l_344_1470 (by decide) (fun h1 => ?_) (fun h1 => ?_)
  · skip
    refine w_go 2714 l_344_1485 (by decide) ?_
    exact KK _ _ _ _ _ _ _ IV2 (by omega) (by omega) (by omega)
  · skip
    refine w_aln l_344_1473 rfl ?_
    refine w_ic l_344_1474 (by decide) ?_
    refine w_la 0 (I2 (s + 203) 0) l_344_1475 h203 rfl (by omega) rfl ?_
    refine w_il l_344_1476 rfl ?_
    refine w_i2l l_344_1478 ?_
    refine w_lcmp l_344_1479 ?_
    refine w_zeq 1485 l_344_1480 (by decide) (fun _ => ?_) (fun hx => absurd hx (by exact fun q => q (by rw [eb h1]; exact cmpL_rf)))
    refine w_go 2714 l_344_1485 (by decide) ?_
    exact KK _ _ _ _ _ _ _ IV2 (by omega) (by omega) (by omega)

theorem cs_23 (IV : INV S T I s c) (hb : 1 ≤ cc ∧ 6 ≤ zz) (hc : c + 1 < 100000) (hi : i + 5 < xs.length) (hxl : xs.length ≤ 100000) (KK : KKP xs S s i cc zz c Q) : WP xs 344 35 1488 [vs 3, vr s, vr (s + 163), vr (s + 203), vi ((i : Nat) : Int), v5, v6] [] (S, I, T, cc, zz) Q := by
  have hms := oModel_sh IV.1
  have h203 := IV.2.1
  have hds := IV.sh
  refine w_aln l_344_1488 rfl ?_
  refine w_asn l_344_1489 rfl ?_
  refine w_il l_344_1490 rfl ?_
  refine w_ic l_344_1492 (by decide) ?_
  refine w_add ((i + 1 : Nat) : Int) l_344_1493 (by unfold wr; omega) ?_
  refine w_xs (i + 1) (xs.getD (i + 1) 0) l_344_1494 rfl (by omega) rfl ?_
  refine w_aln l_344_1495 rfl ?_
  refine w_st [vr s, vi (xs.getD (i + 1) 0), vr (s + 203)] [] l_344_1496 (by decide) rfl rfl (Nat.le_of_ble_eq_true rfl) (by rw [mx_325]; exact Nat.le_of_ble_eq_true rfl) (by rw [rk_325]; decide) (CL_mono (pr_325 IV hb hc) fun r1 m1 hr1 => ?_)
  obtain ⟨k, I1, T1, c1, z1, rfl, rfl, hcc, hzz, hr2⟩ := hr1
  show WP xs 344 35 1499 [vs 3, vr s, vr (s + 163), vr (s + 203), vi ((i : Nat) : Int), v5, v6] [vi k] (S, I1, T1, c1, z1) Q
  refine w_is l_344_1499 ⟨Nat.le_of_ble_eq_true rfl, rfl⟩ ?_
  refine w_aln l_344_1501 rfl ?_
  refine w_asn l_344_1502 rfl ?_
  refine w_il l_344_1503 rfl ?_
  refine w_ic l_344_1505 (by decide) ?_
  refine w_add ((i + 1 : Nat) : Int) l_344_1506 (by unfold wr; omega) ?_
  refine w_xs (i + 1) (xs.getD (i + 1) 0) l_344_1507 rfl (by omega) rfl ?_
  refine w_iv [vi (xs.getD (i + 1) 0)] [] l_344_1508 rfl rfl rfl (Nat.le_of_ble_eq_true rfl) (by rw [mx_254]; exact Nat.le_of_ble_eq_true rfl) (by rw [mt_254]; exact hms) (by rw [mt_254]; decide) (by rw [rk_254]; decide) (CL_mono hr2 fun r2 m2 h2 => ?_)
  obtain ⟨b, I2, c2, rfl, rfl, IV2, hc2, e0, eb, hB⟩ := h2
  show WP xs 344 35 1511 [vs 3, vr s, vr (s + 163), vr (s + 203), vi ((i : Nat) : Int), vi k, v6] [vi b] (S, I2, T1, c1, z1) Q
  refine w_is l_344_1511 ⟨Nat.le_of_ble_eq_true rfl, rfl⟩ ?_
  refine w_aln l_344_1513 rfl ?_
  refine q_iv [] [] l_344_1514 rfl rfl (Nat.le_of_ble_eq_true rfl) (by rw [mx_168]; exact Nat.le_of_ble_eq_true rfl) (by rw [mt_168]; exact oModel_sh IV2.1) (by rw [mt_168]; decide) (by rw [rk_168]; decide) (s_168 IV2.1) ?_
  refine w_il l_344_1517 rfl ?_
  refine w_ceq 1524 l_344_1519 (by decide) (fun _ => ?_) (fun hx => absurd hx (by exact fun q => q e0))
  refine w_il l_344_1524 rfl ?_
  refine w_zne 1541 l_344_1526 (by decide) (fun h1 => ?_) (fun h1 => ?_)
  · skip
    refine w_go 2714 l_344_1541 (by decide) ?_
    exact KK _ _ _ _ _ _ _ IV2 (by omega) (by omega) (by omega)
  · skip
    refine w_aln l_344_1529 rfl ?_
    refine w_ic l_344_1530 (by decide) ?_
    refine w_la 0 (I2 (s + 203) 0) l_344_1531 h203 rfl (by omega) rfl ?_
    refine w_il l_344_1532 rfl ?_
    refine w_i2l l_344_1534 ?_
    refine w_lcmp l_344_1535 ?_
    refine w_zeq 1541 l_344_1536 (by decide) (fun _ => ?_) (fun hx => absurd hx (by exact fun q => q (by rw [eb h1]; exact cmpL_rf)))
    refine w_go 2714 l_344_1541 (by decide) ?_
    exact KK _ _ _ _ _ _ _ IV2 (by omega) (by omega) (by omega)

theorem cs_24 (IV : INV S T I s c) (hb : 1 ≤ cc ∧ 6 ≤ zz) (hc : c + 1 < 100000) (hi : i + 5 < xs.length) (hxl : xs.length ≤ 100000) (KK : KKP xs S s i cc zz c Q) : WP xs 344 35 1544 [vs 3, vr s, vr (s + 163), vr (s + 203), vi ((i : Nat) : Int), v5, v6] [] (S, I, T, cc, zz) Q := by
  have hms := oModel_sh IV.1
  have h203 := IV.2.1
  have hds := IV.sh
  refine w_aln l_344_1544 rfl ?_
  refine w_asn l_344_1545 rfl ?_
  refine w_il l_344_1546 rfl ?_
  refine w_ic l_344_1548 (by decide) ?_
  refine w_add ((i + 1 : Nat) : Int) l_344_1549 (by unfold wr; omega) ?_
  refine w_xs (i + 1) (xs.getD (i + 1) 0) l_344_1550 rfl (by omega) rfl ?_
  refine w_aln l_344_1551 rfl ?_
  refine w_st [vr s, vi (xs.getD (i + 1) 0), vr (s + 203)] [] l_344_1552 (by decide) rfl rfl (Nat.le_of_ble_eq_true rfl) (by rw [mx_326]; exact Nat.le_of_ble_eq_true rfl) (by rw [rk_326]; decide) (CL_mono (pr_326 IV hb hc) fun r1 m1 hr1 => ?_)
  obtain ⟨k, I1, T1, c1, z1, rfl, rfl, hcc, hzz, hr2⟩ := hr1
  show WP xs 344 35 1555 [vs 3, vr s, vr (s + 163), vr (s + 203), vi ((i : Nat) : Int), v5, v6] [vi k] (S, I1, T1, c1, z1) Q
  refine w_is l_344_1555 ⟨Nat.le_of_ble_eq_true rfl, rfl⟩ ?_
  refine w_aln l_344_1557 rfl ?_
  refine w_asn l_344_1558 rfl ?_
  refine w_il l_344_1559 rfl ?_
  refine w_ic l_344_1561 (by decide) ?_
  refine w_add ((i + 1 : Nat) : Int) l_344_1562 (by unfold wr; omega) ?_
  refine w_xs (i + 1) (xs.getD (i + 1) 0) l_344_1563 rfl (by omega) rfl ?_
  refine w_iv [vi (xs.getD (i + 1) 0)] [] l_344_1564 rfl rfl rfl (Nat.le_of_ble_eq_true rfl) (by rw [mx_257]; exact Nat.le_of_ble_eq_true rfl) (by rw [mt_257]; exact hms) (by rw [mt_257]; decide) (by rw [rk_257]; decide) (CL_mono hr2 fun r2 m2 h2 => ?_)
  obtain ⟨b, I2, c2, rfl, rfl, IV2, hc2, e0, eb, hB⟩ := h2
  show WP xs 344 35 1567 [vs 3, vr s, vr (s + 163), vr (s + 203), vi ((i : Nat) : Int), vi k, v6] [vi b] (S, I2, T1, c1, z1) Q
  refine w_is l_344_1567 ⟨Nat.le_of_ble_eq_true rfl, rfl⟩ ?_
  refine w_aln l_344_1569 rfl ?_
  refine q_iv [] [] l_344_1570 rfl rfl (Nat.le_of_ble_eq_true rfl) (by rw [mx_168]; exact Nat.le_of_ble_eq_true rfl) (by rw [mt_168]; exact oModel_sh IV2.1) (by rw [mt_168]; decide) (by rw [rk_168]; decide) (s_168 IV2.1) ?_
  refine w_il l_344_1573 rfl ?_
  refine w_ceq 1580 l_344_1575 (by decide) (fun _ => ?_) (fun hx => absurd hx (by exact fun q => q e0))
  refine w_il l_344_1580 rfl ?_
  refine w_zne 1597 l_344_1582 (by decide) (fun h1 => ?_) (fun h1 => ?_)
  · skip
    refine w_go 2714 l_344_1597 (by decide) ?_
    exact KK _ _ _ _ _ _ _ IV2 (by omega) (by omega) (by omega)
  · skip
    refine w_aln l_344_1585 rfl ?_
    refine w_ic l_344_1586 (by decide) ?_
    refine w_la 0 (I2 (s + 203) 0) l_344_1587 h203 rfl (by omega) rfl ?_
    refine w_il l_344_1588 rfl ?_
    refine w_i2l l_344_1590 ?_
    refine w_lcmp l_344_1591 ?_
    refine w_zeq 1597 l_344_1592 (by decide) (fun _ => ?_) (fun hx => absurd hx (by exact fun q => q (by rw [eb h1]; exact cmpL_rf)))
    refine w_go 2714 l_344_1597 (by decide) ?_
    exact KK _ _ _ _ _ _ _ IV2 (by omega) (by omega) (by omega)

theorem cs_25 (IV : INV S T I s c) (hb : 1 ≤ cc ∧ 6 ≤ zz) (hc : c + 1 < 100000) (hi : i + 5 < xs.length) (hxl : xs.length ≤ 100000) (KK : KKP xs S s i cc zz c Q) : WP xs 344 35 1600 [vs 3, vr s, vr (s + 163), vr (s + 203), vi ((i : Nat) : Int), v5, v6] [] (S, I, T, cc, zz) Q := by
  have hms := oModel_sh IV.1
  have h203 := IV.2.1
  have hds := IV.sh
  refine w_aln l_344_1600 rfl ?_
  refine w_asn l_344_1601 rfl ?_
  refine w_il l_344_1602 rfl ?_
  refine w_ic l_344_1604 (by decide) ?_
  refine w_add ((i + 1 : Nat) : Int) l_344_1605 (by unfold wr; omega) ?_
  refine w_xs (i + 1) (xs.getD (i + 1) 0) l_344_1606 rfl (by omega) rfl ?_
  refine w_aln l_344_1607 rfl ?_
  refine w_st [vr s, vi (xs.getD (i + 1) 0), vr (s + 203)] [] l_344_1608 (by decide) rfl rfl (Nat.le_of_ble_eq_true rfl) (by rw [mx_327]; exact Nat.le_of_ble_eq_true rfl) (by rw [rk_327]; decide) (CL_mono (pr_327 IV hb hc) fun r1 m1 hr1 => ?_)
  obtain ⟨k, I1, T1, c1, z1, rfl, rfl, hcc, hzz, hr2⟩ := hr1
  show WP xs 344 35 1611 [vs 3, vr s, vr (s + 163), vr (s + 203), vi ((i : Nat) : Int), v5, v6] [vi k] (S, I1, T1, c1, z1) Q
  refine w_is l_344_1611 ⟨Nat.le_of_ble_eq_true rfl, rfl⟩ ?_
  refine w_aln l_344_1613 rfl ?_
  refine w_asn l_344_1614 rfl ?_
  refine w_il l_344_1615 rfl ?_
  refine w_ic l_344_1617 (by decide) ?_
  refine w_add ((i + 1 : Nat) : Int) l_344_1618 (by unfold wr; omega) ?_
  refine w_xs (i + 1) (xs.getD (i + 1) 0) l_344_1619 rfl (by omega) rfl ?_
  refine w_iv [vi (xs.getD (i + 1) 0)] [] l_344_1620 rfl rfl rfl (Nat.le_of_ble_eq_true rfl) (by rw [mx_258]; exact Nat.le_of_ble_eq_true rfl) (by rw [mt_258]; exact hms) (by rw [mt_258]; decide) (by rw [rk_258]; decide) (CL_mono hr2 fun r2 m2 h2 => ?_)
  obtain ⟨b, I2, c2, rfl, rfl, IV2, hc2, e0, eb, hB⟩ := h2
  show WP xs 344 35 1623 [vs 3, vr s, vr (s + 163), vr (s + 203), vi ((i : Nat) : Int), vi k, v6] [vi b] (S, I2, T1, c1, z1) Q
  refine w_is l_344_1623 ⟨Nat.le_of_ble_eq_true rfl, rfl⟩ ?_
  refine w_aln l_344_1625 rfl ?_
  refine q_iv [] [] l_344_1626 rfl rfl (Nat.le_of_ble_eq_true rfl) (by rw [mx_168]; exact Nat.le_of_ble_eq_true rfl) (by rw [mt_168]; exact oModel_sh IV2.1) (by rw [mt_168]; decide) (by rw [rk_168]; decide) (s_168 IV2.1) ?_
  refine w_il l_344_1629 rfl ?_
  refine w_ceq 1636 l_344_1631 (by decide) (fun _ => ?_) (fun hx => absurd hx (by exact fun q => q e0))
  refine w_il l_344_1636 rfl ?_
  refine w_zne 1653 l_344_1638 (by decide) (fun h1 => ?_) (fun h1 => ?_)
  · skip
    refine w_go 2714 l_344_1653 (by decide) ?_
    exact KK _ _ _ _ _ _ _ IV2 (by omega) (by omega) (by omega)
  · skip
    refine w_aln l_344_1641 rfl ?_
    refine w_ic l_344_1642 (by decide) ?_
    refine w_la 0 (I2 (s + 203) 0) l_344_1643 h203 rfl (by omega) rfl ?_
    refine w_il l_344_1644 rfl ?_
    refine w_i2l l_344_1646 ?_
    refine w_lcmp l_344_1647 ?_
    refine w_zeq 1653 l_344_1648 (by decide) (fun _ => ?_) (fun hx => absurd hx (by exact fun q => q (by rw [eb h1]; exact cmpL_rf)))
    refine w_go 2714 l_344_1653 (by decide) ?_
    exact KK _ _ _ _ _ _ _ IV2 (by omega) (by omega) (by omega)

theorem cs_26 (IV : INV S T I s c) (hb : 1 ≤ cc ∧ 6 ≤ zz) (hc : c + 1 < 100000) (hi : i + 5 < xs.length) (hxl : xs.length ≤ 100000) (KK : KKP xs S s i cc zz c Q) : WP xs 344 35 1656 [vs 3, vr s, vr (s + 163), vr (s + 203), vi ((i : Nat) : Int), v5, v6] [] (S, I, T, cc, zz) Q := by
  have hms := oModel_sh IV.1
  have h203 := IV.2.1
  have hds := IV.sh
  refine w_aln l_344_1656 rfl ?_
  refine w_asn l_344_1657 rfl ?_
  refine w_il l_344_1658 rfl ?_
  refine w_ic l_344_1660 (by decide) ?_
  refine w_add ((i + 1 : Nat) : Int) l_344_1661 (by unfold wr; omega) ?_
  refine w_xs (i + 1) (xs.getD (i + 1) 0) l_344_1662 rfl (by omega) rfl ?_
  refine w_aln l_344_1663 rfl ?_
  refine w_st [vr s, vi (xs.getD (i + 1) 0), vr (s + 203)] [] l_344_1664 (by decide) rfl rfl (Nat.le_of_ble_eq_true rfl) (by rw [mx_328]; exact Nat.le_of_ble_eq_true rfl) (by rw [rk_328]; decide) (CL_mono (pr_328 IV hb hc) fun r1 m1 hr1 => ?_)
  obtain ⟨k, I1, T1, c1, z1, rfl, rfl, hcc, hzz, hr2⟩ := hr1
  show WP xs 344 35 1667 [vs 3, vr s, vr (s + 163), vr (s + 203), vi ((i : Nat) : Int), v5, v6] [vi k] (S, I1, T1, c1, z1) Q
  refine w_is l_344_1667 ⟨Nat.le_of_ble_eq_true rfl, rfl⟩ ?_
  refine w_aln l_344_1669 rfl ?_
  refine w_asn l_344_1670 rfl ?_
  refine w_il l_344_1671 rfl ?_
  refine w_ic l_344_1673 (by decide) ?_
  refine w_add ((i + 1 : Nat) : Int) l_344_1674 (by unfold wr; omega) ?_
  refine w_xs (i + 1) (xs.getD (i + 1) 0) l_344_1675 rfl (by omega) rfl ?_
  refine w_iv [vi (xs.getD (i + 1) 0)] [] l_344_1676 rfl rfl rfl (Nat.le_of_ble_eq_true rfl) (by rw [mx_259]; exact Nat.le_of_ble_eq_true rfl) (by rw [mt_259]; exact hms) (by rw [mt_259]; decide) (by rw [rk_259]; decide) (CL_mono hr2 fun r2 m2 h2 => ?_)
  obtain ⟨b, I2, c2, rfl, rfl, IV2, hc2, e0, eb, hB⟩ := h2
  show WP xs 344 35 1679 [vs 3, vr s, vr (s + 163), vr (s + 203), vi ((i : Nat) : Int), vi k, v6] [vi b] (S, I2, T1, c1, z1) Q
  refine w_is l_344_1679 ⟨Nat.le_of_ble_eq_true rfl, rfl⟩ ?_
  refine w_aln l_344_1681 rfl ?_
  refine q_iv [] [] l_344_1682 rfl rfl (Nat.le_of_ble_eq_true rfl) (by rw [mx_168]; exact Nat.le_of_ble_eq_true rfl) (by rw [mt_168]; exact oModel_sh IV2.1) (by rw [mt_168]; decide) (by rw [rk_168]; decide) (s_168 IV2.1) ?_
  refine w_il l_344_1685 rfl ?_
  refine w_ceq 1692 l_344_1687 (by decide) (fun _ => ?_) (fun hx => absurd hx (by exact fun q => q e0))
  refine w_il l_344_1692 rfl ?_
  refine w_zne 1709 l_344_1694 (by decide) (fun h1 => ?_) (fun h1 => ?_)
  · skip
    refine w_go 2714 l_344_1709 (by decide) ?_
    exact KK _ _ _ _ _ _ _ IV2 (by omega) (by omega) (by omega)
  · skip
    refine w_aln l_344_1697 rfl ?_
    refine w_ic l_344_1698 (by decide) ?_
    refine w_la 0 (I2 (s + 203) 0) l_344_1699 h203 rfl (by omega) rfl ?_
    refine w_il l_344_1700 rfl ?_
    refine w_i2l l_344_1702 ?_
    refine w_lcmp l_344_1703 ?_
    refine w_zeq 1709 l_344_1704 (by decide) (fun _ => ?_) (fun hx => absurd hx (by exact fun q => q (by rw [eb h1]; exact cmpL_rf)))
    refine w_go 2714 l_344_1709 (by decide) ?_
    exact KK _ _ _ _ _ _ _ IV2 (by omega) (by omega) (by omega)

theorem cs_27 (IV : INV S T I s c) (hb : 1 ≤ cc ∧ 6 ≤ zz) (hc : c + 1 < 100000) (hi : i + 5 < xs.length) (hxl : xs.length ≤ 100000) (KK : KKP xs S s i cc zz c Q) : WP xs 344 35 1712 [vs 3, vr s, vr (s + 163), vr (s + 203), vi ((i : Nat) : Int), v5, v6] [] (S, I, T, cc, zz) Q := by
  have hms := oModel_sh IV.1
  have h203 := IV.2.1
  have hds := IV.sh
  refine w_aln l_344_1712 rfl ?_
  refine w_iv [] [] l_344_1713 rfl rfl rfl (Nat.le_of_ble_eq_true rfl) (by rw [mx_126]; exact Nat.le_of_ble_eq_true rfl) (by rw [mt_126]; exact hds) (by rw [mt_126]; decide) (by rw [rk_126]; decide) (CL_mono (py_126 IV hc) fun r1 m1 hr1 => ?_)
  obtain ⟨V, I1, rfl, rfl, hr2⟩ := hr1
  show WP xs 344 35 1716 [vs 3, vr s, vr (s + 163), vr (s + 203), vi ((i : Nat) : Int), v5, v6] [vi V] (S, I1, T, cc, zz) Q
  refine w_aln l_344_1716 rfl ?_
  refine w_iv [] [vi V] l_344_1717 rfl rfl rfl (Nat.le_of_ble_eq_true rfl) (by rw [mx_260]; exact Nat.le_of_ble_eq_true rfl) (by rw [mt_260]; exact hms) (by rw [mt_260]; decide) (by rw [rk_260]; decide) (CL_mono hr2 fun r2 m2 h2 => ?_)
  obtain ⟨I2, c2, rfl, rfl, IV2, hc2⟩ := h2
  show WP xs 344 35 1720 [vs 3, vr s, vr (s + 163), vr (s + 203), vi ((i : Nat) : Int), v5, v6] [vi V, vi V] (S, I2, T, cc, zz) Q
  refine w_ceq 2714 l_344_1720 (by decide) (fun _ => ?_) (fun hx => absurd hx (by exact fun q => q rfl))
  exact KK _ _ _ _ _ _ _ IV2 (by omega) (by omega) (by omega)
end LWA3
