theorem dL_law_1361 : decode cL_law 1361 = .ok (.iconst 2, 1) := by decide +kernel
theorem dL_law_1362 : decode cL_law 1362 = .ok (.if_icmp .ne 22, 3) := by decide +kernel
theorem dL_law_1365 : decode cL_law 1365 = .ok (.iload 28, 2) := by decide +kernel
theorem dL_law_1367 : decode cL_law 1367 = .ok (.ifCond .gt 15, 3) := by decide +kernel
theorem dL_law_1370 : decode cL_law 1370 = .ok (.aload 5, 2) := by decide +kernel
theorem dL_law_1372 : decode cL_law 1372 = .ok (.iload 23, 2) := by decide +kernel
theorem dL_law_1374 : decode cL_law 1374 = .ok (.aaload, 1) := by decide +kernel
theorem dL_law_1375 : decode cL_law 1375 = .ok (.iconst 3, 1) := by decide +kernel
theorem dL_law_1376 : decode cL_law 1376 = .ok (.iaload, 1) := by decide +kernel
theorem dL_law_1377 : decode cL_law 1377 = .ok (.bipush 9, 2) := by decide +kernel
theorem dL_law_1379 : decode cL_law 1379 = .ok (.if_icmp .eq 5, 3) := by decide +kernel
theorem dL_law_1382 : decode cL_law 1382 = .ok (.iconst 0, 1) := by decide +kernel
theorem dL_law_1383 : decode cL_law 1383 = .ok (.ireturn, 1) := by decide +kernel
theorem dL_law_1384 : decode cL_law 1384 = .ok (.iconst 1, 1) := by decide +kernel
theorem dL_law_1385 : decode cL_law 1385 = .ok (.istore 29, 2) := by decide +kernel
theorem dL_law_1387 : decode cL_law 1387 = .ok (.iconst 0, 1) := by decide +kernel
theorem dL_law_1388 : decode cL_law 1388 = .ok (.istore 30, 2) := by decide +kernel
theorem dL_law_1390 : decode cL_law 1390 = .ok (.iload 30, 2) := by decide +kernel
theorem dL_law_1392 : decode cL_law 1392 = .ok (.iload 23, 2) := by decide +kernel
theorem dL_law_1394 : decode cL_law 1394 = .ok (.if_icmp .ge 38, 3) := by decide +kernel
theorem dL_law_1397 : decode cL_law 1397 = .ok (.iload 29, 2) := by decide +kernel
theorem dL_law_1399 : decode cL_law 1399 = .ok (.aload 5, 2) := by decide +kernel
theorem dL_law_1401 : decode cL_law 1401 = .ok (.iload 30, 2) := by decide +kernel
theorem dL_law_1403 : decode cL_law 1403 = .ok (.aaload, 1) := by decide +kernel
theorem dL_law_1404 : decode cL_law 1404 = .ok (.bipush 9, 2) := by decide +kernel
theorem dL_law_1406 : decode cL_law 1406 = .ok (.iaload, 1) := by decide +kernel
theorem dL_law_1407 : decode cL_law 1407 = .ok (.ifCond .gt 11, 3) := by decide +kernel
theorem dL_law_1410 : decode cL_law 1410 = .ok (.aload 6, 2) := by decide +kernel
theorem dL_law_1412 : decode cL_law 1412 = .ok (.iload 30, 2) := by decide +kernel
theorem dL_law_1414 : decode cL_law 1414 = .ok (.iaload, 1) := by decide +kernel
theorem dL_law_1415 : decode cL_law 1415 = .ok (.ifCond .ge 7, 3) := by decide +kernel
theorem dL_law_1418 : decode cL_law 1418 = .ok (.iconst 1, 1) := by decide +kernel
theorem dL_law_1419 : decode cL_law 1419 = .ok (.goto 4, 3) := by decide +kernel
theorem dL_law_1422 : decode cL_law 1422 = .ok (.iconst 0, 1) := by decide +kernel
theorem dL_law_1423 : decode cL_law 1423 = .ok (.iand, 1) := by decide +kernel
theorem dL_law_1424 : decode cL_law 1424 = .ok (.istore 29, 2) := by decide +kernel
theorem dL_law_1426 : decode cL_law 1426 = .ok (.iinc 30 1, 3) := by decide +kernel
theorem dL_law_1429 : decode cL_law 1429 = .ok (.goto (-39), 3) := by decide +kernel
theorem dL_law_1432 : decode cL_law 1432 = .ok (.iload 29, 2) := by decide +kernel
theorem dL_law_1434 : decode cL_law 1434 = .ok (.ifCond .eq 30, 3) := by decide +kernel
theorem dL_law_1437 : decode cL_law 1437 = .ok (.iload 28, 2) := by decide +kernel
theorem dL_law_1439 : decode cL_law 1439 = .ok (.iconst 1, 1) := by decide +kernel
theorem dL_law_1440 : decode cL_law 1440 = .ok (.if_icmp .ne 7, 3) := by decide +kernel
theorem dL_law_1443 : decode cL_law 1443 = .ok (.iconst 1, 1) := by decide +kernel
theorem dL_law_1444 : decode cL_law 1444 = .ok (.goto 4, 3) := by decide +kernel
theorem dL_law_1447 : decode cL_law 1447 = .ok (.iconst 0, 1) := by decide +kernel
theorem dL_law_1448 : decode cL_law 1448 = .ok (.aload 6, 2) := by decide +kernel
theorem dL_law_1450 : decode cL_law 1450 = .ok (.iload 23, 2) := by decide +kernel
theorem dL_law_1452 : decode cL_law 1452 = .ok (.iaload, 1) := by decide +kernel
theorem dL_law_1453 : decode cL_law 1453 = .ok (.ifCond .lt 7, 3) := by decide +kernel
theorem dL_law_1456 : decode cL_law 1456 = .ok (.iconst 1, 1) := by decide +kernel
theorem dL_law_1457 : decode cL_law 1457 = .ok (.goto 4, 3) := by decide +kernel
theorem dL_law_1460 : decode cL_law 1460 = .ok (.iconst 0, 1) := by decide +kernel
theorem dL_law_1461 : decode cL_law 1461 = .ok (.if_icmp .ne 30, 3) := by decide +kernel
theorem dL_law_1464 : decode cL_law 1464 = .ok (.iload 29, 2) := by decide +kernel
theorem dL_law_1466 : decode cL_law 1466 = .ok (.ifCond .eq 27, 3) := by decide +kernel
theorem dL_law_1469 : decode cL_law 1469 = .ok (.iload 28, 2) := by decide +kernel
theorem dL_law_1471 : decode cL_law 1471 = .ok (.iconst 1, 1) := by decide +kernel
theorem dL_law_1472 : decode cL_law 1472 = .ok (.if_icmp .ne 21, 3) := by decide +kernel
theorem dL_law_1475 : decode cL_law 1475 = .ok (.aload_n 1, 1) := by decide +kernel
theorem dL_law_1476 : decode cL_law 1476 = .ok (.aload 6, 2) := by decide +kernel
theorem dL_law_1478 : decode cL_law 1478 = .ok (.iload 23, 2) := by decide +kernel
theorem dL_law_1480 : decode cL_law 1480 = .ok (.iaload, 1) := by decide +kernel
theorem dL_law_1481 : decode cL_law 1481 = .ok (.bipush 11, 2) := by decide +kernel
theorem dL_law_1483 : decode cL_law 1483 = .ok (.invokevirtual 30, 3) := by decide +kernel
theorem dL_law_1486 : decode cL_law 1486 = .ok (.iload 23, 2) := by decide +kernel
theorem dL_law_1488 : decode cL_law 1488 = .ok (.if_icmp .eq 5, 3) := by decide +kernel
theorem dL_law_1491 : decode cL_law 1491 = .ok (.iconst 0, 1) := by decide +kernel
theorem dL_law_1492 : decode cL_law 1492 = .ok (.ireturn, 1) := by decide +kernel
theorem dL_law_1493 : decode cL_law 1493 = .ok (.iinc 23 1, 3) := by decide +kernel
theorem dL_law_1496 : decode cL_law 1496 = .ok (.goto (-740), 3) := by decide +kernel
theorem dL_law_1499 : decode cL_law 1499 = .ok (.iconst 0, 1) := by decide +kernel
theorem dL_law_1500 : decode cL_law 1500 = .ok (.istore 23, 2) := by decide +kernel
theorem dL_law_1502 : decode cL_law 1502 = .ok (.iload 23, 2) := by decide +kernel
theorem dL_law_1504 : decode cL_law 1504 = .ok (.iload 17, 2) := by decide +kernel
theorem dL_law_1506 : decode cL_law 1506 = .ok (.if_icmp .ge 43, 3) := by decide +kernel
theorem dL_law_1509 : decode cL_law 1509 = .ok (.aload_n 1, 1) := by decide +kernel
theorem dL_law_1510 : decode cL_law 1510 = .ok (.iload 23, 2) := by decide +kernel
theorem dL_law_1512 : decode cL_law 1512 = .ok (.bipush 6, 2) := by decide +kernel
theorem dL_law_1514 : decode cL_law 1514 = .ok (.invokevirtual 30, 3) := by decide +kernel
theorem dL_law_1517 : decode cL_law 1517 = .ok (.aload 19, 2) := by decide +kernel
theorem dL_law_1519 : decode cL_law 1519 = .ok (.iload 23, 2) := by decide +kernel
theorem dL_law_1521 : decode cL_law 1521 = .ok (.iaload, 1) := by decide +kernel
theorem dL_law_1522 : decode cL_law 1522 = .ok (.if_icmp .ne 19, 3) := by decide +kernel
theorem dL_law_1525 : decode cL_law 1525 = .ok (.aload_n 1, 1) := by decide +kernel
theorem dL_law_1526 : decode cL_law 1526 = .ok (.iload 23, 2) := by decide +kernel
theorem dL_law_1528 : decode cL_law 1528 = .ok (.bipush 10, 2) := by decide +kernel
theorem dL_law_1530 : decode cL_law 1530 = .ok (.invokevirtual 30, 3) := by decide +kernel
theorem dL_law_1533 : decode cL_law 1533 = .ok (.aload 20, 2) := by decide +kernel
theorem dL_law_1535 : decode cL_law 1535 = .ok (.iload 23, 2) := by decide +kernel
