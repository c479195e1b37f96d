theorem dL_law_1379_g : (decode cL_law 1379 = .ok (.iload 4, 2)) ∧ (decode cL_law 1381 = .ok (.iconst 1, 1)) ∧ (decode cL_law 1382 = .ok (.iadd, 1)) ∧ (decode cL_law 1383 = .ok (.iaload, 1)) ∧ (decode cL_law 1384 = .ok (.aload_n 0, 1)) ∧ (decode cL_law 1385 = .ok (.iload 4, 2)) ∧ (decode cL_law 1387 = .ok (.iconst 2, 1)) ∧ (decode cL_law 1388 = .ok (.iadd, 1)) := by decide +kernel
theorem dL_law_1379 : decode cL_law 1379 = .ok (.iload 4, 2) := dL_law_1379_g.1
theorem dL_law_1381 : decode cL_law 1381 = .ok (.iconst 1, 1) := dL_law_1379_g.2.1
theorem dL_law_1382 : decode cL_law 1382 = .ok (.iadd, 1) := dL_law_1379_g.2.2.1
theorem dL_law_1383 : decode cL_law 1383 = .ok (.iaload, 1) := dL_law_1379_g.2.2.2.1
theorem dL_law_1384 : decode cL_law 1384 = .ok (.aload_n 0, 1) := dL_law_1379_g.2.2.2.2.1
theorem dL_law_1385 : decode cL_law 1385 = .ok (.iload 4, 2) := dL_law_1379_g.2.2.2.2.2.1
theorem dL_law_1387 : decode cL_law 1387 = .ok (.iconst 2, 1) := dL_law_1379_g.2.2.2.2.2.2.1
theorem dL_law_1388 : decode cL_law 1388 = .ok (.iadd, 1) := dL_law_1379_g.2.2.2.2.2.2.2
theorem dL_law_1389_g : (decode cL_law 1389 = .ok (.iaload, 1)) ∧ (decode cL_law 1390 = .ok (.ifCond .eq 7, 3)) ∧ (decode cL_law 1393 = .ok (.iconst 1, 1)) ∧ (decode cL_law 1394 = .ok (.goto 4, 3)) ∧ (decode cL_law 1397 = .ok (.iconst 0, 1)) ∧ (decode cL_law 1398 = .ok (.invokevirtual 146, 3)) ∧ (decode cL_law 1401 = .ok (.pop, 1)) ∧ (decode cL_law 1402 = .ok (.aload_n 2, 1)) := by decide +kernel
theorem dL_law_1389 : decode cL_law 1389 = .ok (.iaload, 1) := dL_law_1389_g.1
theorem dL_law_1390 : decode cL_law 1390 = .ok (.ifCond .eq 7, 3) := dL_law_1389_g.2.1
theorem dL_law_1393 : decode cL_law 1393 = .ok (.iconst 1, 1) := dL_law_1389_g.2.2.1
theorem dL_law_1394 : decode cL_law 1394 = .ok (.goto 4, 3) := dL_law_1389_g.2.2.2.1
theorem dL_law_1397 : decode cL_law 1397 = .ok (.iconst 0, 1) := dL_law_1389_g.2.2.2.2.1
theorem dL_law_1398 : decode cL_law 1398 = .ok (.invokevirtual 146, 3) := dL_law_1389_g.2.2.2.2.2.1
theorem dL_law_1401 : decode cL_law 1401 = .ok (.pop, 1) := dL_law_1389_g.2.2.2.2.2.2.1
theorem dL_law_1402 : decode cL_law 1402 = .ok (.aload_n 2, 1) := dL_law_1389_g.2.2.2.2.2.2.2
theorem dL_law_1403_g : (decode cL_law 1403 = .ok (.aload_n 0, 1)) ∧ (decode cL_law 1404 = .ok (.iload 4, 2)) ∧ (decode cL_law 1406 = .ok (.iconst 1, 1)) ∧ (decode cL_law 1407 = .ok (.iadd, 1)) ∧ (decode cL_law 1408 = .ok (.iaload, 1)) ∧ (decode cL_law 1409 = .ok (.aload_n 0, 1)) ∧ (decode cL_law 1410 = .ok (.iload 4, 2)) ∧ (decode cL_law 1412 = .ok (.iconst 2, 1)) := by decide +kernel
theorem dL_law_1403 : decode cL_law 1403 = .ok (.aload_n 0, 1) := dL_law_1403_g.1
theorem dL_law_1404 : decode cL_law 1404 = .ok (.iload 4, 2) := dL_law_1403_g.2.1
theorem dL_law_1406 : decode cL_law 1406 = .ok (.iconst 1, 1) := dL_law_1403_g.2.2.1
theorem dL_law_1407 : decode cL_law 1407 = .ok (.iadd, 1) := dL_law_1403_g.2.2.2.1
theorem dL_law_1408 : decode cL_law 1408 = .ok (.iaload, 1) := dL_law_1403_g.2.2.2.2.1
theorem dL_law_1409 : decode cL_law 1409 = .ok (.aload_n 0, 1) := dL_law_1403_g.2.2.2.2.2.1
theorem dL_law_1410 : decode cL_law 1410 = .ok (.iload 4, 2) := dL_law_1403_g.2.2.2.2.2.2.1
theorem dL_law_1412 : decode cL_law 1412 = .ok (.iconst 2, 1) := dL_law_1403_g.2.2.2.2.2.2.2
theorem dL_law_1413_g : (decode cL_law 1413 = .ok (.iadd, 1)) ∧ (decode cL_law 1414 = .ok (.iaload, 1)) ∧ (decode cL_law 1415 = .ok (.ifCond .eq 7, 3)) ∧ (decode cL_law 1418 = .ok (.iconst 1, 1)) ∧ (decode cL_law 1419 = .ok (.goto 4, 3)) ∧ (decode cL_law 1422 = .ok (.iconst 0, 1)) ∧ (decode cL_law 1423 = .ok (.invokevirtual 149, 3)) ∧ (decode cL_law 1426 = .ok (.pop, 1)) := by decide +kernel
theorem dL_law_1413 : decode cL_law 1413 = .ok (.iadd, 1) := dL_law_1413_g.1
theorem dL_law_1414 : decode cL_law 1414 = .ok (.iaload, 1) := dL_law_1413_g.2.1
theorem dL_law_1415 : decode cL_law 1415 = .ok (.ifCond .eq 7, 3) := dL_law_1413_g.2.2.1
theorem dL_law_1418 : decode cL_law 1418 = .ok (.iconst 1, 1) := dL_law_1413_g.2.2.2.1
theorem dL_law_1419 : decode cL_law 1419 = .ok (.goto 4, 3) := dL_law_1413_g.2.2.2.2.1
theorem dL_law_1422 : decode cL_law 1422 = .ok (.iconst 0, 1) := dL_law_1413_g.2.2.2.2.2.1
theorem dL_law_1423 : decode cL_law 1423 = .ok (.invokevirtual 149, 3) := dL_law_1413_g.2.2.2.2.2.2.1
theorem dL_law_1426 : decode cL_law 1426 = .ok (.pop, 1) := dL_law_1413_g.2.2.2.2.2.2.2
theorem dL_law_1427_g : (decode cL_law 1427 = .ok (.goto 166, 3)) ∧ (decode cL_law 1430 = .ok (.aload_n 1, 1)) ∧ (decode cL_law 1431 = .ok (.aload_n 0, 1)) ∧ (decode cL_law 1432 = .ok (.iload 4, 2)) ∧ (decode cL_law 1434 = .ok (.iconst 1, 1)) ∧ (decode cL_law 1435 = .ok (.iadd, 1)) ∧ (decode cL_law 1436 = .ok (.iaload, 1)) ∧ (decode cL_law 1437 = .ok (.aload_n 0, 1)) := by decide +kernel
theorem dL_law_1427 : decode cL_law 1427 = .ok (.goto 166, 3) := dL_law_1427_g.1
theorem dL_law_1430 : decode cL_law 1430 = .ok (.aload_n 1, 1) := dL_law_1427_g.2.1
theorem dL_law_1431 : decode cL_law 1431 = .ok (.aload_n 0, 1) := dL_law_1427_g.2.2.1
theorem dL_law_1432 : decode cL_law 1432 = .ok (.iload 4, 2) := dL_law_1427_g.2.2.2.1
theorem dL_law_1434 : decode cL_law 1434 = .ok (.iconst 1, 1) := dL_law_1427_g.2.2.2.2.1
theorem dL_law_1435 : decode cL_law 1435 = .ok (.iadd, 1) := dL_law_1427_g.2.2.2.2.2.1
theorem dL_law_1436 : decode cL_law 1436 = .ok (.iaload, 1) := dL_law_1427_g.2.2.2.2.2.2.1
theorem dL_law_1437 : decode cL_law 1437 = .ok (.aload_n 0, 1) := dL_law_1427_g.2.2.2.2.2.2.2
theorem dL_law_1438_g : (decode cL_law 1438 = .ok (.iload 4, 2)) ∧ (decode cL_law 1440 = .ok (.iconst 2, 1)) ∧ (decode cL_law 1441 = .ok (.iadd, 1)) ∧ (decode cL_law 1442 = .ok (.iaload, 1)) ∧ (decode cL_law 1443 = .ok (.aload_n 0, 1)) ∧ (decode cL_law 1444 = .ok (.iload 4, 2)) ∧ (decode cL_law 1446 = .ok (.iconst 3, 1)) ∧ (decode cL_law 1447 = .ok (.iadd, 1)) := by decide +kernel
theorem dL_law_1438 : decode cL_law 1438 = .ok (.iload 4, 2) := dL_law_1438_g.1
theorem dL_law_1440 : decode cL_law 1440 = .ok (.iconst 2, 1) := dL_law_1438_g.2.1
theorem dL_law_1441 : decode cL_law 1441 = .ok (.iadd, 1) := dL_law_1438_g.2.2.1
theorem dL_law_1442 : decode cL_law 1442 = .ok (.iaload, 1) := dL_law_1438_g.2.2.2.1
theorem dL_law_1443 : decode cL_law 1443 = .ok (.aload_n 0, 1) := dL_law_1438_g.2.2.2.2.1
theorem dL_law_1444 : decode cL_law 1444 = .ok (.iload 4, 2) := dL_law_1438_g.2.2.2.2.2.1
theorem dL_law_1446 : decode cL_law 1446 = .ok (.iconst 3, 1) := dL_law_1438_g.2.2.2.2.2.2.1
theorem dL_law_1447 : decode cL_law 1447 = .ok (.iadd, 1) := dL_law_1438_g.2.2.2.2.2.2.2
theorem dL_law_1448_g : (decode cL_law 1448 = .ok (.iaload, 1)) ∧ (decode cL_law 1449 = .ok (.invokevirtual 150, 3)) ∧ (decode cL_law 1452 = .ok (.pop, 1)) ∧ (decode cL_law 1453 = .ok (.aload_n 2, 1)) ∧ (decode cL_law 1454 = .ok (.aload_n 0, 1)) ∧ (decode cL_law 1455 = .ok (.iload 4, 2)) ∧ (decode cL_law 1457 = .ok (.iconst 1, 1)) ∧ (decode cL_law 1458 = .ok (.iadd, 1)) := by decide +kernel
theorem dL_law_1448 : decode cL_law 1448 = .ok (.iaload, 1) := dL_law_1448_g.1
theorem dL_law_1449 : decode cL_law 1449 = .ok (.invokevirtual 150, 3) := dL_law_1448_g.2.1
theorem dL_law_1452 : decode cL_law 1452 = .ok (.pop, 1) := dL_law_1448_g.2.2.1
theorem dL_law_1453 : decode cL_law 1453 = .ok (.aload_n 2, 1) := dL_law_1448_g.2.2.2.1
theorem dL_law_1454 : decode cL_law 1454 = .ok (.aload_n 0, 1) := dL_law_1448_g.2.2.2.2.1
theorem dL_law_1455 : decode cL_law 1455 = .ok (.iload 4, 2) := dL_law_1448_g.2.2.2.2.2.1
theorem dL_law_1457 : decode cL_law 1457 = .ok (.iconst 1, 1) := dL_law_1448_g.2.2.2.2.2.2.1
theorem dL_law_1458 : decode cL_law 1458 = .ok (.iadd, 1) := dL_law_1448_g.2.2.2.2.2.2.2
theorem dL_law_1459_g : (decode cL_law 1459 = .ok (.iaload, 1)) ∧ (decode cL_law 1460 = .ok (.aload_n 0, 1)) ∧ (decode cL_law 1461 = .ok (.iload 4, 2)) ∧ (decode cL_law 1463 = .ok (.iconst 2, 1)) ∧ (decode cL_law 1464 = .ok (.iadd, 1)) ∧ (decode cL_law 1465 = .ok (.iaload, 1)) ∧ (decode cL_law 1466 = .ok (.aload_n 0, 1)) ∧ (decode cL_law 1467 = .ok (.iload 4, 2)) := by decide +kernel
theorem dL_law_1459 : decode cL_law 1459 = .ok (.iaload, 1) := dL_law_1459_g.1
theorem dL_law_1460 : decode cL_law 1460 = .ok (.aload_n 0, 1) := dL_law_1459_g.2.1
theorem dL_law_1461 : decode cL_law 1461 = .ok (.iload 4, 2) := dL_law_1459_g.2.2.1
theorem dL_law_1463 : decode cL_law 1463 = .ok (.iconst 2, 1) := dL_law_1459_g.2.2.2.1
theorem dL_law_1464 : decode cL_law 1464 = .ok (.iadd, 1) := dL_law_1459_g.2.2.2.2.1
theorem dL_law_1465 : decode cL_law 1465 = .ok (.iaload, 1) := dL_law_1459_g.2.2.2.2.2.1
theorem dL_law_1466 : decode cL_law 1466 = .ok (.aload_n 0, 1) := dL_law_1459_g.2.2.2.2.2.2.1
theorem dL_law_1467 : decode cL_law 1467 = .ok (.iload 4, 2) := dL_law_1459_g.2.2.2.2.2.2.2
theorem dL_law_1469_g : (decode cL_law 1469 = .ok (.iconst 3, 1)) ∧ (decode cL_law 1470 = .ok (.iadd, 1)) ∧ (decode cL_law 1471 = .ok (.iaload, 1)) ∧ (decode cL_law 1472 = .ok (.invokevirtual 153, 3)) ∧ (decode cL_law 1475 = .ok (.pop, 1)) ∧ (decode cL_law 1476 = .ok (.goto 117, 3)) ∧ (decode cL_law 1479 = .ok (.aload_n 1, 1)) ∧ (decode cL_law 1480 = .ok (.aload_n 0, 1)) := by decide +kernel
theorem dL_law_1469 : decode cL_law 1469 = .ok (.iconst 3, 1) := dL_law_1469_g.1
theorem dL_law_1470 : decode cL_law 1470 = .ok (.iadd, 1) := dL_law_1469_g.2.1
theorem dL_law_1471 : decode cL_law 1471 = .ok (.iaload, 1) := dL_law_1469_g.2.2.1
theorem dL_law_1472 : decode cL_law 1472 = .ok (.invokevirtual 153, 3) := dL_law_1469_g.2.2.2.1
theorem dL_law_1475 : decode cL_law 1475 = .ok (.pop, 1) := dL_law_1469_g.2.2.2.2.1
theorem dL_law_1476 : decode cL_law 1476 = .ok (.goto 117, 3) := dL_law_1469_g.2.2.2.2.2.1
theorem dL_law_1479 : decode cL_law 1479 = .ok (.aload_n 1, 1) := dL_law_1469_g.2.2.2.2.2.2.1
theorem dL_law_1480 : decode cL_law 1480 = .ok (.aload_n 0, 1) := dL_law_1469_g.2.2.2.2.2.2.2
theorem dL_law_1481_g : (decode cL_law 1481 = .ok (.iload 4, 2)) ∧ (decode cL_law 1483 = .ok (.iconst 1, 1)) ∧ (decode cL_law 1484 = .ok (.iadd, 1)) ∧ (decode cL_law 1485 = .ok (.iaload, 1)) ∧ (decode cL_law 1486 = .ok (.aload_n 0, 1)) ∧ (decode cL_law 1487 = .ok (.iload 4, 2)) ∧ (decode cL_law 1489 = .ok (.iconst 2, 1)) ∧ (decode cL_law 1490 = .ok (.iadd, 1)) := by decide +kernel
theorem dL_law_1481 : decode cL_law 1481 = .ok (.iload 4, 2) := dL_law_1481_g.1
theorem dL_law_1483 : decode cL_law 1483 = .ok (.iconst 1, 1) := dL_law_1481_g.2.1
theorem dL_law_1484 : decode cL_law 1484 = .ok (.iadd, 1) := dL_law_1481_g.2.2.1
theorem dL_law_1485 : decode cL_law 1485 = .ok (.iaload, 1) := dL_law_1481_g.2.2.2.1
theorem dL_law_1486 : decode cL_law 1486 = .ok (.aload_n 0, 1) := dL_law_1481_g.2.2.2.2.1
theorem dL_law_1487 : decode cL_law 1487 = .ok (.iload 4, 2) := dL_law_1481_g.2.2.2.2.2.1
theorem dL_law_1489 : decode cL_law 1489 = .ok (.iconst 2, 1) := dL_law_1481_g.2.2.2.2.2.2.1
theorem dL_law_1490 : decode cL_law 1490 = .ok (.iadd, 1) := dL_law_1481_g.2.2.2.2.2.2.2
theorem dL_law_1491_g : (decode cL_law 1491 = .ok (.iaload, 1)) ∧ (decode cL_law 1492 = .ok (.aload_n 0, 1)) ∧ (decode cL_law 1493 = .ok (.iload 4, 2)) ∧ (decode cL_law 1495 = .ok (.iconst 3, 1)) ∧ (decode cL_law 1496 = .ok (.iadd, 1)) ∧ (decode cL_law 1497 = .ok (.iaload, 1)) ∧ (decode cL_law 1498 = .ok (.invokevirtual 154, 3)) ∧ (decode cL_law 1501 = .ok (.pop, 1)) := by decide +kernel
theorem dL_law_1491 : decode cL_law 1491 = .ok (.iaload, 1) := dL_law_1491_g.1
theorem dL_law_1492 : decode cL_law 1492 = .ok (.aload_n 0, 1) := dL_law_1491_g.2.1
theorem dL_law_1493 : decode cL_law 1493 = .ok (.iload 4, 2) := dL_law_1491_g.2.2.1
theorem dL_law_1495 : decode cL_law 1495 = .ok (.iconst 3, 1) := dL_law_1491_g.2.2.2.1
theorem dL_law_1496 : decode cL_law 1496 = .ok (.iadd, 1) := dL_law_1491_g.2.2.2.2.1
theorem dL_law_1497 : decode cL_law 1497 = .ok (.iaload, 1) := dL_law_1491_g.2.2.2.2.2.1
theorem dL_law_1498 : decode cL_law 1498 = .ok (.invokevirtual 154, 3) := dL_law_1491_g.2.2.2.2.2.2.1
theorem dL_law_1501 : decode cL_law 1501 = .ok (.pop, 1) := dL_law_1491_g.2.2.2.2.2.2.2
theorem dL_law_1502_g : (decode cL_law 1502 = .ok (.aload_n 2, 1)) ∧ (decode cL_law 1503 = .ok (.aload_n 0, 1)) ∧ (decode cL_law 1504 = .ok (.iload 4, 2)) ∧ (decode cL_law 1506 = .ok (.iconst 1, 1)) ∧ (decode cL_law 1507 = .ok (.iadd, 1)) ∧ (decode cL_law 1508 = .ok (.iaload, 1)) ∧ (decode cL_law 1509 = .ok (.aload_n 0, 1)) ∧ (decode cL_law 1510 = .ok (.iload 4, 2)) := by decide +kernel
theorem dL_law_1502 : decode cL_law 1502 = .ok (.aload_n 2, 1) := dL_law_1502_g.1
theorem dL_law_1503 : decode cL_law 1503 = .ok (.aload_n 0, 1) := dL_law_1502_g.2.1
theorem dL_law_1504 : decode cL_law 1504 = .ok (.iload 4, 2) := dL_law_1502_g.2.2.1
theorem dL_law_1506 : decode cL_law 1506 = .ok (.iconst 1, 1) := dL_law_1502_g.2.2.2.1
theorem dL_law_1507 : decode cL_law 1507 = .ok (.iadd, 1) := dL_law_1502_g.2.2.2.2.1
theorem dL_law_1508 : decode cL_law 1508 = .ok (.iaload, 1) := dL_law_1502_g.2.2.2.2.2.1
theorem dL_law_1509 : decode cL_law 1509 = .ok (.aload_n 0, 1) := dL_law_1502_g.2.2.2.2.2.2.1
theorem dL_law_1510 : decode cL_law 1510 = .ok (.iload 4, 2) := dL_law_1502_g.2.2.2.2.2.2.2
theorem dL_law_1512_g : (decode cL_law 1512 = .ok (.iconst 2, 1)) ∧ (decode cL_law 1513 = .ok (.iadd, 1)) ∧ (decode cL_law 1514 = .ok (.iaload, 1)) ∧ (decode cL_law 1515 = .ok (.aload_n 0, 1)) ∧ (decode cL_law 1516 = .ok (.iload 4, 2)) ∧ (decode cL_law 1518 = .ok (.iconst 3, 1)) ∧ (decode cL_law 1519 = .ok (.iadd, 1)) ∧ (decode cL_law 1520 = .ok (.iaload, 1)) := by decide +kernel
theorem dL_law_1512 : decode cL_law 1512 = .ok (.iconst 2, 1) := dL_law_1512_g.1
theorem dL_law_1513 : decode cL_law 1513 = .ok (.iadd, 1) := dL_law_1512_g.2.1
theorem dL_law_1514 : decode cL_law 1514 = .ok (.iaload, 1) := dL_law_1512_g.2.2.1
theorem dL_law_1515 : decode cL_law 1515 = .ok (.aload_n 0, 1) := dL_law_1512_g.2.2.2.1
theorem dL_law_1516 : decode cL_law 1516 = .ok (.iload 4, 2) := dL_law_1512_g.2.2.2.2.1
theorem dL_law_1518 : decode cL_law 1518 = .ok (.iconst 3, 1) := dL_law_1512_g.2.2.2.2.2.1
theorem dL_law_1519 : decode cL_law 1519 = .ok (.iadd, 1) := dL_law_1512_g.2.2.2.2.2.2.1
theorem dL_law_1520 : decode cL_law 1520 = .ok (.iaload, 1) := dL_law_1512_g.2.2.2.2.2.2.2
theorem dL_law_1521_g : (decode cL_law 1521 = .ok (.invokevirtual 157, 3)) ∧ (decode cL_law 1524 = .ok (.pop, 1)) ∧ (decode cL_law 1525 = .ok (.goto 68, 3)) ∧ (decode cL_law 1528 = .ok (.aload_n 1, 1)) ∧ (decode cL_law 1529 = .ok (.aload_n 0, 1)) ∧ (decode cL_law 1530 = .ok (.iload 4, 2)) ∧ (decode cL_law 1532 = .ok (.iconst 1, 1)) ∧ (decode cL_law 1533 = .ok (.iadd, 1)) := by decide +kernel
theorem dL_law_1521 : decode cL_law 1521 = .ok (.invokevirtual 157, 3) := dL_law_1521_g.1
theorem dL_law_1524 : decode cL_law 1524 = .ok (.pop, 1) := dL_law_1521_g.2.1
theorem dL_law_1525 : decode cL_law 1525 = .ok (.goto 68, 3) := dL_law_1521_g.2.2.1
theorem dL_law_1528 : decode cL_law 1528 = .ok (.aload_n 1, 1) := dL_law_1521_g.2.2.2.1
theorem dL_law_1529 : decode cL_law 1529 = .ok (.aload_n 0, 1) := dL_law_1521_g.2.2.2.2.1
theorem dL_law_1530 : decode cL_law 1530 = .ok (.iload 4, 2) := dL_law_1521_g.2.2.2.2.2.1
theorem dL_law_1532 : decode cL_law 1532 = .ok (.iconst 1, 1) := dL_law_1521_g.2.2.2.2.2.2.1
theorem dL_law_1533 : decode cL_law 1533 = .ok (.iadd, 1) := dL_law_1521_g.2.2.2.2.2.2.2
theorem dL_law_1534_g : (decode cL_law 1534 = .ok (.iaload, 1)) ∧ (decode cL_law 1535 = .ok (.aload_n 0, 1)) ∧ (decode cL_law 1536 = .ok (.iload 4, 2)) ∧ (decode cL_law 1538 = .ok (.iconst 2, 1)) ∧ (decode cL_law 1539 = .ok (.iadd, 1)) ∧ (decode cL_law 1540 = .ok (.iaload, 1)) ∧ (decode cL_law 1541 = .ok (.aload_n 0, 1)) ∧ (decode cL_law 1542 = .ok (.iload 4, 2)) := by decide +kernel
theorem dL_law_1534 : decode cL_law 1534 = .ok (.iaload, 1) := dL_law_1534_g.1
theorem dL_law_1535 : decode cL_law 1535 = .ok (.aload_n 0, 1) := dL_law_1534_g.2.1
theorem dL_law_1536 : decode cL_law 1536 = .ok (.iload 4, 2) := dL_law_1534_g.2.2.1
theorem dL_law_1538 : decode cL_law 1538 = .ok (.iconst 2, 1) := dL_law_1534_g.2.2.2.1
theorem dL_law_1539 : decode cL_law 1539 = .ok (.iadd, 1) := dL_law_1534_g.2.2.2.2.1
theorem dL_law_1540 : decode cL_law 1540 = .ok (.iaload, 1) := dL_law_1534_g.2.2.2.2.2.1
theorem dL_law_1541 : decode cL_law 1541 = .ok (.aload_n 0, 1) := dL_law_1534_g.2.2.2.2.2.2.1
theorem dL_law_1542 : decode cL_law 1542 = .ok (.iload 4, 2) := dL_law_1534_g.2.2.2.2.2.2.2
theorem dL_law_1544_g : (decode cL_law 1544 = .ok (.iconst 3, 1)) ∧ (decode cL_law 1545 = .ok (.iadd, 1)) ∧ (decode cL_law 1546 = .ok (.iaload, 1)) ∧ (decode cL_law 1547 = .ok (.ifCond .eq 7, 3)) ∧ (decode cL_law 1550 = .ok (.iconst 1, 1)) ∧ (decode cL_law 1551 = .ok (.goto 4, 3)) ∧ (decode cL_law 1554 = .ok (.iconst 0, 1)) ∧ (decode cL_law 1555 = .ok (.invokevirtual 158, 3)) := by decide +kernel
theorem dL_law_1544 : decode cL_law 1544 = .ok (.iconst 3, 1) := dL_law_1544_g.1
theorem dL_law_1545 : decode cL_law 1545 = .ok (.iadd, 1) := dL_law_1544_g.2.1
theorem dL_law_1546 : decode cL_law 1546 = .ok (.iaload, 1) := dL_law_1544_g.2.2.1
theorem dL_law_1547 : decode cL_law 1547 = .ok (.ifCond .eq 7, 3) := dL_law_1544_g.2.2.2.1
theorem dL_law_1550 : decode cL_law 1550 = .ok (.iconst 1, 1) := dL_law_1544_g.2.2.2.2.1
theorem dL_law_1551 : decode cL_law 1551 = .ok (.goto 4, 3) := dL_law_1544_g.2.2.2.2.2.1
theorem dL_law_1554 : decode cL_law 1554 = .ok (.iconst 0, 1) := dL_law_1544_g.2.2.2.2.2.2.1
theorem dL_law_1555 : decode cL_law 1555 = .ok (.invokevirtual 158, 3) := dL_law_1544_g.2.2.2.2.2.2.2
theorem dL_law_1558_g : (decode cL_law 1558 = .ok (.pop, 1)) ∧ (decode cL_law 1559 = .ok (.aload_n 2, 1)) ∧ (decode cL_law 1560 = .ok (.aload_n 0, 1)) ∧ (decode cL_law 1561 = .ok (.iload 4, 2)) ∧ (decode cL_law 1563 = .ok (.iconst 1, 1)) ∧ (decode cL_law 1564 = .ok (.iadd, 1)) ∧ (decode cL_law 1565 = .ok (.iaload, 1)) ∧ (decode cL_law 1566 = .ok (.aload_n 0, 1)) := by decide +kernel
theorem dL_law_1558 : decode cL_law 1558 = .ok (.pop, 1) := dL_law_1558_g.1
theorem dL_law_1559 : decode cL_law 1559 = .ok (.aload_n 2, 1) := dL_law_1558_g.2.1
theorem dL_law_1560 : decode cL_law 1560 = .ok (.aload_n 0, 1) := dL_law_1558_g.2.2.1
theorem dL_law_1561 : decode cL_law 1561 = .ok (.iload 4, 2) := dL_law_1558_g.2.2.2.1
theorem dL_law_1563 : decode cL_law 1563 = .ok (.iconst 1, 1) := dL_law_1558_g.2.2.2.2.1
theorem dL_law_1564 : decode cL_law 1564 = .ok (.iadd, 1) := dL_law_1558_g.2.2.2.2.2.1
theorem dL_law_1565 : decode cL_law 1565 = .ok (.iaload, 1) := dL_law_1558_g.2.2.2.2.2.2.1
theorem dL_law_1566 : decode cL_law 1566 = .ok (.aload_n 0, 1) := dL_law_1558_g.2.2.2.2.2.2.2
theorem dL_law_1567_g : (decode cL_law 1567 = .ok (.iload 4, 2)) ∧ (decode cL_law 1569 = .ok (.iconst 2, 1)) ∧ (decode cL_law 1570 = .ok (.iadd, 1)) ∧ (decode cL_law 1571 = .ok (.iaload, 1)) ∧ (decode cL_law 1572 = .ok (.aload_n 0, 1)) ∧ (decode cL_law 1573 = .ok (.iload 4, 2)) ∧ (decode cL_law 1575 = .ok (.iconst 3, 1)) ∧ (decode cL_law 1576 = .ok (.iadd, 1)) := by decide +kernel
theorem dL_law_1567 : decode cL_law 1567 = .ok (.iload 4, 2) := dL_law_1567_g.1
theorem dL_law_1569 : decode cL_law 1569 = .ok (.iconst 2, 1) := dL_law_1567_g.2.1
theorem dL_law_1570 : decode cL_law 1570 = .ok (.iadd, 1) := dL_law_1567_g.2.2.1
theorem dL_law_1571 : decode cL_law 1571 = .ok (.iaload, 1) := dL_law_1567_g.2.2.2.1
theorem dL_law_1572 : decode cL_law 1572 = .ok (.aload_n 0, 1) := dL_law_1567_g.2.2.2.2.1
theorem dL_law_1573 : decode cL_law 1573 = .ok (.iload 4, 2) := dL_law_1567_g.2.2.2.2.2.1
theorem dL_law_1575 : decode cL_law 1575 = .ok (.iconst 3, 1) := dL_law_1567_g.2.2.2.2.2.2.1
theorem dL_law_1576 : decode cL_law 1576 = .ok (.iadd, 1) := dL_law_1567_g.2.2.2.2.2.2.2
theorem dL_law_1577_g : (decode cL_law 1577 = .ok (.iaload, 1)) ∧ (decode cL_law 1578 = .ok (.ifCond .eq 7, 3)) ∧ (decode cL_law 1581 = .ok (.iconst 1, 1)) ∧ (decode cL_law 1582 = .ok (.goto 4, 3)) ∧ (decode cL_law 1585 = .ok (.iconst 0, 1)) ∧ (decode cL_law 1586 = .ok (.invokevirtual 162, 3)) := by decide +kernel
theorem dL_law_1577 : decode cL_law 1577 = .ok (.iaload, 1) := dL_law_1577_g.1
theorem dL_law_1578 : decode cL_law 1578 = .ok (.ifCond .eq 7, 3) := dL_law_1577_g.2.1
theorem dL_law_1581 : decode cL_law 1581 = .ok (.iconst 1, 1) := dL_law_1577_g.2.2.1
theorem dL_law_1582 : decode cL_law 1582 = .ok (.goto 4, 3) := dL_law_1577_g.2.2.2.1
theorem dL_law_1585 : decode cL_law 1585 = .ok (.iconst 0, 1) := dL_law_1577_g.2.2.2.2.1
theorem dL_law_1586 : decode cL_law 1586 = .ok (.invokevirtual 162, 3) := dL_law_1577_g.2.2.2.2.2

