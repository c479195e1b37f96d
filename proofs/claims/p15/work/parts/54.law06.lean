theorem dL_law_1379_g : (decode cL_law 1379 = .ok (.aload_n 0, 1)) ∧ (decode cL_law 1380 = .ok (.iload 4, 2)) ∧ (decode cL_law 1382 = .ok (.iconst 1, 1)) ∧ (decode cL_law 1383 = .ok (.iadd, 1)) ∧ (decode cL_law 1384 = .ok (.iaload, 1)) ∧ (decode cL_law 1385 = .ok (.aload_n 0, 1)) ∧ (decode cL_law 1386 = .ok (.iload 4, 2)) ∧ (decode cL_law 1388 = .ok (.iconst 2, 1)) := by decide +kernel
theorem dL_law_1379 : decode cL_law 1379 = .ok (.aload_n 0, 1) := dL_law_1379_g.1
theorem dL_law_1380 : decode cL_law 1380 = .ok (.iload 4, 2) := dL_law_1379_g.2.1
theorem dL_law_1382 : decode cL_law 1382 = .ok (.iconst 1, 1) := dL_law_1379_g.2.2.1
theorem dL_law_1383 : decode cL_law 1383 = .ok (.iadd, 1) := dL_law_1379_g.2.2.2.1
theorem dL_law_1384 : decode cL_law 1384 = .ok (.iaload, 1) := dL_law_1379_g.2.2.2.2.1
theorem dL_law_1385 : decode cL_law 1385 = .ok (.aload_n 0, 1) := dL_law_1379_g.2.2.2.2.2.1
theorem dL_law_1386 : decode cL_law 1386 = .ok (.iload 4, 2) := dL_law_1379_g.2.2.2.2.2.2.1
theorem dL_law_1388 : decode cL_law 1388 = .ok (.iconst 2, 1) := dL_law_1379_g.2.2.2.2.2.2.2
theorem dL_law_1389_g : (decode cL_law 1389 = .ok (.iadd, 1)) ∧ (decode cL_law 1390 = .ok (.iaload, 1)) ∧ (decode cL_law 1391 = .ok (.ifCond .eq 7, 3)) ∧ (decode cL_law 1394 = .ok (.iconst 1, 1)) ∧ (decode cL_law 1395 = .ok (.goto 4, 3)) ∧ (decode cL_law 1398 = .ok (.iconst 0, 1)) ∧ (decode cL_law 1399 = .ok (.invokevirtual 146, 3)) ∧ (decode cL_law 1402 = .ok (.pop, 1)) := by decide +kernel
theorem dL_law_1389 : decode cL_law 1389 = .ok (.iadd, 1) := dL_law_1389_g.1
theorem dL_law_1390 : decode cL_law 1390 = .ok (.iaload, 1) := dL_law_1389_g.2.1
theorem dL_law_1391 : decode cL_law 1391 = .ok (.ifCond .eq 7, 3) := dL_law_1389_g.2.2.1
theorem dL_law_1394 : decode cL_law 1394 = .ok (.iconst 1, 1) := dL_law_1389_g.2.2.2.1
theorem dL_law_1395 : decode cL_law 1395 = .ok (.goto 4, 3) := dL_law_1389_g.2.2.2.2.1
theorem dL_law_1398 : decode cL_law 1398 = .ok (.iconst 0, 1) := dL_law_1389_g.2.2.2.2.2.1
theorem dL_law_1399 : decode cL_law 1399 = .ok (.invokevirtual 146, 3) := dL_law_1389_g.2.2.2.2.2.2.1
theorem dL_law_1402 : decode cL_law 1402 = .ok (.pop, 1) := dL_law_1389_g.2.2.2.2.2.2.2
theorem dL_law_1403_g : (decode cL_law 1403 = .ok (.aload_n 2, 1)) ∧ (decode cL_law 1404 = .ok (.aload_n 0, 1)) ∧ (decode cL_law 1405 = .ok (.iload 4, 2)) ∧ (decode cL_law 1407 = .ok (.iconst 1, 1)) ∧ (decode cL_law 1408 = .ok (.iadd, 1)) ∧ (decode cL_law 1409 = .ok (.iaload, 1)) ∧ (decode cL_law 1410 = .ok (.aload_n 0, 1)) ∧ (decode cL_law 1411 = .ok (.iload 4, 2)) := by decide +kernel
theorem dL_law_1403 : decode cL_law 1403 = .ok (.aload_n 2, 1) := dL_law_1403_g.1
theorem dL_law_1404 : decode cL_law 1404 = .ok (.aload_n 0, 1) := dL_law_1403_g.2.1
theorem dL_law_1405 : decode cL_law 1405 = .ok (.iload 4, 2) := dL_law_1403_g.2.2.1
theorem dL_law_1407 : decode cL_law 1407 = .ok (.iconst 1, 1) := dL_law_1403_g.2.2.2.1
theorem dL_law_1408 : decode cL_law 1408 = .ok (.iadd, 1) := dL_law_1403_g.2.2.2.2.1
theorem dL_law_1409 : decode cL_law 1409 = .ok (.iaload, 1) := dL_law_1403_g.2.2.2.2.2.1
theorem dL_law_1410 : decode cL_law 1410 = .ok (.aload_n 0, 1) := dL_law_1403_g.2.2.2.2.2.2.1
theorem dL_law_1411 : decode cL_law 1411 = .ok (.iload 4, 2) := dL_law_1403_g.2.2.2.2.2.2.2
theorem dL_law_1413_g : (decode cL_law 1413 = .ok (.iconst 2, 1)) ∧ (decode cL_law 1414 = .ok (.iadd, 1)) ∧ (decode cL_law 1415 = .ok (.iaload, 1)) ∧ (decode cL_law 1416 = .ok (.ifCond .eq 7, 3)) ∧ (decode cL_law 1419 = .ok (.iconst 1, 1)) ∧ (decode cL_law 1420 = .ok (.goto 4, 3)) ∧ (decode cL_law 1423 = .ok (.iconst 0, 1)) ∧ (decode cL_law 1424 = .ok (.invokevirtual 149, 3)) := by decide +kernel
theorem dL_law_1413 : decode cL_law 1413 = .ok (.iconst 2, 1) := dL_law_1413_g.1
theorem dL_law_1414 : decode cL_law 1414 = .ok (.iadd, 1) := dL_law_1413_g.2.1
theorem dL_law_1415 : decode cL_law 1415 = .ok (.iaload, 1) := dL_law_1413_g.2.2.1
theorem dL_law_1416 : decode cL_law 1416 = .ok (.ifCond .eq 7, 3) := dL_law_1413_g.2.2.2.1
theorem dL_law_1419 : decode cL_law 1419 = .ok (.iconst 1, 1) := dL_law_1413_g.2.2.2.2.1
theorem dL_law_1420 : decode cL_law 1420 = .ok (.goto 4, 3) := dL_law_1413_g.2.2.2.2.2.1
theorem dL_law_1423 : decode cL_law 1423 = .ok (.iconst 0, 1) := dL_law_1413_g.2.2.2.2.2.2.1
theorem dL_law_1424 : decode cL_law 1424 = .ok (.invokevirtual 149, 3) := dL_law_1413_g.2.2.2.2.2.2.2
theorem dL_law_1427_g : (decode cL_law 1427 = .ok (.pop, 1)) ∧ (decode cL_law 1428 = .ok (.goto 166, 3)) ∧ (decode cL_law 1431 = .ok (.aload_n 1, 1)) ∧ (decode cL_law 1432 = .ok (.aload_n 0, 1)) ∧ (decode cL_law 1433 = .ok (.iload 4, 2)) ∧ (decode cL_law 1435 = .ok (.iconst 1, 1)) ∧ (decode cL_law 1436 = .ok (.iadd, 1)) ∧ (decode cL_law 1437 = .ok (.iaload, 1)) := by decide +kernel
theorem dL_law_1427 : decode cL_law 1427 = .ok (.pop, 1) := dL_law_1427_g.1
theorem dL_law_1428 : decode cL_law 1428 = .ok (.goto 166, 3) := dL_law_1427_g.2.1
theorem dL_law_1431 : decode cL_law 1431 = .ok (.aload_n 1, 1) := dL_law_1427_g.2.2.1
theorem dL_law_1432 : decode cL_law 1432 = .ok (.aload_n 0, 1) := dL_law_1427_g.2.2.2.1
theorem dL_law_1433 : decode cL_law 1433 = .ok (.iload 4, 2) := dL_law_1427_g.2.2.2.2.1
theorem dL_law_1435 : decode cL_law 1435 = .ok (.iconst 1, 1) := dL_law_1427_g.2.2.2.2.2.1
theorem dL_law_1436 : decode cL_law 1436 = .ok (.iadd, 1) := dL_law_1427_g.2.2.2.2.2.2.1
theorem dL_law_1437 : decode cL_law 1437 = .ok (.iaload, 1) := dL_law_1427_g.2.2.2.2.2.2.2
theorem dL_law_1438_g : (decode cL_law 1438 = .ok (.aload_n 0, 1)) ∧ (decode cL_law 1439 = .ok (.iload 4, 2)) ∧ (decode cL_law 1441 = .ok (.iconst 2, 1)) ∧ (decode cL_law 1442 = .ok (.iadd, 1)) ∧ (decode cL_law 1443 = .ok (.iaload, 1)) ∧ (decode cL_law 1444 = .ok (.aload_n 0, 1)) ∧ (decode cL_law 1445 = .ok (.iload 4, 2)) ∧ (decode cL_law 1447 = .ok (.iconst 3, 1)) := by decide +kernel
theorem dL_law_1438 : decode cL_law 1438 = .ok (.aload_n 0, 1) := dL_law_1438_g.1
theorem dL_law_1439 : decode cL_law 1439 = .ok (.iload 4, 2) := dL_law_1438_g.2.1
theorem dL_law_1441 : decode cL_law 1441 = .ok (.iconst 2, 1) := dL_law_1438_g.2.2.1
theorem dL_law_1442 : decode cL_law 1442 = .ok (.iadd, 1) := dL_law_1438_g.2.2.2.1
theorem dL_law_1443 : decode cL_law 1443 = .ok (.iaload, 1) := dL_law_1438_g.2.2.2.2.1
theorem dL_law_1444 : decode cL_law 1444 = .ok (.aload_n 0, 1) := dL_law_1438_g.2.2.2.2.2.1
theorem dL_law_1445 : decode cL_law 1445 = .ok (.iload 4, 2) := dL_law_1438_g.2.2.2.2.2.2.1
theorem dL_law_1447 : decode cL_law 1447 = .ok (.iconst 3, 1) := dL_law_1438_g.2.2.2.2.2.2.2
theorem dL_law_1448_g : (decode cL_law 1448 = .ok (.iadd, 1)) ∧ (decode cL_law 1449 = .ok (.iaload, 1)) ∧ (decode cL_law 1450 = .ok (.invokevirtual 150, 3)) ∧ (decode cL_law 1453 = .ok (.pop, 1)) ∧ (decode cL_law 1454 = .ok (.aload_n 2, 1)) ∧ (decode cL_law 1455 = .ok (.aload_n 0, 1)) ∧ (decode cL_law 1456 = .ok (.iload 4, 2)) ∧ (decode cL_law 1458 = .ok (.iconst 1, 1)) := by decide +kernel
theorem dL_law_1448 : decode cL_law 1448 = .ok (.iadd, 1) := dL_law_1448_g.1
theorem dL_law_1449 : decode cL_law 1449 = .ok (.iaload, 1) := dL_law_1448_g.2.1
theorem dL_law_1450 : decode cL_law 1450 = .ok (.invokevirtual 150, 3) := dL_law_1448_g.2.2.1
theorem dL_law_1453 : decode cL_law 1453 = .ok (.pop, 1) := dL_law_1448_g.2.2.2.1
theorem dL_law_1454 : decode cL_law 1454 = .ok (.aload_n 2, 1) := dL_law_1448_g.2.2.2.2.1
theorem dL_law_1455 : decode cL_law 1455 = .ok (.aload_n 0, 1) := dL_law_1448_g.2.2.2.2.2.1
theorem dL_law_1456 : decode cL_law 1456 = .ok (.iload 4, 2) := dL_law_1448_g.2.2.2.2.2.2.1
theorem dL_law_1458 : decode cL_law 1458 = .ok (.iconst 1, 1) := dL_law_1448_g.2.2.2.2.2.2.2
theorem dL_law_1459_g : (decode cL_law 1459 = .ok (.iadd, 1)) ∧ (decode cL_law 1460 = .ok (.iaload, 1)) ∧ (decode cL_law 1461 = .ok (.aload_n 0, 1)) ∧ (decode cL_law 1462 = .ok (.iload 4, 2)) ∧ (decode cL_law 1464 = .ok (.iconst 2, 1)) ∧ (decode cL_law 1465 = .ok (.iadd, 1)) ∧ (decode cL_law 1466 = .ok (.iaload, 1)) ∧ (decode cL_law 1467 = .ok (.aload_n 0, 1)) := by decide +kernel
theorem dL_law_1459 : decode cL_law 1459 = .ok (.iadd, 1) := dL_law_1459_g.1
theorem dL_law_1460 : decode cL_law 1460 = .ok (.iaload, 1) := dL_law_1459_g.2.1
theorem dL_law_1461 : decode cL_law 1461 = .ok (.aload_n 0, 1) := dL_law_1459_g.2.2.1
theorem dL_law_1462 : decode cL_law 1462 = .ok (.iload 4, 2) := dL_law_1459_g.2.2.2.1
theorem dL_law_1464 : decode cL_law 1464 = .ok (.iconst 2, 1) := dL_law_1459_g.2.2.2.2.1
theorem dL_law_1465 : decode cL_law 1465 = .ok (.iadd, 1) := dL_law_1459_g.2.2.2.2.2.1
theorem dL_law_1466 : decode cL_law 1466 = .ok (.iaload, 1) := dL_law_1459_g.2.2.2.2.2.2.1
theorem dL_law_1467 : decode cL_law 1467 = .ok (.aload_n 0, 1) := dL_law_1459_g.2.2.2.2.2.2.2
theorem dL_law_1468_g : (decode cL_law 1468 = .ok (.iload 4, 2)) ∧ (decode cL_law 1470 = .ok (.iconst 3, 1)) ∧ (decode cL_law 1471 = .ok (.iadd, 1)) ∧ (decode cL_law 1472 = .ok (.iaload, 1)) ∧ (decode cL_law 1473 = .ok (.invokevirtual 153, 3)) ∧ (decode cL_law 1476 = .ok (.pop, 1)) ∧ (decode cL_law 1477 = .ok (.goto 117, 3)) ∧ (decode cL_law 1480 = .ok (.aload_n 1, 1)) := by decide +kernel
theorem dL_law_1468 : decode cL_law 1468 = .ok (.iload 4, 2) := dL_law_1468_g.1
theorem dL_law_1470 : decode cL_law 1470 = .ok (.iconst 3, 1) := dL_law_1468_g.2.1
theorem dL_law_1471 : decode cL_law 1471 = .ok (.iadd, 1) := dL_law_1468_g.2.2.1
theorem dL_law_1472 : decode cL_law 1472 = .ok (.iaload, 1) := dL_law_1468_g.2.2.2.1
theorem dL_law_1473 : decode cL_law 1473 = .ok (.invokevirtual 153, 3) := dL_law_1468_g.2.2.2.2.1
theorem dL_law_1476 : decode cL_law 1476 = .ok (.pop, 1) := dL_law_1468_g.2.2.2.2.2.1
theorem dL_law_1477 : decode cL_law 1477 = .ok (.goto 117, 3) := dL_law_1468_g.2.2.2.2.2.2.1
theorem dL_law_1480 : decode cL_law 1480 = .ok (.aload_n 1, 1) := dL_law_1468_g.2.2.2.2.2.2.2
theorem dL_law_1481_g : (decode cL_law 1481 = .ok (.aload_n 0, 1)) ∧ (decode cL_law 1482 = .ok (.iload 4, 2)) ∧ (decode cL_law 1484 = .ok (.iconst 1, 1)) ∧ (decode cL_law 1485 = .ok (.iadd, 1)) ∧ (decode cL_law 1486 = .ok (.iaload, 1)) ∧ (decode cL_law 1487 = .ok (.aload_n 0, 1)) ∧ (decode cL_law 1488 = .ok (.iload 4, 2)) ∧ (decode cL_law 1490 = .ok (.iconst 2, 1)) := by decide +kernel
theorem dL_law_1481 : decode cL_law 1481 = .ok (.aload_n 0, 1) := dL_law_1481_g.1
theorem dL_law_1482 : decode cL_law 1482 = .ok (.iload 4, 2) := dL_law_1481_g.2.1
theorem dL_law_1484 : decode cL_law 1484 = .ok (.iconst 1, 1) := dL_law_1481_g.2.2.1
theorem dL_law_1485 : decode cL_law 1485 = .ok (.iadd, 1) := dL_law_1481_g.2.2.2.1
theorem dL_law_1486 : decode cL_law 1486 = .ok (.iaload, 1) := dL_law_1481_g.2.2.2.2.1
theorem dL_law_1487 : decode cL_law 1487 = .ok (.aload_n 0, 1) := dL_law_1481_g.2.2.2.2.2.1
theorem dL_law_1488 : decode cL_law 1488 = .ok (.iload 4, 2) := dL_law_1481_g.2.2.2.2.2.2.1
theorem dL_law_1490 : decode cL_law 1490 = .ok (.iconst 2, 1) := dL_law_1481_g.2.2.2.2.2.2.2
theorem dL_law_1491_g : (decode cL_law 1491 = .ok (.iadd, 1)) ∧ (decode cL_law 1492 = .ok (.iaload, 1)) ∧ (decode cL_law 1493 = .ok (.aload_n 0, 1)) ∧ (decode cL_law 1494 = .ok (.iload 4, 2)) ∧ (decode cL_law 1496 = .ok (.iconst 3, 1)) ∧ (decode cL_law 1497 = .ok (.iadd, 1)) ∧ (decode cL_law 1498 = .ok (.iaload, 1)) ∧ (decode cL_law 1499 = .ok (.invokevirtual 154, 3)) := by decide +kernel
theorem dL_law_1491 : decode cL_law 1491 = .ok (.iadd, 1) := dL_law_1491_g.1
theorem dL_law_1492 : decode cL_law 1492 = .ok (.iaload, 1) := dL_law_1491_g.2.1
theorem dL_law_1493 : decode cL_law 1493 = .ok (.aload_n 0, 1) := dL_law_1491_g.2.2.1
theorem dL_law_1494 : decode cL_law 1494 = .ok (.iload 4, 2) := dL_law_1491_g.2.2.2.1
theorem dL_law_1496 : decode cL_law 1496 = .ok (.iconst 3, 1) := dL_law_1491_g.2.2.2.2.1
theorem dL_law_1497 : decode cL_law 1497 = .ok (.iadd, 1) := dL_law_1491_g.2.2.2.2.2.1
theorem dL_law_1498 : decode cL_law 1498 = .ok (.iaload, 1) := dL_law_1491_g.2.2.2.2.2.2.1
theorem dL_law_1499 : decode cL_law 1499 = .ok (.invokevirtual 154, 3) := dL_law_1491_g.2.2.2.2.2.2.2
theorem dL_law_1502_g : (decode cL_law 1502 = .ok (.pop, 1)) ∧ (decode cL_law 1503 = .ok (.aload_n 2, 1)) ∧ (decode cL_law 1504 = .ok (.aload_n 0, 1)) ∧ (decode cL_law 1505 = .ok (.iload 4, 2)) ∧ (decode cL_law 1507 = .ok (.iconst 1, 1)) ∧ (decode cL_law 1508 = .ok (.iadd, 1)) ∧ (decode cL_law 1509 = .ok (.iaload, 1)) ∧ (decode cL_law 1510 = .ok (.aload_n 0, 1)) := by decide +kernel
theorem dL_law_1502 : decode cL_law 1502 = .ok (.pop, 1) := dL_law_1502_g.1
theorem dL_law_1503 : decode cL_law 1503 = .ok (.aload_n 2, 1) := dL_law_1502_g.2.1
theorem dL_law_1504 : decode cL_law 1504 = .ok (.aload_n 0, 1) := dL_law_1502_g.2.2.1
theorem dL_law_1505 : decode cL_law 1505 = .ok (.iload 4, 2) := dL_law_1502_g.2.2.2.1
theorem dL_law_1507 : decode cL_law 1507 = .ok (.iconst 1, 1) := dL_law_1502_g.2.2.2.2.1
theorem dL_law_1508 : decode cL_law 1508 = .ok (.iadd, 1) := dL_law_1502_g.2.2.2.2.2.1
theorem dL_law_1509 : decode cL_law 1509 = .ok (.iaload, 1) := dL_law_1502_g.2.2.2.2.2.2.1
theorem dL_law_1510 : decode cL_law 1510 = .ok (.aload_n 0, 1) := dL_law_1502_g.2.2.2.2.2.2.2
theorem dL_law_1511_g : (decode cL_law 1511 = .ok (.iload 4, 2)) ∧ (decode cL_law 1513 = .ok (.iconst 2, 1)) ∧ (decode cL_law 1514 = .ok (.iadd, 1)) ∧ (decode cL_law 1515 = .ok (.iaload, 1)) ∧ (decode cL_law 1516 = .ok (.aload_n 0, 1)) ∧ (decode cL_law 1517 = .ok (.iload 4, 2)) ∧ (decode cL_law 1519 = .ok (.iconst 3, 1)) ∧ (decode cL_law 1520 = .ok (.iadd, 1)) := by decide +kernel
theorem dL_law_1511 : decode cL_law 1511 = .ok (.iload 4, 2) := dL_law_1511_g.1
theorem dL_law_1513 : decode cL_law 1513 = .ok (.iconst 2, 1) := dL_law_1511_g.2.1
theorem dL_law_1514 : decode cL_law 1514 = .ok (.iadd, 1) := dL_law_1511_g.2.2.1
theorem dL_law_1515 : decode cL_law 1515 = .ok (.iaload, 1) := dL_law_1511_g.2.2.2.1
theorem dL_law_1516 : decode cL_law 1516 = .ok (.aload_n 0, 1) := dL_law_1511_g.2.2.2.2.1
theorem dL_law_1517 : decode cL_law 1517 = .ok (.iload 4, 2) := dL_law_1511_g.2.2.2.2.2.1
theorem dL_law_1519 : decode cL_law 1519 = .ok (.iconst 3, 1) := dL_law_1511_g.2.2.2.2.2.2.1
theorem dL_law_1520 : decode cL_law 1520 = .ok (.iadd, 1) := dL_law_1511_g.2.2.2.2.2.2.2
theorem dL_law_1521_g : (decode cL_law 1521 = .ok (.iaload, 1)) ∧ (decode cL_law 1522 = .ok (.invokevirtual 157, 3)) ∧ (decode cL_law 1525 = .ok (.pop, 1)) ∧ (decode cL_law 1526 = .ok (.goto 68, 3)) ∧ (decode cL_law 1529 = .ok (.aload_n 1, 1)) ∧ (decode cL_law 1530 = .ok (.aload_n 0, 1)) ∧ (decode cL_law 1531 = .ok (.iload 4, 2)) ∧ (decode cL_law 1533 = .ok (.iconst 1, 1)) := by decide +kernel
theorem dL_law_1521 : decode cL_law 1521 = .ok (.iaload, 1) := dL_law_1521_g.1
theorem dL_law_1522 : decode cL_law 1522 = .ok (.invokevirtual 157, 3) := dL_law_1521_g.2.1
theorem dL_law_1525 : decode cL_law 1525 = .ok (.pop, 1) := dL_law_1521_g.2.2.1
theorem dL_law_1526 : decode cL_law 1526 = .ok (.goto 68, 3) := dL_law_1521_g.2.2.2.1
theorem dL_law_1529 : decode cL_law 1529 = .ok (.aload_n 1, 1) := dL_law_1521_g.2.2.2.2.1
theorem dL_law_1530 : decode cL_law 1530 = .ok (.aload_n 0, 1) := dL_law_1521_g.2.2.2.2.2.1
theorem dL_law_1531 : decode cL_law 1531 = .ok (.iload 4, 2) := dL_law_1521_g.2.2.2.2.2.2.1
theorem dL_law_1533 : decode cL_law 1533 = .ok (.iconst 1, 1) := dL_law_1521_g.2.2.2.2.2.2.2
theorem dL_law_1534_g : (decode cL_law 1534 = .ok (.iadd, 1)) ∧ (decode cL_law 1535 = .ok (.iaload, 1)) ∧ (decode cL_law 1536 = .ok (.aload_n 0, 1)) ∧ (decode cL_law 1537 = .ok (.iload 4, 2)) ∧ (decode cL_law 1539 = .ok (.iconst 2, 1)) ∧ (decode cL_law 1540 = .ok (.iadd, 1)) ∧ (decode cL_law 1541 = .ok (.iaload, 1)) ∧ (decode cL_law 1542 = .ok (.aload_n 0, 1)) := by decide +kernel
theorem dL_law_1534 : decode cL_law 1534 = .ok (.iadd, 1) := dL_law_1534_g.1
theorem dL_law_1535 : decode cL_law 1535 = .ok (.iaload, 1) := dL_law_1534_g.2.1
theorem dL_law_1536 : decode cL_law 1536 = .ok (.aload_n 0, 1) := dL_law_1534_g.2.2.1
theorem dL_law_1537 : decode cL_law 1537 = .ok (.iload 4, 2) := dL_law_1534_g.2.2.2.1
theorem dL_law_1539 : decode cL_law 1539 = .ok (.iconst 2, 1) := dL_law_1534_g.2.2.2.2.1
theorem dL_law_1540 : decode cL_law 1540 = .ok (.iadd, 1) := dL_law_1534_g.2.2.2.2.2.1
theorem dL_law_1541 : decode cL_law 1541 = .ok (.iaload, 1) := dL_law_1534_g.2.2.2.2.2.2.1
theorem dL_law_1542 : decode cL_law 1542 = .ok (.aload_n 0, 1) := dL_law_1534_g.2.2.2.2.2.2.2
theorem dL_law_1543_g : (decode cL_law 1543 = .ok (.iload 4, 2)) ∧ (decode cL_law 1545 = .ok (.iconst 3, 1)) ∧ (decode cL_law 1546 = .ok (.iadd, 1)) ∧ (decode cL_law 1547 = .ok (.iaload, 1)) ∧ (decode cL_law 1548 = .ok (.ifCond .eq 7, 3)) ∧ (decode cL_law 1551 = .ok (.iconst 1, 1)) ∧ (decode cL_law 1552 = .ok (.goto 4, 3)) ∧ (decode cL_law 1555 = .ok (.iconst 0, 1)) := by decide +kernel
theorem dL_law_1543 : decode cL_law 1543 = .ok (.iload 4, 2) := dL_law_1543_g.1
theorem dL_law_1545 : decode cL_law 1545 = .ok (.iconst 3, 1) := dL_law_1543_g.2.1
theorem dL_law_1546 : decode cL_law 1546 = .ok (.iadd, 1) := dL_law_1543_g.2.2.1
theorem dL_law_1547 : decode cL_law 1547 = .ok (.iaload, 1) := dL_law_1543_g.2.2.2.1
theorem dL_law_1548 : decode cL_law 1548 = .ok (.ifCond .eq 7, 3) := dL_law_1543_g.2.2.2.2.1
theorem dL_law_1551 : decode cL_law 1551 = .ok (.iconst 1, 1) := dL_law_1543_g.2.2.2.2.2.1
theorem dL_law_1552 : decode cL_law 1552 = .ok (.goto 4, 3) := dL_law_1543_g.2.2.2.2.2.2.1
theorem dL_law_1555 : decode cL_law 1555 = .ok (.iconst 0, 1) := dL_law_1543_g.2.2.2.2.2.2.2
theorem dL_law_1556_g : (decode cL_law 1556 = .ok (.invokevirtual 158, 3)) ∧ (decode cL_law 1559 = .ok (.pop, 1)) ∧ (decode cL_law 1560 = .ok (.aload_n 2, 1)) ∧ (decode cL_law 1561 = .ok (.aload_n 0, 1)) ∧ (decode cL_law 1562 = .ok (.iload 4, 2)) ∧ (decode cL_law 1564 = .ok (.iconst 1, 1)) ∧ (decode cL_law 1565 = .ok (.iadd, 1)) ∧ (decode cL_law 1566 = .ok (.iaload, 1)) := by decide +kernel
theorem dL_law_1556 : decode cL_law 1556 = .ok (.invokevirtual 158, 3) := dL_law_1556_g.1
theorem dL_law_1559 : decode cL_law 1559 = .ok (.pop, 1) := dL_law_1556_g.2.1
theorem dL_law_1560 : decode cL_law 1560 = .ok (.aload_n 2, 1) := dL_law_1556_g.2.2.1
theorem dL_law_1561 : decode cL_law 1561 = .ok (.aload_n 0, 1) := dL_law_1556_g.2.2.2.1
theorem dL_law_1562 : decode cL_law 1562 = .ok (.iload 4, 2) := dL_law_1556_g.2.2.2.2.1
theorem dL_law_1564 : decode cL_law 1564 = .ok (.iconst 1, 1) := dL_law_1556_g.2.2.2.2.2.1
theorem dL_law_1565 : decode cL_law 1565 = .ok (.iadd, 1) := dL_law_1556_g.2.2.2.2.2.2.1
theorem dL_law_1566 : decode cL_law 1566 = .ok (.iaload, 1) := dL_law_1556_g.2.2.2.2.2.2.2
theorem dL_law_1567_g : (decode cL_law 1567 = .ok (.aload_n 0, 1)) ∧ (decode cL_law 1568 = .ok (.iload 4, 2)) ∧ (decode cL_law 1570 = .ok (.iconst 2, 1)) ∧ (decode cL_law 1571 = .ok (.iadd, 1)) ∧ (decode cL_law 1572 = .ok (.iaload, 1)) ∧ (decode cL_law 1573 = .ok (.aload_n 0, 1)) ∧ (decode cL_law 1574 = .ok (.iload 4, 2)) ∧ (decode cL_law 1576 = .ok (.iconst 3, 1)) := by decide +kernel
theorem dL_law_1567 : decode cL_law 1567 = .ok (.aload_n 0, 1) := dL_law_1567_g.1
theorem dL_law_1568 : decode cL_law 1568 = .ok (.iload 4, 2) := dL_law_1567_g.2.1
theorem dL_law_1570 : decode cL_law 1570 = .ok (.iconst 2, 1) := dL_law_1567_g.2.2.1
theorem dL_law_1571 : decode cL_law 1571 = .ok (.iadd, 1) := dL_law_1567_g.2.2.2.1
theorem dL_law_1572 : decode cL_law 1572 = .ok (.iaload, 1) := dL_law_1567_g.2.2.2.2.1
theorem dL_law_1573 : decode cL_law 1573 = .ok (.aload_n 0, 1) := dL_law_1567_g.2.2.2.2.2.1
theorem dL_law_1574 : decode cL_law 1574 = .ok (.iload 4, 2) := dL_law_1567_g.2.2.2.2.2.2.1
theorem dL_law_1576 : decode cL_law 1576 = .ok (.iconst 3, 1) := dL_law_1567_g.2.2.2.2.2.2.2
theorem dL_law_1577_g : (decode cL_law 1577 = .ok (.iadd, 1)) ∧ (decode cL_law 1578 = .ok (.iaload, 1)) ∧ (decode cL_law 1579 = .ok (.ifCond .eq 7, 3)) ∧ (decode cL_law 1582 = .ok (.iconst 1, 1)) ∧ (decode cL_law 1583 = .ok (.goto 4, 3)) ∧ (decode cL_law 1586 = .ok (.iconst 0, 1)) := by decide +kernel
theorem dL_law_1577 : decode cL_law 1577 = .ok (.iadd, 1) := dL_law_1577_g.1
theorem dL_law_1578 : decode cL_law 1578 = .ok (.iaload, 1) := dL_law_1577_g.2.1
theorem dL_law_1579 : decode cL_law 1579 = .ok (.ifCond .eq 7, 3) := dL_law_1577_g.2.2.1
theorem dL_law_1582 : decode cL_law 1582 = .ok (.iconst 1, 1) := dL_law_1577_g.2.2.2.1
theorem dL_law_1583 : decode cL_law 1583 = .ok (.goto 4, 3) := dL_law_1577_g.2.2.2.2.1
theorem dL_law_1586 : decode cL_law 1586 = .ok (.iconst 0, 1) := dL_law_1577_g.2.2.2.2.2

