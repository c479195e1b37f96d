theorem dL_law_1383_g : (decode cL_law 1383 = .ok (.iaload, 1)) ∧ (decode cL_law 1384 = .ok (.aload_n 0, 1)) ∧ (decode cL_law 1385 = .ok (.iload 4, 2)) ∧ (decode cL_law 1387 = .ok (.iconst 2, 1)) ∧ (decode cL_law 1388 = .ok (.iadd, 1)) ∧ (decode cL_law 1389 = .ok (.iaload, 1)) ∧ (decode cL_law 1390 = .ok (.ifCond .eq 7, 3)) ∧ (decode cL_law 1393 = .ok (.iconst 1, 1)) := by decide +kernel
theorem dL_law_1383 : decode cL_law 1383 = .ok (.iaload, 1) := dL_law_1383_g.1
theorem dL_law_1384 : decode cL_law 1384 = .ok (.aload_n 0, 1) := dL_law_1383_g.2.1
theorem dL_law_1385 : decode cL_law 1385 = .ok (.iload 4, 2) := dL_law_1383_g.2.2.1
theorem dL_law_1387 : decode cL_law 1387 = .ok (.iconst 2, 1) := dL_law_1383_g.2.2.2.1
theorem dL_law_1388 : decode cL_law 1388 = .ok (.iadd, 1) := dL_law_1383_g.2.2.2.2.1
theorem dL_law_1389 : decode cL_law 1389 = .ok (.iaload, 1) := dL_law_1383_g.2.2.2.2.2.1
theorem dL_law_1390 : decode cL_law 1390 = .ok (.ifCond .eq 7, 3) := dL_law_1383_g.2.2.2.2.2.2.1
theorem dL_law_1393 : decode cL_law 1393 = .ok (.iconst 1, 1) := dL_law_1383_g.2.2.2.2.2.2.2
theorem dL_law_1394_g : (decode cL_law 1394 = .ok (.goto 4, 3)) ∧ (decode cL_law 1397 = .ok (.iconst 0, 1)) ∧ (decode cL_law 1398 = .ok (.invokevirtual 148, 3)) ∧ (decode cL_law 1401 = .ok (.pop, 1)) ∧ (decode cL_law 1402 = .ok (.goto 219, 3)) ∧ (decode cL_law 1405 = .ok (.aload_n 1, 1)) ∧ (decode cL_law 1406 = .ok (.aload_n 0, 1)) ∧ (decode cL_law 1407 = .ok (.iload 4, 2)) := by decide +kernel
theorem dL_law_1394 : decode cL_law 1394 = .ok (.goto 4, 3) := dL_law_1394_g.1
theorem dL_law_1397 : decode cL_law 1397 = .ok (.iconst 0, 1) := dL_law_1394_g.2.1
theorem dL_law_1398 : decode cL_law 1398 = .ok (.invokevirtual 148, 3) := dL_law_1394_g.2.2.1
theorem dL_law_1401 : decode cL_law 1401 = .ok (.pop, 1) := dL_law_1394_g.2.2.2.1
theorem dL_law_1402 : decode cL_law 1402 = .ok (.goto 219, 3) := dL_law_1394_g.2.2.2.2.1
theorem dL_law_1405 : decode cL_law 1405 = .ok (.aload_n 1, 1) := dL_law_1394_g.2.2.2.2.2.1
theorem dL_law_1406 : decode cL_law 1406 = .ok (.aload_n 0, 1) := dL_law_1394_g.2.2.2.2.2.2.1
theorem dL_law_1407 : decode cL_law 1407 = .ok (.iload 4, 2) := dL_law_1394_g.2.2.2.2.2.2.2
theorem dL_law_1409_g : (decode cL_law 1409 = .ok (.iconst 1, 1)) ∧ (decode cL_law 1410 = .ok (.iadd, 1)) ∧ (decode cL_law 1411 = .ok (.iaload, 1)) ∧ (decode cL_law 1412 = .ok (.aload_n 0, 1)) ∧ (decode cL_law 1413 = .ok (.iload 4, 2)) ∧ (decode cL_law 1415 = .ok (.iconst 2, 1)) ∧ (decode cL_law 1416 = .ok (.iadd, 1)) ∧ (decode cL_law 1417 = .ok (.iaload, 1)) := by decide +kernel
theorem dL_law_1409 : decode cL_law 1409 = .ok (.iconst 1, 1) := dL_law_1409_g.1
theorem dL_law_1410 : decode cL_law 1410 = .ok (.iadd, 1) := dL_law_1409_g.2.1
theorem dL_law_1411 : decode cL_law 1411 = .ok (.iaload, 1) := dL_law_1409_g.2.2.1
theorem dL_law_1412 : decode cL_law 1412 = .ok (.aload_n 0, 1) := dL_law_1409_g.2.2.2.1
theorem dL_law_1413 : decode cL_law 1413 = .ok (.iload 4, 2) := dL_law_1409_g.2.2.2.2.1
theorem dL_law_1415 : decode cL_law 1415 = .ok (.iconst 2, 1) := dL_law_1409_g.2.2.2.2.2.1
theorem dL_law_1416 : decode cL_law 1416 = .ok (.iadd, 1) := dL_law_1409_g.2.2.2.2.2.2.1
theorem dL_law_1417 : decode cL_law 1417 = .ok (.iaload, 1) := dL_law_1409_g.2.2.2.2.2.2.2
theorem dL_law_1418_g : (decode cL_law 1418 = .ok (.ifCond .eq 7, 3)) ∧ (decode cL_law 1421 = .ok (.iconst 1, 1)) ∧ (decode cL_law 1422 = .ok (.goto 4, 3)) ∧ (decode cL_law 1425 = .ok (.iconst 0, 1)) ∧ (decode cL_law 1426 = .ok (.invokevirtual 149, 3)) ∧ (decode cL_law 1429 = .ok (.pop, 1)) ∧ (decode cL_law 1430 = .ok (.aload_n 2, 1)) ∧ (decode cL_law 1431 = .ok (.aload_n 0, 1)) := by decide +kernel
theorem dL_law_1418 : decode cL_law 1418 = .ok (.ifCond .eq 7, 3) := dL_law_1418_g.1
theorem dL_law_1421 : decode cL_law 1421 = .ok (.iconst 1, 1) := dL_law_1418_g.2.1
theorem dL_law_1422 : decode cL_law 1422 = .ok (.goto 4, 3) := dL_law_1418_g.2.2.1
theorem dL_law_1425 : decode cL_law 1425 = .ok (.iconst 0, 1) := dL_law_1418_g.2.2.2.1
theorem dL_law_1426 : decode cL_law 1426 = .ok (.invokevirtual 149, 3) := dL_law_1418_g.2.2.2.2.1
theorem dL_law_1429 : decode cL_law 1429 = .ok (.pop, 1) := dL_law_1418_g.2.2.2.2.2.1
theorem dL_law_1430 : decode cL_law 1430 = .ok (.aload_n 2, 1) := dL_law_1418_g.2.2.2.2.2.2.1
theorem dL_law_1431 : decode cL_law 1431 = .ok (.aload_n 0, 1) := dL_law_1418_g.2.2.2.2.2.2.2
theorem dL_law_1432_g : (decode cL_law 1432 = .ok (.iload 4, 2)) ∧ (decode cL_law 1434 = .ok (.iconst 1, 1)) ∧ (decode cL_law 1435 = .ok (.iadd, 1)) ∧ (decode cL_law 1436 = .ok (.iaload, 1)) ∧ (decode cL_law 1437 = .ok (.aload_n 0, 1)) ∧ (decode cL_law 1438 = .ok (.iload 4, 2)) ∧ (decode cL_law 1440 = .ok (.iconst 2, 1)) ∧ (decode cL_law 1441 = .ok (.iadd, 1)) := by decide +kernel
theorem dL_law_1432 : decode cL_law 1432 = .ok (.iload 4, 2) := dL_law_1432_g.1
theorem dL_law_1434 : decode cL_law 1434 = .ok (.iconst 1, 1) := dL_law_1432_g.2.1
theorem dL_law_1435 : decode cL_law 1435 = .ok (.iadd, 1) := dL_law_1432_g.2.2.1
theorem dL_law_1436 : decode cL_law 1436 = .ok (.iaload, 1) := dL_law_1432_g.2.2.2.1
theorem dL_law_1437 : decode cL_law 1437 = .ok (.aload_n 0, 1) := dL_law_1432_g.2.2.2.2.1
theorem dL_law_1438 : decode cL_law 1438 = .ok (.iload 4, 2) := dL_law_1432_g.2.2.2.2.2.1
theorem dL_law_1440 : decode cL_law 1440 = .ok (.iconst 2, 1) := dL_law_1432_g.2.2.2.2.2.2.1
theorem dL_law_1441 : decode cL_law 1441 = .ok (.iadd, 1) := dL_law_1432_g.2.2.2.2.2.2.2
theorem dL_law_1442_g : (decode cL_law 1442 = .ok (.iaload, 1)) ∧ (decode cL_law 1443 = .ok (.ifCond .eq 7, 3)) ∧ (decode cL_law 1446 = .ok (.iconst 1, 1)) ∧ (decode cL_law 1447 = .ok (.goto 4, 3)) ∧ (decode cL_law 1450 = .ok (.iconst 0, 1)) ∧ (decode cL_law 1451 = .ok (.invokevirtual 152, 3)) ∧ (decode cL_law 1454 = .ok (.pop, 1)) ∧ (decode cL_law 1455 = .ok (.goto 166, 3)) := by decide +kernel
theorem dL_law_1442 : decode cL_law 1442 = .ok (.iaload, 1) := dL_law_1442_g.1
theorem dL_law_1443 : decode cL_law 1443 = .ok (.ifCond .eq 7, 3) := dL_law_1442_g.2.1
theorem dL_law_1446 : decode cL_law 1446 = .ok (.iconst 1, 1) := dL_law_1442_g.2.2.1
theorem dL_law_1447 : decode cL_law 1447 = .ok (.goto 4, 3) := dL_law_1442_g.2.2.2.1
theorem dL_law_1450 : decode cL_law 1450 = .ok (.iconst 0, 1) := dL_law_1442_g.2.2.2.2.1
theorem dL_law_1451 : decode cL_law 1451 = .ok (.invokevirtual 152, 3) := dL_law_1442_g.2.2.2.2.2.1
theorem dL_law_1454 : decode cL_law 1454 = .ok (.pop, 1) := dL_law_1442_g.2.2.2.2.2.2.1
theorem dL_law_1455 : decode cL_law 1455 = .ok (.goto 166, 3) := dL_law_1442_g.2.2.2.2.2.2.2
theorem dL_law_1458_g : (decode cL_law 1458 = .ok (.aload_n 1, 1)) ∧ (decode cL_law 1459 = .ok (.aload_n 0, 1)) ∧ (decode cL_law 1460 = .ok (.iload 4, 2)) ∧ (decode cL_law 1462 = .ok (.iconst 1, 1)) ∧ (decode cL_law 1463 = .ok (.iadd, 1)) ∧ (decode cL_law 1464 = .ok (.iaload, 1)) ∧ (decode cL_law 1465 = .ok (.aload_n 0, 1)) ∧ (decode cL_law 1466 = .ok (.iload 4, 2)) := by decide +kernel
theorem dL_law_1458 : decode cL_law 1458 = .ok (.aload_n 1, 1) := dL_law_1458_g.1
theorem dL_law_1459 : decode cL_law 1459 = .ok (.aload_n 0, 1) := dL_law_1458_g.2.1
theorem dL_law_1460 : decode cL_law 1460 = .ok (.iload 4, 2) := dL_law_1458_g.2.2.1
theorem dL_law_1462 : decode cL_law 1462 = .ok (.iconst 1, 1) := dL_law_1458_g.2.2.2.1
theorem dL_law_1463 : decode cL_law 1463 = .ok (.iadd, 1) := dL_law_1458_g.2.2.2.2.1
theorem dL_law_1464 : decode cL_law 1464 = .ok (.iaload, 1) := dL_law_1458_g.2.2.2.2.2.1
theorem dL_law_1465 : decode cL_law 1465 = .ok (.aload_n 0, 1) := dL_law_1458_g.2.2.2.2.2.2.1
theorem dL_law_1466 : decode cL_law 1466 = .ok (.iload 4, 2) := dL_law_1458_g.2.2.2.2.2.2.2
theorem dL_law_1468_g : (decode cL_law 1468 = .ok (.iconst 2, 1)) ∧ (decode cL_law 1469 = .ok (.iadd, 1)) ∧ (decode cL_law 1470 = .ok (.iaload, 1)) ∧ (decode cL_law 1471 = .ok (.aload_n 0, 1)) ∧ (decode cL_law 1472 = .ok (.iload 4, 2)) ∧ (decode cL_law 1474 = .ok (.iconst 3, 1)) ∧ (decode cL_law 1475 = .ok (.iadd, 1)) ∧ (decode cL_law 1476 = .ok (.iaload, 1)) := by decide +kernel
theorem dL_law_1468 : decode cL_law 1468 = .ok (.iconst 2, 1) := dL_law_1468_g.1
theorem dL_law_1469 : decode cL_law 1469 = .ok (.iadd, 1) := dL_law_1468_g.2.1
theorem dL_law_1470 : decode cL_law 1470 = .ok (.iaload, 1) := dL_law_1468_g.2.2.1
theorem dL_law_1471 : decode cL_law 1471 = .ok (.aload_n 0, 1) := dL_law_1468_g.2.2.2.1
theorem dL_law_1472 : decode cL_law 1472 = .ok (.iload 4, 2) := dL_law_1468_g.2.2.2.2.1
theorem dL_law_1474 : decode cL_law 1474 = .ok (.iconst 3, 1) := dL_law_1468_g.2.2.2.2.2.1
theorem dL_law_1475 : decode cL_law 1475 = .ok (.iadd, 1) := dL_law_1468_g.2.2.2.2.2.2.1
theorem dL_law_1476 : decode cL_law 1476 = .ok (.iaload, 1) := dL_law_1468_g.2.2.2.2.2.2.2
theorem dL_law_1477_g : (decode cL_law 1477 = .ok (.invokevirtual 153, 3)) ∧ (decode cL_law 1480 = .ok (.pop, 1)) ∧ (decode cL_law 1481 = .ok (.aload_n 2, 1)) ∧ (decode cL_law 1482 = .ok (.aload_n 0, 1)) ∧ (decode cL_law 1483 = .ok (.iload 4, 2)) ∧ (decode cL_law 1485 = .ok (.iconst 1, 1)) ∧ (decode cL_law 1486 = .ok (.iadd, 1)) ∧ (decode cL_law 1487 = .ok (.iaload, 1)) := by decide +kernel
theorem dL_law_1477 : decode cL_law 1477 = .ok (.invokevirtual 153, 3) := dL_law_1477_g.1
theorem dL_law_1480 : decode cL_law 1480 = .ok (.pop, 1) := dL_law_1477_g.2.1
theorem dL_law_1481 : decode cL_law 1481 = .ok (.aload_n 2, 1) := dL_law_1477_g.2.2.1
theorem dL_law_1482 : decode cL_law 1482 = .ok (.aload_n 0, 1) := dL_law_1477_g.2.2.2.1
theorem dL_law_1483 : decode cL_law 1483 = .ok (.iload 4, 2) := dL_law_1477_g.2.2.2.2.1
theorem dL_law_1485 : decode cL_law 1485 = .ok (.iconst 1, 1) := dL_law_1477_g.2.2.2.2.2.1
theorem dL_law_1486 : decode cL_law 1486 = .ok (.iadd, 1) := dL_law_1477_g.2.2.2.2.2.2.1
theorem dL_law_1487 : decode cL_law 1487 = .ok (.iaload, 1) := dL_law_1477_g.2.2.2.2.2.2.2
theorem dL_law_1488_g : (decode cL_law 1488 = .ok (.aload_n 0, 1)) ∧ (decode cL_law 1489 = .ok (.iload 4, 2)) ∧ (decode cL_law 1491 = .ok (.iconst 2, 1)) ∧ (decode cL_law 1492 = .ok (.iadd, 1)) ∧ (decode cL_law 1493 = .ok (.iaload, 1)) ∧ (decode cL_law 1494 = .ok (.aload_n 0, 1)) ∧ (decode cL_law 1495 = .ok (.iload 4, 2)) ∧ (decode cL_law 1497 = .ok (.iconst 3, 1)) := by decide +kernel
theorem dL_law_1488 : decode cL_law 1488 = .ok (.aload_n 0, 1) := dL_law_1488_g.1
theorem dL_law_1489 : decode cL_law 1489 = .ok (.iload 4, 2) := dL_law_1488_g.2.1
theorem dL_law_1491 : decode cL_law 1491 = .ok (.iconst 2, 1) := dL_law_1488_g.2.2.1
theorem dL_law_1492 : decode cL_law 1492 = .ok (.iadd, 1) := dL_law_1488_g.2.2.2.1
theorem dL_law_1493 : decode cL_law 1493 = .ok (.iaload, 1) := dL_law_1488_g.2.2.2.2.1
theorem dL_law_1494 : decode cL_law 1494 = .ok (.aload_n 0, 1) := dL_law_1488_g.2.2.2.2.2.1
theorem dL_law_1495 : decode cL_law 1495 = .ok (.iload 4, 2) := dL_law_1488_g.2.2.2.2.2.2.1
theorem dL_law_1497 : decode cL_law 1497 = .ok (.iconst 3, 1) := dL_law_1488_g.2.2.2.2.2.2.2
theorem dL_law_1498_g : (decode cL_law 1498 = .ok (.iadd, 1)) ∧ (decode cL_law 1499 = .ok (.iaload, 1)) ∧ (decode cL_law 1500 = .ok (.invokevirtual 156, 3)) ∧ (decode cL_law 1503 = .ok (.pop, 1)) ∧ (decode cL_law 1504 = .ok (.goto 117, 3)) ∧ (decode cL_law 1507 = .ok (.aload_n 1, 1)) ∧ (decode cL_law 1508 = .ok (.aload_n 0, 1)) ∧ (decode cL_law 1509 = .ok (.iload 4, 2)) := by decide +kernel
theorem dL_law_1498 : decode cL_law 1498 = .ok (.iadd, 1) := dL_law_1498_g.1
theorem dL_law_1499 : decode cL_law 1499 = .ok (.iaload, 1) := dL_law_1498_g.2.1
theorem dL_law_1500 : decode cL_law 1500 = .ok (.invokevirtual 156, 3) := dL_law_1498_g.2.2.1
theorem dL_law_1503 : decode cL_law 1503 = .ok (.pop, 1) := dL_law_1498_g.2.2.2.1
theorem dL_law_1504 : decode cL_law 1504 = .ok (.goto 117, 3) := dL_law_1498_g.2.2.2.2.1
theorem dL_law_1507 : decode cL_law 1507 = .ok (.aload_n 1, 1) := dL_law_1498_g.2.2.2.2.2.1
theorem dL_law_1508 : decode cL_law 1508 = .ok (.aload_n 0, 1) := dL_law_1498_g.2.2.2.2.2.2.1
theorem dL_law_1509 : decode cL_law 1509 = .ok (.iload 4, 2) := dL_law_1498_g.2.2.2.2.2.2.2
theorem dL_law_1511_g : (decode cL_law 1511 = .ok (.iconst 1, 1)) ∧ (decode cL_law 1512 = .ok (.iadd, 1)) ∧ (decode cL_law 1513 = .ok (.iaload, 1)) ∧ (decode cL_law 1514 = .ok (.aload_n 0, 1)) ∧ (decode cL_law 1515 = .ok (.iload 4, 2)) ∧ (decode cL_law 1517 = .ok (.iconst 2, 1)) ∧ (decode cL_law 1518 = .ok (.iadd, 1)) ∧ (decode cL_law 1519 = .ok (.iaload, 1)) := by decide +kernel
theorem dL_law_1511 : decode cL_law 1511 = .ok (.iconst 1, 1) := dL_law_1511_g.1
theorem dL_law_1512 : decode cL_law 1512 = .ok (.iadd, 1) := dL_law_1511_g.2.1
theorem dL_law_1513 : decode cL_law 1513 = .ok (.iaload, 1) := dL_law_1511_g.2.2.1
theorem dL_law_1514 : decode cL_law 1514 = .ok (.aload_n 0, 1) := dL_law_1511_g.2.2.2.1
theorem dL_law_1515 : decode cL_law 1515 = .ok (.iload 4, 2) := dL_law_1511_g.2.2.2.2.1
theorem dL_law_1517 : decode cL_law 1517 = .ok (.iconst 2, 1) := dL_law_1511_g.2.2.2.2.2.1
theorem dL_law_1518 : decode cL_law 1518 = .ok (.iadd, 1) := dL_law_1511_g.2.2.2.2.2.2.1
theorem dL_law_1519 : decode cL_law 1519 = .ok (.iaload, 1) := dL_law_1511_g.2.2.2.2.2.2.2
theorem dL_law_1520_g : (decode cL_law 1520 = .ok (.aload_n 0, 1)) ∧ (decode cL_law 1521 = .ok (.iload 4, 2)) ∧ (decode cL_law 1523 = .ok (.iconst 3, 1)) ∧ (decode cL_law 1524 = .ok (.iadd, 1)) ∧ (decode cL_law 1525 = .ok (.iaload, 1)) ∧ (decode cL_law 1526 = .ok (.invokevirtual 157, 3)) ∧ (decode cL_law 1529 = .ok (.pop, 1)) ∧ (decode cL_law 1530 = .ok (.aload_n 2, 1)) := by decide +kernel
theorem dL_law_1520 : decode cL_law 1520 = .ok (.aload_n 0, 1) := dL_law_1520_g.1
theorem dL_law_1521 : decode cL_law 1521 = .ok (.iload 4, 2) := dL_law_1520_g.2.1
theorem dL_law_1523 : decode cL_law 1523 = .ok (.iconst 3, 1) := dL_law_1520_g.2.2.1
theorem dL_law_1524 : decode cL_law 1524 = .ok (.iadd, 1) := dL_law_1520_g.2.2.2.1
theorem dL_law_1525 : decode cL_law 1525 = .ok (.iaload, 1) := dL_law_1520_g.2.2.2.2.1
theorem dL_law_1526 : decode cL_law 1526 = .ok (.invokevirtual 157, 3) := dL_law_1520_g.2.2.2.2.2.1
theorem dL_law_1529 : decode cL_law 1529 = .ok (.pop, 1) := dL_law_1520_g.2.2.2.2.2.2.1
theorem dL_law_1530 : decode cL_law 1530 = .ok (.aload_n 2, 1) := dL_law_1520_g.2.2.2.2.2.2.2
theorem dL_law_1531_g : (decode cL_law 1531 = .ok (.aload_n 0, 1)) ∧ (decode cL_law 1532 = .ok (.iload 4, 2)) ∧ (decode cL_law 1534 = .ok (.iconst 1, 1)) ∧ (decode cL_law 1535 = .ok (.iadd, 1)) ∧ (decode cL_law 1536 = .ok (.iaload, 1)) ∧ (decode cL_law 1537 = .ok (.aload_n 0, 1)) ∧ (decode cL_law 1538 = .ok (.iload 4, 2)) ∧ (decode cL_law 1540 = .ok (.iconst 2, 1)) := by decide +kernel
theorem dL_law_1531 : decode cL_law 1531 = .ok (.aload_n 0, 1) := dL_law_1531_g.1
theorem dL_law_1532 : decode cL_law 1532 = .ok (.iload 4, 2) := dL_law_1531_g.2.1
theorem dL_law_1534 : decode cL_law 1534 = .ok (.iconst 1, 1) := dL_law_1531_g.2.2.1
theorem dL_law_1535 : decode cL_law 1535 = .ok (.iadd, 1) := dL_law_1531_g.2.2.2.1
theorem dL_law_1536 : decode cL_law 1536 = .ok (.iaload, 1) := dL_law_1531_g.2.2.2.2.1
theorem dL_law_1537 : decode cL_law 1537 = .ok (.aload_n 0, 1) := dL_law_1531_g.2.2.2.2.2.1
theorem dL_law_1538 : decode cL_law 1538 = .ok (.iload 4, 2) := dL_law_1531_g.2.2.2.2.2.2.1
theorem dL_law_1540 : decode cL_law 1540 = .ok (.iconst 2, 1) := dL_law_1531_g.2.2.2.2.2.2.2
theorem dL_law_1541_g : (decode cL_law 1541 = .ok (.iadd, 1)) ∧ (decode cL_law 1542 = .ok (.iaload, 1)) ∧ (decode cL_law 1543 = .ok (.aload_n 0, 1)) ∧ (decode cL_law 1544 = .ok (.iload 4, 2)) ∧ (decode cL_law 1546 = .ok (.iconst 3, 1)) ∧ (decode cL_law 1547 = .ok (.iadd, 1)) ∧ (decode cL_law 1548 = .ok (.iaload, 1)) ∧ (decode cL_law 1549 = .ok (.invokevirtual 160, 3)) := by decide +kernel
theorem dL_law_1541 : decode cL_law 1541 = .ok (.iadd, 1) := dL_law_1541_g.1
theorem dL_law_1542 : decode cL_law 1542 = .ok (.iaload, 1) := dL_law_1541_g.2.1
theorem dL_law_1543 : decode cL_law 1543 = .ok (.aload_n 0, 1) := dL_law_1541_g.2.2.1
theorem dL_law_1544 : decode cL_law 1544 = .ok (.iload 4, 2) := dL_law_1541_g.2.2.2.1
theorem dL_law_1546 : decode cL_law 1546 = .ok (.iconst 3, 1) := dL_law_1541_g.2.2.2.2.1
theorem dL_law_1547 : decode cL_law 1547 = .ok (.iadd, 1) := dL_law_1541_g.2.2.2.2.2.1
theorem dL_law_1548 : decode cL_law 1548 = .ok (.iaload, 1) := dL_law_1541_g.2.2.2.2.2.2.1
theorem dL_law_1549 : decode cL_law 1549 = .ok (.invokevirtual 160, 3) := dL_law_1541_g.2.2.2.2.2.2.2
theorem dL_law_1552_g : (decode cL_law 1552 = .ok (.pop, 1)) ∧ (decode cL_law 1553 = .ok (.goto 68, 3)) ∧ (decode cL_law 1556 = .ok (.aload_n 1, 1)) ∧ (decode cL_law 1557 = .ok (.aload_n 0, 1)) ∧ (decode cL_law 1558 = .ok (.iload 4, 2)) ∧ (decode cL_law 1560 = .ok (.iconst 1, 1)) ∧ (decode cL_law 1561 = .ok (.iadd, 1)) ∧ (decode cL_law 1562 = .ok (.iaload, 1)) := by decide +kernel
theorem dL_law_1552 : decode cL_law 1552 = .ok (.pop, 1) := dL_law_1552_g.1
theorem dL_law_1553 : decode cL_law 1553 = .ok (.goto 68, 3) := dL_law_1552_g.2.1
theorem dL_law_1556 : decode cL_law 1556 = .ok (.aload_n 1, 1) := dL_law_1552_g.2.2.1
theorem dL_law_1557 : decode cL_law 1557 = .ok (.aload_n 0, 1) := dL_law_1552_g.2.2.2.1
theorem dL_law_1558 : decode cL_law 1558 = .ok (.iload 4, 2) := dL_law_1552_g.2.2.2.2.1
theorem dL_law_1560 : decode cL_law 1560 = .ok (.iconst 1, 1) := dL_law_1552_g.2.2.2.2.2.1
theorem dL_law_1561 : decode cL_law 1561 = .ok (.iadd, 1) := dL_law_1552_g.2.2.2.2.2.2.1
theorem dL_law_1562 : decode cL_law 1562 = .ok (.iaload, 1) := dL_law_1552_g.2.2.2.2.2.2.2
theorem dL_law_1563_g : (decode cL_law 1563 = .ok (.aload_n 0, 1)) ∧ (decode cL_law 1564 = .ok (.iload 4, 2)) ∧ (decode cL_law 1566 = .ok (.iconst 2, 1)) ∧ (decode cL_law 1567 = .ok (.iadd, 1)) ∧ (decode cL_law 1568 = .ok (.iaload, 1)) ∧ (decode cL_law 1569 = .ok (.aload_n 0, 1)) ∧ (decode cL_law 1570 = .ok (.iload 4, 2)) ∧ (decode cL_law 1572 = .ok (.iconst 3, 1)) := by decide +kernel
theorem dL_law_1563 : decode cL_law 1563 = .ok (.aload_n 0, 1) := dL_law_1563_g.1
theorem dL_law_1564 : decode cL_law 1564 = .ok (.iload 4, 2) := dL_law_1563_g.2.1
theorem dL_law_1566 : decode cL_law 1566 = .ok (.iconst 2, 1) := dL_law_1563_g.2.2.1
theorem dL_law_1567 : decode cL_law 1567 = .ok (.iadd, 1) := dL_law_1563_g.2.2.2.1
theorem dL_law_1568 : decode cL_law 1568 = .ok (.iaload, 1) := dL_law_1563_g.2.2.2.2.1
theorem dL_law_1569 : decode cL_law 1569 = .ok (.aload_n 0, 1) := dL_law_1563_g.2.2.2.2.2.1
theorem dL_law_1570 : decode cL_law 1570 = .ok (.iload 4, 2) := dL_law_1563_g.2.2.2.2.2.2.1
theorem dL_law_1572 : decode cL_law 1572 = .ok (.iconst 3, 1) := dL_law_1563_g.2.2.2.2.2.2.2
theorem dL_law_1573_g : (decode cL_law 1573 = .ok (.iadd, 1)) ∧ (decode cL_law 1574 = .ok (.iaload, 1)) ∧ (decode cL_law 1575 = .ok (.ifCond .eq 7, 3)) ∧ (decode cL_law 1578 = .ok (.iconst 1, 1)) ∧ (decode cL_law 1579 = .ok (.goto 4, 3)) ∧ (decode cL_law 1582 = .ok (.iconst 0, 1)) ∧ (decode cL_law 1583 = .ok (.invokevirtual 161, 3)) ∧ (decode cL_law 1586 = .ok (.pop, 1)) := by decide +kernel
theorem dL_law_1573 : decode cL_law 1573 = .ok (.iadd, 1) := dL_law_1573_g.1
theorem dL_law_1574 : decode cL_law 1574 = .ok (.iaload, 1) := dL_law_1573_g.2.1
theorem dL_law_1575 : decode cL_law 1575 = .ok (.ifCond .eq 7, 3) := dL_law_1573_g.2.2.1
theorem dL_law_1578 : decode cL_law 1578 = .ok (.iconst 1, 1) := dL_law_1573_g.2.2.2.1
theorem dL_law_1579 : decode cL_law 1579 = .ok (.goto 4, 3) := dL_law_1573_g.2.2.2.2.1
theorem dL_law_1582 : decode cL_law 1582 = .ok (.iconst 0, 1) := dL_law_1573_g.2.2.2.2.2.1
theorem dL_law_1583 : decode cL_law 1583 = .ok (.invokevirtual 161, 3) := dL_law_1573_g.2.2.2.2.2.2.1
theorem dL_law_1586 : decode cL_law 1586 = .ok (.pop, 1) := dL_law_1573_g.2.2.2.2.2.2.2
theorem dL_law_1587_g : (decode cL_law 1587 = .ok (.aload_n 2, 1)) ∧ (decode cL_law 1588 = .ok (.aload_n 0, 1)) ∧ (decode cL_law 1589 = .ok (.iload 4, 2)) ∧ (decode cL_law 1591 = .ok (.iconst 1, 1)) ∧ (decode cL_law 1592 = .ok (.iadd, 1)) ∧ (decode cL_law 1593 = .ok (.iaload, 1)) := by decide +kernel
theorem dL_law_1587 : decode cL_law 1587 = .ok (.aload_n 2, 1) := dL_law_1587_g.1
theorem dL_law_1588 : decode cL_law 1588 = .ok (.aload_n 0, 1) := dL_law_1587_g.2.1
theorem dL_law_1589 : decode cL_law 1589 = .ok (.iload 4, 2) := dL_law_1587_g.2.2.1
theorem dL_law_1591 : decode cL_law 1591 = .ok (.iconst 1, 1) := dL_law_1587_g.2.2.2.1
theorem dL_law_1592 : decode cL_law 1592 = .ok (.iadd, 1) := dL_law_1587_g.2.2.2.2.1
theorem dL_law_1593 : decode cL_law 1593 = .ok (.iaload, 1) := dL_law_1587_g.2.2.2.2.2

