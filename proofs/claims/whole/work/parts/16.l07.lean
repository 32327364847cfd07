theorem dL_1334 : decode code 1334 = .ok (.iconst 1, 1) := by decide +kernel
theorem dL_1335 : decode code 1335 = .ok (.iadd, 1) := by decide +kernel
theorem dL_1336 : decode code 1336 = .ok (.iaload, 1) := by decide +kernel
theorem dL_1337 : decode code 1337 = .ok (.invokevirtual 147, 3) := by decide +kernel
theorem dL_1340 : decode code 1340 = .ok (.if_icmp .eq 290, 3) := by decide +kernel
theorem dL_1343 : decode code 1343 = .ok (.iconst 0, 1) := by decide +kernel
theorem dL_1344 : decode code 1344 = .ok (.ireturn, 1) := by decide +kernel
theorem dL_1345 : decode code 1345 = .ok (.aload_n 1, 1) := by decide +kernel
theorem dL_1346 : decode code 1346 = .ok (.aload_n 0, 1) := by decide +kernel
theorem dL_1347 : decode code 1347 = .ok (.iload_n 3, 1) := by decide +kernel
theorem dL_1348 : decode code 1348 = .ok (.iconst 1, 1) := by decide +kernel
theorem dL_1349 : decode code 1349 = .ok (.iadd, 1) := by decide +kernel
theorem dL_1350 : decode code 1350 = .ok (.iaload, 1) := by decide +kernel
theorem dL_1351 : decode code 1351 = .ok (.aload_n 0, 1) := by decide +kernel
theorem dL_1352 : decode code 1352 = .ok (.iload_n 3, 1) := by decide +kernel
theorem dL_1353 : decode code 1353 = .ok (.iconst 2, 1) := by decide +kernel
theorem dL_1354 : decode code 1354 = .ok (.iadd, 1) := by decide +kernel
theorem dL_1355 : decode code 1355 = .ok (.iaload, 1) := by decide +kernel
theorem dL_1356 : decode code 1356 = .ok (.aload_n 0, 1) := by decide +kernel
theorem dL_1357 : decode code 1357 = .ok (.iload_n 3, 1) := by decide +kernel
theorem dL_1358 : decode code 1358 = .ok (.iconst 3, 1) := by decide +kernel
theorem dL_1359 : decode code 1359 = .ok (.iadd, 1) := by decide +kernel
theorem dL_1360 : decode code 1360 = .ok (.iaload, 1) := by decide +kernel
theorem dL_1361 : decode code 1361 = .ok (.invokevirtual 148, 3) := by decide +kernel
theorem dL_1364 : decode code 1364 = .ok (.aload_n 2, 1) := by decide +kernel
theorem dL_1365 : decode code 1365 = .ok (.aload_n 0, 1) := by decide +kernel
theorem dL_1366 : decode code 1366 = .ok (.iload_n 3, 1) := by decide +kernel
theorem dL_1367 : decode code 1367 = .ok (.iconst 1, 1) := by decide +kernel
theorem dL_1368 : decode code 1368 = .ok (.iadd, 1) := by decide +kernel
theorem dL_1369 : decode code 1369 = .ok (.iaload, 1) := by decide +kernel
theorem dL_1370 : decode code 1370 = .ok (.aload_n 0, 1) := by decide +kernel
theorem dL_1371 : decode code 1371 = .ok (.iload_n 3, 1) := by decide +kernel
theorem dL_1372 : decode code 1372 = .ok (.iconst 2, 1) := by decide +kernel
theorem dL_1373 : decode code 1373 = .ok (.iadd, 1) := by decide +kernel
theorem dL_1374 : decode code 1374 = .ok (.iaload, 1) := by decide +kernel
theorem dL_1375 : decode code 1375 = .ok (.aload_n 0, 1) := by decide +kernel
theorem dL_1376 : decode code 1376 = .ok (.iload_n 3, 1) := by decide +kernel
theorem dL_1377 : decode code 1377 = .ok (.iconst 3, 1) := by decide +kernel
theorem dL_1378 : decode code 1378 = .ok (.iadd, 1) := by decide +kernel
theorem dL_1379 : decode code 1379 = .ok (.iaload, 1) := by decide +kernel
theorem dL_1380 : decode code 1380 = .ok (.invokevirtual 151, 3) := by decide +kernel
theorem dL_1383 : decode code 1383 = .ok (.if_icmp .eq 247, 3) := by decide +kernel
theorem dL_1386 : decode code 1386 = .ok (.iconst 0, 1) := by decide +kernel
theorem dL_1387 : decode code 1387 = .ok (.ireturn, 1) := by decide +kernel
theorem dL_1388 : decode code 1388 = .ok (.aload_n 1, 1) := by decide +kernel
theorem dL_1389 : decode code 1389 = .ok (.aload_n 0, 1) := by decide +kernel
theorem dL_1390 : decode code 1390 = .ok (.iload_n 3, 1) := by decide +kernel
theorem dL_1391 : decode code 1391 = .ok (.iconst 1, 1) := by decide +kernel
theorem dL_1392 : decode code 1392 = .ok (.iadd, 1) := by decide +kernel
theorem dL_1393 : decode code 1393 = .ok (.iaload, 1) := by decide +kernel
theorem dL_1394 : decode code 1394 = .ok (.aload_n 0, 1) := by decide +kernel
theorem dL_1395 : decode code 1395 = .ok (.iload_n 3, 1) := by decide +kernel
theorem dL_1396 : decode code 1396 = .ok (.iconst 2, 1) := by decide +kernel
theorem dL_1397 : decode code 1397 = .ok (.iadd, 1) := by decide +kernel
theorem dL_1398 : decode code 1398 = .ok (.iaload, 1) := by decide +kernel
theorem dL_1399 : decode code 1399 = .ok (.aload_n 0, 1) := by decide +kernel
theorem dL_1400 : decode code 1400 = .ok (.iload_n 3, 1) := by decide +kernel
theorem dL_1401 : decode code 1401 = .ok (.iconst 3, 1) := by decide +kernel
theorem dL_1402 : decode code 1402 = .ok (.iadd, 1) := by decide +kernel
theorem dL_1403 : decode code 1403 = .ok (.iaload, 1) := by decide +kernel
theorem dL_1404 : decode code 1404 = .ok (.invokevirtual 152, 3) := by decide +kernel
theorem dL_1407 : decode code 1407 = .ok (.aload_n 2, 1) := by decide +kernel
theorem dL_1408 : decode code 1408 = .ok (.aload_n 0, 1) := by decide +kernel
theorem dL_1409 : decode code 1409 = .ok (.iload_n 3, 1) := by decide +kernel
theorem dL_1410 : decode code 1410 = .ok (.iconst 1, 1) := by decide +kernel
theorem dL_1411 : decode code 1411 = .ok (.iadd, 1) := by decide +kernel
theorem dL_1412 : decode code 1412 = .ok (.iaload, 1) := by decide +kernel
theorem dL_1413 : decode code 1413 = .ok (.aload_n 0, 1) := by decide +kernel
theorem dL_1414 : decode code 1414 = .ok (.iload_n 3, 1) := by decide +kernel
theorem dL_1415 : decode code 1415 = .ok (.iconst 2, 1) := by decide +kernel
theorem dL_1416 : decode code 1416 = .ok (.iadd, 1) := by decide +kernel
theorem dL_1417 : decode code 1417 = .ok (.iaload, 1) := by decide +kernel
theorem dL_1418 : decode code 1418 = .ok (.aload_n 0, 1) := by decide +kernel
theorem dL_1419 : decode code 1419 = .ok (.iload_n 3, 1) := by decide +kernel
theorem dL_1420 : decode code 1420 = .ok (.iconst 3, 1) := by decide +kernel
theorem dL_1421 : decode code 1421 = .ok (.iadd, 1) := by decide +kernel
theorem dL_1422 : decode code 1422 = .ok (.iaload, 1) := by decide +kernel
theorem dL_1423 : decode code 1423 = .ok (.invokevirtual 155, 3) := by decide +kernel
theorem dL_1426 : decode code 1426 = .ok (.if_icmp .eq 204, 3) := by decide +kernel
theorem dL_1429 : decode code 1429 = .ok (.iconst 0, 1) := by decide +kernel
theorem dL_1430 : decode code 1430 = .ok (.ireturn, 1) := by decide +kernel
theorem dL_1431 : decode code 1431 = .ok (.aload_n 1, 1) := by decide +kernel
theorem dL_1432 : decode code 1432 = .ok (.aload_n 0, 1) := by decide +kernel
theorem dL_1433 : decode code 1433 = .ok (.iload_n 3, 1) := by decide +kernel
theorem dL_1434 : decode code 1434 = .ok (.iconst 1, 1) := by decide +kernel
theorem dL_1435 : decode code 1435 = .ok (.iadd, 1) := by decide +kernel
theorem dL_1436 : decode code 1436 = .ok (.iaload, 1) := by decide +kernel
theorem dL_1437 : decode code 1437 = .ok (.aload_n 0, 1) := by decide +kernel
theorem dL_1438 : decode code 1438 = .ok (.iload_n 3, 1) := by decide +kernel
theorem dL_1439 : decode code 1439 = .ok (.iconst 2, 1) := by decide +kernel
theorem dL_1440 : decode code 1440 = .ok (.iadd, 1) := by decide +kernel
theorem dL_1441 : decode code 1441 = .ok (.iaload, 1) := by decide +kernel
theorem dL_1442 : decode code 1442 = .ok (.invokevirtual 156, 3) := by decide +kernel
theorem dL_1445 : decode code 1445 = .ok (.aload_n 2, 1) := by decide +kernel
theorem dL_1446 : decode code 1446 = .ok (.aload_n 0, 1) := by decide +kernel
theorem dL_1447 : decode code 1447 = .ok (.iload_n 3, 1) := by decide +kernel
theorem dL_1448 : decode code 1448 = .ok (.iconst 1, 1) := by decide +kernel
theorem dL_1449 : decode code 1449 = .ok (.iadd, 1) := by decide +kernel
theorem dL_1450 : decode code 1450 = .ok (.iaload, 1) := by decide +kernel
theorem dL_1451 : decode code 1451 = .ok (.aload_n 0, 1) := by decide +kernel
theorem dL_1452 : decode code 1452 = .ok (.iload_n 3, 1) := by decide +kernel
theorem dL_1453 : decode code 1453 = .ok (.iconst 2, 1) := by decide +kernel
theorem dL_1454 : decode code 1454 = .ok (.iadd, 1) := by decide +kernel
theorem dL_1455 : decode code 1455 = .ok (.iaload, 1) := by decide +kernel
theorem dL_1456 : decode code 1456 = .ok (.invokevirtual 160, 3) := by decide +kernel
theorem dL_1459 : decode code 1459 = .ok (.lcmp, 1) := by decide +kernel
theorem dL_1460 : decode code 1460 = .ok (.ifCond .eq 170, 3) := by decide +kernel
theorem dL_1463 : decode code 1463 = .ok (.iconst 0, 1) := by decide +kernel
theorem dL_1464 : decode code 1464 = .ok (.ireturn, 1) := by decide +kernel
theorem dL_1465 : decode code 1465 = .ok (.aload_n 1, 1) := by decide +kernel
theorem dL_1466 : decode code 1466 = .ok (.aload_n 0, 1) := by decide +kernel
theorem dL_1467 : decode code 1467 = .ok (.iload_n 3, 1) := by decide +kernel
theorem dL_1468 : decode code 1468 = .ok (.iconst 1, 1) := by decide +kernel
theorem dL_1469 : decode code 1469 = .ok (.iadd, 1) := by decide +kernel
theorem dL_1470 : decode code 1470 = .ok (.iaload, 1) := by decide +kernel
theorem dL_1471 : decode code 1471 = .ok (.aload_n 0, 1) := by decide +kernel
theorem dL_1472 : decode code 1472 = .ok (.iload_n 3, 1) := by decide +kernel
theorem dL_1473 : decode code 1473 = .ok (.iconst 2, 1) := by decide +kernel
theorem dL_1474 : decode code 1474 = .ok (.iadd, 1) := by decide +kernel
theorem dL_1475 : decode code 1475 = .ok (.iaload, 1) := by decide +kernel
theorem dL_1476 : decode code 1476 = .ok (.aload_n 0, 1) := by decide +kernel
theorem dL_1477 : decode code 1477 = .ok (.iload_n 3, 1) := by decide +kernel
theorem dL_1478 : decode code 1478 = .ok (.iconst 3, 1) := by decide +kernel
theorem dL_1479 : decode code 1479 = .ok (.iadd, 1) := by decide +kernel
theorem dL_1480 : decode code 1480 = .ok (.iaload, 1) := by decide +kernel
theorem dL_1481 : decode code 1481 = .ok (.aload_n 0, 1) := by decide +kernel
theorem dL_1482 : decode code 1482 = .ok (.iload_n 3, 1) := by decide +kernel
theorem dL_1483 : decode code 1483 = .ok (.iconst 4, 1) := by decide +kernel
theorem dL_1484 : decode code 1484 = .ok (.iadd, 1) := by decide +kernel
theorem dL_1485 : decode code 1485 = .ok (.iaload, 1) := by decide +kernel
theorem dL_1486 : decode code 1486 = .ok (.aload_n 0, 1) := by decide +kernel
theorem dL_1487 : decode code 1487 = .ok (.iload_n 3, 1) := by decide +kernel
theorem dL_1488 : decode code 1488 = .ok (.iconst 5, 1) := by decide +kernel
theorem dL_1489 : decode code 1489 = .ok (.iadd, 1) := by decide +kernel
theorem dL_1490 : decode code 1490 = .ok (.iaload, 1) := by decide +kernel
theorem dL_1491 : decode code 1491 = .ok (.invokevirtual 161, 3) := by decide +kernel
theorem dL_1494 : decode code 1494 = .ok (.aload_n 2, 1) := by decide +kernel
theorem dL_1495 : decode code 1495 = .ok (.aload_n 0, 1) := by decide +kernel
theorem dL_1496 : decode code 1496 = .ok (.iload_n 3, 1) := by decide +kernel
theorem dL_1497 : decode code 1497 = .ok (.iconst 1, 1) := by decide +kernel
theorem dL_1498 : decode code 1498 = .ok (.iadd, 1) := by decide +kernel
theorem dL_1499 : decode code 1499 = .ok (.iaload, 1) := by decide +kernel
theorem dL_1500 : decode code 1500 = .ok (.aload_n 0, 1) := by decide +kernel
theorem dL_1501 : decode code 1501 = .ok (.iload_n 3, 1) := by decide +kernel
theorem dL_1502 : decode code 1502 = .ok (.iconst 2, 1) := by decide +kernel
theorem dL_1503 : decode code 1503 = .ok (.iadd, 1) := by decide +kernel
theorem dL_1504 : decode code 1504 = .ok (.iaload, 1) := by decide +kernel
theorem dL_1505 : decode code 1505 = .ok (.aload_n 0, 1) := by decide +kernel
theorem dL_1506 : decode code 1506 = .ok (.iload_n 3, 1) := by decide +kernel
theorem dL_1507 : decode code 1507 = .ok (.iconst 3, 1) := by decide +kernel
theorem dL_1508 : decode code 1508 = .ok (.iadd, 1) := by decide +kernel
theorem dL_1509 : decode code 1509 = .ok (.iaload, 1) := by decide +kernel
theorem dL_1510 : decode code 1510 = .ok (.aload_n 0, 1) := by decide +kernel
theorem dL_1511 : decode code 1511 = .ok (.iload_n 3, 1) := by decide +kernel
theorem dL_1512 : decode code 1512 = .ok (.iconst 4, 1) := by decide +kernel
theorem dL_1513 : decode code 1513 = .ok (.iadd, 1) := by decide +kernel
theorem dL_1514 : decode code 1514 = .ok (.iaload, 1) := by decide +kernel
theorem dL_1515 : decode code 1515 = .ok (.aload_n 0, 1) := by decide +kernel
theorem dL_1516 : decode code 1516 = .ok (.iload_n 3, 1) := by decide +kernel
theorem dL_1517 : decode code 1517 = .ok (.iconst 5, 1) := by decide +kernel
