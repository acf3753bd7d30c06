/-! the walk runs: 7 -/
set_option maxRecDepth 100000 in
theorem w_g1393 : w_g (nat_lit 1393) = true := by decide +kernel
theorem w_r1394 : w_rg 1394 := w_rg_s (n := 1393) w_r1393 w_g1393
set_option maxRecDepth 100000 in
theorem w_g1394 : w_g (nat_lit 1394) = true := by decide +kernel
theorem w_r1395 : w_rg 1395 := w_rg_s (n := 1394) w_r1394 w_g1394
set_option maxRecDepth 100000 in
theorem w_g1395 : w_g (nat_lit 1395) = true := by decide +kernel
theorem w_r1396 : w_rg 1396 := w_rg_s (n := 1395) w_r1395 w_g1395
set_option maxRecDepth 100000 in
theorem w_g1396 : w_g (nat_lit 1396) = true := by decide +kernel
theorem w_r1397 : w_rg 1397 := w_rg_s (n := 1396) w_r1396 w_g1396
set_option maxRecDepth 100000 in
theorem w_g1397 : w_g (nat_lit 1397) = true := by decide +kernel
theorem w_r1398 : w_rg 1398 := w_rg_s (n := 1397) w_r1397 w_g1397
set_option maxRecDepth 100000 in
theorem w_g1398 : w_g (nat_lit 1398) = true := by decide +kernel
theorem w_r1399 : w_rg 1399 := w_rg_s (n := 1398) w_r1398 w_g1398
set_option maxRecDepth 100000 in
theorem w_g1399 : w_g (nat_lit 1399) = true := by decide +kernel
theorem w_r1400 : w_rg 1400 := w_rg_s (n := 1399) w_r1399 w_g1399
set_option maxRecDepth 100000 in
theorem w_g1400 : w_g (nat_lit 1400) = true := by decide +kernel
theorem w_r1401 : w_rg 1401 := w_rg_s (n := 1400) w_r1400 w_g1400
set_option maxRecDepth 100000 in
theorem w_g1401 : w_g (nat_lit 1401) = true := by decide +kernel
theorem w_r1402 : w_rg 1402 := w_rg_s (n := 1401) w_r1401 w_g1401
set_option maxRecDepth 100000 in
theorem w_g1402 : w_g (nat_lit 1402) = true := by decide +kernel
theorem w_r1403 : w_rg 1403 := w_rg_s (n := 1402) w_r1402 w_g1402
set_option maxRecDepth 100000 in
theorem w_g1403 : w_g (nat_lit 1403) = true := by decide +kernel
theorem w_r1404 : w_rg 1404 := w_rg_s (n := 1403) w_r1403 w_g1403
set_option maxRecDepth 100000 in
theorem w_g1404 : w_g (nat_lit 1404) = true := by decide +kernel
theorem w_r1405 : w_rg 1405 := w_rg_s (n := 1404) w_r1404 w_g1404
set_option maxRecDepth 100000 in
theorem w_g1405 : w_g (nat_lit 1405) = true := by decide +kernel
theorem w_r1406 : w_rg 1406 := w_rg_s (n := 1405) w_r1405 w_g1405
set_option maxRecDepth 100000 in
theorem w_g1406 : w_g (nat_lit 1406) = true := by decide +kernel
theorem w_r1407 : w_rg 1407 := w_rg_s (n := 1406) w_r1406 w_g1406
set_option maxRecDepth 100000 in
theorem w_g1407 : w_g (nat_lit 1407) = true := by decide +kernel
theorem w_r1408 : w_rg 1408 := w_rg_s (n := 1407) w_r1407 w_g1407
set_option maxRecDepth 100000 in
theorem w_g1408 : w_g (nat_lit 1408) = true := by decide +kernel
theorem w_r1409 : w_rg 1409 := w_rg_s (n := 1408) w_r1408 w_g1408
set_option maxRecDepth 100000 in
theorem w_g1409 : w_g (nat_lit 1409) = true := by decide +kernel
theorem w_r1410 : w_rg 1410 := w_rg_s (n := 1409) w_r1409 w_g1409
set_option maxRecDepth 100000 in
theorem w_g1410 : w_g (nat_lit 1410) = true := by decide +kernel
theorem w_r1411 : w_rg 1411 := w_rg_s (n := 1410) w_r1410 w_g1410
set_option maxRecDepth 100000 in
theorem w_g1411 : w_g (nat_lit 1411) = true := by decide +kernel
theorem w_r1412 : w_rg 1412 := w_rg_s (n := 1411) w_r1411 w_g1411
set_option maxRecDepth 100000 in
theorem w_g1412 : w_g (nat_lit 1412) = true := by decide +kernel
theorem w_r1413 : w_rg 1413 := w_rg_s (n := 1412) w_r1412 w_g1412
set_option maxRecDepth 100000 in
theorem w_g1413 : w_g (nat_lit 1413) = true := by decide +kernel
theorem w_r1414 : w_rg 1414 := w_rg_s (n := 1413) w_r1413 w_g1413
set_option maxRecDepth 100000 in
theorem w_g1414 : w_g (nat_lit 1414) = true := by decide +kernel
theorem w_r1415 : w_rg 1415 := w_rg_s (n := 1414) w_r1414 w_g1414
set_option maxRecDepth 100000 in
theorem w_g1415 : w_g (nat_lit 1415) = true := by decide +kernel
theorem w_r1416 : w_rg 1416 := w_rg_s (n := 1415) w_r1415 w_g1415
set_option maxRecDepth 100000 in
theorem w_g1416 : w_g (nat_lit 1416) = true := by decide +kernel
theorem w_r1417 : w_rg 1417 := w_rg_s (n := 1416) w_r1416 w_g1416
set_option maxRecDepth 100000 in
theorem w_g1417 : w_g (nat_lit 1417) = true := by decide +kernel
theorem w_r1418 : w_rg 1418 := w_rg_s (n := 1417) w_r1417 w_g1417
set_option maxRecDepth 100000 in
theorem w_g1418 : w_g (nat_lit 1418) = true := by decide +kernel
theorem w_r1419 : w_rg 1419 := w_rg_s (n := 1418) w_r1418 w_g1418
set_option maxRecDepth 100000 in
theorem w_g1419 : w_g (nat_lit 1419) = true := by decide +kernel
theorem w_r1420 : w_rg 1420 := w_rg_s (n := 1419) w_r1419 w_g1419
set_option maxRecDepth 100000 in
theorem w_g1420 : w_g (nat_lit 1420) = true := by decide +kernel
theorem w_r1421 : w_rg 1421 := w_rg_s (n := 1420) w_r1420 w_g1420
set_option maxRecDepth 100000 in
theorem w_g1421 : w_g (nat_lit 1421) = true := by decide +kernel
theorem w_r1422 : w_rg 1422 := w_rg_s (n := 1421) w_r1421 w_g1421
set_option maxRecDepth 100000 in
theorem w_g1422 : w_g (nat_lit 1422) = true := by decide +kernel
theorem w_r1423 : w_rg 1423 := w_rg_s (n := 1422) w_r1422 w_g1422
set_option maxRecDepth 100000 in
theorem w_g1423 : w_g (nat_lit 1423) = true := by decide +kernel
theorem w_r1424 : w_rg 1424 := w_rg_s (n := 1423) w_r1423 w_g1423
set_option maxRecDepth 100000 in
theorem w_g1424 : w_g (nat_lit 1424) = true := by decide +kernel
theorem w_r1425 : w_rg 1425 := w_rg_s (n := 1424) w_r1424 w_g1424
set_option maxRecDepth 100000 in
theorem w_g1425 : w_g (nat_lit 1425) = true := by decide +kernel
theorem w_r1426 : w_rg 1426 := w_rg_s (n := 1425) w_r1425 w_g1425
set_option maxRecDepth 100000 in
theorem w_g1426 : w_g (nat_lit 1426) = true := by decide +kernel
theorem w_r1427 : w_rg 1427 := w_rg_s (n := 1426) w_r1426 w_g1426
set_option maxRecDepth 100000 in
theorem w_g1427 : w_g (nat_lit 1427) = true := by decide +kernel
theorem w_r1428 : w_rg 1428 := w_rg_s (n := 1427) w_r1427 w_g1427
set_option maxRecDepth 100000 in
theorem w_g1428 : w_g (nat_lit 1428) = true := by decide +kernel
theorem w_r1429 : w_rg 1429 := w_rg_s (n := 1428) w_r1428 w_g1428
set_option maxRecDepth 100000 in
theorem w_g1429 : w_g (nat_lit 1429) = true := by decide +kernel
theorem w_r1430 : w_rg 1430 := w_rg_s (n := 1429) w_r1429 w_g1429
set_option maxRecDepth 100000 in
theorem w_g1430 : w_g (nat_lit 1430) = true := by decide +kernel
theorem w_r1431 : w_rg 1431 := w_rg_s (n := 1430) w_r1430 w_g1430
set_option maxRecDepth 100000 in
theorem w_g1431 : w_g (nat_lit 1431) = true := by decide +kernel
theorem w_r1432 : w_rg 1432 := w_rg_s (n := 1431) w_r1431 w_g1431
set_option maxRecDepth 100000 in
theorem w_g1432 : w_g (nat_lit 1432) = true := by decide +kernel
theorem w_r1433 : w_rg 1433 := w_rg_s (n := 1432) w_r1432 w_g1432
set_option maxRecDepth 100000 in
theorem w_g1433 : w_g (nat_lit 1433) = true := by decide +kernel
theorem w_r1434 : w_rg 1434 := w_rg_s (n := 1433) w_r1433 w_g1433
set_option maxRecDepth 100000 in
theorem w_g1434 : w_g (nat_lit 1434) = true := by decide +kernel
theorem w_r1435 : w_rg 1435 := w_rg_s (n := 1434) w_r1434 w_g1434
set_option maxRecDepth 100000 in
theorem w_g1435 : w_g (nat_lit 1435) = true := by decide +kernel
theorem w_r1436 : w_rg 1436 := w_rg_s (n := 1435) w_r1435 w_g1435
set_option maxRecDepth 100000 in
theorem w_g1436 : w_g (nat_lit 1436) = true := by decide +kernel
theorem w_r1437 : w_rg 1437 := w_rg_s (n := 1436) w_r1436 w_g1436
set_option maxRecDepth 100000 in
theorem w_g1437 : w_g (nat_lit 1437) = true := by decide +kernel
theorem w_r1438 : w_rg 1438 := w_rg_s (n := 1437) w_r1437 w_g1437
set_option maxRecDepth 100000 in
theorem w_g1438 : w_g (nat_lit 1438) = true := by decide +kernel
theorem w_r1439 : w_rg 1439 := w_rg_s (n := 1438) w_r1438 w_g1438
set_option maxRecDepth 100000 in
theorem w_g1439 : w_g (nat_lit 1439) = true := by decide +kernel
theorem w_r1440 : w_rg 1440 := w_rg_s (n := 1439) w_r1439 w_g1439
set_option maxRecDepth 100000 in
theorem w_g1440 : w_g (nat_lit 1440) = true := by decide +kernel
theorem w_r1441 : w_rg 1441 := w_rg_s (n := 1440) w_r1440 w_g1440
set_option maxRecDepth 100000 in
theorem w_g1441 : w_g (nat_lit 1441) = true := by decide +kernel
theorem w_r1442 : w_rg 1442 := w_rg_s (n := 1441) w_r1441 w_g1441
set_option maxRecDepth 100000 in
theorem w_g1442 : w_g (nat_lit 1442) = true := by decide +kernel
theorem w_r1443 : w_rg 1443 := w_rg_s (n := 1442) w_r1442 w_g1442
set_option maxRecDepth 100000 in
theorem w_g1443 : w_g (nat_lit 1443) = true := by decide +kernel
theorem w_r1444 : w_rg 1444 := w_rg_s (n := 1443) w_r1443 w_g1443
set_option maxRecDepth 100000 in
theorem w_g1444 : w_g (nat_lit 1444) = true := by decide +kernel
theorem w_r1445 : w_rg 1445 := w_rg_s (n := 1444) w_r1444 w_g1444
set_option maxRecDepth 100000 in
theorem w_g1445 : w_g (nat_lit 1445) = true := by decide +kernel
theorem w_r1446 : w_rg 1446 := w_rg_s (n := 1445) w_r1445 w_g1445
set_option maxRecDepth 100000 in
theorem w_g1446 : w_g (nat_lit 1446) = true := by decide +kernel
theorem w_r1447 : w_rg 1447 := w_rg_s (n := 1446) w_r1446 w_g1446
set_option maxRecDepth 100000 in
theorem w_g1447 : w_g (nat_lit 1447) = true := by decide +kernel
theorem w_r1448 : w_rg 1448 := w_rg_s (n := 1447) w_r1447 w_g1447
set_option maxRecDepth 100000 in
theorem w_g1448 : w_g (nat_lit 1448) = true := by decide +kernel
theorem w_r1449 : w_rg 1449 := w_rg_s (n := 1448) w_r1448 w_g1448
set_option maxRecDepth 100000 in
theorem w_g1449 : w_g (nat_lit 1449) = true := by decide +kernel
theorem w_r1450 : w_rg 1450 := w_rg_s (n := 1449) w_r1449 w_g1449
set_option maxRecDepth 100000 in
theorem w_g1450 : w_g (nat_lit 1450) = true := by decide +kernel
theorem w_r1451 : w_rg 1451 := w_rg_s (n := 1450) w_r1450 w_g1450
set_option maxRecDepth 100000 in
theorem w_g1451 : w_g (nat_lit 1451) = true := by decide +kernel
theorem w_r1452 : w_rg 1452 := w_rg_s (n := 1451) w_r1451 w_g1451
set_option maxRecDepth 100000 in
theorem w_g1452 : w_g (nat_lit 1452) = true := by decide +kernel
theorem w_r1453 : w_rg 1453 := w_rg_s (n := 1452) w_r1452 w_g1452
set_option maxRecDepth 100000 in
theorem w_g1453 : w_g (nat_lit 1453) = true := by decide +kernel
theorem w_r1454 : w_rg 1454 := w_rg_s (n := 1453) w_r1453 w_g1453
set_option maxRecDepth 100000 in
theorem w_g1454 : w_g (nat_lit 1454) = true := by decide +kernel
theorem w_r1455 : w_rg 1455 := w_rg_s (n := 1454) w_r1454 w_g1454
set_option maxRecDepth 100000 in
theorem w_g1455 : w_g (nat_lit 1455) = true := by decide +kernel
theorem w_r1456 : w_rg 1456 := w_rg_s (n := 1455) w_r1455 w_g1455
set_option maxRecDepth 100000 in
theorem w_g1456 : w_g (nat_lit 1456) = true := by decide +kernel
theorem w_r1457 : w_rg 1457 := w_rg_s (n := 1456) w_r1456 w_g1456
set_option maxRecDepth 100000 in
theorem w_g1457 : w_g (nat_lit 1457) = true := by decide +kernel
theorem w_r1458 : w_rg 1458 := w_rg_s (n := 1457) w_r1457 w_g1457
set_option maxRecDepth 100000 in
theorem w_g1458 : w_g (nat_lit 1458) = true := by decide +kernel
theorem w_r1459 : w_rg 1459 := w_rg_s (n := 1458) w_r1458 w_g1458
set_option maxRecDepth 100000 in
theorem w_g1459 : w_g (nat_lit 1459) = true := by decide +kernel
theorem w_r1460 : w_rg 1460 := w_rg_s (n := 1459) w_r1459 w_g1459
set_option maxRecDepth 100000 in
theorem w_g1460 : w_g (nat_lit 1460) = true := by decide +kernel
theorem w_r1461 : w_rg 1461 := w_rg_s (n := 1460) w_r1460 w_g1460
set_option maxRecDepth 100000 in
theorem w_g1461 : w_g (nat_lit 1461) = true := by decide +kernel
theorem w_r1462 : w_rg 1462 := w_rg_s (n := 1461) w_r1461 w_g1461
set_option maxRecDepth 100000 in
theorem w_g1462 : w_g (nat_lit 1462) = true := by decide +kernel
theorem w_r1463 : w_rg 1463 := w_rg_s (n := 1462) w_r1462 w_g1462
set_option maxRecDepth 100000 in
theorem w_g1463 : w_g (nat_lit 1463) = true := by decide +kernel
theorem w_r1464 : w_rg 1464 := w_rg_s (n := 1463) w_r1463 w_g1463
set_option maxRecDepth 100000 in
theorem w_g1464 : w_g (nat_lit 1464) = true := by decide +kernel
theorem w_r1465 : w_rg 1465 := w_rg_s (n := 1464) w_r1464 w_g1464
set_option maxRecDepth 100000 in
theorem w_g1465 : w_g (nat_lit 1465) = true := by decide +kernel
theorem w_r1466 : w_rg 1466 := w_rg_s (n := 1465) w_r1465 w_g1465
set_option maxRecDepth 100000 in
theorem w_g1466 : w_g (nat_lit 1466) = true := by decide +kernel
theorem w_r1467 : w_rg 1467 := w_rg_s (n := 1466) w_r1466 w_g1466
set_option maxRecDepth 100000 in
theorem w_g1467 : w_g (nat_lit 1467) = true := by decide +kernel
theorem w_r1468 : w_rg 1468 := w_rg_s (n := 1467) w_r1467 w_g1467
set_option maxRecDepth 100000 in
theorem w_g1468 : w_g (nat_lit 1468) = true := by decide +kernel
theorem w_r1469 : w_rg 1469 := w_rg_s (n := 1468) w_r1468 w_g1468
set_option maxRecDepth 100000 in
theorem w_g1469 : w_g (nat_lit 1469) = true := by decide +kernel
theorem w_r1470 : w_rg 1470 := w_rg_s (n := 1469) w_r1469 w_g1469
set_option maxRecDepth 100000 in
theorem w_g1470 : w_g (nat_lit 1470) = true := by decide +kernel
theorem w_r1471 : w_rg 1471 := w_rg_s (n := 1470) w_r1470 w_g1470
set_option maxRecDepth 100000 in
theorem w_g1471 : w_g (nat_lit 1471) = true := by decide +kernel
theorem w_r1472 : w_rg 1472 := w_rg_s (n := 1471) w_r1471 w_g1471
set_option maxRecDepth 100000 in
theorem w_g1472 : w_g (nat_lit 1472) = true := by decide +kernel
theorem w_r1473 : w_rg 1473 := w_rg_s (n := 1472) w_r1472 w_g1472
set_option maxRecDepth 100000 in
theorem w_g1473 : w_g (nat_lit 1473) = true := by decide +kernel
theorem w_r1474 : w_rg 1474 := w_rg_s (n := 1473) w_r1473 w_g1473
set_option maxRecDepth 100000 in
theorem w_g1474 : w_g (nat_lit 1474) = true := by decide +kernel
theorem w_r1475 : w_rg 1475 := w_rg_s (n := 1474) w_r1474 w_g1474
set_option maxRecDepth 100000 in
theorem w_g1475 : w_g (nat_lit 1475) = true := by decide +kernel
theorem w_r1476 : w_rg 1476 := w_rg_s (n := 1475) w_r1475 w_g1475
set_option maxRecDepth 100000 in
theorem w_g1476 : w_g (nat_lit 1476) = true := by decide +kernel
theorem w_r1477 : w_rg 1477 := w_rg_s (n := 1476) w_r1476 w_g1476
set_option maxRecDepth 100000 in
theorem w_g1477 : w_g (nat_lit 1477) = true := by decide +kernel
theorem w_r1478 : w_rg 1478 := w_rg_s (n := 1477) w_r1477 w_g1477
set_option maxRecDepth 100000 in
theorem w_g1478 : w_g (nat_lit 1478) = true := by decide +kernel
theorem w_r1479 : w_rg 1479 := w_rg_s (n := 1478) w_r1478 w_g1478
set_option maxRecDepth 100000 in
theorem w_g1479 : w_g (nat_lit 1479) = true := by decide +kernel
theorem w_r1480 : w_rg 1480 := w_rg_s (n := 1479) w_r1479 w_g1479
set_option maxRecDepth 100000 in
theorem w_g1480 : w_g (nat_lit 1480) = true := by decide +kernel
theorem w_r1481 : w_rg 1481 := w_rg_s (n := 1480) w_r1480 w_g1480
set_option maxRecDepth 100000 in
theorem w_g1481 : w_g (nat_lit 1481) = true := by decide +kernel
theorem w_r1482 : w_rg 1482 := w_rg_s (n := 1481) w_r1481 w_g1481
set_option maxRecDepth 100000 in
theorem w_g1482 : w_g (nat_lit 1482) = true := by decide +kernel
theorem w_r1483 : w_rg 1483 := w_rg_s (n := 1482) w_r1482 w_g1482
set_option maxRecDepth 100000 in
theorem w_g1483 : w_g (nat_lit 1483) = true := by decide +kernel
theorem w_r1484 : w_rg 1484 := w_rg_s (n := 1483) w_r1483 w_g1483
set_option maxRecDepth 100000 in
theorem w_g1484 : w_g (nat_lit 1484) = true := by decide +kernel
theorem w_r1485 : w_rg 1485 := w_rg_s (n := 1484) w_r1484 w_g1484
set_option maxRecDepth 100000 in
theorem w_g1485 : w_g (nat_lit 1485) = true := by decide +kernel
theorem w_r1486 : w_rg 1486 := w_rg_s (n := 1485) w_r1485 w_g1485
set_option maxRecDepth 100000 in
theorem w_g1486 : w_g (nat_lit 1486) = true := by decide +kernel
theorem w_r1487 : w_rg 1487 := w_rg_s (n := 1486) w_r1486 w_g1486
set_option maxRecDepth 100000 in
theorem w_g1487 : w_g (nat_lit 1487) = true := by decide +kernel
theorem w_r1488 : w_rg 1488 := w_rg_s (n := 1487) w_r1487 w_g1487
set_option maxRecDepth 100000 in
theorem w_g1488 : w_g (nat_lit 1488) = true := by decide +kernel
theorem w_r1489 : w_rg 1489 := w_rg_s (n := 1488) w_r1488 w_g1488
set_option maxRecDepth 100000 in
theorem w_g1489 : w_g (nat_lit 1489) = true := by decide +kernel
theorem w_r1490 : w_rg 1490 := w_rg_s (n := 1489) w_r1489 w_g1489
set_option maxRecDepth 100000 in
theorem w_g1490 : w_g (nat_lit 1490) = true := by decide +kernel
theorem w_r1491 : w_rg 1491 := w_rg_s (n := 1490) w_r1490 w_g1490
set_option maxRecDepth 100000 in
theorem w_g1491 : w_g (nat_lit 1491) = true := by decide +kernel
theorem w_r1492 : w_rg 1492 := w_rg_s (n := 1491) w_r1491 w_g1491
set_option maxRecDepth 100000 in
theorem w_g1492 : w_g (nat_lit 1492) = true := by decide +kernel
theorem w_r1493 : w_rg 1493 := w_rg_s (n := 1492) w_r1492 w_g1492
set_option maxRecDepth 100000 in
theorem w_g1493 : w_g (nat_lit 1493) = true := by decide +kernel
theorem w_r1494 : w_rg 1494 := w_rg_s (n := 1493) w_r1493 w_g1493
set_option maxRecDepth 100000 in
theorem w_g1494 : w_g (nat_lit 1494) = true := by decide +kernel
theorem w_r1495 : w_rg 1495 := w_rg_s (n := 1494) w_r1494 w_g1494
set_option maxRecDepth 100000 in
theorem w_g1495 : w_g (nat_lit 1495) = true := by decide +kernel
theorem w_r1496 : w_rg 1496 := w_rg_s (n := 1495) w_r1495 w_g1495
set_option maxRecDepth 100000 in
theorem w_g1496 : w_g (nat_lit 1496) = true := by decide +kernel
theorem w_r1497 : w_rg 1497 := w_rg_s (n := 1496) w_r1496 w_g1496
set_option maxRecDepth 100000 in
theorem w_g1497 : w_g (nat_lit 1497) = true := by decide +kernel
theorem w_r1498 : w_rg 1498 := w_rg_s (n := 1497) w_r1497 w_g1497
set_option maxRecDepth 100000 in
theorem w_g1498 : w_g (nat_lit 1498) = true := by decide +kernel
theorem w_r1499 : w_rg 1499 := w_rg_s (n := 1498) w_r1498 w_g1498
set_option maxRecDepth 100000 in
theorem w_g1499 : w_g (nat_lit 1499) = true := by decide +kernel
theorem w_r1500 : w_rg 1500 := w_rg_s (n := 1499) w_r1499 w_g1499
set_option maxRecDepth 100000 in
theorem w_g1500 : w_g (nat_lit 1500) = true := by decide +kernel
theorem w_r1501 : w_rg 1501 := w_rg_s (n := 1500) w_r1500 w_g1500
set_option maxRecDepth 100000 in
theorem w_g1501 : w_g (nat_lit 1501) = true := by decide +kernel
theorem w_r1502 : w_rg 1502 := w_rg_s (n := 1501) w_r1501 w_g1501
set_option maxRecDepth 100000 in
theorem w_g1502 : w_g (nat_lit 1502) = true := by decide +kernel
theorem w_r1503 : w_rg 1503 := w_rg_s (n := 1502) w_r1502 w_g1502
set_option maxRecDepth 100000 in
theorem w_g1503 : w_g (nat_lit 1503) = true := by decide +kernel
theorem w_r1504 : w_rg 1504 := w_rg_s (n := 1503) w_r1503 w_g1503
set_option maxRecDepth 100000 in
theorem w_g1504 : w_g (nat_lit 1504) = true := by decide +kernel
theorem w_r1505 : w_rg 1505 := w_rg_s (n := 1504) w_r1504 w_g1504
set_option maxRecDepth 100000 in
theorem w_g1505 : w_g (nat_lit 1505) = true := by decide +kernel
theorem w_r1506 : w_rg 1506 := w_rg_s (n := 1505) w_r1505 w_g1505
set_option maxRecDepth 100000 in
theorem w_g1506 : w_g (nat_lit 1506) = true := by decide +kernel
theorem w_r1507 : w_rg 1507 := w_rg_s (n := 1506) w_r1506 w_g1506
set_option maxRecDepth 100000 in
theorem w_g1507 : w_g (nat_lit 1507) = true := by decide +kernel
theorem w_r1508 : w_rg 1508 := w_rg_s (n := 1507) w_r1507 w_g1507
set_option maxRecDepth 100000 in
theorem w_g1508 : w_g (nat_lit 1508) = true := by decide +kernel
theorem w_r1509 : w_rg 1509 := w_rg_s (n := 1508) w_r1508 w_g1508
set_option maxRecDepth 100000 in
theorem w_g1509 : w_g (nat_lit 1509) = true := by decide +kernel
theorem w_r1510 : w_rg 1510 := w_rg_s (n := 1509) w_r1509 w_g1509
set_option maxRecDepth 100000 in
theorem w_g1510 : w_g (nat_lit 1510) = true := by decide +kernel
theorem w_r1511 : w_rg 1511 := w_rg_s (n := 1510) w_r1510 w_g1510
set_option maxRecDepth 100000 in
theorem w_g1511 : w_g (nat_lit 1511) = true := by decide +kernel
theorem w_r1512 : w_rg 1512 := w_rg_s (n := 1511) w_r1511 w_g1511
set_option maxRecDepth 100000 in
theorem w_g1512 : w_g (nat_lit 1512) = true := by decide +kernel
theorem w_r1513 : w_rg 1513 := w_rg_s (n := 1512) w_r1512 w_g1512
set_option maxRecDepth 100000 in
theorem w_g1513 : w_g (nat_lit 1513) = true := by decide +kernel
theorem w_r1514 : w_rg 1514 := w_rg_s (n := 1513) w_r1513 w_g1513
set_option maxRecDepth 100000 in
theorem w_g1514 : w_g (nat_lit 1514) = true := by decide +kernel
theorem w_r1515 : w_rg 1515 := w_rg_s (n := 1514) w_r1514 w_g1514
set_option maxRecDepth 100000 in
theorem w_g1515 : w_g (nat_lit 1515) = true := by decide +kernel
theorem w_r1516 : w_rg 1516 := w_rg_s (n := 1515) w_r1515 w_g1515
set_option maxRecDepth 100000 in
theorem w_g1516 : w_g (nat_lit 1516) = true := by decide +kernel
theorem w_r1517 : w_rg 1517 := w_rg_s (n := 1516) w_r1516 w_g1516
set_option maxRecDepth 100000 in
theorem w_g1517 : w_g (nat_lit 1517) = true := by decide +kernel
theorem w_r1518 : w_rg 1518 := w_rg_s (n := 1517) w_r1517 w_g1517
set_option maxRecDepth 100000 in
theorem w_g1518 : w_g (nat_lit 1518) = true := by decide +kernel
theorem w_r1519 : w_rg 1519 := w_rg_s (n := 1518) w_r1518 w_g1518
set_option maxRecDepth 100000 in
theorem w_g1519 : w_g (nat_lit 1519) = true := by decide +kernel
theorem w_r1520 : w_rg 1520 := w_rg_s (n := 1519) w_r1519 w_g1519
set_option maxRecDepth 100000 in
theorem w_g1520 : w_g (nat_lit 1520) = true := by decide +kernel
theorem w_r1521 : w_rg 1521 := w_rg_s (n := 1520) w_r1520 w_g1520
set_option maxRecDepth 100000 in
theorem w_g1521 : w_g (nat_lit 1521) = true := by decide +kernel
theorem w_r1522 : w_rg 1522 := w_rg_s (n := 1521) w_r1521 w_g1521
set_option maxRecDepth 100000 in
theorem w_g1522 : w_g (nat_lit 1522) = true := by decide +kernel
theorem w_r1523 : w_rg 1523 := w_rg_s (n := 1522) w_r1522 w_g1522
set_option maxRecDepth 100000 in
theorem w_g1523 : w_g (nat_lit 1523) = true := by decide +kernel
theorem w_r1524 : w_rg 1524 := w_rg_s (n := 1523) w_r1523 w_g1523
set_option maxRecDepth 100000 in
theorem w_g1524 : w_g (nat_lit 1524) = true := by decide +kernel
theorem w_r1525 : w_rg 1525 := w_rg_s (n := 1524) w_r1524 w_g1524
set_option maxRecDepth 100000 in
theorem w_g1525 : w_g (nat_lit 1525) = true := by decide +kernel
theorem w_r1526 : w_rg 1526 := w_rg_s (n := 1525) w_r1525 w_g1525
set_option maxRecDepth 100000 in
theorem w_g1526 : w_g (nat_lit 1526) = true := by decide +kernel
theorem w_r1527 : w_rg 1527 := w_rg_s (n := 1526) w_r1526 w_g1526
set_option maxRecDepth 100000 in
theorem w_g1527 : w_g (nat_lit 1527) = true := by decide +kernel
theorem w_r1528 : w_rg 1528 := w_rg_s (n := 1527) w_r1527 w_g1527
set_option maxRecDepth 100000 in
theorem w_g1528 : w_g (nat_lit 1528) = true := by decide +kernel
theorem w_r1529 : w_rg 1529 := w_rg_s (n := 1528) w_r1528 w_g1528
set_option maxRecDepth 100000 in
theorem w_g1529 : w_g (nat_lit 1529) = true := by decide +kernel
theorem w_r1530 : w_rg 1530 := w_rg_s (n := 1529) w_r1529 w_g1529
set_option maxRecDepth 100000 in
theorem w_g1530 : w_g (nat_lit 1530) = true := by decide +kernel
theorem w_r1531 : w_rg 1531 := w_rg_s (n := 1530) w_r1530 w_g1530
set_option maxRecDepth 100000 in
theorem w_g1531 : w_g (nat_lit 1531) = true := by decide +kernel
theorem w_r1532 : w_rg 1532 := w_rg_s (n := 1531) w_r1531 w_g1531
set_option maxRecDepth 100000 in
theorem w_g1532 : w_g (nat_lit 1532) = true := by decide +kernel
theorem w_r1533 : w_rg 1533 := w_rg_s (n := 1532) w_r1532 w_g1532
set_option maxRecDepth 100000 in
theorem w_g1533 : w_g (nat_lit 1533) = true := by decide +kernel
theorem w_r1534 : w_rg 1534 := w_rg_s (n := 1533) w_r1533 w_g1533
set_option maxRecDepth 100000 in
theorem w_g1534 : w_g (nat_lit 1534) = true := by decide +kernel
theorem w_r1535 : w_rg 1535 := w_rg_s (n := 1534) w_r1534 w_g1534
set_option maxRecDepth 100000 in
theorem w_g1535 : w_g (nat_lit 1535) = true := by decide +kernel
theorem w_r1536 : w_rg 1536 := w_rg_s (n := 1535) w_r1535 w_g1535
set_option maxRecDepth 100000 in
theorem w_g1536 : w_g (nat_lit 1536) = true := by decide +kernel
theorem w_r1537 : w_rg 1537 := w_rg_s (n := 1536) w_r1536 w_g1536
set_option maxRecDepth 100000 in
theorem w_g1537 : w_g (nat_lit 1537) = true := by decide +kernel
theorem w_r1538 : w_rg 1538 := w_rg_s (n := 1537) w_r1537 w_g1537
set_option maxRecDepth 100000 in
theorem w_g1538 : w_g (nat_lit 1538) = true := by decide +kernel
theorem w_r1539 : w_rg 1539 := w_rg_s (n := 1538) w_r1538 w_g1538
set_option maxRecDepth 100000 in
theorem w_g1539 : w_g (nat_lit 1539) = true := by decide +kernel
theorem w_r1540 : w_rg 1540 := w_rg_s (n := 1539) w_r1539 w_g1539
set_option maxRecDepth 100000 in
theorem w_g1540 : w_g (nat_lit 1540) = true := by decide +kernel
theorem w_r1541 : w_rg 1541 := w_rg_s (n := 1540) w_r1540 w_g1540
set_option maxRecDepth 100000 in
theorem w_g1541 : w_g (nat_lit 1541) = true := by decide +kernel
theorem w_r1542 : w_rg 1542 := w_rg_s (n := 1541) w_r1541 w_g1541
set_option maxRecDepth 100000 in
theorem w_g1542 : w_g (nat_lit 1542) = true := by decide +kernel
theorem w_r1543 : w_rg 1543 := w_rg_s (n := 1542) w_r1542 w_g1542
set_option maxRecDepth 100000 in
theorem w_g1543 : w_g (nat_lit 1543) = true := by decide +kernel
theorem w_r1544 : w_rg 1544 := w_rg_s (n := 1543) w_r1543 w_g1543
set_option maxRecDepth 100000 in
theorem w_g1544 : w_g (nat_lit 1544) = true := by decide +kernel
theorem w_r1545 : w_rg 1545 := w_rg_s (n := 1544) w_r1544 w_g1544
set_option maxRecDepth 100000 in
theorem w_g1545 : w_g (nat_lit 1545) = true := by decide +kernel
theorem w_r1546 : w_rg 1546 := w_rg_s (n := 1545) w_r1545 w_g1545
set_option maxRecDepth 100000 in
theorem w_g1546 : w_g (nat_lit 1546) = true := by decide +kernel
theorem w_r1547 : w_rg 1547 := w_rg_s (n := 1546) w_r1546 w_g1546
set_option maxRecDepth 100000 in
theorem w_g1547 : w_g (nat_lit 1547) = true := by decide +kernel
theorem w_r1548 : w_rg 1548 := w_rg_s (n := 1547) w_r1547 w_g1547
set_option maxRecDepth 100000 in
theorem w_g1548 : w_g (nat_lit 1548) = true := by decide +kernel
theorem w_r1549 : w_rg 1549 := w_rg_s (n := 1548) w_r1548 w_g1548
set_option maxRecDepth 100000 in
theorem w_g1549 : w_g (nat_lit 1549) = true := by decide +kernel
theorem w_r1550 : w_rg 1550 := w_rg_s (n := 1549) w_r1549 w_g1549
set_option maxRecDepth 100000 in
theorem w_g1550 : w_g (nat_lit 1550) = true := by decide +kernel
theorem w_r1551 : w_rg 1551 := w_rg_s (n := 1550) w_r1550 w_g1550
set_option maxRecDepth 100000 in
theorem w_g1551 : w_g (nat_lit 1551) = true := by decide +kernel
theorem w_r1552 : w_rg 1552 := w_rg_s (n := 1551) w_r1551 w_g1551
set_option maxRecDepth 100000 in
theorem w_g1552 : w_g (nat_lit 1552) = true := by decide +kernel
theorem w_r1553 : w_rg 1553 := w_rg_s (n := 1552) w_r1552 w_g1552
set_option maxRecDepth 100000 in
theorem w_g1553 : w_g (nat_lit 1553) = true := by decide +kernel
theorem w_r1554 : w_rg 1554 := w_rg_s (n := 1553) w_r1553 w_g1553
set_option maxRecDepth 100000 in
theorem w_g1554 : w_g (nat_lit 1554) = true := by decide +kernel
theorem w_r1555 : w_rg 1555 := w_rg_s (n := 1554) w_r1554 w_g1554
set_option maxRecDepth 100000 in
theorem w_g1555 : w_g (nat_lit 1555) = true := by decide +kernel
theorem w_r1556 : w_rg 1556 := w_rg_s (n := 1555) w_r1555 w_g1555
set_option maxRecDepth 100000 in
theorem w_g1556 : w_g (nat_lit 1556) = true := by decide +kernel
theorem w_r1557 : w_rg 1557 := w_rg_s (n := 1556) w_r1556 w_g1556
set_option maxRecDepth 100000 in
theorem w_g1557 : w_g (nat_lit 1557) = true := by decide +kernel
theorem w_r1558 : w_rg 1558 := w_rg_s (n := 1557) w_r1557 w_g1557
set_option maxRecDepth 100000 in
theorem w_g1558 : w_g (nat_lit 1558) = true := by decide +kernel
theorem w_r1559 : w_rg 1559 := w_rg_s (n := 1558) w_r1558 w_g1558
set_option maxRecDepth 100000 in
theorem w_g1559 : w_g (nat_lit 1559) = true := by decide +kernel
theorem w_r1560 : w_rg 1560 := w_rg_s (n := 1559) w_r1559 w_g1559
set_option maxRecDepth 100000 in
theorem w_g1560 : w_g (nat_lit 1560) = true := by decide +kernel
theorem w_r1561 : w_rg 1561 := w_rg_s (n := 1560) w_r1560 w_g1560
set_option maxRecDepth 100000 in
theorem w_g1561 : w_g (nat_lit 1561) = true := by decide +kernel
theorem w_r1562 : w_rg 1562 := w_rg_s (n := 1561) w_r1561 w_g1561
set_option maxRecDepth 100000 in
theorem w_g1562 : w_g (nat_lit 1562) = true := by decide +kernel
theorem w_r1563 : w_rg 1563 := w_rg_s (n := 1562) w_r1562 w_g1562
set_option maxRecDepth 100000 in
theorem w_g1563 : w_g (nat_lit 1563) = true := by decide +kernel
theorem w_r1564 : w_rg 1564 := w_rg_s (n := 1563) w_r1563 w_g1563
set_option maxRecDepth 100000 in
theorem w_g1564 : w_g (nat_lit 1564) = true := by decide +kernel
theorem w_r1565 : w_rg 1565 := w_rg_s (n := 1564) w_r1564 w_g1564
set_option maxRecDepth 100000 in
theorem w_g1565 : w_g (nat_lit 1565) = true := by decide +kernel
theorem w_r1566 : w_rg 1566 := w_rg_s (n := 1565) w_r1565 w_g1565
set_option maxRecDepth 100000 in
theorem w_g1566 : w_g (nat_lit 1566) = true := by decide +kernel
theorem w_r1567 : w_rg 1567 := w_rg_s (n := 1566) w_r1566 w_g1566
set_option maxRecDepth 100000 in
theorem w_g1567 : w_g (nat_lit 1567) = true := by decide +kernel
theorem w_r1568 : w_rg 1568 := w_rg_s (n := 1567) w_r1567 w_g1567
set_option maxRecDepth 100000 in
theorem w_g1568 : w_g (nat_lit 1568) = true := by decide +kernel
theorem w_r1569 : w_rg 1569 := w_rg_s (n := 1568) w_r1568 w_g1568
set_option maxRecDepth 100000 in
theorem w_g1569 : w_g (nat_lit 1569) = true := by decide +kernel
theorem w_r1570 : w_rg 1570 := w_rg_s (n := 1569) w_r1569 w_g1569
set_option maxRecDepth 100000 in
theorem w_g1570 : w_g (nat_lit 1570) = true := by decide +kernel
theorem w_r1571 : w_rg 1571 := w_rg_s (n := 1570) w_r1570 w_g1570
set_option maxRecDepth 100000 in
theorem w_g1571 : w_g (nat_lit 1571) = true := by decide +kernel
theorem w_r1572 : w_rg 1572 := w_rg_s (n := 1571) w_r1571 w_g1571
set_option maxRecDepth 100000 in
theorem w_g1572 : w_g (nat_lit 1572) = true := by decide +kernel
theorem w_r1573 : w_rg 1573 := w_rg_s (n := 1572) w_r1572 w_g1572
set_option maxRecDepth 100000 in
theorem w_g1573 : w_g (nat_lit 1573) = true := by decide +kernel
theorem w_r1574 : w_rg 1574 := w_rg_s (n := 1573) w_r1573 w_g1573
set_option maxRecDepth 100000 in
theorem w_g1574 : w_g (nat_lit 1574) = true := by decide +kernel
theorem w_r1575 : w_rg 1575 := w_rg_s (n := 1574) w_r1574 w_g1574
set_option maxRecDepth 100000 in
theorem w_g1575 : w_g (nat_lit 1575) = true := by decide +kernel
theorem w_r1576 : w_rg 1576 := w_rg_s (n := 1575) w_r1575 w_g1575
set_option maxRecDepth 100000 in
theorem w_g1576 : w_g (nat_lit 1576) = true := by decide +kernel
theorem w_r1577 : w_rg 1577 := w_rg_s (n := 1576) w_r1576 w_g1576
set_option maxRecDepth 100000 in
theorem w_g1577 : w_g (nat_lit 1577) = true := by decide +kernel
theorem w_r1578 : w_rg 1578 := w_rg_s (n := 1577) w_r1577 w_g1577
set_option maxRecDepth 100000 in
theorem w_g1578 : w_g (nat_lit 1578) = true := by decide +kernel
theorem w_r1579 : w_rg 1579 := w_rg_s (n := 1578) w_r1578 w_g1578
set_option maxRecDepth 100000 in
theorem w_g1579 : w_g (nat_lit 1579) = true := by decide +kernel
theorem w_r1580 : w_rg 1580 := w_rg_s (n := 1579) w_r1579 w_g1579
set_option maxRecDepth 100000 in
theorem w_g1580 : w_g (nat_lit 1580) = true := by decide +kernel
theorem w_r1581 : w_rg 1581 := w_rg_s (n := 1580) w_r1580 w_g1580
set_option maxRecDepth 100000 in
theorem w_g1581 : w_g (nat_lit 1581) = true := by decide +kernel
theorem w_r1582 : w_rg 1582 := w_rg_s (n := 1581) w_r1581 w_g1581
set_option maxRecDepth 100000 in
theorem w_g1582 : w_g (nat_lit 1582) = true := by decide +kernel
theorem w_r1583 : w_rg 1583 := w_rg_s (n := 1582) w_r1582 w_g1582
set_option maxRecDepth 100000 in
theorem w_g1583 : w_g (nat_lit 1583) = true := by decide +kernel
theorem w_r1584 : w_rg 1584 := w_rg_s (n := 1583) w_r1583 w_g1583
set_option maxRecDepth 100000 in
theorem w_g1584 : w_g (nat_lit 1584) = true := by decide +kernel
theorem w_r1585 : w_rg 1585 := w_rg_s (n := 1584) w_r1584 w_g1584
set_option maxRecDepth 100000 in
theorem w_g1585 : w_g (nat_lit 1585) = true := by decide +kernel
theorem w_r1586 : w_rg 1586 := w_rg_s (n := 1585) w_r1585 w_g1585
set_option maxRecDepth 100000 in
theorem w_g1586 : w_g (nat_lit 1586) = true := by decide +kernel
theorem w_r1587 : w_rg 1587 := w_rg_s (n := 1586) w_r1586 w_g1586
set_option maxRecDepth 100000 in
theorem w_g1587 : w_g (nat_lit 1587) = true := by decide +kernel
theorem w_r1588 : w_rg 1588 := w_rg_s (n := 1587) w_r1587 w_g1587
set_option maxRecDepth 100000 in
theorem w_g1588 : w_g (nat_lit 1588) = true := by decide +kernel
theorem w_r1589 : w_rg 1589 := w_rg_s (n := 1588) w_r1588 w_g1588
set_option maxRecDepth 100000 in
theorem w_g1589 : w_g (nat_lit 1589) = true := by decide +kernel
theorem w_r1590 : w_rg 1590 := w_rg_s (n := 1589) w_r1589 w_g1589
set_option maxRecDepth 100000 in
theorem w_g1590 : w_g (nat_lit 1590) = true := by decide +kernel
theorem w_r1591 : w_rg 1591 := w_rg_s (n := 1590) w_r1590 w_g1590
set_option maxRecDepth 100000 in
theorem w_g1591 : w_g (nat_lit 1591) = true := by decide +kernel
theorem w_r1592 : w_rg 1592 := w_rg_s (n := 1591) w_r1591 w_g1591
