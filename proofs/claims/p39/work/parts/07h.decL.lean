theorem dL_law_1310 : decode cL_law 1310 = .ok (.aload_n 0, 1) := o42 hcL_law rfl
theorem dL_law_1311 : decode cL_law 1311 = .ok (.iload_n 3, 1) := o29 hcL_law rfl
theorem dL_law_1312 : decode cL_law 1312 = .ok (.iconst 2, 1) := o5 hcL_law rfl
theorem dL_law_1313 : decode cL_law 1313 = .ok (.iadd, 1) := o96 hcL_law rfl
theorem dL_law_1314 : decode cL_law 1314 = .ok (.iaload, 1) := o46 hcL_law rfl
theorem dL_law_1315 : decode cL_law 1315 = .ok (.aload_n 0, 1) := o42 hcL_law rfl
theorem dL_law_1316 : decode cL_law 1316 = .ok (.iload_n 3, 1) := o29 hcL_law rfl
theorem dL_law_1317 : decode cL_law 1317 = .ok (.iconst 3, 1) := o6 hcL_law rfl
theorem dL_law_1318 : decode cL_law 1318 = .ok (.iadd, 1) := o96 hcL_law rfl
theorem dL_law_1319 : decode cL_law 1319 = .ok (.iaload, 1) := o46 hcL_law rfl
theorem dL_law_1320 : decode cL_law 1320 = .ok (.invokevirtual 161, 3) := o182 hcL_law rfl
theorem dL_law_1323 : decode cL_law 1323 = .ok (.pop, 1) := o87 hcL_law rfl
theorem dL_law_1324 : decode cL_law 1324 = .ok (.goto 172, 3) := o167 hcL_law (a := 172) rfl rfl
theorem dL_law_1327 : decode cL_law 1327 = .ok (.aload_n 1, 1) := o43 hcL_law rfl
theorem dL_law_1328 : decode cL_law 1328 = .ok (.aload_n 0, 1) := o42 hcL_law rfl
theorem dL_law_1329 : decode cL_law 1329 = .ok (.iload_n 3, 1) := o29 hcL_law rfl
theorem dL_law_1330 : decode cL_law 1330 = .ok (.iconst 1, 1) := o4 hcL_law rfl
theorem dL_law_1331 : decode cL_law 1331 = .ok (.iadd, 1) := o96 hcL_law rfl
theorem dL_law_1332 : decode cL_law 1332 = .ok (.iaload, 1) := o46 hcL_law rfl
theorem dL_law_1333 : decode cL_law 1333 = .ok (.aload_n 0, 1) := o42 hcL_law rfl
theorem dL_law_1334 : decode cL_law 1334 = .ok (.iload_n 3, 1) := o29 hcL_law rfl
theorem dL_law_1335 : decode cL_law 1335 = .ok (.iconst 2, 1) := o5 hcL_law rfl
theorem dL_law_1336 : decode cL_law 1336 = .ok (.iadd, 1) := o96 hcL_law rfl
theorem dL_law_1337 : decode cL_law 1337 = .ok (.iaload, 1) := o46 hcL_law rfl
theorem dL_law_1338 : decode cL_law 1338 = .ok (.aload_n 0, 1) := o42 hcL_law rfl
theorem dL_law_1339 : decode cL_law 1339 = .ok (.iload_n 3, 1) := o29 hcL_law rfl
theorem dL_law_1340 : decode cL_law 1340 = .ok (.iconst 3, 1) := o6 hcL_law rfl
theorem dL_law_1341 : decode cL_law 1341 = .ok (.iadd, 1) := o96 hcL_law rfl
theorem dL_law_1342 : decode cL_law 1342 = .ok (.iaload, 1) := o46 hcL_law rfl
theorem dL_law_1343 : decode cL_law 1343 = .ok (.i2l, 1) := o133 hcL_law rfl
theorem dL_law_1344 : decode cL_law 1344 = .ok (.bipush 32, 2) := o16 hcL_law (a := 32) rfl rfl
theorem dL_law_1346 : decode cL_law 1346 = .ok (.lshl, 1) := o121 hcL_law rfl
theorem dL_law_1347 : decode cL_law 1347 = .ok (.aload_n 0, 1) := o42 hcL_law rfl
theorem dL_law_1348 : decode cL_law 1348 = .ok (.iload_n 3, 1) := o29 hcL_law rfl
theorem dL_law_1349 : decode cL_law 1349 = .ok (.iconst 4, 1) := o7 hcL_law rfl
theorem dL_law_1350 : decode cL_law 1350 = .ok (.iadd, 1) := o96 hcL_law rfl
theorem dL_law_1351 : decode cL_law 1351 = .ok (.iaload, 1) := o46 hcL_law rfl
theorem dL_law_1352 : decode cL_law 1352 = .ok (.i2l, 1) := o133 hcL_law rfl
theorem dL_law_1353 : decode cL_law 1353 = .ok (.ldc2_w 162, 3) := o20 hcL_law rfl
theorem dL_law_1356 : decode cL_law 1356 = .ok (.land, 1) := o127 hcL_law rfl
theorem dL_law_1357 : decode cL_law 1357 = .ok (.lor, 1) := o129 hcL_law rfl
theorem dL_law_1358 : decode cL_law 1358 = .ok (.invokevirtual 164, 3) := o182 hcL_law rfl
theorem dL_law_1361 : decode cL_law 1361 = .ok (.pop, 1) := o87 hcL_law rfl
theorem dL_law_1362 : decode cL_law 1362 = .ok (.aload_n 2, 1) := o44 hcL_law rfl
theorem dL_law_1363 : decode cL_law 1363 = .ok (.aload_n 0, 1) := o42 hcL_law rfl
theorem dL_law_1364 : decode cL_law 1364 = .ok (.iload_n 3, 1) := o29 hcL_law rfl
theorem dL_law_1365 : decode cL_law 1365 = .ok (.iconst 1, 1) := o4 hcL_law rfl
theorem dL_law_1366 : decode cL_law 1366 = .ok (.iadd, 1) := o96 hcL_law rfl
theorem dL_law_1367 : decode cL_law 1367 = .ok (.iaload, 1) := o46 hcL_law rfl
theorem dL_law_1368 : decode cL_law 1368 = .ok (.aload_n 0, 1) := o42 hcL_law rfl
theorem dL_law_1369 : decode cL_law 1369 = .ok (.iload_n 3, 1) := o29 hcL_law rfl
theorem dL_law_1370 : decode cL_law 1370 = .ok (.iconst 2, 1) := o5 hcL_law rfl
theorem dL_law_1371 : decode cL_law 1371 = .ok (.iadd, 1) := o96 hcL_law rfl
theorem dL_law_1372 : decode cL_law 1372 = .ok (.iaload, 1) := o46 hcL_law rfl
theorem dL_law_1373 : decode cL_law 1373 = .ok (.aload_n 0, 1) := o42 hcL_law rfl
theorem dL_law_1374 : decode cL_law 1374 = .ok (.iload_n 3, 1) := o29 hcL_law rfl
theorem dL_law_1375 : decode cL_law 1375 = .ok (.iconst 3, 1) := o6 hcL_law rfl
theorem dL_law_1376 : decode cL_law 1376 = .ok (.iadd, 1) := o96 hcL_law rfl
theorem dL_law_1377 : decode cL_law 1377 = .ok (.iaload, 1) := o46 hcL_law rfl
theorem dL_law_1378 : decode cL_law 1378 = .ok (.i2l, 1) := o133 hcL_law rfl
theorem dL_law_1379 : decode cL_law 1379 = .ok (.bipush 32, 2) := o16 hcL_law (a := 32) rfl rfl
theorem dL_law_1381 : decode cL_law 1381 = .ok (.lshl, 1) := o121 hcL_law rfl
theorem dL_law_1382 : decode cL_law 1382 = .ok (.aload_n 0, 1) := o42 hcL_law rfl
theorem dL_law_1383 : decode cL_law 1383 = .ok (.iload_n 3, 1) := o29 hcL_law rfl
theorem dL_law_1384 : decode cL_law 1384 = .ok (.iconst 4, 1) := o7 hcL_law rfl
theorem dL_law_1385 : decode cL_law 1385 = .ok (.iadd, 1) := o96 hcL_law rfl
theorem dL_law_1386 : decode cL_law 1386 = .ok (.iaload, 1) := o46 hcL_law rfl
theorem dL_law_1387 : decode cL_law 1387 = .ok (.i2l, 1) := o133 hcL_law rfl
theorem dL_law_1388 : decode cL_law 1388 = .ok (.ldc2_w 162, 3) := o20 hcL_law rfl
theorem dL_law_1391 : decode cL_law 1391 = .ok (.land, 1) := o127 hcL_law rfl
theorem dL_law_1392 : decode cL_law 1392 = .ok (.lor, 1) := o129 hcL_law rfl
theorem dL_law_1393 : decode cL_law 1393 = .ok (.invokevirtual 168, 3) := o182 hcL_law rfl
theorem dL_law_1396 : decode cL_law 1396 = .ok (.pop, 1) := o87 hcL_law rfl
theorem dL_law_1397 : decode cL_law 1397 = .ok (.goto 99, 3) := o167 hcL_law (a := 99) rfl rfl
theorem dL_law_1400 : decode cL_law 1400 = .ok (.aload_n 1, 1) := o43 hcL_law rfl
theorem dL_law_1401 : decode cL_law 1401 = .ok (.aload_n 0, 1) := o42 hcL_law rfl
theorem dL_law_1402 : decode cL_law 1402 = .ok (.iload_n 3, 1) := o29 hcL_law rfl
theorem dL_law_1403 : decode cL_law 1403 = .ok (.iconst 1, 1) := o4 hcL_law rfl
theorem dL_law_1404 : decode cL_law 1404 = .ok (.iadd, 1) := o96 hcL_law rfl
theorem dL_law_1405 : decode cL_law 1405 = .ok (.iaload, 1) := o46 hcL_law rfl
theorem dL_law_1406 : decode cL_law 1406 = .ok (.aload_n 0, 1) := o42 hcL_law rfl
theorem dL_law_1407 : decode cL_law 1407 = .ok (.iload_n 3, 1) := o29 hcL_law rfl
theorem dL_law_1408 : decode cL_law 1408 = .ok (.iconst 2, 1) := o5 hcL_law rfl
theorem dL_law_1409 : decode cL_law 1409 = .ok (.iadd, 1) := o96 hcL_law rfl
theorem dL_law_1410 : decode cL_law 1410 = .ok (.iaload, 1) := o46 hcL_law rfl
theorem dL_law_1411 : decode cL_law 1411 = .ok (.invokevirtual 169, 3) := o182 hcL_law rfl
theorem dL_law_1414 : decode cL_law 1414 = .ok (.pop2, 1) := o88 hcL_law rfl
theorem dL_law_1415 : decode cL_law 1415 = .ok (.aload_n 2, 1) := o44 hcL_law rfl
theorem dL_law_1416 : decode cL_law 1416 = .ok (.aload_n 0, 1) := o42 hcL_law rfl
theorem dL_law_1417 : decode cL_law 1417 = .ok (.iload_n 3, 1) := o29 hcL_law rfl
theorem dL_law_1418 : decode cL_law 1418 = .ok (.iconst 1, 1) := o4 hcL_law rfl
theorem dL_law_1419 : decode cL_law 1419 = .ok (.iadd, 1) := o96 hcL_law rfl
theorem dL_law_1420 : decode cL_law 1420 = .ok (.iaload, 1) := o46 hcL_law rfl
theorem dL_law_1421 : decode cL_law 1421 = .ok (.aload_n 0, 1) := o42 hcL_law rfl
theorem dL_law_1422 : decode cL_law 1422 = .ok (.iload_n 3, 1) := o29 hcL_law rfl
theorem dL_law_1423 : decode cL_law 1423 = .ok (.iconst 2, 1) := o5 hcL_law rfl
theorem dL_law_1424 : decode cL_law 1424 = .ok (.iadd, 1) := o96 hcL_law rfl
theorem dL_law_1425 : decode cL_law 1425 = .ok (.iaload, 1) := o46 hcL_law rfl
theorem dL_law_1426 : decode cL_law 1426 = .ok (.invokevirtual 172, 3) := o182 hcL_law rfl
theorem dL_law_1429 : decode cL_law 1429 = .ok (.pop2, 1) := o88 hcL_law rfl
theorem dL_law_1430 : decode cL_law 1430 = .ok (.goto 66, 3) := o167 hcL_law (a := 66) rfl rfl
theorem dL_law_1433 : decode cL_law 1433 = .ok (.aload_n 1, 1) := o43 hcL_law rfl
theorem dL_law_1434 : decode cL_law 1434 = .ok (.aload_n 0, 1) := o42 hcL_law rfl
theorem dL_law_1435 : decode cL_law 1435 = .ok (.iload_n 3, 1) := o29 hcL_law rfl
theorem dL_law_1436 : decode cL_law 1436 = .ok (.iconst 1, 1) := o4 hcL_law rfl
theorem dL_law_1437 : decode cL_law 1437 = .ok (.iadd, 1) := o96 hcL_law rfl
theorem dL_law_1438 : decode cL_law 1438 = .ok (.iaload, 1) := o46 hcL_law rfl
theorem dL_law_1439 : decode cL_law 1439 = .ok (.aload_n 0, 1) := o42 hcL_law rfl
theorem dL_law_1440 : decode cL_law 1440 = .ok (.iload_n 3, 1) := o29 hcL_law rfl
theorem dL_law_1441 : decode cL_law 1441 = .ok (.iconst 2, 1) := o5 hcL_law rfl
theorem dL_law_1442 : decode cL_law 1442 = .ok (.iadd, 1) := o96 hcL_law rfl
theorem dL_law_1443 : decode cL_law 1443 = .ok (.iaload, 1) := o46 hcL_law rfl
theorem dL_law_1444 : decode cL_law 1444 = .ok (.aload_n 0, 1) := o42 hcL_law rfl
theorem dL_law_1445 : decode cL_law 1445 = .ok (.iload_n 3, 1) := o29 hcL_law rfl
theorem dL_law_1446 : decode cL_law 1446 = .ok (.iconst 3, 1) := o6 hcL_law rfl
theorem dL_law_1447 : decode cL_law 1447 = .ok (.iadd, 1) := o96 hcL_law rfl
theorem dL_law_1448 : decode cL_law 1448 = .ok (.iaload, 1) := o46 hcL_law rfl
theorem dL_law_1449 : decode cL_law 1449 = .ok (.aload_n 0, 1) := o42 hcL_law rfl
theorem dL_law_1450 : decode cL_law 1450 = .ok (.iload_n 3, 1) := o29 hcL_law rfl
theorem dL_law_1451 : decode cL_law 1451 = .ok (.iconst 4, 1) := o7 hcL_law rfl
theorem dL_law_1452 : decode cL_law 1452 = .ok (.iadd, 1) := o96 hcL_law rfl
theorem dL_law_1453 : decode cL_law 1453 = .ok (.iaload, 1) := o46 hcL_law rfl
theorem dL_law_1454 : decode cL_law 1454 = .ok (.aload_n 0, 1) := o42 hcL_law rfl
theorem dL_law_1455 : decode cL_law 1455 = .ok (.iload_n 3, 1) := o29 hcL_law rfl
theorem dL_law_1456 : decode cL_law 1456 = .ok (.iconst 5, 1) := o8 hcL_law rfl
theorem dL_law_1457 : decode cL_law 1457 = .ok (.iadd, 1) := o96 hcL_law rfl
theorem dL_law_1458 : decode cL_law 1458 = .ok (.iaload, 1) := o46 hcL_law rfl
theorem dL_law_1459 : decode cL_law 1459 = .ok (.invokevirtual 173, 3) := o182 hcL_law rfl
theorem dL_law_1462 : decode cL_law 1462 = .ok (.aload_n 2, 1) := o44 hcL_law rfl
theorem dL_law_1463 : decode cL_law 1463 = .ok (.aload_n 0, 1) := o42 hcL_law rfl
