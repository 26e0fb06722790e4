theorem d_L_law_1242 : decode c_L_law 1242 = .ok (.iconst 0, 1) := by decide +kernel
theorem d_L_law_1243 : decode c_L_law 1243 = .ok (.ireturn, 1) := by decide +kernel
theorem d_L_law_1244 : decode c_L_law 1244 = .ok (.goto 354, 3) := by decide +kernel
theorem d_L_law_1247 : decode c_L_law 1247 = .ok (.aload_n 1, 1) := by decide +kernel
theorem d_L_law_1248 : decode c_L_law 1248 = .ok (.aload_n 0, 1) := by decide +kernel
theorem d_L_law_1249 : decode c_L_law 1249 = .ok (.iload 4, 2) := by decide +kernel
theorem d_L_law_1251 : decode c_L_law 1251 = .ok (.iconst 1, 1) := by decide +kernel
theorem d_L_law_1252 : decode c_L_law 1252 = .ok (.iadd, 1) := by decide +kernel
theorem d_L_law_1253 : decode c_L_law 1253 = .ok (.iaload, 1) := by decide +kernel
theorem d_L_law_1254 : decode c_L_law 1254 = .ok (.aload_n 0, 1) := by decide +kernel
theorem d_L_law_1255 : decode c_L_law 1255 = .ok (.iload 4, 2) := by decide +kernel
theorem d_L_law_1257 : decode c_L_law 1257 = .ok (.iconst 2, 1) := by decide +kernel
theorem d_L_law_1258 : decode c_L_law 1258 = .ok (.iadd, 1) := by decide +kernel
theorem d_L_law_1259 : decode c_L_law 1259 = .ok (.iaload, 1) := by decide +kernel
theorem d_L_law_1260 : decode c_L_law 1260 = .ok (.aload_n 0, 1) := by decide +kernel
theorem d_L_law_1261 : decode c_L_law 1261 = .ok (.iload 4, 2) := by decide +kernel
theorem d_L_law_1263 : decode c_L_law 1263 = .ok (.iconst 3, 1) := by decide +kernel
theorem d_L_law_1264 : decode c_L_law 1264 = .ok (.iadd, 1) := by decide +kernel
theorem d_L_law_1265 : decode c_L_law 1265 = .ok (.iaload, 1) := by decide +kernel
theorem d_L_law_1266 : decode c_L_law 1266 = .ok (.aload_n 3, 1) := by decide +kernel
theorem d_L_law_1267 : decode c_L_law 1267 = .ok (.invokestatic 155, 3) := by decide +kernel
theorem d_L_law_1270 : decode c_L_law 1270 = .ok (.istore 5, 2) := by decide +kernel
theorem d_L_law_1272 : decode c_L_law 1272 = .ok (.aload_n 2, 1) := by decide +kernel
theorem d_L_law_1273 : decode c_L_law 1273 = .ok (.aload_n 0, 1) := by decide +kernel
theorem d_L_law_1274 : decode c_L_law 1274 = .ok (.iload 4, 2) := by decide +kernel
theorem d_L_law_1276 : decode c_L_law 1276 = .ok (.iconst 1, 1) := by decide +kernel
theorem d_L_law_1277 : decode c_L_law 1277 = .ok (.iadd, 1) := by decide +kernel
theorem d_L_law_1278 : decode c_L_law 1278 = .ok (.iaload, 1) := by decide +kernel
theorem d_L_law_1279 : decode c_L_law 1279 = .ok (.aload_n 0, 1) := by decide +kernel
theorem d_L_law_1280 : decode c_L_law 1280 = .ok (.iload 4, 2) := by decide +kernel
theorem d_L_law_1282 : decode c_L_law 1282 = .ok (.iconst 2, 1) := by decide +kernel
theorem d_L_law_1283 : decode c_L_law 1283 = .ok (.iadd, 1) := by decide +kernel
theorem d_L_law_1284 : decode c_L_law 1284 = .ok (.iaload, 1) := by decide +kernel
theorem d_L_law_1285 : decode c_L_law 1285 = .ok (.aload_n 0, 1) := by decide +kernel
theorem d_L_law_1286 : decode c_L_law 1286 = .ok (.iload 4, 2) := by decide +kernel
theorem d_L_law_1288 : decode c_L_law 1288 = .ok (.iconst 3, 1) := by decide +kernel
theorem d_L_law_1289 : decode c_L_law 1289 = .ok (.iadd, 1) := by decide +kernel
theorem d_L_law_1290 : decode c_L_law 1290 = .ok (.iaload, 1) := by decide +kernel
theorem d_L_law_1291 : decode c_L_law 1291 = .ok (.invokevirtual 157, 3) := by decide +kernel
theorem d_L_law_1294 : decode c_L_law 1294 = .ok (.lstore 6, 2) := by decide +kernel
theorem d_L_law_1296 : decode c_L_law 1296 = .ok (.aload_n 2, 1) := by decide +kernel
theorem d_L_law_1297 : decode c_L_law 1297 = .ok (.invokevirtual 101, 3) := by decide +kernel
theorem d_L_law_1300 : decode c_L_law 1300 = .ok (.iload 5, 2) := by decide +kernel
theorem d_L_law_1302 : decode c_L_law 1302 = .ok (.if_icmp .eq 5, 3) := by decide +kernel
theorem d_L_law_1305 : decode c_L_law 1305 = .ok (.iconst 0, 1) := by decide +kernel
theorem d_L_law_1306 : decode c_L_law 1306 = .ok (.ireturn, 1) := by decide +kernel
theorem d_L_law_1307 : decode c_L_law 1307 = .ok (.iload 5, 2) := by decide +kernel
theorem d_L_law_1309 : decode c_L_law 1309 = .ok (.ifCond .ne 14, 3) := by decide +kernel
theorem d_L_law_1312 : decode c_L_law 1312 = .ok (.aload_n 3, 1) := by decide +kernel
theorem d_L_law_1313 : decode c_L_law 1313 = .ok (.iconst 0, 1) := by decide +kernel
theorem d_L_law_1314 : decode c_L_law 1314 = .ok (.laload, 1) := by decide +kernel
theorem d_L_law_1315 : decode c_L_law 1315 = .ok (.lload 6, 2) := by decide +kernel
theorem d_L_law_1317 : decode c_L_law 1317 = .ok (.lcmp, 1) := by decide +kernel
theorem d_L_law_1318 : decode c_L_law 1318 = .ok (.ifCond .eq 5, 3) := by decide +kernel
theorem d_L_law_1321 : decode c_L_law 1321 = .ok (.iconst 0, 1) := by decide +kernel
theorem d_L_law_1322 : decode c_L_law 1322 = .ok (.ireturn, 1) := by decide +kernel
theorem d_L_law_1323 : decode c_L_law 1323 = .ok (.goto 275, 3) := by decide +kernel
theorem d_L_law_1326 : decode c_L_law 1326 = .ok (.aload_n 1, 1) := by decide +kernel
theorem d_L_law_1327 : decode c_L_law 1327 = .ok (.aload_n 0, 1) := by decide +kernel
theorem d_L_law_1328 : decode c_L_law 1328 = .ok (.iload 4, 2) := by decide +kernel
theorem d_L_law_1330 : decode c_L_law 1330 = .ok (.iconst 1, 1) := by decide +kernel
theorem d_L_law_1331 : decode c_L_law 1331 = .ok (.iadd, 1) := by decide +kernel
theorem d_L_law_1332 : decode c_L_law 1332 = .ok (.iaload, 1) := by decide +kernel
theorem d_L_law_1333 : decode c_L_law 1333 = .ok (.aload_n 0, 1) := by decide +kernel
theorem d_L_law_1334 : decode c_L_law 1334 = .ok (.iload 4, 2) := by decide +kernel
theorem d_L_law_1336 : decode c_L_law 1336 = .ok (.iconst 2, 1) := by decide +kernel
theorem d_L_law_1337 : decode c_L_law 1337 = .ok (.iadd, 1) := by decide +kernel
theorem d_L_law_1338 : decode c_L_law 1338 = .ok (.iaload, 1) := by decide +kernel
theorem d_L_law_1339 : decode c_L_law 1339 = .ok (.aload_n 3, 1) := by decide +kernel
theorem d_L_law_1340 : decode c_L_law 1340 = .ok (.invokestatic 158, 3) := by decide +kernel
theorem d_L_law_1343 : decode c_L_law 1343 = .ok (.istore 5, 2) := by decide +kernel
theorem d_L_law_1345 : decode c_L_law 1345 = .ok (.aload_n 2, 1) := by decide +kernel
theorem d_L_law_1346 : decode c_L_law 1346 = .ok (.aload_n 0, 1) := by decide +kernel
theorem d_L_law_1347 : decode c_L_law 1347 = .ok (.iload 4, 2) := by decide +kernel
theorem d_L_law_1349 : decode c_L_law 1349 = .ok (.iconst 1, 1) := by decide +kernel
theorem d_L_law_1350 : decode c_L_law 1350 = .ok (.iadd, 1) := by decide +kernel
theorem d_L_law_1351 : decode c_L_law 1351 = .ok (.iaload, 1) := by decide +kernel
theorem d_L_law_1352 : decode c_L_law 1352 = .ok (.aload_n 0, 1) := by decide +kernel
theorem d_L_law_1353 : decode c_L_law 1353 = .ok (.iload 4, 2) := by decide +kernel
theorem d_L_law_1355 : decode c_L_law 1355 = .ok (.iconst 2, 1) := by decide +kernel
theorem d_L_law_1356 : decode c_L_law 1356 = .ok (.iadd, 1) := by decide +kernel
theorem d_L_law_1357 : decode c_L_law 1357 = .ok (.iaload, 1) := by decide +kernel
theorem d_L_law_1358 : decode c_L_law 1358 = .ok (.invokevirtual 160, 3) := by decide +kernel
theorem d_L_law_1361 : decode c_L_law 1361 = .ok (.lstore 6, 2) := by decide +kernel
theorem d_L_law_1363 : decode c_L_law 1363 = .ok (.aload_n 2, 1) := by decide +kernel
theorem d_L_law_1364 : decode c_L_law 1364 = .ok (.invokevirtual 101, 3) := by decide +kernel
theorem d_L_law_1367 : decode c_L_law 1367 = .ok (.iload 5, 2) := by decide +kernel
theorem d_L_law_1369 : decode c_L_law 1369 = .ok (.if_icmp .eq 5, 3) := by decide +kernel
theorem d_L_law_1372 : decode c_L_law 1372 = .ok (.iconst 0, 1) := by decide +kernel
theorem d_L_law_1373 : decode c_L_law 1373 = .ok (.ireturn, 1) := by decide +kernel
theorem d_L_law_1374 : decode c_L_law 1374 = .ok (.iload 5, 2) := by decide +kernel
theorem d_L_law_1376 : decode c_L_law 1376 = .ok (.ifCond .ne 14, 3) := by decide +kernel
theorem d_L_law_1379 : decode c_L_law 1379 = .ok (.aload_n 3, 1) := by decide +kernel
theorem d_L_law_1380 : decode c_L_law 1380 = .ok (.iconst 0, 1) := by decide +kernel
theorem d_L_law_1381 : decode c_L_law 1381 = .ok (.laload, 1) := by decide +kernel
theorem d_L_law_1382 : decode c_L_law 1382 = .ok (.lload 6, 2) := by decide +kernel
theorem d_L_law_1384 : decode c_L_law 1384 = .ok (.lcmp, 1) := by decide +kernel
theorem d_L_law_1385 : decode c_L_law 1385 = .ok (.ifCond .eq 5, 3) := by decide +kernel
theorem d_L_law_1388 : decode c_L_law 1388 = .ok (.iconst 0, 1) := by decide +kernel
theorem d_L_law_1389 : decode c_L_law 1389 = .ok (.ireturn, 1) := by decide +kernel
theorem d_L_law_1390 : decode c_L_law 1390 = .ok (.goto 208, 3) := by decide +kernel
theorem d_L_law_1393 : decode c_L_law 1393 = .ok (.aload_n 1, 1) := by decide +kernel
theorem d_L_law_1394 : decode c_L_law 1394 = .ok (.aload_n 0, 1) := by decide +kernel
theorem d_L_law_1395 : decode c_L_law 1395 = .ok (.iload 4, 2) := by decide +kernel
theorem d_L_law_1397 : decode c_L_law 1397 = .ok (.iconst 1, 1) := by decide +kernel
theorem d_L_law_1398 : decode c_L_law 1398 = .ok (.iadd, 1) := by decide +kernel
theorem d_L_law_1399 : decode c_L_law 1399 = .ok (.iaload, 1) := by decide +kernel
theorem d_L_law_1400 : decode c_L_law 1400 = .ok (.aload_n 0, 1) := by decide +kernel
theorem d_L_law_1401 : decode c_L_law 1401 = .ok (.iload 4, 2) := by decide +kernel
theorem d_L_law_1403 : decode c_L_law 1403 = .ok (.iconst 2, 1) := by decide +kernel
theorem d_L_law_1404 : decode c_L_law 1404 = .ok (.iadd, 1) := by decide +kernel
theorem d_L_law_1405 : decode c_L_law 1405 = .ok (.iaload, 1) := by decide +kernel
theorem d_L_law_1406 : decode c_L_law 1406 = .ok (.aload_n 0, 1) := by decide +kernel
theorem d_L_law_1407 : decode c_L_law 1407 = .ok (.iload 4, 2) := by decide +kernel
theorem d_L_law_1409 : decode c_L_law 1409 = .ok (.iconst 3, 1) := by decide +kernel
theorem d_L_law_1410 : decode c_L_law 1410 = .ok (.iadd, 1) := by decide +kernel
theorem d_L_law_1411 : decode c_L_law 1411 = .ok (.iaload, 1) := by decide +kernel
theorem d_L_law_1412 : decode c_L_law 1412 = .ok (.aload_n 3, 1) := by decide +kernel
theorem d_L_law_1413 : decode c_L_law 1413 = .ok (.invokestatic 161, 3) := by decide +kernel
theorem d_L_law_1416 : decode c_L_law 1416 = .ok (.istore 5, 2) := by decide +kernel
theorem d_L_law_1418 : decode c_L_law 1418 = .ok (.aload_n 2, 1) := by decide +kernel
theorem d_L_law_1419 : decode c_L_law 1419 = .ok (.aload_n 0, 1) := by decide +kernel
theorem d_L_law_1420 : decode c_L_law 1420 = .ok (.iload 4, 2) := by decide +kernel
theorem d_L_law_1422 : decode c_L_law 1422 = .ok (.iconst 1, 1) := by decide +kernel
theorem d_L_law_1423 : decode c_L_law 1423 = .ok (.iadd, 1) := by decide +kernel
theorem d_L_law_1424 : decode c_L_law 1424 = .ok (.iaload, 1) := by decide +kernel
theorem d_L_law_1425 : decode c_L_law 1425 = .ok (.aload_n 0, 1) := by decide +kernel
theorem d_L_law_1426 : decode c_L_law 1426 = .ok (.iload 4, 2) := by decide +kernel
theorem d_L_law_1428 : decode c_L_law 1428 = .ok (.iconst 2, 1) := by decide +kernel
theorem d_L_law_1429 : decode c_L_law 1429 = .ok (.iadd, 1) := by decide +kernel
theorem d_L_law_1430 : decode c_L_law 1430 = .ok (.iaload, 1) := by decide +kernel
theorem d_L_law_1431 : decode c_L_law 1431 = .ok (.aload_n 0, 1) := by decide +kernel
theorem d_L_law_1432 : decode c_L_law 1432 = .ok (.iload 4, 2) := by decide +kernel
theorem d_L_law_1434 : decode c_L_law 1434 = .ok (.iconst 3, 1) := by decide +kernel
theorem d_L_law_1435 : decode c_L_law 1435 = .ok (.iadd, 1) := by decide +kernel
theorem d_L_law_1436 : decode c_L_law 1436 = .ok (.iaload, 1) := by decide +kernel
theorem d_L_law_1437 : decode c_L_law 1437 = .ok (.invokevirtual 163, 3) := by decide +kernel
theorem d_L_law_1440 : decode c_L_law 1440 = .ok (.istore 6, 2) := by decide +kernel
theorem d_L_law_1442 : decode c_L_law 1442 = .ok (.aload_n 2, 1) := by decide +kernel
theorem d_L_law_1443 : decode c_L_law 1443 = .ok (.invokevirtual 101, 3) := by decide +kernel
theorem d_L_law_1446 : decode c_L_law 1446 = .ok (.iload 5, 2) := by decide +kernel
theorem d_L_law_1448 : decode c_L_law 1448 = .ok (.if_icmp .eq 5, 3) := by decide +kernel
theorem d_L_law_1451 : decode c_L_law 1451 = .ok (.iconst 0, 1) := by decide +kernel
theorem d_L_law_1452 : decode c_L_law 1452 = .ok (.ireturn, 1) := by decide +kernel
theorem d_L_law_1453 : decode c_L_law 1453 = .ok (.iload 5, 2) := by decide +kernel
theorem d_L_law_1455 : decode c_L_law 1455 = .ok (.ifCond .ne 22, 3) := by decide +kernel
theorem d_L_law_1458 : decode c_L_law 1458 = .ok (.aload_n 3, 1) := by decide +kernel
theorem d_L_law_1459 : decode c_L_law 1459 = .ok (.iconst 0, 1) := by decide +kernel
theorem d_L_law_1460 : decode c_L_law 1460 = .ok (.laload, 1) := by decide +kernel
theorem d_L_law_1461 : decode c_L_law 1461 = .ok (.iload 6, 2) := by decide +kernel
theorem d_L_law_1463 : decode c_L_law 1463 = .ok (.ifCond .eq 7, 3) := by decide +kernel
theorem d_L_law_1466 : decode c_L_law 1466 = .ok (.lconst 1, 1) := by decide +kernel
theorem d_L_law_1467 : decode c_L_law 1467 = .ok (.goto 4, 3) := by decide +kernel
theorem d_L_law_1470 : decode c_L_law 1470 = .ok (.lconst 0, 1) := by decide +kernel
theorem d_L_law_1471 : decode c_L_law 1471 = .ok (.lcmp, 1) := by decide +kernel
theorem d_L_law_1472 : decode c_L_law 1472 = .ok (.ifCond .eq 5, 3) := by decide +kernel
theorem d_L_law_1475 : decode c_L_law 1475 = .ok (.iconst 0, 1) := by decide +kernel
theorem d_L_law_1476 : decode c_L_law 1476 = .ok (.ireturn, 1) := by decide +kernel
theorem d_L_law_1477 : decode c_L_law 1477 = .ok (.goto 121, 3) := by decide +kernel
theorem d_L_law_1480 : decode c_L_law 1480 = .ok (.aload_n 1, 1) := by decide +kernel
theorem d_L_law_1481 : decode c_L_law 1481 = .ok (.aload_n 0, 1) := by decide +kernel
theorem d_L_law_1482 : decode c_L_law 1482 = .ok (.iload 4, 2) := by decide +kernel
theorem d_L_law_1484 : decode c_L_law 1484 = .ok (.iconst 1, 1) := by decide +kernel
theorem d_L_law_1485 : decode c_L_law 1485 = .ok (.iadd, 1) := by decide +kernel
theorem d_L_law_1486 : decode c_L_law 1486 = .ok (.iaload, 1) := by decide +kernel
theorem d_L_law_1487 : decode c_L_law 1487 = .ok (.aload_n 3, 1) := by decide +kernel
theorem d_L_law_1488 : decode c_L_law 1488 = .ok (.invokestatic 164, 3) := by decide +kernel
theorem d_L_law_1491 : decode c_L_law 1491 = .ok (.istore 5, 2) := by decide +kernel
theorem d_L_law_1493 : decode c_L_law 1493 = .ok (.aload_n 2, 1) := by decide +kernel
theorem d_L_law_1494 : decode c_L_law 1494 = .ok (.aload_n 0, 1) := by decide +kernel
theorem d_L_law_1495 : decode c_L_law 1495 = .ok (.iload 4, 2) := by decide +kernel
theorem d_L_law_1497 : decode c_L_law 1497 = .ok (.iconst 1, 1) := by decide +kernel
theorem d_L_law_1498 : decode c_L_law 1498 = .ok (.iadd, 1) := by decide +kernel
theorem d_L_law_1499 : decode c_L_law 1499 = .ok (.iaload, 1) := by decide +kernel
theorem d_L_law_1500 : decode c_L_law 1500 = .ok (.invokevirtual 166, 3) := by decide +kernel
theorem d_L_law_1503 : decode c_L_law 1503 = .ok (.istore 6, 2) := by decide +kernel
theorem d_L_law_1505 : decode c_L_law 1505 = .ok (.aload_n 2, 1) := by decide +kernel
theorem d_L_law_1506 : decode c_L_law 1506 = .ok (.invokevirtual 101, 3) := by decide +kernel
theorem d_L_law_1509 : decode c_L_law 1509 = .ok (.iload 5, 2) := by decide +kernel
theorem d_L_law_1511 : decode c_L_law 1511 = .ok (.if_icmp .eq 5, 3) := by decide +kernel
theorem d_L_law_1514 : decode c_L_law 1514 = .ok (.iconst 0, 1) := by decide +kernel
theorem d_L_law_1515 : decode c_L_law 1515 = .ok (.ireturn, 1) := by decide +kernel
theorem d_L_law_1516 : decode c_L_law 1516 = .ok (.iload 5, 2) := by decide +kernel
theorem d_L_law_1518 : decode c_L_law 1518 = .ok (.ifCond .ne 15, 3) := by decide +kernel
theorem d_L_law_1521 : decode c_L_law 1521 = .ok (.aload_n 3, 1) := by decide +kernel
theorem d_L_law_1522 : decode c_L_law 1522 = .ok (.iconst 0, 1) := by decide +kernel
theorem d_L_law_1523 : decode c_L_law 1523 = .ok (.laload, 1) := by decide +kernel
theorem d_L_law_1524 : decode c_L_law 1524 = .ok (.iload 6, 2) := by decide +kernel
theorem d_L_law_1526 : decode c_L_law 1526 = .ok (.i2l, 1) := by decide +kernel
theorem d_L_law_1527 : decode c_L_law 1527 = .ok (.lcmp, 1) := by decide +kernel
theorem d_L_law_1528 : decode c_L_law 1528 = .ok (.ifCond .eq 5, 3) := by decide +kernel
theorem d_L_law_1531 : decode c_L_law 1531 = .ok (.iconst 0, 1) := by decide +kernel
theorem d_L_law_1532 : decode c_L_law 1532 = .ok (.ireturn, 1) := by decide +kernel
theorem d_L_law_1533 : decode c_L_law 1533 = .ok (.goto 65, 3) := by decide +kernel
theorem d_L_law_1536 : decode c_L_law 1536 = .ok (.aload_n 1, 1) := by decide +kernel
theorem d_L_law_1537 : decode c_L_law 1537 = .ok (.aload_n 0, 1) := by decide +kernel
theorem d_L_law_1538 : decode c_L_law 1538 = .ok (.iload 4, 2) := by decide +kernel
theorem d_L_law_1540 : decode c_L_law 1540 = .ok (.iconst 1, 1) := by decide +kernel
theorem d_L_law_1541 : decode c_L_law 1541 = .ok (.iadd, 1) := by decide +kernel
theorem d_L_law_1542 : decode c_L_law 1542 = .ok (.iaload, 1) := by decide +kernel
theorem d_L_law_1543 : decode c_L_law 1543 = .ok (.aload_n 0, 1) := by decide +kernel
theorem d_L_law_1544 : decode c_L_law 1544 = .ok (.iload 4, 2) := by decide +kernel
theorem d_L_law_1546 : decode c_L_law 1546 = .ok (.iconst 2, 1) := by decide +kernel
theorem d_L_law_1547 : decode c_L_law 1547 = .ok (.iadd, 1) := by decide +kernel
theorem d_L_law_1548 : decode c_L_law 1548 = .ok (.iaload, 1) := by decide +kernel
theorem d_L_law_1549 : decode c_L_law 1549 = .ok (.invokestatic 167, 3) := by decide +kernel
theorem d_L_law_1552 : decode c_L_law 1552 = .ok (.istore 5, 2) := by decide +kernel
theorem d_L_law_1554 : decode c_L_law 1554 = .ok (.aload_n 2, 1) := by decide +kernel
theorem d_L_law_1555 : decode c_L_law 1555 = .ok (.aload_n 0, 1) := by decide +kernel
theorem d_L_law_1556 : decode c_L_law 1556 = .ok (.iload 4, 2) := by decide +kernel
theorem d_L_law_1558 : decode c_L_law 1558 = .ok (.iconst 1, 1) := by decide +kernel
theorem d_L_law_1559 : decode c_L_law 1559 = .ok (.iadd, 1) := by decide +kernel
theorem d_L_law_1560 : decode c_L_law 1560 = .ok (.iaload, 1) := by decide +kernel
theorem d_L_law_1561 : decode c_L_law 1561 = .ok (.aload_n 0, 1) := by decide +kernel
theorem d_L_law_1562 : decode c_L_law 1562 = .ok (.iload 4, 2) := by decide +kernel
theorem d_L_law_1564 : decode c_L_law 1564 = .ok (.iconst 2, 1) := by decide +kernel
theorem d_L_law_1565 : decode c_L_law 1565 = .ok (.iadd, 1) := by decide +kernel
theorem d_L_law_1566 : decode c_L_law 1566 = .ok (.iaload, 1) := by decide +kernel
theorem d_L_law_1567 : decode c_L_law 1567 = .ok (.invokevirtual 170, 3) := by decide +kernel
theorem d_L_law_1570 : decode c_L_law 1570 = .ok (.aload_n 2, 1) := by decide +kernel
theorem d_L_law_1571 : decode c_L_law 1571 = .ok (.invokevirtual 101, 3) := by decide +kernel
theorem d_L_law_1574 : decode c_L_law 1574 = .ok (.iload 5, 2) := by decide +kernel
theorem d_L_law_1576 : decode c_L_law 1576 = .ok (.if_icmp .eq 5, 3) := by decide +kernel
theorem d_L_law_1579 : decode c_L_law 1579 = .ok (.iconst 0, 1) := by decide +kernel
theorem d_L_law_1580 : decode c_L_law 1580 = .ok (.ireturn, 1) := by decide +kernel
theorem d_L_law_1581 : decode c_L_law 1581 = .ok (.goto 17, 3) := by decide +kernel
theorem d_L_law_1584 : decode c_L_law 1584 = .ok (.aload_n 1, 1) := by decide +kernel
theorem d_L_law_1585 : decode c_L_law 1585 = .ok (.invokevirtual 171, 3) := by decide +kernel
theorem d_L_law_1588 : decode c_L_law 1588 = .ok (.aload_n 2, 1) := by decide +kernel
theorem d_L_law_1589 : decode c_L_law 1589 = .ok (.invokevirtual 175, 3) := by decide +kernel
theorem d_L_law_1592 : decode c_L_law 1592 = .ok (.lcmp, 1) := by decide +kernel
theorem d_L_law_1593 : decode c_L_law 1593 = .ok (.ifCond .eq 5, 3) := by decide +kernel
theorem d_L_law_1596 : decode c_L_law 1596 = .ok (.iconst 0, 1) := by decide +kernel
theorem d_L_law_1597 : decode c_L_law 1597 = .ok (.ireturn, 1) := by decide +kernel
theorem d_L_law_1598 : decode c_L_law 1598 = .ok (.iinc 4 5, 3) := by decide +kernel
theorem d_L_law_1601 : decode c_L_law 1601 = .ok (.goto (-1568), 3) := by decide +kernel
theorem d_L_law_1604 : decode c_L_law 1604 = .ok (.iconst 1, 1) := by decide +kernel
theorem d_L_law_1605 : decode c_L_law 1605 = .ok (.ireturn, 1) := by decide +kernel
