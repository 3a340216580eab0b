/-! the law's instructions -/
theorem dl_1228 : decode code 1228 = .ok (.iaload, 1) := by decide +kernel
theorem dl_1229 : decode code 1229 = .ok (.aload_n 0, 1) := by decide +kernel
theorem dl_1230 : decode code 1230 = .ok (.iload 4, 2) := by decide +kernel
theorem dl_1232 : decode code 1232 = .ok (.iconst 2, 1) := by decide +kernel
theorem dl_1233 : decode code 1233 = .ok (.iadd, 1) := by decide +kernel
theorem dl_1234 : decode code 1234 = .ok (.iaload, 1) := by decide +kernel
theorem dl_1235 : decode code 1235 = .ok (.invokevirtual 135, 3) := by decide +kernel
theorem dl_1238 : decode code 1238 = .ok (.pop, 1) := by decide +kernel
theorem dl_1239 : decode code 1239 = .ok (.aload_n 2, 1) := by decide +kernel
theorem dl_1240 : decode code 1240 = .ok (.aload_n 0, 1) := by decide +kernel
theorem dl_1241 : decode code 1241 = .ok (.iload 4, 2) := by decide +kernel
theorem dl_1243 : decode code 1243 = .ok (.iconst 1, 1) := by decide +kernel
theorem dl_1244 : decode code 1244 = .ok (.iadd, 1) := by decide +kernel
theorem dl_1245 : decode code 1245 = .ok (.iaload, 1) := by decide +kernel
theorem dl_1246 : decode code 1246 = .ok (.aload_n 0, 1) := by decide +kernel
theorem dl_1247 : decode code 1247 = .ok (.iload 4, 2) := by decide +kernel
theorem dl_1249 : decode code 1249 = .ok (.iconst 2, 1) := by decide +kernel
theorem dl_1250 : decode code 1250 = .ok (.iadd, 1) := by decide +kernel
theorem dl_1251 : decode code 1251 = .ok (.iaload, 1) := by decide +kernel
theorem dl_1252 : decode code 1252 = .ok (.invokevirtual 138, 3) := by decide +kernel
theorem dl_1255 : decode code 1255 = .ok (.pop, 1) := by decide +kernel
theorem dl_1256 : decode code 1256 = .ok (.goto 286, 3) := by decide +kernel
theorem dl_1259 : decode code 1259 = .ok (.aload_n 1, 1) := by decide +kernel
theorem dl_1260 : decode code 1260 = .ok (.aload_n 0, 1) := by decide +kernel
theorem dl_1261 : decode code 1261 = .ok (.iload 4, 2) := by decide +kernel
theorem dl_1263 : decode code 1263 = .ok (.iconst 1, 1) := by decide +kernel
theorem dl_1264 : decode code 1264 = .ok (.iadd, 1) := by decide +kernel
theorem dl_1265 : decode code 1265 = .ok (.iaload, 1) := by decide +kernel
theorem dl_1266 : decode code 1266 = .ok (.aload_n 0, 1) := by decide +kernel
theorem dl_1267 : decode code 1267 = .ok (.iload 4, 2) := by decide +kernel
theorem dl_1269 : decode code 1269 = .ok (.iconst 2, 1) := by decide +kernel
theorem dl_1270 : decode code 1270 = .ok (.iadd, 1) := by decide +kernel
theorem dl_1271 : decode code 1271 = .ok (.iaload, 1) := by decide +kernel
theorem dl_1272 : decode code 1272 = .ok (.aload_n 0, 1) := by decide +kernel
theorem dl_1273 : decode code 1273 = .ok (.iload 4, 2) := by decide +kernel
theorem dl_1275 : decode code 1275 = .ok (.iconst 3, 1) := by decide +kernel
theorem dl_1276 : decode code 1276 = .ok (.iadd, 1) := by decide +kernel
theorem dl_1277 : decode code 1277 = .ok (.iaload, 1) := by decide +kernel
theorem dl_1278 : decode code 1278 = .ok (.invokevirtual 139, 3) := by decide +kernel
theorem dl_1281 : decode code 1281 = .ok (.pop, 1) := by decide +kernel
theorem dl_1282 : decode code 1282 = .ok (.aload_n 2, 1) := by decide +kernel
theorem dl_1283 : decode code 1283 = .ok (.aload_n 0, 1) := by decide +kernel
theorem dl_1284 : decode code 1284 = .ok (.iload 4, 2) := by decide +kernel
theorem dl_1286 : decode code 1286 = .ok (.iconst 1, 1) := by decide +kernel
theorem dl_1287 : decode code 1287 = .ok (.iadd, 1) := by decide +kernel
theorem dl_1288 : decode code 1288 = .ok (.iaload, 1) := by decide +kernel
theorem dl_1289 : decode code 1289 = .ok (.aload_n 0, 1) := by decide +kernel
theorem dl_1290 : decode code 1290 = .ok (.iload 4, 2) := by decide +kernel
theorem dl_1292 : decode code 1292 = .ok (.iconst 2, 1) := by decide +kernel
theorem dl_1293 : decode code 1293 = .ok (.iadd, 1) := by decide +kernel
theorem dl_1294 : decode code 1294 = .ok (.iaload, 1) := by decide +kernel
theorem dl_1295 : decode code 1295 = .ok (.aload_n 0, 1) := by decide +kernel
theorem dl_1296 : decode code 1296 = .ok (.iload 4, 2) := by decide +kernel
theorem dl_1298 : decode code 1298 = .ok (.iconst 3, 1) := by decide +kernel
theorem dl_1299 : decode code 1299 = .ok (.iadd, 1) := by decide +kernel
theorem dl_1300 : decode code 1300 = .ok (.iaload, 1) := by decide +kernel
theorem dl_1301 : decode code 1301 = .ok (.invokevirtual 142, 3) := by decide +kernel
theorem dl_1304 : decode code 1304 = .ok (.pop, 1) := by decide +kernel
theorem dl_1305 : decode code 1305 = .ok (.goto 237, 3) := by decide +kernel
theorem dl_1308 : decode code 1308 = .ok (.aload_n 1, 1) := by decide +kernel
theorem dl_1309 : decode code 1309 = .ok (.aload_n 0, 1) := by decide +kernel
theorem dl_1310 : decode code 1310 = .ok (.iload 4, 2) := by decide +kernel
theorem dl_1312 : decode code 1312 = .ok (.iconst 1, 1) := by decide +kernel
theorem dl_1313 : decode code 1313 = .ok (.iadd, 1) := by decide +kernel
theorem dl_1314 : decode code 1314 = .ok (.iaload, 1) := by decide +kernel
theorem dl_1315 : decode code 1315 = .ok (.aload_n 0, 1) := by decide +kernel
theorem dl_1316 : decode code 1316 = .ok (.iload 4, 2) := by decide +kernel
theorem dl_1318 : decode code 1318 = .ok (.iconst 2, 1) := by decide +kernel
theorem dl_1319 : decode code 1319 = .ok (.iadd, 1) := by decide +kernel
theorem dl_1320 : decode code 1320 = .ok (.iaload, 1) := by decide +kernel
theorem dl_1321 : decode code 1321 = .ok (.aload_n 0, 1) := by decide +kernel
theorem dl_1322 : decode code 1322 = .ok (.iload 4, 2) := by decide +kernel
theorem dl_1324 : decode code 1324 = .ok (.iconst 3, 1) := by decide +kernel
theorem dl_1325 : decode code 1325 = .ok (.iadd, 1) := by decide +kernel
theorem dl_1326 : decode code 1326 = .ok (.iaload, 1) := by decide +kernel
theorem dl_1327 : decode code 1327 = .ok (.invokevirtual 143, 3) := by decide +kernel
theorem dl_1330 : decode code 1330 = .ok (.pop, 1) := by decide +kernel
theorem dl_1331 : decode code 1331 = .ok (.aload_n 2, 1) := by decide +kernel
theorem dl_1332 : decode code 1332 = .ok (.aload_n 0, 1) := by decide +kernel
theorem dl_1333 : decode code 1333 = .ok (.iload 4, 2) := by decide +kernel
theorem dl_1335 : decode code 1335 = .ok (.iconst 1, 1) := by decide +kernel
theorem dl_1336 : decode code 1336 = .ok (.iadd, 1) := by decide +kernel
theorem dl_1337 : decode code 1337 = .ok (.iaload, 1) := by decide +kernel
theorem dl_1338 : decode code 1338 = .ok (.aload_n 0, 1) := by decide +kernel
theorem dl_1339 : decode code 1339 = .ok (.iload 4, 2) := by decide +kernel
theorem dl_1341 : decode code 1341 = .ok (.iconst 2, 1) := by decide +kernel
theorem dl_1342 : decode code 1342 = .ok (.iadd, 1) := by decide +kernel
theorem dl_1343 : decode code 1343 = .ok (.iaload, 1) := by decide +kernel
theorem dl_1344 : decode code 1344 = .ok (.aload_n 0, 1) := by decide +kernel
theorem dl_1345 : decode code 1345 = .ok (.iload 4, 2) := by decide +kernel
theorem dl_1347 : decode code 1347 = .ok (.iconst 3, 1) := by decide +kernel
theorem dl_1348 : decode code 1348 = .ok (.iadd, 1) := by decide +kernel
theorem dl_1349 : decode code 1349 = .ok (.iaload, 1) := by decide +kernel
theorem dl_1350 : decode code 1350 = .ok (.invokevirtual 146, 3) := by decide +kernel
theorem dl_1353 : decode code 1353 = .ok (.pop, 1) := by decide +kernel
theorem dl_1354 : decode code 1354 = .ok (.goto 188, 3) := by decide +kernel
theorem dl_1357 : decode code 1357 = .ok (.aload_n 1, 1) := by decide +kernel
theorem dl_1358 : decode code 1358 = .ok (.aload_n 0, 1) := by decide +kernel
theorem dl_1359 : decode code 1359 = .ok (.iload 4, 2) := by decide +kernel
theorem dl_1361 : decode code 1361 = .ok (.iconst 1, 1) := by decide +kernel
theorem dl_1362 : decode code 1362 = .ok (.iadd, 1) := by decide +kernel
theorem dl_1363 : decode code 1363 = .ok (.iaload, 1) := by decide +kernel
theorem dl_1364 : decode code 1364 = .ok (.aload_n 0, 1) := by decide +kernel
theorem dl_1365 : decode code 1365 = .ok (.iload 4, 2) := by decide +kernel
theorem dl_1367 : decode code 1367 = .ok (.iconst 2, 1) := by decide +kernel
theorem dl_1368 : decode code 1368 = .ok (.iadd, 1) := by decide +kernel
theorem dl_1369 : decode code 1369 = .ok (.iaload, 1) := by decide +kernel
theorem dl_1370 : decode code 1370 = .ok (.invokevirtual 147, 3) := by decide +kernel
theorem dl_1373 : decode code 1373 = .ok (.pop, 1) := by decide +kernel
theorem dl_1374 : decode code 1374 = .ok (.aload_n 2, 1) := by decide +kernel
theorem dl_1375 : decode code 1375 = .ok (.aload_n 0, 1) := by decide +kernel
theorem dl_1376 : decode code 1376 = .ok (.iload 4, 2) := by decide +kernel
theorem dl_1378 : decode code 1378 = .ok (.iconst 1, 1) := by decide +kernel
theorem dl_1379 : decode code 1379 = .ok (.iadd, 1) := by decide +kernel
theorem dl_1380 : decode code 1380 = .ok (.iaload, 1) := by decide +kernel
theorem dl_1381 : decode code 1381 = .ok (.aload_n 0, 1) := by decide +kernel
theorem dl_1382 : decode code 1382 = .ok (.iload 4, 2) := by decide +kernel
theorem dl_1384 : decode code 1384 = .ok (.iconst 2, 1) := by decide +kernel
theorem dl_1385 : decode code 1385 = .ok (.iadd, 1) := by decide +kernel
theorem dl_1386 : decode code 1386 = .ok (.iaload, 1) := by decide +kernel
theorem dl_1387 : decode code 1387 = .ok (.invokevirtual 150, 3) := by decide +kernel
theorem dl_1390 : decode code 1390 = .ok (.pop, 1) := by decide +kernel
theorem dl_1391 : decode code 1391 = .ok (.goto 151, 3) := by decide +kernel
theorem dl_1394 : decode code 1394 = .ok (.aload_n 1, 1) := by decide +kernel
theorem dl_1395 : decode code 1395 = .ok (.aload_n 0, 1) := by decide +kernel
theorem dl_1396 : decode code 1396 = .ok (.iload 4, 2) := by decide +kernel
theorem dl_1398 : decode code 1398 = .ok (.iconst 1, 1) := by decide +kernel
theorem dl_1399 : decode code 1399 = .ok (.iadd, 1) := by decide +kernel
theorem dl_1400 : decode code 1400 = .ok (.iaload, 1) := by decide +kernel
theorem dl_1401 : decode code 1401 = .ok (.invokevirtual 151, 3) := by decide +kernel
theorem dl_1404 : decode code 1404 = .ok (.pop, 1) := by decide +kernel
theorem dl_1405 : decode code 1405 = .ok (.aload_n 2, 1) := by decide +kernel
theorem dl_1406 : decode code 1406 = .ok (.aload_n 0, 1) := by decide +kernel
theorem dl_1407 : decode code 1407 = .ok (.iload 4, 2) := by decide +kernel
theorem dl_1409 : decode code 1409 = .ok (.iconst 1, 1) := by decide +kernel
theorem dl_1410 : decode code 1410 = .ok (.iadd, 1) := by decide +kernel
theorem dl_1411 : decode code 1411 = .ok (.iaload, 1) := by decide +kernel
theorem dl_1412 : decode code 1412 = .ok (.invokevirtual 154, 3) := by decide +kernel
theorem dl_1415 : decode code 1415 = .ok (.pop, 1) := by decide +kernel
theorem dl_1416 : decode code 1416 = .ok (.goto 126, 3) := by decide +kernel
theorem dl_1419 : decode code 1419 = .ok (.aload_n 1, 1) := by decide +kernel
theorem dl_1420 : decode code 1420 = .ok (.aload_n 0, 1) := by decide +kernel
theorem dl_1421 : decode code 1421 = .ok (.iload 4, 2) := by decide +kernel
theorem dl_1423 : decode code 1423 = .ok (.iconst 1, 1) := by decide +kernel
theorem dl_1424 : decode code 1424 = .ok (.iadd, 1) := by decide +kernel
theorem dl_1425 : decode code 1425 = .ok (.iaload, 1) := by decide +kernel
theorem dl_1426 : decode code 1426 = .ok (.aload_n 0, 1) := by decide +kernel
theorem dl_1427 : decode code 1427 = .ok (.iload 4, 2) := by decide +kernel
theorem dl_1429 : decode code 1429 = .ok (.iconst 2, 1) := by decide +kernel
theorem dl_1430 : decode code 1430 = .ok (.iadd, 1) := by decide +kernel
theorem dl_1431 : decode code 1431 = .ok (.iaload, 1) := by decide +kernel
theorem dl_1432 : decode code 1432 = .ok (.aload_n 0, 1) := by decide +kernel
theorem dl_1433 : decode code 1433 = .ok (.iload 4, 2) := by decide +kernel
theorem dl_1435 : decode code 1435 = .ok (.iconst 3, 1) := by decide +kernel
theorem dl_1436 : decode code 1436 = .ok (.iadd, 1) := by decide +kernel
theorem dl_1437 : decode code 1437 = .ok (.iaload, 1) := by decide +kernel
theorem dl_1438 : decode code 1438 = .ok (.invokevirtual 155, 3) := by decide +kernel
theorem dl_1441 : decode code 1441 = .ok (.pop, 1) := by decide +kernel
theorem dl_1442 : decode code 1442 = .ok (.aload_n 2, 1) := by decide +kernel
theorem dl_1443 : decode code 1443 = .ok (.aload_n 0, 1) := by decide +kernel
theorem dl_1444 : decode code 1444 = .ok (.iload 4, 2) := by decide +kernel
theorem dl_1446 : decode code 1446 = .ok (.iconst 1, 1) := by decide +kernel
theorem dl_1447 : decode code 1447 = .ok (.iadd, 1) := by decide +kernel
theorem dl_1448 : decode code 1448 = .ok (.iaload, 1) := by decide +kernel
theorem dl_1449 : decode code 1449 = .ok (.aload_n 0, 1) := by decide +kernel
theorem dl_1450 : decode code 1450 = .ok (.iload 4, 2) := by decide +kernel
theorem dl_1452 : decode code 1452 = .ok (.iconst 2, 1) := by decide +kernel
theorem dl_1453 : decode code 1453 = .ok (.iadd, 1) := by decide +kernel
theorem dl_1454 : decode code 1454 = .ok (.iaload, 1) := by decide +kernel
theorem dl_1455 : decode code 1455 = .ok (.aload_n 0, 1) := by decide +kernel
theorem dl_1456 : decode code 1456 = .ok (.iload 4, 2) := by decide +kernel
theorem dl_1458 : decode code 1458 = .ok (.iconst 3, 1) := by decide +kernel
theorem dl_1459 : decode code 1459 = .ok (.iadd, 1) := by decide +kernel
theorem dl_1460 : decode code 1460 = .ok (.iaload, 1) := by decide +kernel
theorem dl_1461 : decode code 1461 = .ok (.invokevirtual 158, 3) := by decide +kernel
theorem dl_1464 : decode code 1464 = .ok (.pop, 1) := by decide +kernel
theorem dl_1465 : decode code 1465 = .ok (.goto 77, 3) := by decide +kernel
theorem dl_1468 : decode code 1468 = .ok (.aload_n 1, 1) := by decide +kernel
theorem dl_1469 : decode code 1469 = .ok (.aload_n 0, 1) := by decide +kernel
theorem dl_1470 : decode code 1470 = .ok (.iload 4, 2) := by decide +kernel
theorem dl_1472 : decode code 1472 = .ok (.iconst 1, 1) := by decide +kernel
theorem dl_1473 : decode code 1473 = .ok (.iadd, 1) := by decide +kernel
theorem dl_1474 : decode code 1474 = .ok (.iaload, 1) := by decide +kernel
theorem dl_1475 : decode code 1475 = .ok (.aload_n 0, 1) := by decide +kernel
theorem dl_1476 : decode code 1476 = .ok (.iload 4, 2) := by decide +kernel
theorem dl_1478 : decode code 1478 = .ok (.iconst 2, 1) := by decide +kernel
theorem dl_1479 : decode code 1479 = .ok (.iadd, 1) := by decide +kernel
theorem dl_1480 : decode code 1480 = .ok (.iaload, 1) := by decide +kernel
theorem dl_1481 : decode code 1481 = .ok (.aload_n 0, 1) := by decide +kernel
theorem dl_1482 : decode code 1482 = .ok (.iload 4, 2) := by decide +kernel
theorem dl_1484 : decode code 1484 = .ok (.iconst 3, 1) := by decide +kernel
theorem dl_1485 : decode code 1485 = .ok (.iadd, 1) := by decide +kernel
theorem dl_1486 : decode code 1486 = .ok (.iaload, 1) := by decide +kernel
theorem dl_1487 : decode code 1487 = .ok (.invokevirtual 159, 3) := by decide +kernel
theorem dl_1490 : decode code 1490 = .ok (.pop, 1) := by decide +kernel
theorem dl_1491 : decode code 1491 = .ok (.aload_n 2, 1) := by decide +kernel
theorem dl_1492 : decode code 1492 = .ok (.aload_n 0, 1) := by decide +kernel
theorem dl_1493 : decode code 1493 = .ok (.iload 4, 2) := by decide +kernel
theorem dl_1495 : decode code 1495 = .ok (.iconst 1, 1) := by decide +kernel
theorem dl_1496 : decode code 1496 = .ok (.iadd, 1) := by decide +kernel
theorem dl_1497 : decode code 1497 = .ok (.iaload, 1) := by decide +kernel
theorem dl_1498 : decode code 1498 = .ok (.aload_n 0, 1) := by decide +kernel
theorem dl_1499 : decode code 1499 = .ok (.iload 4, 2) := by decide +kernel
theorem dl_1501 : decode code 1501 = .ok (.iconst 2, 1) := by decide +kernel
theorem dl_1502 : decode code 1502 = .ok (.iadd, 1) := by decide +kernel
theorem dl_1503 : decode code 1503 = .ok (.iaload, 1) := by decide +kernel
theorem dl_1504 : decode code 1504 = .ok (.aload_n 0, 1) := by decide +kernel
theorem dl_1505 : decode code 1505 = .ok (.iload 4, 2) := by decide +kernel
theorem dl_1507 : decode code 1507 = .ok (.iconst 3, 1) := by decide +kernel
theorem dl_1508 : decode code 1508 = .ok (.iadd, 1) := by decide +kernel
theorem dl_1509 : decode code 1509 = .ok (.iaload, 1) := by decide +kernel
theorem dl_1510 : decode code 1510 = .ok (.invokevirtual 162, 3) := by decide +kernel
theorem dl_1513 : decode code 1513 = .ok (.pop, 1) := by decide +kernel
theorem dl_1514 : decode code 1514 = .ok (.goto 28, 3) := by decide +kernel
theorem dl_1517 : decode code 1517 = .ok (.aload_n 1, 1) := by decide +kernel
theorem dl_1518 : decode code 1518 = .ok (.aload_n 0, 1) := by decide +kernel
theorem dl_1519 : decode code 1519 = .ok (.iload 4, 2) := by decide +kernel
theorem dl_1521 : decode code 1521 = .ok (.iconst 1, 1) := by decide +kernel
theorem dl_1522 : decode code 1522 = .ok (.iadd, 1) := by decide +kernel
theorem dl_1523 : decode code 1523 = .ok (.iaload, 1) := by decide +kernel
theorem dl_1524 : decode code 1524 = .ok (.invokevirtual 163, 3) := by decide +kernel
theorem dl_1527 : decode code 1527 = .ok (.pop, 1) := by decide +kernel
theorem dl_1528 : decode code 1528 = .ok (.aload_n 2, 1) := by decide +kernel
theorem dl_1529 : decode code 1529 = .ok (.aload_n 0, 1) := by decide +kernel
theorem dl_1530 : decode code 1530 = .ok (.iload 4, 2) := by decide +kernel
theorem dl_1532 : decode code 1532 = .ok (.iconst 1, 1) := by decide +kernel
theorem dl_1533 : decode code 1533 = .ok (.iadd, 1) := by decide +kernel
theorem dl_1534 : decode code 1534 = .ok (.iaload, 1) := by decide +kernel
theorem dl_1535 : decode code 1535 = .ok (.invokevirtual 166, 3) := by decide +kernel
theorem dl_1538 : decode code 1538 = .ok (.pop, 1) := by decide +kernel
theorem dl_1539 : decode code 1539 = .ok (.goto 3, 3) := by decide +kernel
theorem dl_1542 : decode code 1542 = .ok (.iinc 4 6, 3) := by decide +kernel
theorem dl_1545 : decode code 1545 = .ok (.goto (-1522), 3) := by decide +kernel
theorem dl_1548 : decode code 1548 = .ok (.iconst 1, 1) := by decide +kernel
theorem dl_1549 : decode code 1549 = .ok (.ireturn, 1) := by decide +kernel
