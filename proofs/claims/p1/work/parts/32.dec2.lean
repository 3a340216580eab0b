/-! the law's instructions -/
theorem dl_1123 : decode code 1123 = .ok (.iadd, 1) := by decide +kernel
theorem dl_1124 : decode code 1124 = .ok (.iaload, 1) := by decide +kernel
theorem dl_1125 : decode code 1125 = .ok (.aload_n 0, 1) := by decide +kernel
theorem dl_1126 : decode code 1126 = .ok (.iload 4, 2) := by decide +kernel
theorem dl_1128 : decode code 1128 = .ok (.iconst 2, 1) := by decide +kernel
theorem dl_1129 : decode code 1129 = .ok (.iadd, 1) := by decide +kernel
theorem dl_1130 : decode code 1130 = .ok (.iaload, 1) := by decide +kernel
theorem dl_1131 : decode code 1131 = .ok (.invokevirtual 126, 3) := by decide +kernel
theorem dl_1134 : decode code 1134 = .ok (.if_icmp .eq 436, 3) := by decide +kernel
theorem dl_1137 : decode code 1137 = .ok (.iconst 0, 1) := by decide +kernel
theorem dl_1138 : decode code 1138 = .ok (.ireturn, 1) := by decide +kernel
theorem dl_1139 : decode code 1139 = .ok (.aload_n 1, 1) := by decide +kernel
theorem dl_1140 : decode code 1140 = .ok (.aload_n 0, 1) := by decide +kernel
theorem dl_1141 : decode code 1141 = .ok (.iload 4, 2) := by decide +kernel
theorem dl_1143 : decode code 1143 = .ok (.iconst 1, 1) := by decide +kernel
theorem dl_1144 : decode code 1144 = .ok (.iadd, 1) := by decide +kernel
theorem dl_1145 : decode code 1145 = .ok (.iaload, 1) := by decide +kernel
theorem dl_1146 : decode code 1146 = .ok (.invokevirtual 127, 3) := by decide +kernel
theorem dl_1149 : decode code 1149 = .ok (.aload_n 2, 1) := by decide +kernel
theorem dl_1150 : decode code 1150 = .ok (.aload_n 0, 1) := by decide +kernel
theorem dl_1151 : decode code 1151 = .ok (.iload 4, 2) := by decide +kernel
theorem dl_1153 : decode code 1153 = .ok (.iconst 1, 1) := by decide +kernel
theorem dl_1154 : decode code 1154 = .ok (.iadd, 1) := by decide +kernel
theorem dl_1155 : decode code 1155 = .ok (.iaload, 1) := by decide +kernel
theorem dl_1156 : decode code 1156 = .ok (.invokevirtual 130, 3) := by decide +kernel
theorem dl_1159 : decode code 1159 = .ok (.if_icmp .eq 411, 3) := by decide +kernel
theorem dl_1162 : decode code 1162 = .ok (.iconst 0, 1) := by decide +kernel
theorem dl_1163 : decode code 1163 = .ok (.ireturn, 1) := by decide +kernel
theorem dl_1164 : decode code 1164 = .ok (.aload_n 1, 1) := by decide +kernel
theorem dl_1165 : decode code 1165 = .ok (.aload_n 0, 1) := by decide +kernel
theorem dl_1166 : decode code 1166 = .ok (.iload 4, 2) := by decide +kernel
theorem dl_1168 : decode code 1168 = .ok (.iconst 1, 1) := by decide +kernel
theorem dl_1169 : decode code 1169 = .ok (.iadd, 1) := by decide +kernel
theorem dl_1170 : decode code 1170 = .ok (.iaload, 1) := by decide +kernel
theorem dl_1171 : decode code 1171 = .ok (.aload_n 0, 1) := by decide +kernel
theorem dl_1172 : decode code 1172 = .ok (.iload 4, 2) := by decide +kernel
theorem dl_1174 : decode code 1174 = .ok (.iconst 2, 1) := by decide +kernel
theorem dl_1175 : decode code 1175 = .ok (.iadd, 1) := by decide +kernel
theorem dl_1176 : decode code 1176 = .ok (.iaload, 1) := by decide +kernel
theorem dl_1177 : decode code 1177 = .ok (.invokevirtual 131, 3) := by decide +kernel
theorem dl_1180 : decode code 1180 = .ok (.aload_n 2, 1) := by decide +kernel
theorem dl_1181 : decode code 1181 = .ok (.aload_n 0, 1) := by decide +kernel
theorem dl_1182 : decode code 1182 = .ok (.iload 4, 2) := by decide +kernel
theorem dl_1184 : decode code 1184 = .ok (.iconst 1, 1) := by decide +kernel
theorem dl_1185 : decode code 1185 = .ok (.iadd, 1) := by decide +kernel
theorem dl_1186 : decode code 1186 = .ok (.iaload, 1) := by decide +kernel
theorem dl_1187 : decode code 1187 = .ok (.aload_n 0, 1) := by decide +kernel
theorem dl_1188 : decode code 1188 = .ok (.iload 4, 2) := by decide +kernel
theorem dl_1190 : decode code 1190 = .ok (.iconst 2, 1) := by decide +kernel
theorem dl_1191 : decode code 1191 = .ok (.iadd, 1) := by decide +kernel
theorem dl_1192 : decode code 1192 = .ok (.iaload, 1) := by decide +kernel
theorem dl_1193 : decode code 1193 = .ok (.invokevirtual 134, 3) := by decide +kernel
theorem dl_1196 : decode code 1196 = .ok (.if_icmp .eq 374, 3) := by decide +kernel
theorem dl_1199 : decode code 1199 = .ok (.iconst 0, 1) := by decide +kernel
theorem dl_1200 : decode code 1200 = .ok (.ireturn, 1) := by decide +kernel
theorem dl_1201 : decode code 1201 = .ok (.aload_n 1, 1) := by decide +kernel
theorem dl_1202 : decode code 1202 = .ok (.aload_n 0, 1) := by decide +kernel
theorem dl_1203 : decode code 1203 = .ok (.iload 4, 2) := by decide +kernel
theorem dl_1205 : decode code 1205 = .ok (.iconst 1, 1) := by decide +kernel
theorem dl_1206 : decode code 1206 = .ok (.iadd, 1) := by decide +kernel
theorem dl_1207 : decode code 1207 = .ok (.iaload, 1) := by decide +kernel
theorem dl_1208 : decode code 1208 = .ok (.aload_n 0, 1) := by decide +kernel
theorem dl_1209 : decode code 1209 = .ok (.iload 4, 2) := by decide +kernel
theorem dl_1211 : decode code 1211 = .ok (.iconst 2, 1) := by decide +kernel
theorem dl_1212 : decode code 1212 = .ok (.iadd, 1) := by decide +kernel
theorem dl_1213 : decode code 1213 = .ok (.iaload, 1) := by decide +kernel
theorem dl_1214 : decode code 1214 = .ok (.aload_n 0, 1) := by decide +kernel
theorem dl_1215 : decode code 1215 = .ok (.iload 4, 2) := by decide +kernel
theorem dl_1217 : decode code 1217 = .ok (.iconst 3, 1) := by decide +kernel
theorem dl_1218 : decode code 1218 = .ok (.iadd, 1) := by decide +kernel
theorem dl_1219 : decode code 1219 = .ok (.iaload, 1) := by decide +kernel
theorem dl_1220 : decode code 1220 = .ok (.invokevirtual 135, 3) := by decide +kernel
theorem dl_1223 : decode code 1223 = .ok (.aload_n 2, 1) := by decide +kernel
theorem dl_1224 : decode code 1224 = .ok (.aload_n 0, 1) := by decide +kernel
theorem dl_1225 : decode code 1225 = .ok (.iload 4, 2) := by decide +kernel
theorem dl_1227 : decode code 1227 = .ok (.iconst 1, 1) := by decide +kernel
theorem dl_1228 : decode code 1228 = .ok (.iadd, 1) := by decide +kernel
theorem dl_1229 : decode code 1229 = .ok (.iaload, 1) := by decide +kernel
theorem dl_1230 : decode code 1230 = .ok (.aload_n 0, 1) := by decide +kernel
theorem dl_1231 : decode code 1231 = .ok (.iload 4, 2) := by decide +kernel
theorem dl_1233 : decode code 1233 = .ok (.iconst 2, 1) := by decide +kernel
theorem dl_1234 : decode code 1234 = .ok (.iadd, 1) := by decide +kernel
theorem dl_1235 : decode code 1235 = .ok (.iaload, 1) := by decide +kernel
theorem dl_1236 : decode code 1236 = .ok (.aload_n 0, 1) := by decide +kernel
theorem dl_1237 : decode code 1237 = .ok (.iload 4, 2) := by decide +kernel
theorem dl_1239 : decode code 1239 = .ok (.iconst 3, 1) := by decide +kernel
theorem dl_1240 : decode code 1240 = .ok (.iadd, 1) := by decide +kernel
theorem dl_1241 : decode code 1241 = .ok (.iaload, 1) := by decide +kernel
theorem dl_1242 : decode code 1242 = .ok (.invokevirtual 138, 3) := by decide +kernel
theorem dl_1245 : decode code 1245 = .ok (.if_icmp .eq 325, 3) := by decide +kernel
theorem dl_1248 : decode code 1248 = .ok (.iconst 0, 1) := by decide +kernel
theorem dl_1249 : decode code 1249 = .ok (.ireturn, 1) := by decide +kernel
theorem dl_1250 : decode code 1250 = .ok (.aload_n 1, 1) := by decide +kernel
theorem dl_1251 : decode code 1251 = .ok (.aload_n 0, 1) := by decide +kernel
theorem dl_1252 : decode code 1252 = .ok (.iload 4, 2) := by decide +kernel
theorem dl_1254 : decode code 1254 = .ok (.iconst 1, 1) := by decide +kernel
theorem dl_1255 : decode code 1255 = .ok (.iadd, 1) := by decide +kernel
theorem dl_1256 : decode code 1256 = .ok (.iaload, 1) := by decide +kernel
theorem dl_1257 : decode code 1257 = .ok (.aload_n 0, 1) := by decide +kernel
theorem dl_1258 : decode code 1258 = .ok (.iload 4, 2) := by decide +kernel
theorem dl_1260 : decode code 1260 = .ok (.iconst 2, 1) := by decide +kernel
theorem dl_1261 : decode code 1261 = .ok (.iadd, 1) := by decide +kernel
theorem dl_1262 : decode code 1262 = .ok (.iaload, 1) := by decide +kernel
theorem dl_1263 : decode code 1263 = .ok (.invokevirtual 139, 3) := by decide +kernel
theorem dl_1266 : decode code 1266 = .ok (.aload_n 2, 1) := by decide +kernel
theorem dl_1267 : decode code 1267 = .ok (.aload_n 0, 1) := by decide +kernel
theorem dl_1268 : decode code 1268 = .ok (.iload 4, 2) := by decide +kernel
theorem dl_1270 : decode code 1270 = .ok (.iconst 1, 1) := by decide +kernel
theorem dl_1271 : decode code 1271 = .ok (.iadd, 1) := by decide +kernel
theorem dl_1272 : decode code 1272 = .ok (.iaload, 1) := by decide +kernel
theorem dl_1273 : decode code 1273 = .ok (.aload_n 0, 1) := by decide +kernel
theorem dl_1274 : decode code 1274 = .ok (.iload 4, 2) := by decide +kernel
theorem dl_1276 : decode code 1276 = .ok (.iconst 2, 1) := by decide +kernel
theorem dl_1277 : decode code 1277 = .ok (.iadd, 1) := by decide +kernel
theorem dl_1278 : decode code 1278 = .ok (.iaload, 1) := by decide +kernel
theorem dl_1279 : decode code 1279 = .ok (.invokevirtual 142, 3) := by decide +kernel
theorem dl_1282 : decode code 1282 = .ok (.if_icmp .eq 288, 3) := by decide +kernel
theorem dl_1285 : decode code 1285 = .ok (.iconst 0, 1) := by decide +kernel
theorem dl_1286 : decode code 1286 = .ok (.ireturn, 1) := by decide +kernel
theorem dl_1287 : decode code 1287 = .ok (.aload_n 1, 1) := by decide +kernel
theorem dl_1288 : decode code 1288 = .ok (.aload_n 0, 1) := by decide +kernel
theorem dl_1289 : decode code 1289 = .ok (.iload 4, 2) := by decide +kernel
theorem dl_1291 : decode code 1291 = .ok (.iconst 1, 1) := by decide +kernel
theorem dl_1292 : decode code 1292 = .ok (.iadd, 1) := by decide +kernel
theorem dl_1293 : decode code 1293 = .ok (.iaload, 1) := by decide +kernel
theorem dl_1294 : decode code 1294 = .ok (.aload_n 0, 1) := by decide +kernel
theorem dl_1295 : decode code 1295 = .ok (.iload 4, 2) := by decide +kernel
theorem dl_1297 : decode code 1297 = .ok (.iconst 2, 1) := by decide +kernel
theorem dl_1298 : decode code 1298 = .ok (.iadd, 1) := by decide +kernel
theorem dl_1299 : decode code 1299 = .ok (.iaload, 1) := by decide +kernel
theorem dl_1300 : decode code 1300 = .ok (.aload_n 0, 1) := by decide +kernel
theorem dl_1301 : decode code 1301 = .ok (.iload 4, 2) := by decide +kernel
theorem dl_1303 : decode code 1303 = .ok (.iconst 3, 1) := by decide +kernel
theorem dl_1304 : decode code 1304 = .ok (.iadd, 1) := by decide +kernel
theorem dl_1305 : decode code 1305 = .ok (.iaload, 1) := by decide +kernel
theorem dl_1306 : decode code 1306 = .ok (.invokevirtual 143, 3) := by decide +kernel
theorem dl_1309 : decode code 1309 = .ok (.aload_n 2, 1) := by decide +kernel
theorem dl_1310 : decode code 1310 = .ok (.aload_n 0, 1) := by decide +kernel
theorem dl_1311 : decode code 1311 = .ok (.iload 4, 2) := by decide +kernel
theorem dl_1313 : decode code 1313 = .ok (.iconst 1, 1) := by decide +kernel
theorem dl_1314 : decode code 1314 = .ok (.iadd, 1) := by decide +kernel
theorem dl_1315 : decode code 1315 = .ok (.iaload, 1) := by decide +kernel
theorem dl_1316 : decode code 1316 = .ok (.aload_n 0, 1) := by decide +kernel
theorem dl_1317 : decode code 1317 = .ok (.iload 4, 2) := by decide +kernel
theorem dl_1319 : decode code 1319 = .ok (.iconst 2, 1) := by decide +kernel
theorem dl_1320 : decode code 1320 = .ok (.iadd, 1) := by decide +kernel
theorem dl_1321 : decode code 1321 = .ok (.iaload, 1) := by decide +kernel
theorem dl_1322 : decode code 1322 = .ok (.aload_n 0, 1) := by decide +kernel
theorem dl_1323 : decode code 1323 = .ok (.iload 4, 2) := by decide +kernel
theorem dl_1325 : decode code 1325 = .ok (.iconst 3, 1) := by decide +kernel
theorem dl_1326 : decode code 1326 = .ok (.iadd, 1) := by decide +kernel
theorem dl_1327 : decode code 1327 = .ok (.iaload, 1) := by decide +kernel
theorem dl_1328 : decode code 1328 = .ok (.invokevirtual 146, 3) := by decide +kernel
theorem dl_1331 : decode code 1331 = .ok (.if_icmp .eq 239, 3) := by decide +kernel
theorem dl_1334 : decode code 1334 = .ok (.iconst 0, 1) := by decide +kernel
theorem dl_1335 : decode code 1335 = .ok (.ireturn, 1) := by decide +kernel
theorem dl_1336 : decode code 1336 = .ok (.aload_n 1, 1) := by decide +kernel
theorem dl_1337 : decode code 1337 = .ok (.aload_n 0, 1) := by decide +kernel
theorem dl_1338 : decode code 1338 = .ok (.iload 4, 2) := by decide +kernel
theorem dl_1340 : decode code 1340 = .ok (.iconst 1, 1) := by decide +kernel
theorem dl_1341 : decode code 1341 = .ok (.iadd, 1) := by decide +kernel
theorem dl_1342 : decode code 1342 = .ok (.iaload, 1) := by decide +kernel
theorem dl_1343 : decode code 1343 = .ok (.aload_n 0, 1) := by decide +kernel
theorem dl_1344 : decode code 1344 = .ok (.iload 4, 2) := by decide +kernel
theorem dl_1346 : decode code 1346 = .ok (.iconst 2, 1) := by decide +kernel
theorem dl_1347 : decode code 1347 = .ok (.iadd, 1) := by decide +kernel
theorem dl_1348 : decode code 1348 = .ok (.iaload, 1) := by decide +kernel
theorem dl_1349 : decode code 1349 = .ok (.aload_n 0, 1) := by decide +kernel
theorem dl_1350 : decode code 1350 = .ok (.iload 4, 2) := by decide +kernel
theorem dl_1352 : decode code 1352 = .ok (.iconst 3, 1) := by decide +kernel
theorem dl_1353 : decode code 1353 = .ok (.iadd, 1) := by decide +kernel
theorem dl_1354 : decode code 1354 = .ok (.iaload, 1) := by decide +kernel
theorem dl_1355 : decode code 1355 = .ok (.invokevirtual 147, 3) := by decide +kernel
theorem dl_1358 : decode code 1358 = .ok (.aload_n 2, 1) := by decide +kernel
theorem dl_1359 : decode code 1359 = .ok (.aload_n 0, 1) := by decide +kernel
theorem dl_1360 : decode code 1360 = .ok (.iload 4, 2) := by decide +kernel
theorem dl_1362 : decode code 1362 = .ok (.iconst 1, 1) := by decide +kernel
theorem dl_1363 : decode code 1363 = .ok (.iadd, 1) := by decide +kernel
theorem dl_1364 : decode code 1364 = .ok (.iaload, 1) := by decide +kernel
theorem dl_1365 : decode code 1365 = .ok (.aload_n 0, 1) := by decide +kernel
theorem dl_1366 : decode code 1366 = .ok (.iload 4, 2) := by decide +kernel
theorem dl_1368 : decode code 1368 = .ok (.iconst 2, 1) := by decide +kernel
theorem dl_1369 : decode code 1369 = .ok (.iadd, 1) := by decide +kernel
theorem dl_1370 : decode code 1370 = .ok (.iaload, 1) := by decide +kernel
theorem dl_1371 : decode code 1371 = .ok (.aload_n 0, 1) := by decide +kernel
theorem dl_1372 : decode code 1372 = .ok (.iload 4, 2) := by decide +kernel
theorem dl_1374 : decode code 1374 = .ok (.iconst 3, 1) := by decide +kernel
theorem dl_1375 : decode code 1375 = .ok (.iadd, 1) := by decide +kernel
theorem dl_1376 : decode code 1376 = .ok (.iaload, 1) := by decide +kernel
theorem dl_1377 : decode code 1377 = .ok (.invokevirtual 150, 3) := by decide +kernel
theorem dl_1380 : decode code 1380 = .ok (.if_icmp .eq 190, 3) := by decide +kernel
theorem dl_1383 : decode code 1383 = .ok (.iconst 0, 1) := by decide +kernel
theorem dl_1384 : decode code 1384 = .ok (.ireturn, 1) := by decide +kernel
theorem dl_1385 : decode code 1385 = .ok (.aload_n 1, 1) := by decide +kernel
theorem dl_1386 : decode code 1386 = .ok (.aload_n 0, 1) := by decide +kernel
theorem dl_1387 : decode code 1387 = .ok (.iload 4, 2) := by decide +kernel
theorem dl_1389 : decode code 1389 = .ok (.iconst 1, 1) := by decide +kernel
theorem dl_1390 : decode code 1390 = .ok (.iadd, 1) := by decide +kernel
theorem dl_1391 : decode code 1391 = .ok (.iaload, 1) := by decide +kernel
theorem dl_1392 : decode code 1392 = .ok (.aload_n 0, 1) := by decide +kernel
theorem dl_1393 : decode code 1393 = .ok (.iload 4, 2) := by decide +kernel
theorem dl_1395 : decode code 1395 = .ok (.iconst 2, 1) := by decide +kernel
theorem dl_1396 : decode code 1396 = .ok (.iadd, 1) := by decide +kernel
theorem dl_1397 : decode code 1397 = .ok (.iaload, 1) := by decide +kernel
theorem dl_1398 : decode code 1398 = .ok (.invokevirtual 151, 3) := by decide +kernel
theorem dl_1401 : decode code 1401 = .ok (.aload_n 2, 1) := by decide +kernel
theorem dl_1402 : decode code 1402 = .ok (.aload_n 0, 1) := by decide +kernel
theorem dl_1403 : decode code 1403 = .ok (.iload 4, 2) := by decide +kernel
theorem dl_1405 : decode code 1405 = .ok (.iconst 1, 1) := by decide +kernel
theorem dl_1406 : decode code 1406 = .ok (.iadd, 1) := by decide +kernel
theorem dl_1407 : decode code 1407 = .ok (.iaload, 1) := by decide +kernel
theorem dl_1408 : decode code 1408 = .ok (.aload_n 0, 1) := by decide +kernel
theorem dl_1409 : decode code 1409 = .ok (.iload 4, 2) := by decide +kernel
theorem dl_1411 : decode code 1411 = .ok (.iconst 2, 1) := by decide +kernel
theorem dl_1412 : decode code 1412 = .ok (.iadd, 1) := by decide +kernel
theorem dl_1413 : decode code 1413 = .ok (.iaload, 1) := by decide +kernel
theorem dl_1414 : decode code 1414 = .ok (.invokevirtual 154, 3) := by decide +kernel
theorem dl_1417 : decode code 1417 = .ok (.if_icmp .eq 153, 3) := by decide +kernel
theorem dl_1420 : decode code 1420 = .ok (.iconst 0, 1) := by decide +kernel
theorem dl_1421 : decode code 1421 = .ok (.ireturn, 1) := by decide +kernel
theorem dl_1422 : decode code 1422 = .ok (.aload_n 1, 1) := by decide +kernel
theorem dl_1423 : decode code 1423 = .ok (.aload_n 0, 1) := by decide +kernel
theorem dl_1424 : decode code 1424 = .ok (.iload 4, 2) := by decide +kernel
theorem dl_1426 : decode code 1426 = .ok (.iconst 1, 1) := by decide +kernel
theorem dl_1427 : decode code 1427 = .ok (.iadd, 1) := by decide +kernel
theorem dl_1428 : decode code 1428 = .ok (.iaload, 1) := by decide +kernel
theorem dl_1429 : decode code 1429 = .ok (.invokevirtual 155, 3) := by decide +kernel
theorem dl_1432 : decode code 1432 = .ok (.aload_n 2, 1) := by decide +kernel
theorem dl_1433 : decode code 1433 = .ok (.aload_n 0, 1) := by decide +kernel
theorem dl_1434 : decode code 1434 = .ok (.iload 4, 2) := by decide +kernel
theorem dl_1436 : decode code 1436 = .ok (.iconst 1, 1) := by decide +kernel
theorem dl_1437 : decode code 1437 = .ok (.iadd, 1) := by decide +kernel
theorem dl_1438 : decode code 1438 = .ok (.iaload, 1) := by decide +kernel
theorem dl_1439 : decode code 1439 = .ok (.invokevirtual 158, 3) := by decide +kernel
theorem dl_1442 : decode code 1442 = .ok (.if_icmp .eq 128, 3) := by decide +kernel
theorem dl_1445 : decode code 1445 = .ok (.iconst 0, 1) := by decide +kernel
theorem dl_1446 : decode code 1446 = .ok (.ireturn, 1) := by decide +kernel
theorem dl_1447 : decode code 1447 = .ok (.aload_n 1, 1) := by decide +kernel
theorem dl_1448 : decode code 1448 = .ok (.aload_n 0, 1) := by decide +kernel
theorem dl_1449 : decode code 1449 = .ok (.iload 4, 2) := by decide +kernel
theorem dl_1451 : decode code 1451 = .ok (.iconst 1, 1) := by decide +kernel
theorem dl_1452 : decode code 1452 = .ok (.iadd, 1) := by decide +kernel
theorem dl_1453 : decode code 1453 = .ok (.iaload, 1) := by decide +kernel
theorem dl_1454 : decode code 1454 = .ok (.aload_n 0, 1) := by decide +kernel
theorem dl_1455 : decode code 1455 = .ok (.iload 4, 2) := by decide +kernel
theorem dl_1457 : decode code 1457 = .ok (.iconst 2, 1) := by decide +kernel
theorem dl_1458 : decode code 1458 = .ok (.iadd, 1) := by decide +kernel
theorem dl_1459 : decode code 1459 = .ok (.iaload, 1) := by decide +kernel
theorem dl_1460 : decode code 1460 = .ok (.aload_n 0, 1) := by decide +kernel
theorem dl_1461 : decode code 1461 = .ok (.iload 4, 2) := by decide +kernel
theorem dl_1463 : decode code 1463 = .ok (.iconst 3, 1) := by decide +kernel
theorem dl_1464 : decode code 1464 = .ok (.iadd, 1) := by decide +kernel
theorem dl_1465 : decode code 1465 = .ok (.iaload, 1) := by decide +kernel
theorem dl_1466 : decode code 1466 = .ok (.invokevirtual 159, 3) := by decide +kernel
theorem dl_1469 : decode code 1469 = .ok (.aload_n 2, 1) := by decide +kernel
theorem dl_1470 : decode code 1470 = .ok (.aload_n 0, 1) := by decide +kernel
theorem dl_1471 : decode code 1471 = .ok (.iload 4, 2) := by decide +kernel
theorem dl_1473 : decode code 1473 = .ok (.iconst 1, 1) := by decide +kernel
theorem dl_1474 : decode code 1474 = .ok (.iadd, 1) := by decide +kernel
theorem dl_1475 : decode code 1475 = .ok (.iaload, 1) := by decide +kernel
theorem dl_1476 : decode code 1476 = .ok (.aload_n 0, 1) := by decide +kernel
theorem dl_1477 : decode code 1477 = .ok (.iload 4, 2) := by decide +kernel
theorem dl_1479 : decode code 1479 = .ok (.iconst 2, 1) := by decide +kernel
theorem dl_1480 : decode code 1480 = .ok (.iadd, 1) := by decide +kernel
theorem dl_1481 : decode code 1481 = .ok (.iaload, 1) := by decide +kernel
theorem dl_1482 : decode code 1482 = .ok (.aload_n 0, 1) := by decide +kernel
theorem dl_1483 : decode code 1483 = .ok (.iload 4, 2) := by decide +kernel
theorem dl_1485 : decode code 1485 = .ok (.iconst 3, 1) := by decide +kernel
theorem dl_1486 : decode code 1486 = .ok (.iadd, 1) := by decide +kernel
theorem dl_1487 : decode code 1487 = .ok (.iaload, 1) := by decide +kernel
theorem dl_1488 : decode code 1488 = .ok (.invokevirtual 162, 3) := by decide +kernel
theorem dl_1491 : decode code 1491 = .ok (.if_icmp .eq 79, 3) := by decide +kernel
theorem dl_1494 : decode code 1494 = .ok (.iconst 0, 1) := by decide +kernel
theorem dl_1495 : decode code 1495 = .ok (.ireturn, 1) := by decide +kernel
theorem dl_1496 : decode code 1496 = .ok (.aload_n 1, 1) := by decide +kernel
theorem dl_1497 : decode code 1497 = .ok (.aload_n 0, 1) := by decide +kernel
theorem dl_1498 : decode code 1498 = .ok (.iload 4, 2) := by decide +kernel
theorem dl_1500 : decode code 1500 = .ok (.iconst 1, 1) := by decide +kernel
theorem dl_1501 : decode code 1501 = .ok (.iadd, 1) := by decide +kernel
theorem dl_1502 : decode code 1502 = .ok (.iaload, 1) := by decide +kernel
theorem dl_1503 : decode code 1503 = .ok (.aload_n 0, 1) := by decide +kernel
theorem dl_1504 : decode code 1504 = .ok (.iload 4, 2) := by decide +kernel
theorem dl_1506 : decode code 1506 = .ok (.iconst 2, 1) := by decide +kernel
theorem dl_1507 : decode code 1507 = .ok (.iadd, 1) := by decide +kernel
theorem dl_1508 : decode code 1508 = .ok (.iaload, 1) := by decide +kernel
theorem dl_1509 : decode code 1509 = .ok (.aload_n 0, 1) := by decide +kernel
theorem dl_1510 : decode code 1510 = .ok (.iload 4, 2) := by decide +kernel
theorem dl_1512 : decode code 1512 = .ok (.iconst 3, 1) := by decide +kernel
theorem dl_1513 : decode code 1513 = .ok (.iadd, 1) := by decide +kernel
theorem dl_1514 : decode code 1514 = .ok (.iaload, 1) := by decide +kernel
theorem dl_1515 : decode code 1515 = .ok (.invokevirtual 163, 3) := by decide +kernel
theorem dl_1518 : decode code 1518 = .ok (.aload_n 2, 1) := by decide +kernel
theorem dl_1519 : decode code 1519 = .ok (.aload_n 0, 1) := by decide +kernel
theorem dl_1520 : decode code 1520 = .ok (.iload 4, 2) := by decide +kernel
theorem dl_1522 : decode code 1522 = .ok (.iconst 1, 1) := by decide +kernel
theorem dl_1523 : decode code 1523 = .ok (.iadd, 1) := by decide +kernel
theorem dl_1524 : decode code 1524 = .ok (.iaload, 1) := by decide +kernel
theorem dl_1525 : decode code 1525 = .ok (.aload_n 0, 1) := by decide +kernel
theorem dl_1526 : decode code 1526 = .ok (.iload 4, 2) := by decide +kernel
theorem dl_1528 : decode code 1528 = .ok (.iconst 2, 1) := by decide +kernel
theorem dl_1529 : decode code 1529 = .ok (.iadd, 1) := by decide +kernel
theorem dl_1530 : decode code 1530 = .ok (.iaload, 1) := by decide +kernel
theorem dl_1531 : decode code 1531 = .ok (.aload_n 0, 1) := by decide +kernel
theorem dl_1532 : decode code 1532 = .ok (.iload 4, 2) := by decide +kernel
theorem dl_1534 : decode code 1534 = .ok (.iconst 3, 1) := by decide +kernel
theorem dl_1535 : decode code 1535 = .ok (.iadd, 1) := by decide +kernel
theorem dl_1536 : decode code 1536 = .ok (.iaload, 1) := by decide +kernel
theorem dl_1537 : decode code 1537 = .ok (.invokevirtual 166, 3) := by decide +kernel
theorem dl_1540 : decode code 1540 = .ok (.if_icmp .eq 30, 3) := by decide +kernel
theorem dl_1543 : decode code 1543 = .ok (.iconst 0, 1) := by decide +kernel
theorem dl_1544 : decode code 1544 = .ok (.ireturn, 1) := by decide +kernel
theorem dl_1545 : decode code 1545 = .ok (.aload_n 1, 1) := by decide +kernel
theorem dl_1546 : decode code 1546 = .ok (.aload_n 0, 1) := by decide +kernel
theorem dl_1547 : decode code 1547 = .ok (.iload 4, 2) := by decide +kernel
theorem dl_1549 : decode code 1549 = .ok (.iconst 1, 1) := by decide +kernel
theorem dl_1550 : decode code 1550 = .ok (.iadd, 1) := by decide +kernel
theorem dl_1551 : decode code 1551 = .ok (.iaload, 1) := by decide +kernel
theorem dl_1552 : decode code 1552 = .ok (.invokevirtual 167, 3) := by decide +kernel
theorem dl_1555 : decode code 1555 = .ok (.aload_n 2, 1) := by decide +kernel
theorem dl_1556 : decode code 1556 = .ok (.aload_n 0, 1) := by decide +kernel
theorem dl_1557 : decode code 1557 = .ok (.iload 4, 2) := by decide +kernel
theorem dl_1559 : decode code 1559 = .ok (.iconst 1, 1) := by decide +kernel
theorem dl_1560 : decode code 1560 = .ok (.iadd, 1) := by decide +kernel
theorem dl_1561 : decode code 1561 = .ok (.iaload, 1) := by decide +kernel
theorem dl_1562 : decode code 1562 = .ok (.invokevirtual 170, 3) := by decide +kernel
theorem dl_1565 : decode code 1565 = .ok (.if_icmp .eq 5, 3) := by decide +kernel
theorem dl_1568 : decode code 1568 = .ok (.iconst 0, 1) := by decide +kernel
theorem dl_1569 : decode code 1569 = .ok (.ireturn, 1) := by decide +kernel
theorem dl_1570 : decode code 1570 = .ok (.iinc 4 6, 3) := by decide +kernel
theorem dl_1573 : decode code 1573 = .ok (.goto (-1550), 3) := by decide +kernel
theorem dl_1576 : decode code 1576 = .ok (.iconst 1, 1) := by decide +kernel
theorem dl_1577 : decode code 1577 = .ok (.ireturn, 1) := by decide +kernel
