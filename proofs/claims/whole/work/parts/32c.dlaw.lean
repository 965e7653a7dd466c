/-! decode rows of the law (by wip/whole/gen/l2.py) -/
theorem d_L_law_1157 : decode code 1157 = .ok (.istore 5, 2) := by decide +kernel
theorem d_L_law_1159 : decode code 1159 = .ok (.aload_n 2, 1) := by decide +kernel
theorem d_L_law_1160 : decode code 1160 = .ok (.aload_n 0, 1) := by decide +kernel
theorem d_L_law_1161 : decode code 1161 = .ok (.iload 4, 2) := by decide +kernel
theorem d_L_law_1163 : decode code 1163 = .ok (.iconst 1, 1) := by decide +kernel
theorem d_L_law_1164 : decode code 1164 = .ok (.iadd, 1) := by decide +kernel
theorem d_L_law_1165 : decode code 1165 = .ok (.iaload, 1) := by decide +kernel
theorem d_L_law_1166 : decode code 1166 = .ok (.aload_n 0, 1) := by decide +kernel
theorem d_L_law_1167 : decode code 1167 = .ok (.iload 4, 2) := by decide +kernel
theorem d_L_law_1169 : decode code 1169 = .ok (.iconst 2, 1) := by decide +kernel
theorem d_L_law_1170 : decode code 1170 = .ok (.iadd, 1) := by decide +kernel
theorem d_L_law_1171 : decode code 1171 = .ok (.iaload, 1) := by decide +kernel
theorem d_L_law_1172 : decode code 1172 = .ok (.invokevirtual 154, 3) := by decide +kernel
theorem d_L_law_1175 : decode code 1175 = .ok (.istore 6, 2) := by decide +kernel
theorem d_L_law_1177 : decode code 1177 = .ok (.aload_n 2, 1) := by decide +kernel
theorem d_L_law_1178 : decode code 1178 = .ok (.invokevirtual 102, 3) := by decide +kernel
theorem d_L_law_1181 : decode code 1181 = .ok (.iload 5, 2) := by decide +kernel
theorem d_L_law_1183 : decode code 1183 = .ok (.if_icmp .eq 5, 3) := by decide +kernel
theorem d_L_law_1186 : decode code 1186 = .ok (.iconst 0, 1) := by decide +kernel
theorem d_L_law_1187 : decode code 1187 = .ok (.ireturn, 1) := by decide +kernel
theorem d_L_law_1188 : decode code 1188 = .ok (.iload 5, 2) := by decide +kernel
theorem d_L_law_1190 : decode code 1190 = .ok (.ifCond .ne 15, 3) := by decide +kernel
theorem d_L_law_1193 : decode code 1193 = .ok (.aload_n 3, 1) := by decide +kernel
theorem d_L_law_1194 : decode code 1194 = .ok (.iconst 0, 1) := by decide +kernel
theorem d_L_law_1195 : decode code 1195 = .ok (.laload, 1) := by decide +kernel
theorem d_L_law_1196 : decode code 1196 = .ok (.iload 6, 2) := by decide +kernel
theorem d_L_law_1198 : decode code 1198 = .ok (.i2l, 1) := by decide +kernel
theorem d_L_law_1199 : decode code 1199 = .ok (.lcmp, 1) := by decide +kernel
theorem d_L_law_1200 : decode code 1200 = .ok (.ifCond .eq 5, 3) := by decide +kernel
theorem d_L_law_1203 : decode code 1203 = .ok (.iconst 0, 1) := by decide +kernel
theorem d_L_law_1204 : decode code 1204 = .ok (.ireturn, 1) := by decide +kernel
theorem d_L_law_1205 : decode code 1205 = .ok (.goto 472, 3) := by decide +kernel
theorem d_L_law_1208 : decode code 1208 = .ok (.aload_n 1, 1) := by decide +kernel
theorem d_L_law_1209 : decode code 1209 = .ok (.aload_n 0, 1) := by decide +kernel
theorem d_L_law_1210 : decode code 1210 = .ok (.iload 4, 2) := by decide +kernel
theorem d_L_law_1212 : decode code 1212 = .ok (.iconst 1, 1) := by decide +kernel
theorem d_L_law_1213 : decode code 1213 = .ok (.iadd, 1) := by decide +kernel
theorem d_L_law_1214 : decode code 1214 = .ok (.iaload, 1) := by decide +kernel
theorem d_L_law_1215 : decode code 1215 = .ok (.aload_n 3, 1) := by decide +kernel
theorem d_L_law_1216 : decode code 1216 = .ok (.invokestatic 155, 3) := by decide +kernel
theorem d_L_law_1219 : decode code 1219 = .ok (.istore 5, 2) := by decide +kernel
theorem d_L_law_1221 : decode code 1221 = .ok (.aload_n 2, 1) := by decide +kernel
theorem d_L_law_1222 : decode code 1222 = .ok (.aload_n 0, 1) := by decide +kernel
theorem d_L_law_1223 : decode code 1223 = .ok (.iload 4, 2) := by decide +kernel
theorem d_L_law_1225 : decode code 1225 = .ok (.iconst 1, 1) := by decide +kernel
theorem d_L_law_1226 : decode code 1226 = .ok (.iadd, 1) := by decide +kernel
theorem d_L_law_1227 : decode code 1227 = .ok (.iaload, 1) := by decide +kernel
theorem d_L_law_1228 : decode code 1228 = .ok (.invokevirtual 157, 3) := by decide +kernel
theorem d_L_law_1231 : decode code 1231 = .ok (.istore 6, 2) := by decide +kernel
theorem d_L_law_1233 : decode code 1233 = .ok (.aload_n 2, 1) := by decide +kernel
theorem d_L_law_1234 : decode code 1234 = .ok (.invokevirtual 102, 3) := by decide +kernel
theorem d_L_law_1237 : decode code 1237 = .ok (.iload 5, 2) := by decide +kernel
theorem d_L_law_1239 : decode code 1239 = .ok (.if_icmp .eq 5, 3) := by decide +kernel
theorem d_L_law_1242 : decode code 1242 = .ok (.iconst 0, 1) := by decide +kernel
theorem d_L_law_1243 : decode code 1243 = .ok (.ireturn, 1) := by decide +kernel
theorem d_L_law_1244 : decode code 1244 = .ok (.iload 5, 2) := by decide +kernel
theorem d_L_law_1246 : decode code 1246 = .ok (.ifCond .ne 15, 3) := by decide +kernel
theorem d_L_law_1249 : decode code 1249 = .ok (.aload_n 3, 1) := by decide +kernel
theorem d_L_law_1250 : decode code 1250 = .ok (.iconst 0, 1) := by decide +kernel
theorem d_L_law_1251 : decode code 1251 = .ok (.laload, 1) := by decide +kernel
theorem d_L_law_1252 : decode code 1252 = .ok (.iload 6, 2) := by decide +kernel
theorem d_L_law_1254 : decode code 1254 = .ok (.i2l, 1) := by decide +kernel
theorem d_L_law_1255 : decode code 1255 = .ok (.lcmp, 1) := by decide +kernel
theorem d_L_law_1256 : decode code 1256 = .ok (.ifCond .eq 5, 3) := by decide +kernel
theorem d_L_law_1259 : decode code 1259 = .ok (.iconst 0, 1) := by decide +kernel
theorem d_L_law_1260 : decode code 1260 = .ok (.ireturn, 1) := by decide +kernel
theorem d_L_law_1261 : decode code 1261 = .ok (.goto 416, 3) := by decide +kernel
theorem d_L_law_1264 : decode code 1264 = .ok (.aload_n 1, 1) := by decide +kernel
theorem d_L_law_1265 : decode code 1265 = .ok (.aload_n 0, 1) := by decide +kernel
theorem d_L_law_1266 : decode code 1266 = .ok (.iload 4, 2) := by decide +kernel
theorem d_L_law_1268 : decode code 1268 = .ok (.iconst 1, 1) := by decide +kernel
theorem d_L_law_1269 : decode code 1269 = .ok (.iadd, 1) := by decide +kernel
theorem d_L_law_1270 : decode code 1270 = .ok (.iaload, 1) := by decide +kernel
theorem d_L_law_1271 : decode code 1271 = .ok (.invokestatic 158, 3) := by decide +kernel
theorem d_L_law_1274 : decode code 1274 = .ok (.istore 5, 2) := by decide +kernel
theorem d_L_law_1276 : decode code 1276 = .ok (.aload_n 2, 1) := by decide +kernel
theorem d_L_law_1277 : decode code 1277 = .ok (.aload_n 0, 1) := by decide +kernel
theorem d_L_law_1278 : decode code 1278 = .ok (.iload 4, 2) := by decide +kernel
theorem d_L_law_1280 : decode code 1280 = .ok (.iconst 1, 1) := by decide +kernel
theorem d_L_law_1281 : decode code 1281 = .ok (.iadd, 1) := by decide +kernel
theorem d_L_law_1282 : decode code 1282 = .ok (.iaload, 1) := by decide +kernel
theorem d_L_law_1283 : decode code 1283 = .ok (.invokevirtual 161, 3) := by decide +kernel
theorem d_L_law_1286 : decode code 1286 = .ok (.aload_n 2, 1) := by decide +kernel
theorem d_L_law_1287 : decode code 1287 = .ok (.invokevirtual 102, 3) := by decide +kernel
theorem d_L_law_1290 : decode code 1290 = .ok (.iload 5, 2) := by decide +kernel
theorem d_L_law_1292 : decode code 1292 = .ok (.if_icmp .eq 5, 3) := by decide +kernel
theorem d_L_law_1295 : decode code 1295 = .ok (.iconst 0, 1) := by decide +kernel
theorem d_L_law_1296 : decode code 1296 = .ok (.ireturn, 1) := by decide +kernel
theorem d_L_law_1297 : decode code 1297 = .ok (.goto 380, 3) := by decide +kernel
theorem d_L_law_1300 : decode code 1300 = .ok (.aload_n 1, 1) := by decide +kernel
theorem d_L_law_1301 : decode code 1301 = .ok (.aload_n 0, 1) := by decide +kernel
theorem d_L_law_1302 : decode code 1302 = .ok (.iload 4, 2) := by decide +kernel
theorem d_L_law_1304 : decode code 1304 = .ok (.iconst 1, 1) := by decide +kernel
theorem d_L_law_1305 : decode code 1305 = .ok (.iadd, 1) := by decide +kernel
theorem d_L_law_1306 : decode code 1306 = .ok (.iaload, 1) := by decide +kernel
theorem d_L_law_1307 : decode code 1307 = .ok (.aload_n 0, 1) := by decide +kernel
theorem d_L_law_1308 : decode code 1308 = .ok (.iload 4, 2) := by decide +kernel
theorem d_L_law_1310 : decode code 1310 = .ok (.iconst 2, 1) := by decide +kernel
theorem d_L_law_1311 : decode code 1311 = .ok (.iadd, 1) := by decide +kernel
theorem d_L_law_1312 : decode code 1312 = .ok (.iaload, 1) := by decide +kernel
theorem d_L_law_1313 : decode code 1313 = .ok (.aload_n 3, 1) := by decide +kernel
theorem d_L_law_1314 : decode code 1314 = .ok (.invokestatic 162, 3) := by decide +kernel
theorem d_L_law_1317 : decode code 1317 = .ok (.istore 5, 2) := by decide +kernel
theorem d_L_law_1319 : decode code 1319 = .ok (.aload_n 2, 1) := by decide +kernel
theorem d_L_law_1320 : decode code 1320 = .ok (.aload_n 0, 1) := by decide +kernel
theorem d_L_law_1321 : decode code 1321 = .ok (.iload 4, 2) := by decide +kernel
theorem d_L_law_1323 : decode code 1323 = .ok (.iconst 1, 1) := by decide +kernel
theorem d_L_law_1324 : decode code 1324 = .ok (.iadd, 1) := by decide +kernel
theorem d_L_law_1325 : decode code 1325 = .ok (.iaload, 1) := by decide +kernel
theorem d_L_law_1326 : decode code 1326 = .ok (.aload_n 0, 1) := by decide +kernel
theorem d_L_law_1327 : decode code 1327 = .ok (.iload 4, 2) := by decide +kernel
theorem d_L_law_1329 : decode code 1329 = .ok (.iconst 2, 1) := by decide +kernel
theorem d_L_law_1330 : decode code 1330 = .ok (.iadd, 1) := by decide +kernel
theorem d_L_law_1331 : decode code 1331 = .ok (.iaload, 1) := by decide +kernel
theorem d_L_law_1332 : decode code 1332 = .ok (.invokevirtual 164, 3) := by decide +kernel
theorem d_L_law_1335 : decode code 1335 = .ok (.istore 6, 2) := by decide +kernel
theorem d_L_law_1337 : decode code 1337 = .ok (.aload_n 2, 1) := by decide +kernel
theorem d_L_law_1338 : decode code 1338 = .ok (.invokevirtual 102, 3) := by decide +kernel
theorem d_L_law_1341 : decode code 1341 = .ok (.iload 5, 2) := by decide +kernel
theorem d_L_law_1343 : decode code 1343 = .ok (.if_icmp .eq 5, 3) := by decide +kernel
theorem d_L_law_1346 : decode code 1346 = .ok (.iconst 0, 1) := by decide +kernel
theorem d_L_law_1347 : decode code 1347 = .ok (.ireturn, 1) := by decide +kernel
theorem d_L_law_1348 : decode code 1348 = .ok (.iload 5, 2) := by decide +kernel
theorem d_L_law_1350 : decode code 1350 = .ok (.ifCond .ne 15, 3) := by decide +kernel
theorem d_L_law_1353 : decode code 1353 = .ok (.aload_n 3, 1) := by decide +kernel
theorem d_L_law_1354 : decode code 1354 = .ok (.iconst 0, 1) := by decide +kernel
theorem d_L_law_1355 : decode code 1355 = .ok (.laload, 1) := by decide +kernel
theorem d_L_law_1356 : decode code 1356 = .ok (.iload 6, 2) := by decide +kernel
theorem d_L_law_1358 : decode code 1358 = .ok (.i2l, 1) := by decide +kernel
theorem d_L_law_1359 : decode code 1359 = .ok (.lcmp, 1) := by decide +kernel
theorem d_L_law_1360 : decode code 1360 = .ok (.ifCond .eq 5, 3) := by decide +kernel
theorem d_L_law_1363 : decode code 1363 = .ok (.iconst 0, 1) := by decide +kernel
theorem d_L_law_1364 : decode code 1364 = .ok (.ireturn, 1) := by decide +kernel
theorem d_L_law_1365 : decode code 1365 = .ok (.goto 312, 3) := by decide +kernel
theorem d_L_law_1368 : decode code 1368 = .ok (.aload_n 1, 1) := by decide +kernel
theorem d_L_law_1369 : decode code 1369 = .ok (.aload_n 0, 1) := by decide +kernel
theorem d_L_law_1370 : decode code 1370 = .ok (.iload 4, 2) := by decide +kernel
theorem d_L_law_1372 : decode code 1372 = .ok (.iconst 1, 1) := by decide +kernel
theorem d_L_law_1373 : decode code 1373 = .ok (.iadd, 1) := by decide +kernel
theorem d_L_law_1374 : decode code 1374 = .ok (.iaload, 1) := by decide +kernel
theorem d_L_law_1375 : decode code 1375 = .ok (.aload_n 0, 1) := by decide +kernel
theorem d_L_law_1376 : decode code 1376 = .ok (.iload 4, 2) := by decide +kernel
theorem d_L_law_1378 : decode code 1378 = .ok (.iconst 2, 1) := by decide +kernel
theorem d_L_law_1379 : decode code 1379 = .ok (.iadd, 1) := by decide +kernel
theorem d_L_law_1380 : decode code 1380 = .ok (.iaload, 1) := by decide +kernel
theorem d_L_law_1381 : decode code 1381 = .ok (.aload_n 3, 1) := by decide +kernel
theorem d_L_law_1382 : decode code 1382 = .ok (.invokestatic 165, 3) := by decide +kernel
theorem d_L_law_1385 : decode code 1385 = .ok (.istore 5, 2) := by decide +kernel
theorem d_L_law_1387 : decode code 1387 = .ok (.aload_n 2, 1) := by decide +kernel
theorem d_L_law_1388 : decode code 1388 = .ok (.aload_n 0, 1) := by decide +kernel
theorem d_L_law_1389 : decode code 1389 = .ok (.iload 4, 2) := by decide +kernel
theorem d_L_law_1391 : decode code 1391 = .ok (.iconst 1, 1) := by decide +kernel
theorem d_L_law_1392 : decode code 1392 = .ok (.iadd, 1) := by decide +kernel
theorem d_L_law_1393 : decode code 1393 = .ok (.iaload, 1) := by decide +kernel
theorem d_L_law_1394 : decode code 1394 = .ok (.aload_n 0, 1) := by decide +kernel
theorem d_L_law_1395 : decode code 1395 = .ok (.iload 4, 2) := by decide +kernel
theorem d_L_law_1397 : decode code 1397 = .ok (.iconst 2, 1) := by decide +kernel
theorem d_L_law_1398 : decode code 1398 = .ok (.iadd, 1) := by decide +kernel
theorem d_L_law_1399 : decode code 1399 = .ok (.iaload, 1) := by decide +kernel
theorem d_L_law_1400 : decode code 1400 = .ok (.invokevirtual 167, 3) := by decide +kernel
theorem d_L_law_1403 : decode code 1403 = .ok (.istore 6, 2) := by decide +kernel
theorem d_L_law_1405 : decode code 1405 = .ok (.aload_n 2, 1) := by decide +kernel
theorem d_L_law_1406 : decode code 1406 = .ok (.invokevirtual 102, 3) := by decide +kernel
theorem d_L_law_1409 : decode code 1409 = .ok (.iload 5, 2) := by decide +kernel
theorem d_L_law_1411 : decode code 1411 = .ok (.if_icmp .eq 5, 3) := by decide +kernel
theorem d_L_law_1414 : decode code 1414 = .ok (.iconst 0, 1) := by decide +kernel
theorem d_L_law_1415 : decode code 1415 = .ok (.ireturn, 1) := by decide +kernel
theorem d_L_law_1416 : decode code 1416 = .ok (.iload 5, 2) := by decide +kernel
theorem d_L_law_1418 : decode code 1418 = .ok (.ifCond .ne 15, 3) := by decide +kernel
theorem d_L_law_1421 : decode code 1421 = .ok (.aload_n 3, 1) := by decide +kernel
theorem d_L_law_1422 : decode code 1422 = .ok (.iconst 0, 1) := by decide +kernel
theorem d_L_law_1423 : decode code 1423 = .ok (.laload, 1) := by decide +kernel
theorem d_L_law_1424 : decode code 1424 = .ok (.iload 6, 2) := by decide +kernel
theorem d_L_law_1426 : decode code 1426 = .ok (.i2l, 1) := by decide +kernel
theorem d_L_law_1427 : decode code 1427 = .ok (.lcmp, 1) := by decide +kernel
theorem d_L_law_1428 : decode code 1428 = .ok (.ifCond .eq 5, 3) := by decide +kernel
theorem d_L_law_1431 : decode code 1431 = .ok (.iconst 0, 1) := by decide +kernel
theorem d_L_law_1432 : decode code 1432 = .ok (.ireturn, 1) := by decide +kernel
theorem d_L_law_1433 : decode code 1433 = .ok (.goto 244, 3) := by decide +kernel
theorem d_L_law_1436 : decode code 1436 = .ok (.aload_n 1, 1) := by decide +kernel
theorem d_L_law_1437 : decode code 1437 = .ok (.aload_n 0, 1) := by decide +kernel
theorem d_L_law_1438 : decode code 1438 = .ok (.iload 4, 2) := by decide +kernel
theorem d_L_law_1440 : decode code 1440 = .ok (.iconst 1, 1) := by decide +kernel
theorem d_L_law_1441 : decode code 1441 = .ok (.iadd, 1) := by decide +kernel
theorem d_L_law_1442 : decode code 1442 = .ok (.iaload, 1) := by decide +kernel
theorem d_L_law_1443 : decode code 1443 = .ok (.aload_n 0, 1) := by decide +kernel
theorem d_L_law_1444 : decode code 1444 = .ok (.iload 4, 2) := by decide +kernel
theorem d_L_law_1446 : decode code 1446 = .ok (.iconst 2, 1) := by decide +kernel
theorem d_L_law_1447 : decode code 1447 = .ok (.iadd, 1) := by decide +kernel
theorem d_L_law_1448 : decode code 1448 = .ok (.iaload, 1) := by decide +kernel
theorem d_L_law_1449 : decode code 1449 = .ok (.aload_n 3, 1) := by decide +kernel
theorem d_L_law_1450 : decode code 1450 = .ok (.invokestatic 168, 3) := by decide +kernel
theorem d_L_law_1453 : decode code 1453 = .ok (.istore 5, 2) := by decide +kernel
theorem d_L_law_1455 : decode code 1455 = .ok (.aload_n 2, 1) := by decide +kernel
theorem d_L_law_1456 : decode code 1456 = .ok (.aload_n 0, 1) := by decide +kernel
theorem d_L_law_1457 : decode code 1457 = .ok (.iload 4, 2) := by decide +kernel
theorem d_L_law_1459 : decode code 1459 = .ok (.iconst 1, 1) := by decide +kernel
theorem d_L_law_1460 : decode code 1460 = .ok (.iadd, 1) := by decide +kernel
theorem d_L_law_1461 : decode code 1461 = .ok (.iaload, 1) := by decide +kernel
theorem d_L_law_1462 : decode code 1462 = .ok (.aload_n 0, 1) := by decide +kernel
theorem d_L_law_1463 : decode code 1463 = .ok (.iload 4, 2) := by decide +kernel
theorem d_L_law_1465 : decode code 1465 = .ok (.iconst 2, 1) := by decide +kernel
theorem d_L_law_1466 : decode code 1466 = .ok (.iadd, 1) := by decide +kernel
theorem d_L_law_1467 : decode code 1467 = .ok (.iaload, 1) := by decide +kernel
theorem d_L_law_1468 : decode code 1468 = .ok (.invokevirtual 170, 3) := by decide +kernel
theorem d_L_law_1471 : decode code 1471 = .ok (.istore 6, 2) := by decide +kernel
theorem d_L_law_1473 : decode code 1473 = .ok (.aload_n 2, 1) := by decide +kernel
theorem d_L_law_1474 : decode code 1474 = .ok (.invokevirtual 102, 3) := by decide +kernel
theorem d_L_law_1477 : decode code 1477 = .ok (.iload 5, 2) := by decide +kernel
theorem d_L_law_1479 : decode code 1479 = .ok (.if_icmp .eq 5, 3) := by decide +kernel
theorem d_L_law_1482 : decode code 1482 = .ok (.iconst 0, 1) := by decide +kernel
theorem d_L_law_1483 : decode code 1483 = .ok (.ireturn, 1) := by decide +kernel
theorem d_L_law_1484 : decode code 1484 = .ok (.iload 5, 2) := by decide +kernel
theorem d_L_law_1486 : decode code 1486 = .ok (.ifCond .ne 15, 3) := by decide +kernel
theorem d_L_law_1489 : decode code 1489 = .ok (.aload_n 3, 1) := by decide +kernel
theorem d_L_law_1490 : decode code 1490 = .ok (.iconst 0, 1) := by decide +kernel
theorem d_L_law_1491 : decode code 1491 = .ok (.laload, 1) := by decide +kernel
theorem d_L_law_1492 : decode code 1492 = .ok (.iload 6, 2) := by decide +kernel
theorem d_L_law_1494 : decode code 1494 = .ok (.i2l, 1) := by decide +kernel
theorem d_L_law_1495 : decode code 1495 = .ok (.lcmp, 1) := by decide +kernel
theorem d_L_law_1496 : decode code 1496 = .ok (.ifCond .eq 5, 3) := by decide +kernel
theorem d_L_law_1499 : decode code 1499 = .ok (.iconst 0, 1) := by decide +kernel
theorem d_L_law_1500 : decode code 1500 = .ok (.ireturn, 1) := by decide +kernel
theorem d_L_law_1501 : decode code 1501 = .ok (.goto 176, 3) := by decide +kernel
theorem d_L_law_1504 : decode code 1504 = .ok (.aload_n 1, 1) := by decide +kernel
theorem d_L_law_1505 : decode code 1505 = .ok (.aload_n 0, 1) := by decide +kernel
theorem d_L_law_1506 : decode code 1506 = .ok (.iload 4, 2) := by decide +kernel
theorem d_L_law_1508 : decode code 1508 = .ok (.iconst 1, 1) := by decide +kernel
theorem d_L_law_1509 : decode code 1509 = .ok (.iadd, 1) := by decide +kernel
theorem d_L_law_1510 : decode code 1510 = .ok (.iaload, 1) := by decide +kernel
theorem d_L_law_1511 : decode code 1511 = .ok (.aload_n 0, 1) := by decide +kernel
theorem d_L_law_1512 : decode code 1512 = .ok (.iload 4, 2) := by decide +kernel
theorem d_L_law_1514 : decode code 1514 = .ok (.iconst 2, 1) := by decide +kernel
theorem d_L_law_1515 : decode code 1515 = .ok (.iadd, 1) := by decide +kernel
theorem d_L_law_1516 : decode code 1516 = .ok (.iaload, 1) := by decide +kernel
theorem d_L_law_1517 : decode code 1517 = .ok (.aload_n 0, 1) := by decide +kernel
theorem d_L_law_1518 : decode code 1518 = .ok (.iload 4, 2) := by decide +kernel
theorem d_L_law_1520 : decode code 1520 = .ok (.iconst 3, 1) := by decide +kernel
theorem d_L_law_1521 : decode code 1521 = .ok (.iadd, 1) := by decide +kernel
theorem d_L_law_1522 : decode code 1522 = .ok (.iaload, 1) := by decide +kernel
theorem d_L_law_1523 : decode code 1523 = .ok (.aload_n 3, 1) := by decide +kernel
theorem d_L_law_1524 : decode code 1524 = .ok (.invokestatic 171, 3) := by decide +kernel
theorem d_L_law_1527 : decode code 1527 = .ok (.istore 5, 2) := by decide +kernel
theorem d_L_law_1529 : decode code 1529 = .ok (.aload_n 2, 1) := by decide +kernel
theorem d_L_law_1530 : decode code 1530 = .ok (.aload_n 0, 1) := by decide +kernel
theorem d_L_law_1531 : decode code 1531 = .ok (.iload 4, 2) := by decide +kernel
theorem d_L_law_1533 : decode code 1533 = .ok (.iconst 1, 1) := by decide +kernel
theorem d_L_law_1534 : decode code 1534 = .ok (.iadd, 1) := by decide +kernel
theorem d_L_law_1535 : decode code 1535 = .ok (.iaload, 1) := by decide +kernel
theorem d_L_law_1536 : decode code 1536 = .ok (.aload_n 0, 1) := by decide +kernel
theorem d_L_law_1537 : decode code 1537 = .ok (.iload 4, 2) := by decide +kernel
theorem d_L_law_1539 : decode code 1539 = .ok (.iconst 2, 1) := by decide +kernel
theorem d_L_law_1540 : decode code 1540 = .ok (.iadd, 1) := by decide +kernel
theorem d_L_law_1541 : decode code 1541 = .ok (.iaload, 1) := by decide +kernel
theorem d_L_law_1542 : decode code 1542 = .ok (.aload_n 0, 1) := by decide +kernel
theorem d_L_law_1543 : decode code 1543 = .ok (.iload 4, 2) := by decide +kernel
theorem d_L_law_1545 : decode code 1545 = .ok (.iconst 3, 1) := by decide +kernel
theorem d_L_law_1546 : decode code 1546 = .ok (.iadd, 1) := by decide +kernel
theorem d_L_law_1547 : decode code 1547 = .ok (.iaload, 1) := by decide +kernel
theorem d_L_law_1548 : decode code 1548 = .ok (.invokevirtual 173, 3) := by decide +kernel
theorem d_L_law_1551 : decode code 1551 = .ok (.istore 6, 2) := by decide +kernel
theorem d_L_law_1553 : decode code 1553 = .ok (.aload_n 2, 1) := by decide +kernel
theorem d_L_law_1554 : decode code 1554 = .ok (.invokevirtual 102, 3) := by decide +kernel
theorem d_L_law_1557 : decode code 1557 = .ok (.iload 5, 2) := by decide +kernel
theorem d_L_law_1559 : decode code 1559 = .ok (.if_icmp .eq 5, 3) := by decide +kernel
theorem d_L_law_1562 : decode code 1562 = .ok (.iconst 0, 1) := by decide +kernel
theorem d_L_law_1563 : decode code 1563 = .ok (.ireturn, 1) := by decide +kernel
theorem d_L_law_1564 : decode code 1564 = .ok (.iload 5, 2) := by decide +kernel
theorem d_L_law_1566 : decode code 1566 = .ok (.ifCond .ne 15, 3) := by decide +kernel
theorem d_L_law_1569 : decode code 1569 = .ok (.aload_n 3, 1) := by decide +kernel
theorem d_L_law_1570 : decode code 1570 = .ok (.iconst 0, 1) := by decide +kernel
theorem d_L_law_1571 : decode code 1571 = .ok (.laload, 1) := by decide +kernel
theorem d_L_law_1572 : decode code 1572 = .ok (.iload 6, 2) := by decide +kernel
theorem d_L_law_1574 : decode code 1574 = .ok (.i2l, 1) := by decide +kernel
theorem d_L_law_1575 : decode code 1575 = .ok (.lcmp, 1) := by decide +kernel
theorem d_L_law_1576 : decode code 1576 = .ok (.ifCond .eq 5, 3) := by decide +kernel
theorem d_L_law_1579 : decode code 1579 = .ok (.iconst 0, 1) := by decide +kernel
theorem d_L_law_1580 : decode code 1580 = .ok (.ireturn, 1) := by decide +kernel
theorem d_L_law_1581 : decode code 1581 = .ok (.goto 96, 3) := by decide +kernel
theorem d_L_law_1584 : decode code 1584 = .ok (.aload_n 1, 1) := by decide +kernel
theorem d_L_law_1585 : decode code 1585 = .ok (.aload_n 0, 1) := by decide +kernel
theorem d_L_law_1586 : decode code 1586 = .ok (.iload 4, 2) := by decide +kernel
theorem d_L_law_1588 : decode code 1588 = .ok (.iconst 1, 1) := by decide +kernel
theorem d_L_law_1589 : decode code 1589 = .ok (.iadd, 1) := by decide +kernel
theorem d_L_law_1590 : decode code 1590 = .ok (.iaload, 1) := by decide +kernel
theorem d_L_law_1591 : decode code 1591 = .ok (.aload_n 0, 1) := by decide +kernel
theorem d_L_law_1592 : decode code 1592 = .ok (.iload 4, 2) := by decide +kernel
theorem d_L_law_1594 : decode code 1594 = .ok (.iconst 2, 1) := by decide +kernel
theorem d_L_law_1595 : decode code 1595 = .ok (.iadd, 1) := by decide +kernel
theorem d_L_law_1596 : decode code 1596 = .ok (.iaload, 1) := by decide +kernel
theorem d_L_law_1597 : decode code 1597 = .ok (.aload_n 3, 1) := by decide +kernel
theorem d_L_law_1598 : decode code 1598 = .ok (.invokestatic 174, 3) := by decide +kernel
theorem d_L_law_1601 : decode code 1601 = .ok (.istore 5, 2) := by decide +kernel
theorem d_L_law_1603 : decode code 1603 = .ok (.aload_n 2, 1) := by decide +kernel
theorem d_L_law_1604 : decode code 1604 = .ok (.aload_n 0, 1) := by decide +kernel
theorem d_L_law_1605 : decode code 1605 = .ok (.iload 4, 2) := by decide +kernel
theorem d_L_law_1607 : decode code 1607 = .ok (.iconst 1, 1) := by decide +kernel
theorem d_L_law_1608 : decode code 1608 = .ok (.iadd, 1) := by decide +kernel
theorem d_L_law_1609 : decode code 1609 = .ok (.iaload, 1) := by decide +kernel
theorem d_L_law_1610 : decode code 1610 = .ok (.aload_n 0, 1) := by decide +kernel
theorem d_L_law_1611 : decode code 1611 = .ok (.iload 4, 2) := by decide +kernel
theorem d_L_law_1613 : decode code 1613 = .ok (.iconst 2, 1) := by decide +kernel
theorem d_L_law_1614 : decode code 1614 = .ok (.iadd, 1) := by decide +kernel
theorem d_L_law_1615 : decode code 1615 = .ok (.iaload, 1) := by decide +kernel
theorem d_L_law_1616 : decode code 1616 = .ok (.invokevirtual 176, 3) := by decide +kernel
theorem d_L_law_1619 : decode code 1619 = .ok (.istore 6, 2) := by decide +kernel
theorem d_L_law_1621 : decode code 1621 = .ok (.aload_n 2, 1) := by decide +kernel
theorem d_L_law_1622 : decode code 1622 = .ok (.invokevirtual 102, 3) := by decide +kernel
theorem d_L_law_1625 : decode code 1625 = .ok (.iload 5, 2) := by decide +kernel
theorem d_L_law_1627 : decode code 1627 = .ok (.if_icmp .eq 5, 3) := by decide +kernel
theorem d_L_law_1630 : decode code 1630 = .ok (.iconst 0, 1) := by decide +kernel
theorem d_L_law_1631 : decode code 1631 = .ok (.ireturn, 1) := by decide +kernel
theorem d_L_law_1632 : decode code 1632 = .ok (.iload 5, 2) := by decide +kernel
theorem d_L_law_1634 : decode code 1634 = .ok (.ifCond .ne 15, 3) := by decide +kernel
theorem d_L_law_1637 : decode code 1637 = .ok (.aload_n 3, 1) := by decide +kernel
theorem d_L_law_1638 : decode code 1638 = .ok (.iconst 0, 1) := by decide +kernel
theorem d_L_law_1639 : decode code 1639 = .ok (.laload, 1) := by decide +kernel
theorem d_L_law_1640 : decode code 1640 = .ok (.iload 6, 2) := by decide +kernel
theorem d_L_law_1642 : decode code 1642 = .ok (.i2l, 1) := by decide +kernel
theorem d_L_law_1643 : decode code 1643 = .ok (.lcmp, 1) := by decide +kernel
theorem d_L_law_1644 : decode code 1644 = .ok (.ifCond .eq 5, 3) := by decide +kernel
theorem d_L_law_1647 : decode code 1647 = .ok (.iconst 0, 1) := by decide +kernel
theorem d_L_law_1648 : decode code 1648 = .ok (.ireturn, 1) := by decide +kernel
theorem d_L_law_1649 : decode code 1649 = .ok (.goto 28, 3) := by decide +kernel
theorem d_L_law_1652 : decode code 1652 = .ok (.aload_n 1, 1) := by decide +kernel
theorem d_L_law_1653 : decode code 1653 = .ok (.aload_n 0, 1) := by decide +kernel
theorem d_L_law_1654 : decode code 1654 = .ok (.iload 4, 2) := by decide +kernel
theorem d_L_law_1656 : decode code 1656 = .ok (.iconst 1, 1) := by decide +kernel
theorem d_L_law_1657 : decode code 1657 = .ok (.iadd, 1) := by decide +kernel
theorem d_L_law_1658 : decode code 1658 = .ok (.iaload, 1) := by decide +kernel
theorem d_L_law_1659 : decode code 1659 = .ok (.invokevirtual 177, 3) := by decide +kernel
theorem d_L_law_1662 : decode code 1662 = .ok (.aload_n 2, 1) := by decide +kernel
theorem d_L_law_1663 : decode code 1663 = .ok (.aload_n 0, 1) := by decide +kernel
theorem d_L_law_1664 : decode code 1664 = .ok (.iload 4, 2) := by decide +kernel
theorem d_L_law_1666 : decode code 1666 = .ok (.iconst 1, 1) := by decide +kernel
theorem d_L_law_1667 : decode code 1667 = .ok (.iadd, 1) := by decide +kernel
theorem d_L_law_1668 : decode code 1668 = .ok (.iaload, 1) := by decide +kernel
theorem d_L_law_1669 : decode code 1669 = .ok (.invokevirtual 179, 3) := by decide +kernel
theorem d_L_law_1672 : decode code 1672 = .ok (.if_icmp .eq 5, 3) := by decide +kernel
theorem d_L_law_1675 : decode code 1675 = .ok (.iconst 0, 1) := by decide +kernel
theorem d_L_law_1676 : decode code 1676 = .ok (.ireturn, 1) := by decide +kernel
theorem d_L_law_1677 : decode code 1677 = .ok (.iinc 4 6, 3) := by decide +kernel
theorem d_L_law_1680 : decode code 1680 = .ok (.goto (-1657), 3) := by decide +kernel
theorem d_L_law_1683 : decode code 1683 = .ok (.iconst 1, 1) := by decide +kernel
theorem d_L_law_1684 : decode code 1684 = .ok (.ireturn, 1) := by decide +kernel
