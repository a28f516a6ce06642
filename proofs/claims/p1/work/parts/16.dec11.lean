theorem dL_law_1262 : decode cL_law 1262 = .ok (.iconst 2, 1) := by decide +kernel
theorem dL_law_1263 : decode cL_law 1263 = .ok (.iadd, 1) := by decide +kernel
theorem dL_law_1264 : decode cL_law 1264 = .ok (.iaload, 1) := by decide +kernel
theorem dL_law_1265 : decode cL_law 1265 = .ok (.invokevirtual 132, 3) := by decide +kernel
theorem dL_law_1268 : decode cL_law 1268 = .ok (.aload_n 2, 1) := by decide +kernel
theorem dL_law_1269 : decode cL_law 1269 = .ok (.aload_n 0, 1) := by decide +kernel
theorem dL_law_1270 : decode cL_law 1270 = .ok (.iload_n 3, 1) := by decide +kernel
theorem dL_law_1271 : decode cL_law 1271 = .ok (.iconst 1, 1) := by decide +kernel
theorem dL_law_1272 : decode cL_law 1272 = .ok (.iadd, 1) := by decide +kernel
theorem dL_law_1273 : decode cL_law 1273 = .ok (.iaload, 1) := by decide +kernel
theorem dL_law_1274 : decode cL_law 1274 = .ok (.aload_n 0, 1) := by decide +kernel
theorem dL_law_1275 : decode cL_law 1275 = .ok (.iload_n 3, 1) := by decide +kernel
theorem dL_law_1276 : decode cL_law 1276 = .ok (.iconst 2, 1) := by decide +kernel
theorem dL_law_1277 : decode cL_law 1277 = .ok (.iadd, 1) := by decide +kernel
theorem dL_law_1278 : decode cL_law 1278 = .ok (.iaload, 1) := by decide +kernel
theorem dL_law_1279 : decode cL_law 1279 = .ok (.invokevirtual 135, 3) := by decide +kernel
theorem dL_law_1282 : decode cL_law 1282 = .ok (.if_icmp .eq 203, 3) := by decide +kernel
theorem dL_law_1287 : decode cL_law 1287 = .ok (.aload_n 1, 1) := by decide +kernel
theorem dL_law_1288 : decode cL_law 1288 = .ok (.aload_n 0, 1) := by decide +kernel
theorem dL_law_1289 : decode cL_law 1289 = .ok (.iload_n 3, 1) := by decide +kernel
theorem dL_law_1290 : decode cL_law 1290 = .ok (.iconst 1, 1) := by decide +kernel
theorem dL_law_1291 : decode cL_law 1291 = .ok (.iadd, 1) := by decide +kernel
theorem dL_law_1292 : decode cL_law 1292 = .ok (.iaload, 1) := by decide +kernel
theorem dL_law_1293 : decode cL_law 1293 = .ok (.aload_n 0, 1) := by decide +kernel
theorem dL_law_1294 : decode cL_law 1294 = .ok (.iload_n 3, 1) := by decide +kernel
theorem dL_law_1295 : decode cL_law 1295 = .ok (.iconst 2, 1) := by decide +kernel
theorem dL_law_1296 : decode cL_law 1296 = .ok (.iadd, 1) := by decide +kernel
theorem dL_law_1297 : decode cL_law 1297 = .ok (.iaload, 1) := by decide +kernel
theorem dL_law_1298 : decode cL_law 1298 = .ok (.invokevirtual 136, 3) := by decide +kernel
theorem dL_law_1301 : decode cL_law 1301 = .ok (.aload_n 2, 1) := by decide +kernel
theorem dL_law_1302 : decode cL_law 1302 = .ok (.aload_n 0, 1) := by decide +kernel
theorem dL_law_1303 : decode cL_law 1303 = .ok (.iload_n 3, 1) := by decide +kernel
theorem dL_law_1304 : decode cL_law 1304 = .ok (.iconst 1, 1) := by decide +kernel
theorem dL_law_1305 : decode cL_law 1305 = .ok (.iadd, 1) := by decide +kernel
theorem dL_law_1306 : decode cL_law 1306 = .ok (.iaload, 1) := by decide +kernel
theorem dL_law_1307 : decode cL_law 1307 = .ok (.aload_n 0, 1) := by decide +kernel
theorem dL_law_1308 : decode cL_law 1308 = .ok (.iload_n 3, 1) := by decide +kernel
theorem dL_law_1309 : decode cL_law 1309 = .ok (.iconst 2, 1) := by decide +kernel
theorem dL_law_1310 : decode cL_law 1310 = .ok (.iadd, 1) := by decide +kernel
theorem dL_law_1311 : decode cL_law 1311 = .ok (.iaload, 1) := by decide +kernel
theorem dL_law_1312 : decode cL_law 1312 = .ok (.invokevirtual 139, 3) := by decide +kernel
theorem dL_law_1315 : decode cL_law 1315 = .ok (.if_icmp .eq 170, 3) := by decide +kernel
theorem dL_law_1320 : decode cL_law 1320 = .ok (.aload_n 1, 1) := by decide +kernel
theorem dL_law_1321 : decode cL_law 1321 = .ok (.aload_n 0, 1) := by decide +kernel
theorem dL_law_1322 : decode cL_law 1322 = .ok (.iload_n 3, 1) := by decide +kernel
theorem dL_law_1323 : decode cL_law 1323 = .ok (.iconst 1, 1) := by decide +kernel
theorem dL_law_1324 : decode cL_law 1324 = .ok (.iadd, 1) := by decide +kernel
theorem dL_law_1325 : decode cL_law 1325 = .ok (.iaload, 1) := by decide +kernel
theorem dL_law_1326 : decode cL_law 1326 = .ok (.aload_n 0, 1) := by decide +kernel
theorem dL_law_1327 : decode cL_law 1327 = .ok (.iload_n 3, 1) := by decide +kernel
theorem dL_law_1328 : decode cL_law 1328 = .ok (.iconst 2, 1) := by decide +kernel
theorem dL_law_1329 : decode cL_law 1329 = .ok (.iadd, 1) := by decide +kernel
theorem dL_law_1330 : decode cL_law 1330 = .ok (.iaload, 1) := by decide +kernel
theorem dL_law_1331 : decode cL_law 1331 = .ok (.invokevirtual 140, 3) := by decide +kernel
theorem dL_law_1334 : decode cL_law 1334 = .ok (.aload_n 2, 1) := by decide +kernel
theorem dL_law_1335 : decode cL_law 1335 = .ok (.aload_n 0, 1) := by decide +kernel
theorem dL_law_1336 : decode cL_law 1336 = .ok (.iload_n 3, 1) := by decide +kernel
theorem dL_law_1337 : decode cL_law 1337 = .ok (.iconst 1, 1) := by decide +kernel
theorem dL_law_1338 : decode cL_law 1338 = .ok (.iadd, 1) := by decide +kernel
theorem dL_law_1339 : decode cL_law 1339 = .ok (.iaload, 1) := by decide +kernel
theorem dL_law_1340 : decode cL_law 1340 = .ok (.aload_n 0, 1) := by decide +kernel
theorem dL_law_1341 : decode cL_law 1341 = .ok (.iload_n 3, 1) := by decide +kernel
theorem dL_law_1342 : decode cL_law 1342 = .ok (.iconst 2, 1) := by decide +kernel
theorem dL_law_1343 : decode cL_law 1343 = .ok (.iadd, 1) := by decide +kernel
theorem dL_law_1344 : decode cL_law 1344 = .ok (.iaload, 1) := by decide +kernel
theorem dL_law_1345 : decode cL_law 1345 = .ok (.invokevirtual 143, 3) := by decide +kernel
theorem dL_law_1348 : decode cL_law 1348 = .ok (.if_icmp .eq 137, 3) := by decide +kernel
theorem dL_law_1353 : decode cL_law 1353 = .ok (.aload_n 1, 1) := by decide +kernel
theorem dL_law_1354 : decode cL_law 1354 = .ok (.aload_n 0, 1) := by decide +kernel
theorem dL_law_1355 : decode cL_law 1355 = .ok (.iload_n 3, 1) := by decide +kernel
theorem dL_law_1356 : decode cL_law 1356 = .ok (.iconst 1, 1) := by decide +kernel
theorem dL_law_1357 : decode cL_law 1357 = .ok (.iadd, 1) := by decide +kernel
theorem dL_law_1358 : decode cL_law 1358 = .ok (.iaload, 1) := by decide +kernel
theorem dL_law_1359 : decode cL_law 1359 = .ok (.invokevirtual 144, 3) := by decide +kernel
theorem dL_law_1362 : decode cL_law 1362 = .ok (.aload_n 2, 1) := by decide +kernel
theorem dL_law_1363 : decode cL_law 1363 = .ok (.aload_n 0, 1) := by decide +kernel
theorem dL_law_1364 : decode cL_law 1364 = .ok (.iload_n 3, 1) := by decide +kernel
theorem dL_law_1365 : decode cL_law 1365 = .ok (.iconst 1, 1) := by decide +kernel
theorem dL_law_1366 : decode cL_law 1366 = .ok (.iadd, 1) := by decide +kernel
theorem dL_law_1367 : decode cL_law 1367 = .ok (.iaload, 1) := by decide +kernel
theorem dL_law_1368 : decode cL_law 1368 = .ok (.invokevirtual 147, 3) := by decide +kernel
theorem dL_law_1371 : decode cL_law 1371 = .ok (.if_icmp .eq 114, 3) := by decide +kernel
theorem dL_law_1376 : decode cL_law 1376 = .ok (.aload_n 1, 1) := by decide +kernel
theorem dL_law_1377 : decode cL_law 1377 = .ok (.aload_n 0, 1) := by decide +kernel
theorem dL_law_1378 : decode cL_law 1378 = .ok (.iload_n 3, 1) := by decide +kernel
theorem dL_law_1379 : decode cL_law 1379 = .ok (.iconst 1, 1) := by decide +kernel
theorem dL_law_1380 : decode cL_law 1380 = .ok (.iadd, 1) := by decide +kernel
theorem dL_law_1381 : decode cL_law 1381 = .ok (.iaload, 1) := by decide +kernel
theorem dL_law_1382 : decode cL_law 1382 = .ok (.aload_n 0, 1) := by decide +kernel
theorem dL_law_1383 : decode cL_law 1383 = .ok (.iload_n 3, 1) := by decide +kernel
theorem dL_law_1384 : decode cL_law 1384 = .ok (.iconst 2, 1) := by decide +kernel
theorem dL_law_1385 : decode cL_law 1385 = .ok (.iadd, 1) := by decide +kernel
theorem dL_law_1386 : decode cL_law 1386 = .ok (.iaload, 1) := by decide +kernel
theorem dL_law_1387 : decode cL_law 1387 = .ok (.aload_n 0, 1) := by decide +kernel
theorem dL_law_1388 : decode cL_law 1388 = .ok (.iload_n 3, 1) := by decide +kernel
theorem dL_law_1389 : decode cL_law 1389 = .ok (.iconst 3, 1) := by decide +kernel
theorem dL_law_1390 : decode cL_law 1390 = .ok (.iadd, 1) := by decide +kernel
theorem dL_law_1391 : decode cL_law 1391 = .ok (.iaload, 1) := by decide +kernel
theorem dL_law_1392 : decode cL_law 1392 = .ok (.invokevirtual 148, 3) := by decide +kernel
theorem dL_law_1395 : decode cL_law 1395 = .ok (.aload_n 2, 1) := by decide +kernel
theorem dL_law_1396 : decode cL_law 1396 = .ok (.aload_n 0, 1) := by decide +kernel
theorem dL_law_1397 : decode cL_law 1397 = .ok (.iload_n 3, 1) := by decide +kernel
theorem dL_law_1398 : decode cL_law 1398 = .ok (.iconst 1, 1) := by decide +kernel
theorem dL_law_1399 : decode cL_law 1399 = .ok (.iadd, 1) := by decide +kernel
theorem dL_law_1400 : decode cL_law 1400 = .ok (.iaload, 1) := by decide +kernel
theorem dL_law_1401 : decode cL_law 1401 = .ok (.aload_n 0, 1) := by decide +kernel
theorem dL_law_1402 : decode cL_law 1402 = .ok (.iload_n 3, 1) := by decide +kernel
theorem dL_law_1403 : decode cL_law 1403 = .ok (.iconst 2, 1) := by decide +kernel
theorem dL_law_1404 : decode cL_law 1404 = .ok (.iadd, 1) := by decide +kernel
theorem dL_law_1405 : decode cL_law 1405 = .ok (.iaload, 1) := by decide +kernel
theorem dL_law_1406 : decode cL_law 1406 = .ok (.aload_n 0, 1) := by decide +kernel
theorem dL_law_1407 : decode cL_law 1407 = .ok (.iload_n 3, 1) := by decide +kernel
theorem dL_law_1408 : decode cL_law 1408 = .ok (.iconst 3, 1) := by decide +kernel
theorem dL_law_1409 : decode cL_law 1409 = .ok (.iadd, 1) := by decide +kernel
theorem dL_law_1410 : decode cL_law 1410 = .ok (.iaload, 1) := by decide +kernel
theorem dL_law_1411 : decode cL_law 1411 = .ok (.invokevirtual 151, 3) := by decide +kernel
theorem dL_law_1414 : decode cL_law 1414 = .ok (.if_icmp .eq 71, 3) := by decide +kernel
theorem dL_law_1419 : decode cL_law 1419 = .ok (.aload_n 1, 1) := by decide +kernel
theorem dL_law_1420 : decode cL_law 1420 = .ok (.aload_n 0, 1) := by decide +kernel
theorem dL_law_1421 : decode cL_law 1421 = .ok (.iload_n 3, 1) := by decide +kernel
theorem dL_law_1422 : decode cL_law 1422 = .ok (.iconst 1, 1) := by decide +kernel
theorem dL_law_1423 : decode cL_law 1423 = .ok (.iadd, 1) := by decide +kernel
theorem dL_law_1424 : decode cL_law 1424 = .ok (.iaload, 1) := by decide +kernel
theorem dL_law_1425 : decode cL_law 1425 = .ok (.aload_n 0, 1) := by decide +kernel
theorem dL_law_1426 : decode cL_law 1426 = .ok (.iload_n 3, 1) := by decide +kernel
theorem dL_law_1427 : decode cL_law 1427 = .ok (.iconst 2, 1) := by decide +kernel
theorem dL_law_1428 : decode cL_law 1428 = .ok (.iadd, 1) := by decide +kernel
theorem dL_law_1429 : decode cL_law 1429 = .ok (.iaload, 1) := by decide +kernel
theorem dL_law_1430 : decode cL_law 1430 = .ok (.aload_n 0, 1) := by decide +kernel
theorem dL_law_1431 : decode cL_law 1431 = .ok (.iload_n 3, 1) := by decide +kernel
theorem dL_law_1432 : decode cL_law 1432 = .ok (.iconst 3, 1) := by decide +kernel
theorem dL_law_1433 : decode cL_law 1433 = .ok (.iadd, 1) := by decide +kernel
theorem dL_law_1434 : decode cL_law 1434 = .ok (.iaload, 1) := by decide +kernel
theorem dL_law_1435 : decode cL_law 1435 = .ok (.invokevirtual 152, 3) := by decide +kernel
theorem dL_law_1438 : decode cL_law 1438 = .ok (.aload_n 2, 1) := by decide +kernel
theorem dL_law_1439 : decode cL_law 1439 = .ok (.aload_n 0, 1) := by decide +kernel
theorem dL_law_1440 : decode cL_law 1440 = .ok (.iload_n 3, 1) := by decide +kernel
theorem dL_law_1441 : decode cL_law 1441 = .ok (.iconst 1, 1) := by decide +kernel
theorem dL_law_1442 : decode cL_law 1442 = .ok (.iadd, 1) := by decide +kernel
theorem dL_law_1443 : decode cL_law 1443 = .ok (.iaload, 1) := by decide +kernel
theorem dL_law_1444 : decode cL_law 1444 = .ok (.aload_n 0, 1) := by decide +kernel
theorem dL_law_1445 : decode cL_law 1445 = .ok (.iload_n 3, 1) := by decide +kernel
theorem dL_law_1446 : decode cL_law 1446 = .ok (.iconst 2, 1) := by decide +kernel
theorem dL_law_1447 : decode cL_law 1447 = .ok (.iadd, 1) := by decide +kernel
theorem dL_law_1448 : decode cL_law 1448 = .ok (.iaload, 1) := by decide +kernel
theorem dL_law_1449 : decode cL_law 1449 = .ok (.aload_n 0, 1) := by decide +kernel
theorem dL_law_1450 : decode cL_law 1450 = .ok (.iload_n 3, 1) := by decide +kernel
theorem dL_law_1451 : decode cL_law 1451 = .ok (.iconst 3, 1) := by decide +kernel
theorem dL_law_1452 : decode cL_law 1452 = .ok (.iadd, 1) := by decide +kernel
theorem dL_law_1453 : decode cL_law 1453 = .ok (.iaload, 1) := by decide +kernel
theorem dL_law_1454 : decode cL_law 1454 = .ok (.invokevirtual 155, 3) := by decide +kernel
theorem dL_law_1457 : decode cL_law 1457 = .ok (.if_icmp .eq 28, 3) := by decide +kernel
theorem dL_law_1462 : decode cL_law 1462 = .ok (.aload_n 1, 1) := by decide +kernel
theorem dL_law_1463 : decode cL_law 1463 = .ok (.aload_n 0, 1) := by decide +kernel
theorem dL_law_1464 : decode cL_law 1464 = .ok (.iload_n 3, 1) := by decide +kernel
theorem dL_law_1465 : decode cL_law 1465 = .ok (.iconst 1, 1) := by decide +kernel
theorem dL_law_1466 : decode cL_law 1466 = .ok (.iadd, 1) := by decide +kernel
theorem dL_law_1467 : decode cL_law 1467 = .ok (.iaload, 1) := by decide +kernel
theorem dL_law_1468 : decode cL_law 1468 = .ok (.invokevirtual 156, 3) := by decide +kernel
theorem dL_law_1471 : decode cL_law 1471 = .ok (.aload_n 2, 1) := by decide +kernel
theorem dL_law_1472 : decode cL_law 1472 = .ok (.aload_n 0, 1) := by decide +kernel
theorem dL_law_1473 : decode cL_law 1473 = .ok (.iload_n 3, 1) := by decide +kernel
theorem dL_law_1474 : decode cL_law 1474 = .ok (.iconst 1, 1) := by decide +kernel
theorem dL_law_1475 : decode cL_law 1475 = .ok (.iadd, 1) := by decide +kernel
theorem dL_law_1476 : decode cL_law 1476 = .ok (.iaload, 1) := by decide +kernel
theorem dL_law_1477 : decode cL_law 1477 = .ok (.invokevirtual 159, 3) := by decide +kernel
theorem dL_law_1480 : decode cL_law 1480 = .ok (.if_icmp .eq 5, 3) := by decide +kernel
theorem dL_law_0 : decode cL_law 0 = .ok (.new 7, 3) := by decide +kernel
theorem dL_law_3 : decode cL_law 3 = .ok (.dup, 1) := by decide +kernel
theorem dL_law_4 : decode cL_law 4 = .ok (.invokespecial 9, 3) := by decide +kernel
theorem dL_law_7 : decode cL_law 7 = .ok (.astore_n 1, 1) := by decide +kernel
theorem dL_law_8 : decode cL_law 8 = .ok (.new 10, 3) := by decide +kernel
theorem dL_law_11 : decode cL_law 11 = .ok (.dup, 1) := by decide +kernel
theorem dL_law_12 : decode cL_law 12 = .ok (.invokespecial 12, 3) := by decide +kernel
theorem dL_law_15 : decode cL_law 15 = .ok (.astore_n 2, 1) := by decide +kernel
theorem dL_law_16 : decode cL_law 16 = .ok (.iconst 0, 1) := by decide +kernel
theorem dL_law_17 : decode cL_law 17 = .ok (.istore_n 3, 1) := by decide +kernel
theorem dL_law_18 : decode cL_law 18 = .ok (.iload_n 3, 1) := by decide +kernel
theorem dL_law_27 : decode cL_law 27 = .ok (.aload_n 0, 1) := by decide +kernel
theorem dL_law_28 : decode cL_law 28 = .ok (.iload_n 3, 1) := by decide +kernel
theorem dL_law_29 : decode cL_law 29 = .ok (.iaload, 1) := by decide +kernel
theorem dL_law_30 : decode cL_law 30 = .ok (.bipush 63, 2) := by decide +kernel
theorem dL_law_32 : decode cL_law 32 = .ok (.iand, 1) := by decide +kernel
theorem dL_law_33 : decode cL_law 33 = .ok (.tableswitch 1452 0 34 #[155, 208, 231, 274, 297, 340, 373, 406, 469, 502, 535, 568, 601, 644, 677, 720, 763, 838, 871, 894, 937, 970, 1003, 1046, 1099, 1152, 1175, 1208, 1221, 1254, 1287, 1320, 1343, 1386, 1429], 155) := by decide +kernel
