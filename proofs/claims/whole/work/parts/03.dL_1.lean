theorem dL_law_1272 : decode cL_law 1272 = .ok (.iconst 1, 1) := by decide +kernel
theorem dL_law_1273 : decode cL_law 1273 = .ok (.iadd, 1) := by decide +kernel
theorem dL_law_1274 : decode cL_law 1274 = .ok (.iaload, 1) := by decide +kernel
theorem dL_law_1275 : decode cL_law 1275 = .ok (.invokevirtual 149, 3) := by decide +kernel
theorem dL_law_1278 : decode cL_law 1278 = .ok (.aload_n 2, 1) := by decide +kernel
theorem dL_law_1279 : decode cL_law 1279 = .ok (.aload_n 0, 1) := by decide +kernel
theorem dL_law_1280 : decode cL_law 1280 = .ok (.iload_n 3, 1) := by decide +kernel
theorem dL_law_1281 : decode cL_law 1281 = .ok (.iconst 1, 1) := by decide +kernel
theorem dL_law_1282 : decode cL_law 1282 = .ok (.iadd, 1) := by decide +kernel
theorem dL_law_1283 : decode cL_law 1283 = .ok (.iaload, 1) := by decide +kernel
theorem dL_law_1284 : decode cL_law 1284 = .ok (.invokevirtual 152, 3) := by decide +kernel
theorem dL_law_1287 : decode cL_law 1287 = .ok (.if_icmp .eq 130, 3) := by decide +kernel
theorem dL_law_1290 : decode cL_law 1290 = .ok (.iconst 0, 1) := by decide +kernel
theorem dL_law_1291 : decode cL_law 1291 = .ok (.ireturn, 1) := by decide +kernel
theorem dL_law_1292 : decode cL_law 1292 = .ok (.aload_n 1, 1) := by decide +kernel
theorem dL_law_1293 : decode cL_law 1293 = .ok (.aload_n 0, 1) := by decide +kernel
theorem dL_law_1294 : decode cL_law 1294 = .ok (.iload_n 3, 1) := by decide +kernel
theorem dL_law_1295 : decode cL_law 1295 = .ok (.iconst 1, 1) := by decide +kernel
theorem dL_law_1296 : decode cL_law 1296 = .ok (.iadd, 1) := by decide +kernel
theorem dL_law_1297 : decode cL_law 1297 = .ok (.iaload, 1) := by decide +kernel
theorem dL_law_1298 : decode cL_law 1298 = .ok (.aload_n 0, 1) := by decide +kernel
theorem dL_law_1299 : decode cL_law 1299 = .ok (.iload_n 3, 1) := by decide +kernel
theorem dL_law_1300 : decode cL_law 1300 = .ok (.iconst 2, 1) := by decide +kernel
theorem dL_law_1301 : decode cL_law 1301 = .ok (.iadd, 1) := by decide +kernel
theorem dL_law_1302 : decode cL_law 1302 = .ok (.iaload, 1) := by decide +kernel
theorem dL_law_1303 : decode cL_law 1303 = .ok (.invokevirtual 153, 3) := by decide +kernel
theorem dL_law_1306 : decode cL_law 1306 = .ok (.aload_n 2, 1) := by decide +kernel
theorem dL_law_1307 : decode cL_law 1307 = .ok (.aload_n 0, 1) := by decide +kernel
theorem dL_law_1308 : decode cL_law 1308 = .ok (.iload_n 3, 1) := by decide +kernel
theorem dL_law_1309 : decode cL_law 1309 = .ok (.iconst 1, 1) := by decide +kernel
theorem dL_law_1310 : decode cL_law 1310 = .ok (.iadd, 1) := by decide +kernel
theorem dL_law_1311 : decode cL_law 1311 = .ok (.iaload, 1) := by decide +kernel
theorem dL_law_1312 : decode cL_law 1312 = .ok (.aload_n 0, 1) := by decide +kernel
theorem dL_law_1313 : decode cL_law 1313 = .ok (.iload_n 3, 1) := by decide +kernel
theorem dL_law_1314 : decode cL_law 1314 = .ok (.iconst 2, 1) := by decide +kernel
theorem dL_law_1315 : decode cL_law 1315 = .ok (.iadd, 1) := by decide +kernel
theorem dL_law_1316 : decode cL_law 1316 = .ok (.iaload, 1) := by decide +kernel
theorem dL_law_1317 : decode cL_law 1317 = .ok (.invokevirtual 156, 3) := by decide +kernel
theorem dL_law_1320 : decode cL_law 1320 = .ok (.if_icmp .eq 97, 3) := by decide +kernel
theorem dL_law_1323 : decode cL_law 1323 = .ok (.iconst 0, 1) := by decide +kernel
theorem dL_law_1324 : decode cL_law 1324 = .ok (.ireturn, 1) := by decide +kernel
theorem dL_law_1325 : decode cL_law 1325 = .ok (.aload_n 1, 1) := by decide +kernel
theorem dL_law_1326 : decode cL_law 1326 = .ok (.aload_n 0, 1) := by decide +kernel
theorem dL_law_1327 : decode cL_law 1327 = .ok (.iload_n 3, 1) := by decide +kernel
theorem dL_law_1328 : decode cL_law 1328 = .ok (.iconst 1, 1) := by decide +kernel
theorem dL_law_1329 : decode cL_law 1329 = .ok (.iadd, 1) := by decide +kernel
theorem dL_law_1330 : decode cL_law 1330 = .ok (.iaload, 1) := by decide +kernel
theorem dL_law_1331 : decode cL_law 1331 = .ok (.aload_n 0, 1) := by decide +kernel
theorem dL_law_1332 : decode cL_law 1332 = .ok (.iload_n 3, 1) := by decide +kernel
theorem dL_law_1333 : decode cL_law 1333 = .ok (.iconst 2, 1) := by decide +kernel
theorem dL_law_1334 : decode cL_law 1334 = .ok (.iadd, 1) := by decide +kernel
theorem dL_law_1335 : decode cL_law 1335 = .ok (.iaload, 1) := by decide +kernel
theorem dL_law_1336 : decode cL_law 1336 = .ok (.invokevirtual 157, 3) := by decide +kernel
theorem dL_law_1339 : decode cL_law 1339 = .ok (.aload_n 2, 1) := by decide +kernel
theorem dL_law_1340 : decode cL_law 1340 = .ok (.aload_n 0, 1) := by decide +kernel
theorem dL_law_1341 : decode cL_law 1341 = .ok (.iload_n 3, 1) := by decide +kernel
theorem dL_law_1342 : decode cL_law 1342 = .ok (.iconst 1, 1) := by decide +kernel
theorem dL_law_1343 : decode cL_law 1343 = .ok (.iadd, 1) := by decide +kernel
theorem dL_law_1344 : decode cL_law 1344 = .ok (.iaload, 1) := by decide +kernel
theorem dL_law_1345 : decode cL_law 1345 = .ok (.aload_n 0, 1) := by decide +kernel
theorem dL_law_1346 : decode cL_law 1346 = .ok (.iload_n 3, 1) := by decide +kernel
theorem dL_law_1347 : decode cL_law 1347 = .ok (.iconst 2, 1) := by decide +kernel
theorem dL_law_1348 : decode cL_law 1348 = .ok (.iadd, 1) := by decide +kernel
theorem dL_law_1349 : decode cL_law 1349 = .ok (.iaload, 1) := by decide +kernel
theorem dL_law_1350 : decode cL_law 1350 = .ok (.invokevirtual 160, 3) := by decide +kernel
theorem dL_law_1353 : decode cL_law 1353 = .ok (.if_icmp .eq 64, 3) := by decide +kernel
theorem dL_law_1356 : decode cL_law 1356 = .ok (.iconst 0, 1) := by decide +kernel
theorem dL_law_1357 : decode cL_law 1357 = .ok (.ireturn, 1) := by decide +kernel
theorem dL_law_1358 : decode cL_law 1358 = .ok (.aload_n 1, 1) := by decide +kernel
theorem dL_law_1359 : decode cL_law 1359 = .ok (.aload_n 0, 1) := by decide +kernel
theorem dL_law_1360 : decode cL_law 1360 = .ok (.iload_n 3, 1) := by decide +kernel
theorem dL_law_1361 : decode cL_law 1361 = .ok (.iconst 1, 1) := by decide +kernel
theorem dL_law_1362 : decode cL_law 1362 = .ok (.iadd, 1) := by decide +kernel
theorem dL_law_1363 : decode cL_law 1363 = .ok (.iaload, 1) := by decide +kernel
theorem dL_law_1364 : decode cL_law 1364 = .ok (.invokevirtual 161, 3) := by decide +kernel
theorem dL_law_1367 : decode cL_law 1367 = .ok (.aload_n 2, 1) := by decide +kernel
theorem dL_law_1368 : decode cL_law 1368 = .ok (.aload_n 0, 1) := by decide +kernel
theorem dL_law_1369 : decode cL_law 1369 = .ok (.iload_n 3, 1) := by decide +kernel
theorem dL_law_1370 : decode cL_law 1370 = .ok (.iconst 1, 1) := by decide +kernel
theorem dL_law_1371 : decode cL_law 1371 = .ok (.iadd, 1) := by decide +kernel
theorem dL_law_1372 : decode cL_law 1372 = .ok (.iaload, 1) := by decide +kernel
theorem dL_law_1373 : decode cL_law 1373 = .ok (.invokevirtual 164, 3) := by decide +kernel
theorem dL_law_1376 : decode cL_law 1376 = .ok (.if_icmp .eq 41, 3) := by decide +kernel
theorem dL_law_1379 : decode cL_law 1379 = .ok (.iconst 0, 1) := by decide +kernel
theorem dL_law_1380 : decode cL_law 1380 = .ok (.ireturn, 1) := by decide +kernel
theorem dL_law_1381 : decode cL_law 1381 = .ok (.aload_n 1, 1) := by decide +kernel
theorem dL_law_1382 : decode cL_law 1382 = .ok (.aload_n 0, 1) := by decide +kernel
theorem dL_law_1383 : decode cL_law 1383 = .ok (.iload_n 3, 1) := by decide +kernel
theorem dL_law_1384 : decode cL_law 1384 = .ok (.iconst 1, 1) := by decide +kernel
theorem dL_law_1385 : decode cL_law 1385 = .ok (.iadd, 1) := by decide +kernel
theorem dL_law_1386 : decode cL_law 1386 = .ok (.iaload, 1) := by decide +kernel
theorem dL_law_1387 : decode cL_law 1387 = .ok (.invokevirtual 165, 3) := by decide +kernel
theorem dL_law_1390 : decode cL_law 1390 = .ok (.aload_n 2, 1) := by decide +kernel
theorem dL_law_1391 : decode cL_law 1391 = .ok (.aload_n 0, 1) := by decide +kernel
theorem dL_law_1392 : decode cL_law 1392 = .ok (.iload_n 3, 1) := by decide +kernel
theorem dL_law_1393 : decode cL_law 1393 = .ok (.iconst 1, 1) := by decide +kernel
theorem dL_law_1394 : decode cL_law 1394 = .ok (.iadd, 1) := by decide +kernel
theorem dL_law_1395 : decode cL_law 1395 = .ok (.iaload, 1) := by decide +kernel
theorem dL_law_1396 : decode cL_law 1396 = .ok (.invokevirtual 168, 3) := by decide +kernel
theorem dL_law_1399 : decode cL_law 1399 = .ok (.if_icmp .eq 18, 3) := by decide +kernel
theorem dL_law_1402 : decode cL_law 1402 = .ok (.iconst 0, 1) := by decide +kernel
theorem dL_law_1403 : decode cL_law 1403 = .ok (.ireturn, 1) := by decide +kernel
theorem dL_law_1404 : decode cL_law 1404 = .ok (.aload_n 1, 1) := by decide +kernel
theorem dL_law_1405 : decode cL_law 1405 = .ok (.invokevirtual 169, 3) := by decide +kernel
theorem dL_law_1408 : decode cL_law 1408 = .ok (.aload_n 2, 1) := by decide +kernel
theorem dL_law_1409 : decode cL_law 1409 = .ok (.invokevirtual 172, 3) := by decide +kernel
theorem dL_law_1412 : decode cL_law 1412 = .ok (.if_icmp .eq 5, 3) := by decide +kernel
theorem dL_law_1415 : decode cL_law 1415 = .ok (.iconst 0, 1) := by decide +kernel
theorem dL_law_1416 : decode cL_law 1416 = .ok (.ireturn, 1) := by decide +kernel
theorem dL_law_1417 : decode cL_law 1417 = .ok (.iinc 3 7, 3) := by decide +kernel
theorem dL_law_1420 : decode cL_law 1420 = .ok (.goto (-1402), 3) := by decide +kernel
theorem dL_law_1423 : decode cL_law 1423 = .ok (.iconst 1, 1) := by decide +kernel
theorem dL_law_1424 : decode cL_law 1424 = .ok (.ireturn, 1) := by decide +kernel
