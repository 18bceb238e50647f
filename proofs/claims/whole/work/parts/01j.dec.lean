theorem dn_d_Law_law_1200 : decode dn_c_Law_law 1200 = .ok (.iaload, 1) := by decide +kernel
theorem dn_d_Law_law_1201 : decode dn_c_Law_law 1201 = .ok (.i2l, 1) := by decide +kernel
theorem dn_d_Law_law_1202 : decode dn_c_Law_law 1202 = .ok (.bipush 32, 2) := by decide +kernel
theorem dn_d_Law_law_1204 : decode dn_c_Law_law 1204 = .ok (.lshl, 1) := by decide +kernel
theorem dn_d_Law_law_1205 : decode dn_c_Law_law 1205 = .ok (.aload_n 0, 1) := by decide +kernel
theorem dn_d_Law_law_1206 : decode dn_c_Law_law 1206 = .ok (.iload 4, 2) := by decide +kernel
theorem dn_d_Law_law_1208 : decode dn_c_Law_law 1208 = .ok (.iconst 4, 1) := by decide +kernel
theorem dn_d_Law_law_1209 : decode dn_c_Law_law 1209 = .ok (.iadd, 1) := by decide +kernel
theorem dn_d_Law_law_1210 : decode dn_c_Law_law 1210 = .ok (.iaload, 1) := by decide +kernel
theorem dn_d_Law_law_1211 : decode dn_c_Law_law 1211 = .ok (.i2l, 1) := by decide +kernel
theorem dn_d_Law_law_1212 : decode dn_c_Law_law 1212 = .ok (.ldc2_w 67, 3) := by decide +kernel
theorem dn_d_Law_law_1215 : decode dn_c_Law_law 1215 = .ok (.land, 1) := by decide +kernel
theorem dn_d_Law_law_1216 : decode dn_c_Law_law 1216 = .ok (.lor, 1) := by decide +kernel
theorem dn_d_Law_law_1217 : decode dn_c_Law_law 1217 = .ok (.aload_n 0, 1) := by decide +kernel
theorem dn_d_Law_law_1218 : decode dn_c_Law_law 1218 = .ok (.iload 4, 2) := by decide +kernel
theorem dn_d_Law_law_1220 : decode dn_c_Law_law 1220 = .ok (.iconst 5, 1) := by decide +kernel
theorem dn_d_Law_law_1221 : decode dn_c_Law_law 1221 = .ok (.iadd, 1) := by decide +kernel
theorem dn_d_Law_law_1222 : decode dn_c_Law_law 1222 = .ok (.iaload, 1) := by decide +kernel
theorem dn_d_Law_law_1223 : decode dn_c_Law_law 1223 = .ok (.i2l, 1) := by decide +kernel
theorem dn_d_Law_law_1224 : decode dn_c_Law_law 1224 = .ok (.bipush 32, 2) := by decide +kernel
theorem dn_d_Law_law_1226 : decode dn_c_Law_law 1226 = .ok (.lshl, 1) := by decide +kernel
theorem dn_d_Law_law_1227 : decode dn_c_Law_law 1227 = .ok (.aload_n 0, 1) := by decide +kernel
theorem dn_d_Law_law_1228 : decode dn_c_Law_law 1228 = .ok (.iload 4, 2) := by decide +kernel
theorem dn_d_Law_law_1230 : decode dn_c_Law_law 1230 = .ok (.bipush 6, 2) := by decide +kernel
theorem dn_d_Law_law_1232 : decode dn_c_Law_law 1232 = .ok (.iadd, 1) := by decide +kernel
theorem dn_d_Law_law_1233 : decode dn_c_Law_law 1233 = .ok (.iaload, 1) := by decide +kernel
theorem dn_d_Law_law_1234 : decode dn_c_Law_law 1234 = .ok (.i2l, 1) := by decide +kernel
theorem dn_d_Law_law_1235 : decode dn_c_Law_law 1235 = .ok (.ldc2_w 67, 3) := by decide +kernel
theorem dn_d_Law_law_1238 : decode dn_c_Law_law 1238 = .ok (.land, 1) := by decide +kernel
theorem dn_d_Law_law_1239 : decode dn_c_Law_law 1239 = .ok (.lor, 1) := by decide +kernel
theorem dn_d_Law_law_1240 : decode dn_c_Law_law 1240 = .ok (.aload_n 0, 1) := by decide +kernel
theorem dn_d_Law_law_1241 : decode dn_c_Law_law 1241 = .ok (.iload 4, 2) := by decide +kernel
theorem dn_d_Law_law_1243 : decode dn_c_Law_law 1243 = .ok (.bipush 7, 2) := by decide +kernel
theorem dn_d_Law_law_1245 : decode dn_c_Law_law 1245 = .ok (.iadd, 1) := by decide +kernel
theorem dn_d_Law_law_1246 : decode dn_c_Law_law 1246 = .ok (.iaload, 1) := by decide +kernel
theorem dn_d_Law_law_1247 : decode dn_c_Law_law 1247 = .ok (.i2l, 1) := by decide +kernel
theorem dn_d_Law_law_1248 : decode dn_c_Law_law 1248 = .ok (.bipush 32, 2) := by decide +kernel
theorem dn_d_Law_law_1250 : decode dn_c_Law_law 1250 = .ok (.lshl, 1) := by decide +kernel
theorem dn_d_Law_law_1251 : decode dn_c_Law_law 1251 = .ok (.aload_n 0, 1) := by decide +kernel
theorem dn_d_Law_law_1252 : decode dn_c_Law_law 1252 = .ok (.iload 4, 2) := by decide +kernel
theorem dn_d_Law_law_1254 : decode dn_c_Law_law 1254 = .ok (.bipush 8, 2) := by decide +kernel
theorem dn_d_Law_law_1256 : decode dn_c_Law_law 1256 = .ok (.iadd, 1) := by decide +kernel
theorem dn_d_Law_law_1257 : decode dn_c_Law_law 1257 = .ok (.iaload, 1) := by decide +kernel
theorem dn_d_Law_law_1258 : decode dn_c_Law_law 1258 = .ok (.i2l, 1) := by decide +kernel
theorem dn_d_Law_law_1259 : decode dn_c_Law_law 1259 = .ok (.ldc2_w 67, 3) := by decide +kernel
theorem dn_d_Law_law_1262 : decode dn_c_Law_law 1262 = .ok (.land, 1) := by decide +kernel
theorem dn_d_Law_law_1263 : decode dn_c_Law_law 1263 = .ok (.lor, 1) := by decide +kernel
theorem dn_d_Law_law_1264 : decode dn_c_Law_law 1264 = .ok (.aload_n 3, 1) := by decide +kernel
theorem dn_d_Law_law_1265 : decode dn_c_Law_law 1265 = .ok (.invokestatic 129, 3) := by decide +kernel
theorem dn_d_Law_law_1268 : decode dn_c_Law_law 1268 = .ok (.istore 5, 2) := by decide +kernel
theorem dn_d_Law_law_1270 : decode dn_c_Law_law 1270 = .ok (.aload_n 2, 1) := by decide +kernel
theorem dn_d_Law_law_1271 : decode dn_c_Law_law 1271 = .ok (.aload_n 0, 1) := by decide +kernel
theorem dn_d_Law_law_1272 : decode dn_c_Law_law 1272 = .ok (.iload 4, 2) := by decide +kernel
theorem dn_d_Law_law_1274 : decode dn_c_Law_law 1274 = .ok (.iconst 1, 1) := by decide +kernel
theorem dn_d_Law_law_1275 : decode dn_c_Law_law 1275 = .ok (.iadd, 1) := by decide +kernel
theorem dn_d_Law_law_1276 : decode dn_c_Law_law 1276 = .ok (.iaload, 1) := by decide +kernel
theorem dn_d_Law_law_1277 : decode dn_c_Law_law 1277 = .ok (.i2l, 1) := by decide +kernel
theorem dn_d_Law_law_1278 : decode dn_c_Law_law 1278 = .ok (.bipush 32, 2) := by decide +kernel
theorem dn_d_Law_law_1280 : decode dn_c_Law_law 1280 = .ok (.lshl, 1) := by decide +kernel
theorem dn_d_Law_law_1281 : decode dn_c_Law_law 1281 = .ok (.aload_n 0, 1) := by decide +kernel
theorem dn_d_Law_law_1282 : decode dn_c_Law_law 1282 = .ok (.iload 4, 2) := by decide +kernel
theorem dn_d_Law_law_1284 : decode dn_c_Law_law 1284 = .ok (.iconst 2, 1) := by decide +kernel
theorem dn_d_Law_law_1285 : decode dn_c_Law_law 1285 = .ok (.iadd, 1) := by decide +kernel
theorem dn_d_Law_law_1286 : decode dn_c_Law_law 1286 = .ok (.iaload, 1) := by decide +kernel
theorem dn_d_Law_law_1287 : decode dn_c_Law_law 1287 = .ok (.i2l, 1) := by decide +kernel
theorem dn_d_Law_law_1288 : decode dn_c_Law_law 1288 = .ok (.ldc2_w 67, 3) := by decide +kernel
theorem dn_d_Law_law_1291 : decode dn_c_Law_law 1291 = .ok (.land, 1) := by decide +kernel
theorem dn_d_Law_law_1292 : decode dn_c_Law_law 1292 = .ok (.lor, 1) := by decide +kernel
theorem dn_d_Law_law_1293 : decode dn_c_Law_law 1293 = .ok (.aload_n 0, 1) := by decide +kernel
theorem dn_d_Law_law_1294 : decode dn_c_Law_law 1294 = .ok (.iload 4, 2) := by decide +kernel
theorem dn_d_Law_law_1296 : decode dn_c_Law_law 1296 = .ok (.iconst 3, 1) := by decide +kernel
theorem dn_d_Law_law_1297 : decode dn_c_Law_law 1297 = .ok (.iadd, 1) := by decide +kernel
theorem dn_d_Law_law_1298 : decode dn_c_Law_law 1298 = .ok (.iaload, 1) := by decide +kernel
theorem dn_d_Law_law_1299 : decode dn_c_Law_law 1299 = .ok (.i2l, 1) := by decide +kernel
theorem dn_d_Law_law_1300 : decode dn_c_Law_law 1300 = .ok (.bipush 32, 2) := by decide +kernel
theorem dn_d_Law_law_1302 : decode dn_c_Law_law 1302 = .ok (.lshl, 1) := by decide +kernel
theorem dn_d_Law_law_1303 : decode dn_c_Law_law 1303 = .ok (.aload_n 0, 1) := by decide +kernel
theorem dn_d_Law_law_1304 : decode dn_c_Law_law 1304 = .ok (.iload 4, 2) := by decide +kernel
theorem dn_d_Law_law_1306 : decode dn_c_Law_law 1306 = .ok (.iconst 4, 1) := by decide +kernel
theorem dn_d_Law_law_1307 : decode dn_c_Law_law 1307 = .ok (.iadd, 1) := by decide +kernel
theorem dn_d_Law_law_1308 : decode dn_c_Law_law 1308 = .ok (.iaload, 1) := by decide +kernel
theorem dn_d_Law_law_1309 : decode dn_c_Law_law 1309 = .ok (.i2l, 1) := by decide +kernel
theorem dn_d_Law_law_1310 : decode dn_c_Law_law 1310 = .ok (.ldc2_w 67, 3) := by decide +kernel
theorem dn_d_Law_law_1313 : decode dn_c_Law_law 1313 = .ok (.land, 1) := by decide +kernel
theorem dn_d_Law_law_1314 : decode dn_c_Law_law 1314 = .ok (.lor, 1) := by decide +kernel
theorem dn_d_Law_law_1315 : decode dn_c_Law_law 1315 = .ok (.aload_n 0, 1) := by decide +kernel
theorem dn_d_Law_law_1316 : decode dn_c_Law_law 1316 = .ok (.iload 4, 2) := by decide +kernel
theorem dn_d_Law_law_1318 : decode dn_c_Law_law 1318 = .ok (.iconst 5, 1) := by decide +kernel
theorem dn_d_Law_law_1319 : decode dn_c_Law_law 1319 = .ok (.iadd, 1) := by decide +kernel
theorem dn_d_Law_law_1320 : decode dn_c_Law_law 1320 = .ok (.iaload, 1) := by decide +kernel
theorem dn_d_Law_law_1321 : decode dn_c_Law_law 1321 = .ok (.i2l, 1) := by decide +kernel
theorem dn_d_Law_law_1322 : decode dn_c_Law_law 1322 = .ok (.bipush 32, 2) := by decide +kernel
theorem dn_d_Law_law_1324 : decode dn_c_Law_law 1324 = .ok (.lshl, 1) := by decide +kernel
theorem dn_d_Law_law_1325 : decode dn_c_Law_law 1325 = .ok (.aload_n 0, 1) := by decide +kernel
theorem dn_d_Law_law_1326 : decode dn_c_Law_law 1326 = .ok (.iload 4, 2) := by decide +kernel
theorem dn_d_Law_law_1328 : decode dn_c_Law_law 1328 = .ok (.bipush 6, 2) := by decide +kernel
theorem dn_d_Law_law_1330 : decode dn_c_Law_law 1330 = .ok (.iadd, 1) := by decide +kernel
theorem dn_d_Law_law_1331 : decode dn_c_Law_law 1331 = .ok (.iaload, 1) := by decide +kernel
theorem dn_d_Law_law_1332 : decode dn_c_Law_law 1332 = .ok (.i2l, 1) := by decide +kernel
theorem dn_d_Law_law_1333 : decode dn_c_Law_law 1333 = .ok (.ldc2_w 67, 3) := by decide +kernel
theorem dn_d_Law_law_1336 : decode dn_c_Law_law 1336 = .ok (.land, 1) := by decide +kernel
theorem dn_d_Law_law_1337 : decode dn_c_Law_law 1337 = .ok (.lor, 1) := by decide +kernel
theorem dn_d_Law_law_1338 : decode dn_c_Law_law 1338 = .ok (.aload_n 0, 1) := by decide +kernel
theorem dn_d_Law_law_1339 : decode dn_c_Law_law 1339 = .ok (.iload 4, 2) := by decide +kernel
theorem dn_d_Law_law_1341 : decode dn_c_Law_law 1341 = .ok (.bipush 7, 2) := by decide +kernel
theorem dn_d_Law_law_1343 : decode dn_c_Law_law 1343 = .ok (.iadd, 1) := by decide +kernel
theorem dn_d_Law_law_1344 : decode dn_c_Law_law 1344 = .ok (.iaload, 1) := by decide +kernel
theorem dn_d_Law_law_1345 : decode dn_c_Law_law 1345 = .ok (.i2l, 1) := by decide +kernel
theorem dn_d_Law_law_1346 : decode dn_c_Law_law 1346 = .ok (.bipush 32, 2) := by decide +kernel
theorem dn_d_Law_law_1348 : decode dn_c_Law_law 1348 = .ok (.lshl, 1) := by decide +kernel
theorem dn_d_Law_law_1349 : decode dn_c_Law_law 1349 = .ok (.aload_n 0, 1) := by decide +kernel
theorem dn_d_Law_law_1350 : decode dn_c_Law_law 1350 = .ok (.iload 4, 2) := by decide +kernel
theorem dn_d_Law_law_1352 : decode dn_c_Law_law 1352 = .ok (.bipush 8, 2) := by decide +kernel
theorem dn_d_Law_law_1354 : decode dn_c_Law_law 1354 = .ok (.iadd, 1) := by decide +kernel
theorem dn_d_Law_law_1355 : decode dn_c_Law_law 1355 = .ok (.iaload, 1) := by decide +kernel
theorem dn_d_Law_law_1356 : decode dn_c_Law_law 1356 = .ok (.i2l, 1) := by decide +kernel
theorem dn_d_Law_law_1357 : decode dn_c_Law_law 1357 = .ok (.ldc2_w 67, 3) := by decide +kernel
theorem dn_d_Law_law_1360 : decode dn_c_Law_law 1360 = .ok (.land, 1) := by decide +kernel
theorem dn_d_Law_law_1361 : decode dn_c_Law_law 1361 = .ok (.lor, 1) := by decide +kernel
theorem dn_d_Law_law_1362 : decode dn_c_Law_law 1362 = .ok (.invokevirtual 132, 3) := by decide +kernel
theorem dn_d_Law_law_1365 : decode dn_c_Law_law 1365 = .ok (.lstore 6, 2) := by decide +kernel
theorem dn_d_Law_law_1367 : decode dn_c_Law_law 1367 = .ok (.aload_n 2, 1) := by decide +kernel
theorem dn_d_Law_law_1368 : decode dn_c_Law_law 1368 = .ok (.invokevirtual 82, 3) := by decide +kernel
theorem dn_d_Law_law_1371 : decode dn_c_Law_law 1371 = .ok (.iload 5, 2) := by decide +kernel
theorem dn_d_Law_law_1373 : decode dn_c_Law_law 1373 = .ok (.if_icmp .eq 5, 3) := by decide +kernel
theorem dn_d_Law_law_1376 : decode dn_c_Law_law 1376 = .ok (.iconst 0, 1) := by decide +kernel
theorem dn_d_Law_law_1377 : decode dn_c_Law_law 1377 = .ok (.ireturn, 1) := by decide +kernel
theorem dn_d_Law_law_1378 : decode dn_c_Law_law 1378 = .ok (.iload 5, 2) := by decide +kernel
theorem dn_d_Law_law_1380 : decode dn_c_Law_law 1380 = .ok (.ifCond .ne 14, 3) := by decide +kernel
theorem dn_d_Law_law_1383 : decode dn_c_Law_law 1383 = .ok (.aload_n 3, 1) := by decide +kernel
theorem dn_d_Law_law_1384 : decode dn_c_Law_law 1384 = .ok (.iconst 0, 1) := by decide +kernel
theorem dn_d_Law_law_1385 : decode dn_c_Law_law 1385 = .ok (.laload, 1) := by decide +kernel
theorem dn_d_Law_law_1386 : decode dn_c_Law_law 1386 = .ok (.lload 6, 2) := by decide +kernel
theorem dn_d_Law_law_1388 : decode dn_c_Law_law 1388 = .ok (.lcmp, 1) := by decide +kernel
theorem dn_d_Law_law_1389 : decode dn_c_Law_law 1389 = .ok (.ifCond .eq 5, 3) := by decide +kernel
theorem dn_d_Law_law_1392 : decode dn_c_Law_law 1392 = .ok (.iconst 0, 1) := by decide +kernel
theorem dn_d_Law_law_1393 : decode dn_c_Law_law 1393 = .ok (.ireturn, 1) := by decide +kernel
theorem dn_d_Law_law_1394 : decode dn_c_Law_law 1394 = .ok (.goto 384, 3) := by decide +kernel
theorem dn_d_Law_law_1397 : decode dn_c_Law_law 1397 = .ok (.aload_n 1, 1) := by decide +kernel
theorem dn_d_Law_law_1398 : decode dn_c_Law_law 1398 = .ok (.aload_n 0, 1) := by decide +kernel
theorem dn_d_Law_law_1399 : decode dn_c_Law_law 1399 = .ok (.iload 4, 2) := by decide +kernel
theorem dn_d_Law_law_1401 : decode dn_c_Law_law 1401 = .ok (.iconst 1, 1) := by decide +kernel
theorem dn_d_Law_law_1402 : decode dn_c_Law_law 1402 = .ok (.iadd, 1) := by decide +kernel
theorem dn_d_Law_law_1403 : decode dn_c_Law_law 1403 = .ok (.iaload, 1) := by decide +kernel
theorem dn_d_Law_law_1404 : decode dn_c_Law_law 1404 = .ok (.aload_n 0, 1) := by decide +kernel
theorem dn_d_Law_law_1405 : decode dn_c_Law_law 1405 = .ok (.iload 4, 2) := by decide +kernel
theorem dn_d_Law_law_1407 : decode dn_c_Law_law 1407 = .ok (.iconst 2, 1) := by decide +kernel
theorem dn_d_Law_law_1408 : decode dn_c_Law_law 1408 = .ok (.iadd, 1) := by decide +kernel
theorem dn_d_Law_law_1409 : decode dn_c_Law_law 1409 = .ok (.iaload, 1) := by decide +kernel
theorem dn_d_Law_law_1410 : decode dn_c_Law_law 1410 = .ok (.i2l, 1) := by decide +kernel
theorem dn_d_Law_law_1411 : decode dn_c_Law_law 1411 = .ok (.bipush 32, 2) := by decide +kernel
theorem dn_d_Law_law_1413 : decode dn_c_Law_law 1413 = .ok (.lshl, 1) := by decide +kernel
theorem dn_d_Law_law_1414 : decode dn_c_Law_law 1414 = .ok (.aload_n 0, 1) := by decide +kernel
theorem dn_d_Law_law_1415 : decode dn_c_Law_law 1415 = .ok (.iload 4, 2) := by decide +kernel
theorem dn_d_Law_law_1417 : decode dn_c_Law_law 1417 = .ok (.iconst 3, 1) := by decide +kernel
theorem dn_d_Law_law_1418 : decode dn_c_Law_law 1418 = .ok (.iadd, 1) := by decide +kernel
theorem dn_d_Law_law_1419 : decode dn_c_Law_law 1419 = .ok (.iaload, 1) := by decide +kernel
theorem dn_d_Law_law_1420 : decode dn_c_Law_law 1420 = .ok (.i2l, 1) := by decide +kernel
theorem dn_d_Law_law_1421 : decode dn_c_Law_law 1421 = .ok (.ldc2_w 67, 3) := by decide +kernel
theorem dn_d_Law_law_1424 : decode dn_c_Law_law 1424 = .ok (.land, 1) := by decide +kernel
theorem dn_d_Law_law_1425 : decode dn_c_Law_law 1425 = .ok (.lor, 1) := by decide +kernel
theorem dn_d_Law_law_1426 : decode dn_c_Law_law 1426 = .ok (.aload_n 0, 1) := by decide +kernel
theorem dn_d_Law_law_1427 : decode dn_c_Law_law 1427 = .ok (.iload 4, 2) := by decide +kernel
theorem dn_d_Law_law_1429 : decode dn_c_Law_law 1429 = .ok (.iconst 4, 1) := by decide +kernel
theorem dn_d_Law_law_1430 : decode dn_c_Law_law 1430 = .ok (.iadd, 1) := by decide +kernel
theorem dn_d_Law_law_1431 : decode dn_c_Law_law 1431 = .ok (.iaload, 1) := by decide +kernel
theorem dn_d_Law_law_1432 : decode dn_c_Law_law 1432 = .ok (.i2l, 1) := by decide +kernel
theorem dn_d_Law_law_1433 : decode dn_c_Law_law 1433 = .ok (.bipush 32, 2) := by decide +kernel
theorem dn_d_Law_law_1435 : decode dn_c_Law_law 1435 = .ok (.lshl, 1) := by decide +kernel
theorem dn_d_Law_law_1436 : decode dn_c_Law_law 1436 = .ok (.aload_n 0, 1) := by decide +kernel
theorem dn_d_Law_law_1437 : decode dn_c_Law_law 1437 = .ok (.iload 4, 2) := by decide +kernel
theorem dn_d_Law_law_1439 : decode dn_c_Law_law 1439 = .ok (.iconst 5, 1) := by decide +kernel
theorem dn_d_Law_law_1440 : decode dn_c_Law_law 1440 = .ok (.iadd, 1) := by decide +kernel
theorem dn_d_Law_law_1441 : decode dn_c_Law_law 1441 = .ok (.iaload, 1) := by decide +kernel
theorem dn_d_Law_law_1442 : decode dn_c_Law_law 1442 = .ok (.i2l, 1) := by decide +kernel
theorem dn_d_Law_law_1443 : decode dn_c_Law_law 1443 = .ok (.ldc2_w 67, 3) := by decide +kernel
theorem dn_d_Law_law_1446 : decode dn_c_Law_law 1446 = .ok (.land, 1) := by decide +kernel
theorem dn_d_Law_law_1447 : decode dn_c_Law_law 1447 = .ok (.lor, 1) := by decide +kernel
theorem dn_d_Law_law_1448 : decode dn_c_Law_law 1448 = .ok (.aload_n 3, 1) := by decide +kernel
theorem dn_d_Law_law_1449 : decode dn_c_Law_law 1449 = .ok (.invokestatic 133, 3) := by decide +kernel
theorem dn_d_Law_law_1452 : decode dn_c_Law_law 1452 = .ok (.istore 5, 2) := by decide +kernel
theorem dn_d_Law_law_1454 : decode dn_c_Law_law 1454 = .ok (.aload_n 2, 1) := by decide +kernel
theorem dn_d_Law_law_1455 : decode dn_c_Law_law 1455 = .ok (.aload_n 0, 1) := by decide +kernel
theorem dn_d_Law_law_1456 : decode dn_c_Law_law 1456 = .ok (.iload 4, 2) := by decide +kernel
theorem dn_d_Law_law_1458 : decode dn_c_Law_law 1458 = .ok (.iconst 1, 1) := by decide +kernel
theorem dn_d_Law_law_1459 : decode dn_c_Law_law 1459 = .ok (.iadd, 1) := by decide +kernel
theorem dn_d_Law_law_1460 : decode dn_c_Law_law 1460 = .ok (.iaload, 1) := by decide +kernel
theorem dn_d_Law_law_1461 : decode dn_c_Law_law 1461 = .ok (.aload_n 0, 1) := by decide +kernel
theorem dn_d_Law_law_1462 : decode dn_c_Law_law 1462 = .ok (.iload 4, 2) := by decide +kernel
theorem dn_d_Law_law_1464 : decode dn_c_Law_law 1464 = .ok (.iconst 2, 1) := by decide +kernel
theorem dn_d_Law_law_1465 : decode dn_c_Law_law 1465 = .ok (.iadd, 1) := by decide +kernel
theorem dn_d_Law_law_1466 : decode dn_c_Law_law 1466 = .ok (.iaload, 1) := by decide +kernel
theorem dn_d_Law_law_1467 : decode dn_c_Law_law 1467 = .ok (.i2l, 1) := by decide +kernel
theorem dn_d_Law_law_1468 : decode dn_c_Law_law 1468 = .ok (.bipush 32, 2) := by decide +kernel
theorem dn_d_Law_law_1470 : decode dn_c_Law_law 1470 = .ok (.lshl, 1) := by decide +kernel
theorem dn_d_Law_law_1471 : decode dn_c_Law_law 1471 = .ok (.aload_n 0, 1) := by decide +kernel
theorem dn_d_Law_law_1472 : decode dn_c_Law_law 1472 = .ok (.iload 4, 2) := by decide +kernel
theorem dn_d_Law_law_1474 : decode dn_c_Law_law 1474 = .ok (.iconst 3, 1) := by decide +kernel
theorem dn_d_Law_law_1475 : decode dn_c_Law_law 1475 = .ok (.iadd, 1) := by decide +kernel
theorem dn_d_Law_law_1476 : decode dn_c_Law_law 1476 = .ok (.iaload, 1) := by decide +kernel
theorem dn_d_Law_law_1477 : decode dn_c_Law_law 1477 = .ok (.i2l, 1) := by decide +kernel
theorem dn_d_Law_law_1478 : decode dn_c_Law_law 1478 = .ok (.ldc2_w 67, 3) := by decide +kernel
theorem dn_d_Law_law_1481 : decode dn_c_Law_law 1481 = .ok (.land, 1) := by decide +kernel
theorem dn_d_Law_law_1482 : decode dn_c_Law_law 1482 = .ok (.lor, 1) := by decide +kernel
theorem dn_d_Law_law_1483 : decode dn_c_Law_law 1483 = .ok (.aload_n 0, 1) := by decide +kernel
theorem dn_d_Law_law_1484 : decode dn_c_Law_law 1484 = .ok (.iload 4, 2) := by decide +kernel
theorem dn_d_Law_law_1486 : decode dn_c_Law_law 1486 = .ok (.iconst 4, 1) := by decide +kernel
theorem dn_d_Law_law_1487 : decode dn_c_Law_law 1487 = .ok (.iadd, 1) := by decide +kernel
theorem dn_d_Law_law_1488 : decode dn_c_Law_law 1488 = .ok (.iaload, 1) := by decide +kernel
theorem dn_d_Law_law_1489 : decode dn_c_Law_law 1489 = .ok (.i2l, 1) := by decide +kernel
theorem dn_d_Law_law_1490 : decode dn_c_Law_law 1490 = .ok (.bipush 32, 2) := by decide +kernel
theorem dn_d_Law_law_1492 : decode dn_c_Law_law 1492 = .ok (.lshl, 1) := by decide +kernel
theorem dn_d_Law_law_1493 : decode dn_c_Law_law 1493 = .ok (.aload_n 0, 1) := by decide +kernel
theorem dn_d_Law_law_1494 : decode dn_c_Law_law 1494 = .ok (.iload 4, 2) := by decide +kernel
theorem dn_d_Law_law_1496 : decode dn_c_Law_law 1496 = .ok (.iconst 5, 1) := by decide +kernel
theorem dn_d_Law_law_1497 : decode dn_c_Law_law 1497 = .ok (.iadd, 1) := by decide +kernel
theorem dn_d_Law_law_1498 : decode dn_c_Law_law 1498 = .ok (.iaload, 1) := by decide +kernel
theorem dn_d_Law_law_1499 : decode dn_c_Law_law 1499 = .ok (.i2l, 1) := by decide +kernel
