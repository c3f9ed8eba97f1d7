theorem d_Law_1204 : decode code 1204 = .ok (.invokevirtual 157, 3) := by decide +kernel
theorem d_Law_1207 : decode code 1207 = .ok (.istore 6, 2) := by decide +kernel
theorem d_Law_1209 : decode code 1209 = .ok (.aload_n 2, 1) := by decide +kernel
theorem d_Law_1210 : decode code 1210 = .ok (.invokevirtual 96, 3) := by decide +kernel
theorem d_Law_1213 : decode code 1213 = .ok (.iload 5, 2) := by decide +kernel
theorem d_Law_1215 : decode code 1215 = .ok (.if_icmp .eq 5, 3) := by decide +kernel
theorem d_Law_1218 : decode code 1218 = .ok (.iconst 0, 1) := by decide +kernel
theorem d_Law_1219 : decode code 1219 = .ok (.ireturn, 1) := by decide +kernel
theorem d_Law_1220 : decode code 1220 = .ok (.iload 5, 2) := by decide +kernel
theorem d_Law_1222 : decode code 1222 = .ok (.ifCond .ne 15, 3) := by decide +kernel
theorem d_Law_1225 : decode code 1225 = .ok (.aload_n 3, 1) := by decide +kernel
theorem d_Law_1226 : decode code 1226 = .ok (.iconst 0, 1) := by decide +kernel
theorem d_Law_1227 : decode code 1227 = .ok (.laload, 1) := by decide +kernel
theorem d_Law_1228 : decode code 1228 = .ok (.iload 6, 2) := by decide +kernel
theorem d_Law_1230 : decode code 1230 = .ok (.i2l, 1) := by decide +kernel
theorem d_Law_1231 : decode code 1231 = .ok (.lcmp, 1) := by decide +kernel
theorem d_Law_1232 : decode code 1232 = .ok (.ifCond .eq 5, 3) := by decide +kernel
theorem d_Law_1235 : decode code 1235 = .ok (.iconst 0, 1) := by decide +kernel
theorem d_Law_1236 : decode code 1236 = .ok (.ireturn, 1) := by decide +kernel
theorem d_Law_1237 : decode code 1237 = .ok (.goto 200, 3) := by decide +kernel
theorem d_Law_1240 : decode code 1240 = .ok (.aload_n 1, 1) := by decide +kernel
theorem d_Law_1241 : decode code 1241 = .ok (.aload_n 0, 1) := by decide +kernel
theorem d_Law_1242 : decode code 1242 = .ok (.iload 4, 2) := by decide +kernel
theorem d_Law_1244 : decode code 1244 = .ok (.iconst 1, 1) := by decide +kernel
theorem d_Law_1245 : decode code 1245 = .ok (.iadd, 1) := by decide +kernel
theorem d_Law_1246 : decode code 1246 = .ok (.iaload, 1) := by decide +kernel
theorem d_Law_1247 : decode code 1247 = .ok (.aload_n 0, 1) := by decide +kernel
theorem d_Law_1248 : decode code 1248 = .ok (.iload 4, 2) := by decide +kernel
theorem d_Law_1250 : decode code 1250 = .ok (.iconst 2, 1) := by decide +kernel
theorem d_Law_1251 : decode code 1251 = .ok (.iadd, 1) := by decide +kernel
theorem d_Law_1252 : decode code 1252 = .ok (.iaload, 1) := by decide +kernel
theorem d_Law_1253 : decode code 1253 = .ok (.aload_n 0, 1) := by decide +kernel
theorem d_Law_1254 : decode code 1254 = .ok (.iload 4, 2) := by decide +kernel
theorem d_Law_1256 : decode code 1256 = .ok (.iconst 3, 1) := by decide +kernel
theorem d_Law_1257 : decode code 1257 = .ok (.iadd, 1) := by decide +kernel
theorem d_Law_1258 : decode code 1258 = .ok (.iaload, 1) := by decide +kernel
theorem d_Law_1259 : decode code 1259 = .ok (.aload_n 0, 1) := by decide +kernel
theorem d_Law_1260 : decode code 1260 = .ok (.iload 4, 2) := by decide +kernel
theorem d_Law_1262 : decode code 1262 = .ok (.iconst 4, 1) := by decide +kernel
theorem d_Law_1263 : decode code 1263 = .ok (.iadd, 1) := by decide +kernel
theorem d_Law_1264 : decode code 1264 = .ok (.iaload, 1) := by decide +kernel
theorem d_Law_1265 : decode code 1265 = .ok (.invokestatic 158, 3) := by decide +kernel
theorem d_Law_1268 : decode code 1268 = .ok (.istore 5, 2) := by decide +kernel
theorem d_Law_1270 : decode code 1270 = .ok (.aload_n 2, 1) := by decide +kernel
theorem d_Law_1271 : decode code 1271 = .ok (.aload_n 0, 1) := by decide +kernel
theorem d_Law_1272 : decode code 1272 = .ok (.iload 4, 2) := by decide +kernel
theorem d_Law_1274 : decode code 1274 = .ok (.iconst 1, 1) := by decide +kernel
theorem d_Law_1275 : decode code 1275 = .ok (.iadd, 1) := by decide +kernel
theorem d_Law_1276 : decode code 1276 = .ok (.iaload, 1) := by decide +kernel
theorem d_Law_1277 : decode code 1277 = .ok (.aload_n 0, 1) := by decide +kernel
theorem d_Law_1278 : decode code 1278 = .ok (.iload 4, 2) := by decide +kernel
theorem d_Law_1280 : decode code 1280 = .ok (.iconst 2, 1) := by decide +kernel
theorem d_Law_1281 : decode code 1281 = .ok (.iadd, 1) := by decide +kernel
theorem d_Law_1282 : decode code 1282 = .ok (.iaload, 1) := by decide +kernel
theorem d_Law_1283 : decode code 1283 = .ok (.aload_n 0, 1) := by decide +kernel
theorem d_Law_1284 : decode code 1284 = .ok (.iload 4, 2) := by decide +kernel
theorem d_Law_1286 : decode code 1286 = .ok (.iconst 3, 1) := by decide +kernel
theorem d_Law_1287 : decode code 1287 = .ok (.iadd, 1) := by decide +kernel
theorem d_Law_1288 : decode code 1288 = .ok (.iaload, 1) := by decide +kernel
theorem d_Law_1289 : decode code 1289 = .ok (.aload_n 0, 1) := by decide +kernel
theorem d_Law_1290 : decode code 1290 = .ok (.iload 4, 2) := by decide +kernel
theorem d_Law_1292 : decode code 1292 = .ok (.iconst 4, 1) := by decide +kernel
theorem d_Law_1293 : decode code 1293 = .ok (.iadd, 1) := by decide +kernel
theorem d_Law_1294 : decode code 1294 = .ok (.iaload, 1) := by decide +kernel
theorem d_Law_1295 : decode code 1295 = .ok (.invokevirtual 160, 3) := by decide +kernel
theorem d_Law_1298 : decode code 1298 = .ok (.aload_n 2, 1) := by decide +kernel
theorem d_Law_1299 : decode code 1299 = .ok (.invokevirtual 96, 3) := by decide +kernel
theorem d_Law_1302 : decode code 1302 = .ok (.iload 5, 2) := by decide +kernel
theorem d_Law_1304 : decode code 1304 = .ok (.if_icmp .eq 5, 3) := by decide +kernel
theorem d_Law_1307 : decode code 1307 = .ok (.iconst 0, 1) := by decide +kernel
theorem d_Law_1308 : decode code 1308 = .ok (.ireturn, 1) := by decide +kernel
theorem d_Law_1309 : decode code 1309 = .ok (.goto 128, 3) := by decide +kernel
theorem d_Law_1312 : decode code 1312 = .ok (.aload_n 1, 1) := by decide +kernel
theorem d_Law_1313 : decode code 1313 = .ok (.invokevirtual 161, 3) := by decide +kernel
theorem d_Law_1316 : decode code 1316 = .ok (.aload_n 2, 1) := by decide +kernel
theorem d_Law_1317 : decode code 1317 = .ok (.invokevirtual 164, 3) := by decide +kernel
theorem d_Law_1320 : decode code 1320 = .ok (.if_icmp .eq 117, 3) := by decide +kernel
theorem d_Law_1323 : decode code 1323 = .ok (.iconst 0, 1) := by decide +kernel
theorem d_Law_1324 : decode code 1324 = .ok (.ireturn, 1) := by decide +kernel
theorem d_Law_1325 : decode code 1325 = .ok (.aload_n 1, 1) := by decide +kernel
theorem d_Law_1326 : decode code 1326 = .ok (.aload_n 0, 1) := by decide +kernel
theorem d_Law_1327 : decode code 1327 = .ok (.iload 4, 2) := by decide +kernel
theorem d_Law_1329 : decode code 1329 = .ok (.iconst 1, 1) := by decide +kernel
theorem d_Law_1330 : decode code 1330 = .ok (.iadd, 1) := by decide +kernel
theorem d_Law_1331 : decode code 1331 = .ok (.iaload, 1) := by decide +kernel
theorem d_Law_1332 : decode code 1332 = .ok (.aload_n 3, 1) := by decide +kernel
theorem d_Law_1333 : decode code 1333 = .ok (.invokestatic 165, 3) := by decide +kernel
theorem d_Law_1336 : decode code 1336 = .ok (.istore 5, 2) := by decide +kernel
theorem d_Law_1338 : decode code 1338 = .ok (.aload_n 2, 1) := by decide +kernel
theorem d_Law_1339 : decode code 1339 = .ok (.aload_n 0, 1) := by decide +kernel
theorem d_Law_1340 : decode code 1340 = .ok (.iload 4, 2) := by decide +kernel
theorem d_Law_1342 : decode code 1342 = .ok (.iconst 1, 1) := by decide +kernel
theorem d_Law_1343 : decode code 1343 = .ok (.iadd, 1) := by decide +kernel
theorem d_Law_1344 : decode code 1344 = .ok (.iaload, 1) := by decide +kernel
theorem d_Law_1345 : decode code 1345 = .ok (.invokevirtual 167, 3) := by decide +kernel
theorem d_Law_1348 : decode code 1348 = .ok (.istore 6, 2) := by decide +kernel
theorem d_Law_1350 : decode code 1350 = .ok (.aload_n 2, 1) := by decide +kernel
theorem d_Law_1351 : decode code 1351 = .ok (.invokevirtual 96, 3) := by decide +kernel
theorem d_Law_1354 : decode code 1354 = .ok (.iload 5, 2) := by decide +kernel
theorem d_Law_1356 : decode code 1356 = .ok (.if_icmp .eq 5, 3) := by decide +kernel
theorem d_Law_1359 : decode code 1359 = .ok (.iconst 0, 1) := by decide +kernel
theorem d_Law_1360 : decode code 1360 = .ok (.ireturn, 1) := by decide +kernel
theorem d_Law_1361 : decode code 1361 = .ok (.iload 5, 2) := by decide +kernel
theorem d_Law_1363 : decode code 1363 = .ok (.ifCond .ne 15, 3) := by decide +kernel
theorem d_Law_1366 : decode code 1366 = .ok (.aload_n 3, 1) := by decide +kernel
theorem d_Law_1367 : decode code 1367 = .ok (.iconst 0, 1) := by decide +kernel
theorem d_Law_1368 : decode code 1368 = .ok (.laload, 1) := by decide +kernel
theorem d_Law_1369 : decode code 1369 = .ok (.iload 6, 2) := by decide +kernel
theorem d_Law_1371 : decode code 1371 = .ok (.i2l, 1) := by decide +kernel
theorem d_Law_1372 : decode code 1372 = .ok (.lcmp, 1) := by decide +kernel
theorem d_Law_1373 : decode code 1373 = .ok (.ifCond .eq 5, 3) := by decide +kernel
theorem d_Law_1376 : decode code 1376 = .ok (.iconst 0, 1) := by decide +kernel
theorem d_Law_1377 : decode code 1377 = .ok (.ireturn, 1) := by decide +kernel
theorem d_Law_1378 : decode code 1378 = .ok (.goto 59, 3) := by decide +kernel
theorem d_Law_1381 : decode code 1381 = .ok (.aload_n 1, 1) := by decide +kernel
theorem d_Law_1382 : decode code 1382 = .ok (.aload_n 0, 1) := by decide +kernel
theorem d_Law_1383 : decode code 1383 = .ok (.iload 4, 2) := by decide +kernel
theorem d_Law_1385 : decode code 1385 = .ok (.iconst 1, 1) := by decide +kernel
theorem d_Law_1386 : decode code 1386 = .ok (.iadd, 1) := by decide +kernel
theorem d_Law_1387 : decode code 1387 = .ok (.iaload, 1) := by decide +kernel
theorem d_Law_1388 : decode code 1388 = .ok (.aload_n 3, 1) := by decide +kernel
theorem d_Law_1389 : decode code 1389 = .ok (.invokestatic 168, 3) := by decide +kernel
theorem d_Law_1392 : decode code 1392 = .ok (.istore 5, 2) := by decide +kernel
theorem d_Law_1394 : decode code 1394 = .ok (.aload_n 2, 1) := by decide +kernel
theorem d_Law_1395 : decode code 1395 = .ok (.aload_n 0, 1) := by decide +kernel
theorem d_Law_1396 : decode code 1396 = .ok (.iload 4, 2) := by decide +kernel
theorem d_Law_1398 : decode code 1398 = .ok (.iconst 1, 1) := by decide +kernel
theorem d_Law_1399 : decode code 1399 = .ok (.iadd, 1) := by decide +kernel
theorem d_Law_1400 : decode code 1400 = .ok (.iaload, 1) := by decide +kernel
theorem d_Law_1401 : decode code 1401 = .ok (.invokevirtual 170, 3) := by decide +kernel
theorem d_Law_1404 : decode code 1404 = .ok (.istore 6, 2) := by decide +kernel
theorem d_Law_1406 : decode code 1406 = .ok (.aload_n 2, 1) := by decide +kernel
theorem d_Law_1407 : decode code 1407 = .ok (.invokevirtual 96, 3) := by decide +kernel
theorem d_Law_1410 : decode code 1410 = .ok (.iload 5, 2) := by decide +kernel
theorem d_Law_1412 : decode code 1412 = .ok (.if_icmp .eq 5, 3) := by decide +kernel
theorem d_Law_1415 : decode code 1415 = .ok (.iconst 0, 1) := by decide +kernel
theorem d_Law_1416 : decode code 1416 = .ok (.ireturn, 1) := by decide +kernel
theorem d_Law_1417 : decode code 1417 = .ok (.iload 5, 2) := by decide +kernel
theorem d_Law_1419 : decode code 1419 = .ok (.ifCond .ne 15, 3) := by decide +kernel
theorem d_Law_1422 : decode code 1422 = .ok (.aload_n 3, 1) := by decide +kernel
theorem d_Law_1423 : decode code 1423 = .ok (.iconst 0, 1) := by decide +kernel
theorem d_Law_1424 : decode code 1424 = .ok (.laload, 1) := by decide +kernel
theorem d_Law_1425 : decode code 1425 = .ok (.iload 6, 2) := by decide +kernel
theorem d_Law_1427 : decode code 1427 = .ok (.i2l, 1) := by decide +kernel
theorem d_Law_1428 : decode code 1428 = .ok (.lcmp, 1) := by decide +kernel
theorem d_Law_1429 : decode code 1429 = .ok (.ifCond .eq 5, 3) := by decide +kernel
theorem d_Law_1432 : decode code 1432 = .ok (.iconst 0, 1) := by decide +kernel
theorem d_Law_1433 : decode code 1433 = .ok (.ireturn, 1) := by decide +kernel
theorem d_Law_1434 : decode code 1434 = .ok (.goto 3, 3) := by decide +kernel
theorem d_Law_1437 : decode code 1437 = .ok (.iinc 4 6, 3) := by decide +kernel
