theorem dL_law_1264 : decode cL_law 1264 = .ok (.aload_n 1, 1) := by decide +kernel
theorem dL_law_1265 : decode cL_law 1265 = .ok (.aload_n 0, 1) := by decide +kernel
theorem dL_law_1266 : decode cL_law 1266 = .ok (.iload_n 3, 1) := by decide +kernel
theorem dL_law_1267 : decode cL_law 1267 = .ok (.iconst 1, 1) := by decide +kernel
theorem dL_law_1268 : decode cL_law 1268 = .ok (.iadd, 1) := by decide +kernel
theorem dL_law_1269 : decode cL_law 1269 = .ok (.iaload, 1) := by decide +kernel
theorem dL_law_1270 : decode cL_law 1270 = .ok (.invokevirtual 165, 3) := by decide +kernel
theorem cw_X11_known : CWv yX11_known cX11_known 2 (some .int) 1 := ⟨⟨⟨List.mem_of_getElem? (i := 124) (by decide +kernel), by decide +kernel⟩, ⟨List.mem_of_getElem? (i := 1386) (by decide +kernel), by decide +kernel⟩, by decide +kernel⟩, ⟨List.mem_of_getElem? (i := 1384) (by decide +kernel), by decide +kernel⟩, ⟨List.mem_of_getElem? (i := 1385) (by decide +kernel), by decide +kernel⟩⟩
theorem kmL_165 : inW (Cond.methodLink RL 165 yX11_known) := ⟨List.mem_of_getElem? (i := 1383) (by decide +kernel), by decide +kernel⟩
theorem dL_law_1273 : decode cL_law 1273 = .ok (.pop, 1) := by decide +kernel
theorem dL_law_1274 : decode cL_law 1274 = .ok (.aload_n 2, 1) := by decide +kernel
theorem dL_law_1275 : decode cL_law 1275 = .ok (.aload_n 0, 1) := by decide +kernel
theorem dL_law_1276 : decode cL_law 1276 = .ok (.iload_n 3, 1) := by decide +kernel
theorem dL_law_1277 : decode cL_law 1277 = .ok (.iconst 1, 1) := by decide +kernel
theorem dL_law_1278 : decode cL_law 1278 = .ok (.iadd, 1) := by decide +kernel
theorem dL_law_1279 : decode cL_law 1279 = .ok (.iaload, 1) := by decide +kernel
theorem dL_law_1280 : decode cL_law 1280 = .ok (.invokevirtual 168, 3) := by decide +kernel
theorem cw_X12_known : CWv yX12_known cX12_known 2 (some .int) 1 := ⟨⟨⟨List.mem_of_getElem? (i := 137) (by decide +kernel), by decide +kernel⟩, ⟨List.mem_of_getElem? (i := 2110) (by decide +kernel), by decide +kernel⟩, by decide +kernel⟩, ⟨List.mem_of_getElem? (i := 2108) (by decide +kernel), by decide +kernel⟩, ⟨List.mem_of_getElem? (i := 2109) (by decide +kernel), by decide +kernel⟩⟩
theorem kmL_168 : inW (Cond.methodLink RL 168 yX12_known) := ⟨List.mem_of_getElem? (i := 2107) (by decide +kernel), by decide +kernel⟩
theorem dL_law_1283 : decode cL_law 1283 = .ok (.pop, 1) := by decide +kernel
theorem dL_law_1284 : decode cL_law 1284 = .ok (.goto 242, 3) := by decide +kernel
theorem dL_law_1287 : decode cL_law 1287 = .ok (.aload_n 1, 1) := by decide +kernel
theorem dL_law_1288 : decode cL_law 1288 = .ok (.invokevirtual 169, 3) := by decide +kernel
theorem cw_X11_together : CWv yX11_together cX11_together 1 (some .int) 0 := ⟨⟨⟨List.mem_of_getElem? (i := 124) (by decide +kernel), by decide +kernel⟩, ⟨List.mem_of_getElem? (i := 1394) (by decide +kernel), by decide +kernel⟩, by decide +kernel⟩, ⟨List.mem_of_getElem? (i := 1392) (by decide +kernel), by decide +kernel⟩, ⟨List.mem_of_getElem? (i := 1393) (by decide +kernel), by decide +kernel⟩⟩
theorem kmL_169 : inW (Cond.methodLink RL 169 yX11_together) := ⟨List.mem_of_getElem? (i := 1391) (by decide +kernel), by decide +kernel⟩
theorem dL_law_1291 : decode cL_law 1291 = .ok (.pop, 1) := by decide +kernel
theorem dL_law_1292 : decode cL_law 1292 = .ok (.aload_n 2, 1) := by decide +kernel
theorem dL_law_1293 : decode cL_law 1293 = .ok (.invokevirtual 172, 3) := by decide +kernel
theorem cw_X12_together : CWv yX12_together cX12_together 2 (some .int) 0 := ⟨⟨⟨List.mem_of_getElem? (i := 137) (by decide +kernel), by decide +kernel⟩, ⟨List.mem_of_getElem? (i := 2134) (by decide +kernel), by decide +kernel⟩, by decide +kernel⟩, ⟨List.mem_of_getElem? (i := 2132) (by decide +kernel), by decide +kernel⟩, ⟨List.mem_of_getElem? (i := 2133) (by decide +kernel), by decide +kernel⟩⟩
theorem kmL_172 : inW (Cond.methodLink RL 172 yX12_together) := ⟨List.mem_of_getElem? (i := 2131) (by decide +kernel), by decide +kernel⟩
theorem dL_law_1296 : decode cL_law 1296 = .ok (.pop, 1) := by decide +kernel
theorem dL_law_1297 : decode cL_law 1297 = .ok (.goto 229, 3) := by decide +kernel
theorem dL_law_1300 : decode cL_law 1300 = .ok (.aload_n 1, 1) := by decide +kernel
theorem dL_law_1301 : decode cL_law 1301 = .ok (.aload_n 0, 1) := by decide +kernel
theorem dL_law_1302 : decode cL_law 1302 = .ok (.iload_n 3, 1) := by decide +kernel
theorem dL_law_1303 : decode cL_law 1303 = .ok (.iconst 1, 1) := by decide +kernel
theorem dL_law_1304 : decode cL_law 1304 = .ok (.iadd, 1) := by decide +kernel
theorem dL_law_1305 : decode cL_law 1305 = .ok (.iaload, 1) := by decide +kernel
theorem dL_law_1306 : decode cL_law 1306 = .ok (.aload_n 0, 1) := by decide +kernel
theorem dL_law_1307 : decode cL_law 1307 = .ok (.iload_n 3, 1) := by decide +kernel
theorem dL_law_1308 : decode cL_law 1308 = .ok (.iconst 2, 1) := by decide +kernel
theorem dL_law_1309 : decode cL_law 1309 = .ok (.iadd, 1) := by decide +kernel
theorem dL_law_1310 : decode cL_law 1310 = .ok (.iaload, 1) := by decide +kernel
theorem dL_law_1311 : decode cL_law 1311 = .ok (.aload_n 0, 1) := by decide +kernel
theorem dL_law_1312 : decode cL_law 1312 = .ok (.iload_n 3, 1) := by decide +kernel
theorem dL_law_1313 : decode cL_law 1313 = .ok (.iconst 3, 1) := by decide +kernel
theorem dL_law_1314 : decode cL_law 1314 = .ok (.iadd, 1) := by decide +kernel
theorem dL_law_1315 : decode cL_law 1315 = .ok (.iaload, 1) := by decide +kernel
theorem dL_law_1316 : decode cL_law 1316 = .ok (.aload_n 0, 1) := by decide +kernel
theorem dL_law_1317 : decode cL_law 1317 = .ok (.iload_n 3, 1) := by decide +kernel
theorem dL_law_1318 : decode cL_law 1318 = .ok (.iconst 4, 1) := by decide +kernel
theorem dL_law_1319 : decode cL_law 1319 = .ok (.iadd, 1) := by decide +kernel
theorem dL_law_1320 : decode cL_law 1320 = .ok (.iaload, 1) := by decide +kernel
theorem dL_law_1321 : decode cL_law 1321 = .ok (.ifCond .eq 7, 3) := by decide +kernel
theorem dL_law_1328 : decode cL_law 1328 = .ok (.iconst 0, 1) := by decide +kernel
theorem dL_law_1329 : decode cL_law 1329 = .ok (.invokevirtual 173, 3) := by decide +kernel
theorem cw_X11_copy : CWv yX11_copy cX11_copy 10 (some .int) 4 := ⟨⟨⟨List.mem_of_getElem? (i := 124) (by decide +kernel), by decide +kernel⟩, ⟨List.mem_of_getElem? (i := 1407) (by decide +kernel), by decide +kernel⟩, by decide +kernel⟩, ⟨List.mem_of_getElem? (i := 1405) (by decide +kernel), by decide +kernel⟩, ⟨List.mem_of_getElem? (i := 1406) (by decide +kernel), by decide +kernel⟩⟩
theorem kmL_173 : inW (Cond.methodLink RL 173 yX11_copy) := ⟨List.mem_of_getElem? (i := 1404) (by decide +kernel), by decide +kernel⟩
theorem dL_law_1332 : decode cL_law 1332 = .ok (.pop, 1) := by decide +kernel
theorem dL_law_1333 : decode cL_law 1333 = .ok (.aload_n 2, 1) := by decide +kernel
theorem dL_law_1334 : decode cL_law 1334 = .ok (.aload_n 0, 1) := by decide +kernel
theorem dL_law_1335 : decode cL_law 1335 = .ok (.iload_n 3, 1) := by decide +kernel
theorem dL_law_1336 : decode cL_law 1336 = .ok (.iconst 1, 1) := by decide +kernel
theorem dL_law_1337 : decode cL_law 1337 = .ok (.iadd, 1) := by decide +kernel
theorem dL_law_1338 : decode cL_law 1338 = .ok (.iaload, 1) := by decide +kernel
theorem dL_law_1339 : decode cL_law 1339 = .ok (.aload_n 0, 1) := by decide +kernel
theorem dL_law_1340 : decode cL_law 1340 = .ok (.iload_n 3, 1) := by decide +kernel
theorem dL_law_1341 : decode cL_law 1341 = .ok (.iconst 2, 1) := by decide +kernel
theorem dL_law_1342 : decode cL_law 1342 = .ok (.iadd, 1) := by decide +kernel
theorem dL_law_1343 : decode cL_law 1343 = .ok (.iaload, 1) := by decide +kernel
theorem dL_law_1344 : decode cL_law 1344 = .ok (.aload_n 0, 1) := by decide +kernel
theorem dL_law_1345 : decode cL_law 1345 = .ok (.iload_n 3, 1) := by decide +kernel
theorem dL_law_1346 : decode cL_law 1346 = .ok (.iconst 3, 1) := by decide +kernel
theorem dL_law_1347 : decode cL_law 1347 = .ok (.iadd, 1) := by decide +kernel
theorem dL_law_1348 : decode cL_law 1348 = .ok (.iaload, 1) := by decide +kernel
theorem dL_law_1349 : decode cL_law 1349 = .ok (.aload_n 0, 1) := by decide +kernel
theorem dL_law_1350 : decode cL_law 1350 = .ok (.iload_n 3, 1) := by decide +kernel
theorem dL_law_1351 : decode cL_law 1351 = .ok (.iconst 4, 1) := by decide +kernel
theorem dL_law_1352 : decode cL_law 1352 = .ok (.iadd, 1) := by decide +kernel
theorem dL_law_1353 : decode cL_law 1353 = .ok (.iaload, 1) := by decide +kernel
theorem dL_law_1354 : decode cL_law 1354 = .ok (.ifCond .eq 7, 3) := by decide +kernel
theorem dL_law_1361 : decode cL_law 1361 = .ok (.iconst 0, 1) := by decide +kernel
theorem dL_law_1362 : decode cL_law 1362 = .ok (.invokevirtual 177, 3) := by decide +kernel
theorem cw_X12_copy_ : CWv yX12_copy_ cX12_copy_ 10 (some .int) 4 := ⟨⟨⟨List.mem_of_getElem? (i := 137) (by decide +kernel), by decide +kernel⟩, ⟨List.mem_of_getElem? (i := 2029) (by decide +kernel), by decide +kernel⟩, by decide +kernel⟩, ⟨List.mem_of_getElem? (i := 2027) (by decide +kernel), by decide +kernel⟩, ⟨List.mem_of_getElem? (i := 2028) (by decide +kernel), by decide +kernel⟩⟩
theorem kmL_177 : inW (Cond.methodLink RL 177 yX12_copy_) := ⟨List.mem_of_getElem? (i := 2026) (by decide +kernel), by decide +kernel⟩
theorem dL_law_1365 : decode cL_law 1365 = .ok (.pop, 1) := by decide +kernel
theorem dL_law_1366 : decode cL_law 1366 = .ok (.goto 160, 3) := by decide +kernel
theorem dL_law_1324 : decode cL_law 1324 = .ok (.iconst 1, 1) := by decide +kernel
theorem dL_law_1325 : decode cL_law 1325 = .ok (.goto 4, 3) := by decide +kernel
theorem dL_law_1357 : decode cL_law 1357 = .ok (.iconst 1, 1) := by decide +kernel
theorem dL_law_1358 : decode cL_law 1358 = .ok (.goto 4, 3) := by decide +kernel
theorem dL_law_1369 : decode cL_law 1369 = .ok (.aload_n 1, 1) := by decide +kernel
theorem dL_law_1370 : decode cL_law 1370 = .ok (.aload_n 0, 1) := by decide +kernel
theorem dL_law_1371 : decode cL_law 1371 = .ok (.iload_n 3, 1) := by decide +kernel
theorem dL_law_1372 : decode cL_law 1372 = .ok (.iconst 1, 1) := by decide +kernel
theorem dL_law_1373 : decode cL_law 1373 = .ok (.iadd, 1) := by decide +kernel
theorem dL_law_1374 : decode cL_law 1374 = .ok (.iaload, 1) := by decide +kernel
theorem dL_law_1375 : decode cL_law 1375 = .ok (.aload_n 0, 1) := by decide +kernel
theorem dL_law_1376 : decode cL_law 1376 = .ok (.iload_n 3, 1) := by decide +kernel
theorem dL_law_1377 : decode cL_law 1377 = .ok (.iconst 2, 1) := by decide +kernel
theorem dL_law_1378 : decode cL_law 1378 = .ok (.iadd, 1) := by decide +kernel
theorem dL_law_1379 : decode cL_law 1379 = .ok (.iaload, 1) := by decide +kernel
theorem dL_law_1380 : decode cL_law 1380 = .ok (.invokevirtual 178, 3) := by decide +kernel
theorem cw_X11_worn : CWv yX11_worn cX11_worn 3 (some .int) 2 := ⟨⟨⟨List.mem_of_getElem? (i := 124) (by decide +kernel), by decide +kernel⟩, ⟨List.mem_of_getElem? (i := 1413) (by decide +kernel), by decide +kernel⟩, by decide +kernel⟩, ⟨List.mem_of_getElem? (i := 1411) (by decide +kernel), by decide +kernel⟩, ⟨List.mem_of_getElem? (i := 1412) (by decide +kernel), by decide +kernel⟩⟩
theorem kmL_178 : inW (Cond.methodLink RL 178 yX11_worn) := ⟨List.mem_of_getElem? (i := 1410) (by decide +kernel), by decide +kernel⟩
theorem dL_law_1383 : decode cL_law 1383 = .ok (.pop, 1) := by decide +kernel
theorem dL_law_1384 : decode cL_law 1384 = .ok (.aload_n 2, 1) := by decide +kernel
theorem dL_law_1385 : decode cL_law 1385 = .ok (.aload_n 0, 1) := by decide +kernel
theorem dL_law_1386 : decode cL_law 1386 = .ok (.iload_n 3, 1) := by decide +kernel
theorem dL_law_1387 : decode cL_law 1387 = .ok (.iconst 1, 1) := by decide +kernel
theorem dL_law_1388 : decode cL_law 1388 = .ok (.iadd, 1) := by decide +kernel
theorem dL_law_1389 : decode cL_law 1389 = .ok (.iaload, 1) := by decide +kernel
theorem dL_law_1390 : decode cL_law 1390 = .ok (.aload_n 0, 1) := by decide +kernel
theorem dL_law_1391 : decode cL_law 1391 = .ok (.iload_n 3, 1) := by decide +kernel
theorem dL_law_1392 : decode cL_law 1392 = .ok (.iconst 2, 1) := by decide +kernel
theorem dL_law_1393 : decode cL_law 1393 = .ok (.iadd, 1) := by decide +kernel
theorem dL_law_1394 : decode cL_law 1394 = .ok (.iaload, 1) := by decide +kernel
theorem dL_law_1395 : decode cL_law 1395 = .ok (.invokevirtual 181, 3) := by decide +kernel
theorem cw_X12_worn : CWv yX12_worn cX12_worn 3 (some .int) 2 := ⟨⟨⟨List.mem_of_getElem? (i := 137) (by decide +kernel), by decide +kernel⟩, ⟨List.mem_of_getElem? (i := 2138) (by decide +kernel), by decide +kernel⟩, by decide +kernel⟩, ⟨List.mem_of_getElem? (i := 2136) (by decide +kernel), by decide +kernel⟩, ⟨List.mem_of_getElem? (i := 2137) (by decide +kernel), by decide +kernel⟩⟩
theorem kmL_181 : inW (Cond.methodLink RL 181 yX12_worn) := ⟨List.mem_of_getElem? (i := 2135) (by decide +kernel), by decide +kernel⟩
theorem dL_law_1398 : decode cL_law 1398 = .ok (.pop, 1) := by decide +kernel
theorem dL_law_1399 : decode cL_law 1399 = .ok (.goto 127, 3) := by decide +kernel
theorem dL_law_1402 : decode cL_law 1402 = .ok (.aload_n 1, 1) := by decide +kernel
theorem dL_law_1403 : decode cL_law 1403 = .ok (.invokevirtual 182, 3) := by decide +kernel
theorem cw_X11_whose : CWv yX11_whose cX11_whose 3 (some .int) 0 := ⟨⟨⟨List.mem_of_getElem? (i := 124) (by decide +kernel), by decide +kernel⟩, ⟨List.mem_of_getElem? (i := 1417) (by decide +kernel), by decide +kernel⟩, by decide +kernel⟩, ⟨List.mem_of_getElem? (i := 1415) (by decide +kernel), by decide +kernel⟩, ⟨List.mem_of_getElem? (i := 1416) (by decide +kernel), by decide +kernel⟩⟩
theorem kmL_182 : inW (Cond.methodLink RL 182 yX11_whose) := ⟨List.mem_of_getElem? (i := 1414) (by decide +kernel), by decide +kernel⟩
theorem dL_law_1406 : decode cL_law 1406 = .ok (.pop, 1) := by decide +kernel
theorem dL_law_1407 : decode cL_law 1407 = .ok (.aload_n 2, 1) := by decide +kernel
theorem dL_law_1408 : decode cL_law 1408 = .ok (.invokevirtual 185, 3) := by decide +kernel
theorem cw_X12_whose : CWv yX12_whose cX12_whose 5 (some .int) 0 := ⟨⟨⟨List.mem_of_getElem? (i := 137) (by decide +kernel), by decide +kernel⟩, ⟨List.mem_of_getElem? (i := 2142) (by decide +kernel), by decide +kernel⟩, by decide +kernel⟩, ⟨List.mem_of_getElem? (i := 2140) (by decide +kernel), by decide +kernel⟩, ⟨List.mem_of_getElem? (i := 2141) (by decide +kernel), by decide +kernel⟩⟩
theorem kmL_185 : inW (Cond.methodLink RL 185 yX12_whose) := ⟨List.mem_of_getElem? (i := 2139) (by decide +kernel), by decide +kernel⟩
theorem dL_law_1411 : decode cL_law 1411 = .ok (.pop, 1) := by decide +kernel
theorem dL_law_1412 : decode cL_law 1412 = .ok (.goto 114, 3) := by decide +kernel
theorem dL_law_1415 : decode cL_law 1415 = .ok (.aload_n 1, 1) := by decide +kernel
theorem dL_law_1416 : decode cL_law 1416 = .ok (.invokevirtual 186, 3) := by decide +kernel
theorem cw_X11_mostSworn : CWv yX11_mostSworn cX11_mostSworn 1 (some .int) 0 := ⟨⟨⟨List.mem_of_getElem? (i := 124) (by decide +kernel), by decide +kernel⟩, ⟨List.mem_of_getElem? (i := 1428) (by decide +kernel), by decide +kernel⟩, by decide +kernel⟩, ⟨List.mem_of_getElem? (i := 1426) (by decide +kernel), by decide +kernel⟩, ⟨List.mem_of_getElem? (i := 1427) (by decide +kernel), by decide +kernel⟩⟩
theorem kmL_186 : inW (Cond.methodLink RL 186 yX11_mostSworn) := ⟨List.mem_of_getElem? (i := 1425) (by decide +kernel), by decide +kernel⟩
theorem dL_law_1419 : decode cL_law 1419 = .ok (.pop, 1) := by decide +kernel
theorem dL_law_1420 : decode cL_law 1420 = .ok (.aload_n 2, 1) := by decide +kernel
theorem dL_law_1421 : decode cL_law 1421 = .ok (.invokevirtual 189, 3) := by decide +kernel
theorem cw_X12_mostSworn : CWv yX12_mostSworn cX12_mostSworn 6 (some .int) 0 := ⟨⟨⟨List.mem_of_getElem? (i := 137) (by decide +kernel), by decide +kernel⟩, ⟨List.mem_of_getElem? (i := 1997) (by decide +kernel), by decide +kernel⟩, by decide +kernel⟩, ⟨List.mem_of_getElem? (i := 1995) (by decide +kernel), by decide +kernel⟩, ⟨List.mem_of_getElem? (i := 1996) (by decide +kernel), by decide +kernel⟩⟩
theorem kmL_189 : inW (Cond.methodLink RL 189 yX12_mostSworn) := ⟨List.mem_of_getElem? (i := 1994) (by decide +kernel), by decide +kernel⟩
theorem dL_law_1424 : decode cL_law 1424 = .ok (.pop, 1) := by decide +kernel
theorem dL_law_1425 : decode cL_law 1425 = .ok (.goto 101, 3) := by decide +kernel
theorem dL_law_1428 : decode cL_law 1428 = .ok (.aload_n 1, 1) := by decide +kernel
theorem dL_law_1429 : decode cL_law 1429 = .ok (.invokevirtual 190, 3) := by decide +kernel
theorem cw_X11_faithful : CWv yX11_faithful cX11_faithful 1 (some .int) 0 := ⟨⟨⟨List.mem_of_getElem? (i := 124) (by decide +kernel), by decide +kernel⟩, ⟨List.mem_of_getElem? (i := 1440) (by decide +kernel), by decide +kernel⟩, by decide +kernel⟩, ⟨List.mem_of_getElem? (i := 1438) (by decide +kernel), by decide +kernel⟩, ⟨List.mem_of_getElem? (i := 1439) (by decide +kernel), by decide +kernel⟩⟩
theorem kmL_190 : inW (Cond.methodLink RL 190 yX11_faithful) := ⟨List.mem_of_getElem? (i := 1437) (by decide +kernel), by decide +kernel⟩
theorem dL_law_1432 : decode cL_law 1432 = .ok (.pop, 1) := by decide +kernel
theorem dL_law_1433 : decode cL_law 1433 = .ok (.aload_n 2, 1) := by decide +kernel
theorem dL_law_1434 : decode cL_law 1434 = .ok (.invokevirtual 193, 3) := by decide +kernel
theorem cw_X12_faithful : CWv yX12_faithful cX12_faithful 3 (some .int) 0 := ⟨⟨⟨List.mem_of_getElem? (i := 137) (by decide +kernel), by decide +kernel⟩, ⟨List.mem_of_getElem? (i := 2001) (by decide +kernel), by decide +kernel⟩, by decide +kernel⟩, ⟨List.mem_of_getElem? (i := 1999) (by decide +kernel), by decide +kernel⟩, ⟨List.mem_of_getElem? (i := 2000) (by decide +kernel), by decide +kernel⟩⟩
theorem kmL_193 : inW (Cond.methodLink RL 193 yX12_faithful) := ⟨List.mem_of_getElem? (i := 1998) (by decide +kernel), by decide +kernel⟩
theorem dL_law_1437 : decode cL_law 1437 = .ok (.pop, 1) := by decide +kernel
theorem dL_law_1438 : decode cL_law 1438 = .ok (.goto 88, 3) := by decide +kernel
theorem dL_law_1441 : decode cL_law 1441 = .ok (.aload_n 1, 1) := by decide +kernel
theorem dL_law_1442 : decode cL_law 1442 = .ok (.aload_n 0, 1) := by decide +kernel
theorem dL_law_1443 : decode cL_law 1443 = .ok (.iload_n 3, 1) := by decide +kernel
theorem dL_law_1444 : decode cL_law 1444 = .ok (.iconst 1, 1) := by decide +kernel
theorem dL_law_1445 : decode cL_law 1445 = .ok (.iadd, 1) := by decide +kernel
theorem dL_law_1446 : decode cL_law 1446 = .ok (.iaload, 1) := by decide +kernel
theorem dL_law_1447 : decode cL_law 1447 = .ok (.invokevirtual 194, 3) := by decide +kernel
theorem cw_X11_ached : CWv yX11_ached cX11_ached 2 (some .int) 1 := ⟨⟨⟨List.mem_of_getElem? (i := 124) (by decide +kernel), by decide +kernel⟩, ⟨List.mem_of_getElem? (i := 1448) (by decide +kernel), by decide +kernel⟩, by decide +kernel⟩, ⟨List.mem_of_getElem? (i := 1446) (by decide +kernel), by decide +kernel⟩, ⟨List.mem_of_getElem? (i := 1447) (by decide +kernel), by decide +kernel⟩⟩
theorem kmL_194 : inW (Cond.methodLink RL 194 yX11_ached) := ⟨List.mem_of_getElem? (i := 1445) (by decide +kernel), by decide +kernel⟩
theorem dL_law_1450 : decode cL_law 1450 = .ok (.pop, 1) := by decide +kernel
theorem dL_law_1451 : decode cL_law 1451 = .ok (.aload_n 2, 1) := by decide +kernel
theorem dL_law_1452 : decode cL_law 1452 = .ok (.aload_n 0, 1) := by decide +kernel
theorem dL_law_1453 : decode cL_law 1453 = .ok (.iload_n 3, 1) := by decide +kernel
theorem dL_law_1454 : decode cL_law 1454 = .ok (.iconst 1, 1) := by decide +kernel
theorem dL_law_1455 : decode cL_law 1455 = .ok (.iadd, 1) := by decide +kernel
theorem dL_law_1456 : decode cL_law 1456 = .ok (.iaload, 1) := by decide +kernel
theorem dL_law_1457 : decode cL_law 1457 = .ok (.invokevirtual 197, 3) := by decide +kernel
theorem cw_X12_ached : CWv yX12_ached cX12_ached 4 (some .int) 1 := ⟨⟨⟨List.mem_of_getElem? (i := 137) (by decide +kernel), by decide +kernel⟩, ⟨List.mem_of_getElem? (i := 1989) (by decide +kernel), by decide +kernel⟩, by decide +kernel⟩, ⟨List.mem_of_getElem? (i := 1987) (by decide +kernel), by decide +kernel⟩, ⟨List.mem_of_getElem? (i := 1988) (by decide +kernel), by decide +kernel⟩⟩
theorem kmL_197 : inW (Cond.methodLink RL 197 yX12_ached) := ⟨List.mem_of_getElem? (i := 1986) (by decide +kernel), by decide +kernel⟩
theorem dL_law_1460 : decode cL_law 1460 = .ok (.pop, 1) := by decide +kernel
theorem dL_law_1461 : decode cL_law 1461 = .ok (.goto 65, 3) := by decide +kernel
theorem dL_law_1464 : decode cL_law 1464 = .ok (.aload_n 1, 1) := by decide +kernel
theorem dL_law_1465 : decode cL_law 1465 = .ok (.invokevirtual 198, 3) := by decide +kernel
theorem cw_X11_worstDay : CWv yX11_worstDay cX11_worstDay 1 (some .int) 0 := ⟨⟨⟨List.mem_of_getElem? (i := 124) (by decide +kernel), by decide +kernel⟩, ⟨List.mem_of_getElem? (i := 1457) (by decide +kernel), by decide +kernel⟩, by decide +kernel⟩, ⟨List.mem_of_getElem? (i := 1455) (by decide +kernel), by decide +kernel⟩, ⟨List.mem_of_getElem? (i := 1456) (by decide +kernel), by decide +kernel⟩⟩
theorem kmL_198 : inW (Cond.methodLink RL 198 yX11_worstDay) := ⟨List.mem_of_getElem? (i := 1454) (by decide +kernel), by decide +kernel⟩
theorem dL_law_1468 : decode cL_law 1468 = .ok (.pop, 1) := by decide +kernel
theorem dL_law_1469 : decode cL_law 1469 = .ok (.aload_n 2, 1) := by decide +kernel
theorem dL_law_1470 : decode cL_law 1470 = .ok (.invokevirtual 201, 3) := by decide +kernel
theorem cw_X12_worstDay : CWv yX12_worstDay cX12_worstDay 3 (some .int) 0 := ⟨⟨⟨List.mem_of_getElem? (i := 137) (by decide +kernel), by decide +kernel⟩, ⟨List.mem_of_getElem? (i := 1993) (by decide +kernel), by decide +kernel⟩, by decide +kernel⟩, ⟨List.mem_of_getElem? (i := 1991) (by decide +kernel), by decide +kernel⟩, ⟨List.mem_of_getElem? (i := 1992) (by decide +kernel), by decide +kernel⟩⟩
theorem kmL_201 : inW (Cond.methodLink RL 201 yX12_worstDay) := ⟨List.mem_of_getElem? (i := 1990) (by decide +kernel), by decide +kernel⟩
theorem dL_law_1473 : decode cL_law 1473 = .ok (.pop, 1) := by decide +kernel
theorem dL_law_1474 : decode cL_law 1474 = .ok (.goto 52, 3) := by decide +kernel
theorem dL_law_1477 : decode cL_law 1477 = .ok (.aload_n 1, 1) := by decide +kernel
theorem dL_law_1478 : decode cL_law 1478 = .ok (.invokevirtual 202, 3) := by decide +kernel
theorem cw_X11_image : CWv yX11_image cX11_image 1 (some .int) 0 := ⟨⟨⟨List.mem_of_getElem? (i := 124) (by decide +kernel), by decide +kernel⟩, ⟨List.mem_of_getElem? (i := 1465) (by decide +kernel), by decide +kernel⟩, by decide +kernel⟩, ⟨List.mem_of_getElem? (i := 1463) (by decide +kernel), by decide +kernel⟩, ⟨List.mem_of_getElem? (i := 1464) (by decide +kernel), by decide +kernel⟩⟩
theorem kmL_202 : inW (Cond.methodLink RL 202 yX11_image) := ⟨List.mem_of_getElem? (i := 1462) (by decide +kernel), by decide +kernel⟩
theorem dL_law_1481 : decode cL_law 1481 = .ok (.pop, 1) := by decide +kernel
theorem dL_law_1482 : decode cL_law 1482 = .ok (.aload_n 2, 1) := by decide +kernel
theorem dL_law_1483 : decode cL_law 1483 = .ok (.invokevirtual 205, 3) := by decide +kernel
theorem cw_X12_image : CWv yX12_image cX12_image 1 (some .int) 0 := ⟨⟨⟨List.mem_of_getElem? (i := 137) (by decide +kernel), by decide +kernel⟩, ⟨List.mem_of_getElem? (i := 2146) (by decide +kernel), by decide +kernel⟩, by decide +kernel⟩, ⟨List.mem_of_getElem? (i := 2144) (by decide +kernel), by decide +kernel⟩, ⟨List.mem_of_getElem? (i := 2145) (by decide +kernel), by decide +kernel⟩⟩
theorem kmL_205 : inW (Cond.methodLink RL 205 yX12_image) := ⟨List.mem_of_getElem? (i := 2143) (by decide +kernel), by decide +kernel⟩
theorem dL_law_1486 : decode cL_law 1486 = .ok (.pop, 1) := by decide +kernel
theorem dL_law_1487 : decode cL_law 1487 = .ok (.goto 39, 3) := by decide +kernel
theorem dL_law_1490 : decode cL_law 1490 = .ok (.aload_n 1, 1) := by decide +kernel
theorem dL_law_1491 : decode cL_law 1491 = .ok (.invokevirtual 206, 3) := by decide +kernel
theorem cw_X11_back : CWv yX11_back cX11_back 1 (some .int) 0 := ⟨⟨⟨List.mem_of_getElem? (i := 124) (by decide +kernel), by decide +kernel⟩, ⟨List.mem_of_getElem? (i := 1484) (by decide +kernel), by decide +kernel⟩, by decide +kernel⟩, ⟨List.mem_of_getElem? (i := 1482) (by decide +kernel), by decide +kernel⟩, ⟨List.mem_of_getElem? (i := 1483) (by decide +kernel), by decide +kernel⟩⟩
theorem kmL_206 : inW (Cond.methodLink RL 206 yX11_back) := ⟨List.mem_of_getElem? (i := 1481) (by decide +kernel), by decide +kernel⟩
theorem dL_law_1494 : decode cL_law 1494 = .ok (.pop, 1) := by decide +kernel
theorem dL_law_1495 : decode cL_law 1495 = .ok (.aload_n 2, 1) := by decide +kernel
theorem dL_law_1496 : decode cL_law 1496 = .ok (.invokevirtual 209, 3) := by decide +kernel
theorem cw_X12_back : CWv yX12_back cX12_back 1 (some .int) 0 := ⟨⟨⟨List.mem_of_getElem? (i := 137) (by decide +kernel), by decide +kernel⟩, ⟨List.mem_of_getElem? (i := 2150) (by decide +kernel), by decide +kernel⟩, by decide +kernel⟩, ⟨List.mem_of_getElem? (i := 2148) (by decide +kernel), by decide +kernel⟩, ⟨List.mem_of_getElem? (i := 2149) (by decide +kernel), by decide +kernel⟩⟩
theorem kmL_209 : inW (Cond.methodLink RL 209 yX12_back) := ⟨List.mem_of_getElem? (i := 2147) (by decide +kernel), by decide +kernel⟩
theorem dL_law_1499 : decode cL_law 1499 = .ok (.pop, 1) := by decide +kernel
theorem dL_law_1500 : decode cL_law 1500 = .ok (.goto 26, 3) := by decide +kernel
theorem dL_law_1503 : decode cL_law 1503 = .ok (.aload_n 1, 1) := by decide +kernel
theorem dL_law_1504 : decode cL_law 1504 = .ok (.aload_n 0, 1) := by decide +kernel
theorem dL_law_1505 : decode cL_law 1505 = .ok (.iload_n 3, 1) := by decide +kernel
theorem dL_law_1506 : decode cL_law 1506 = .ok (.iconst 1, 1) := by decide +kernel
theorem dL_law_1507 : decode cL_law 1507 = .ok (.iadd, 1) := by decide +kernel
theorem dL_law_1508 : decode cL_law 1508 = .ok (.iaload, 1) := by decide +kernel
theorem dL_law_1509 : decode cL_law 1509 = .ok (.invokevirtual 210, 3) := by decide +kernel
theorem cw_X11_about : CWv yX11_about cX11_about 2 (some .int) 1 := ⟨⟨⟨List.mem_of_getElem? (i := 124) (by decide +kernel), by decide +kernel⟩, ⟨List.mem_of_getElem? (i := 1488) (by decide +kernel), by decide +kernel⟩, by decide +kernel⟩, ⟨List.mem_of_getElem? (i := 1486) (by decide +kernel), by decide +kernel⟩, ⟨List.mem_of_getElem? (i := 1487) (by decide +kernel), by decide +kernel⟩⟩
theorem kmL_210 : inW (Cond.methodLink RL 210 yX11_about) := ⟨List.mem_of_getElem? (i := 1485) (by decide +kernel), by decide +kernel⟩
theorem dL_law_1512 : decode cL_law 1512 = .ok (.pop, 1) := by decide +kernel
theorem dL_law_1513 : decode cL_law 1513 = .ok (.aload_n 2, 1) := by decide +kernel
theorem dL_law_1514 : decode cL_law 1514 = .ok (.aload_n 0, 1) := by decide +kernel
theorem dL_law_1515 : decode cL_law 1515 = .ok (.iload_n 3, 1) := by decide +kernel
theorem dL_law_1516 : decode cL_law 1516 = .ok (.iconst 1, 1) := by decide +kernel
theorem dL_law_1517 : decode cL_law 1517 = .ok (.iadd, 1) := by decide +kernel
theorem dL_law_1518 : decode cL_law 1518 = .ok (.iaload, 1) := by decide +kernel
theorem dL_law_1519 : decode cL_law 1519 = .ok (.invokevirtual 213, 3) := by decide +kernel
theorem cw_X12_about : CWv yX12_about cX12_about 2 (some .int) 1 := ⟨⟨⟨List.mem_of_getElem? (i := 137) (by decide +kernel), by decide +kernel⟩, ⟨List.mem_of_getElem? (i := 2154) (by decide +kernel), by decide +kernel⟩, by decide +kernel⟩, ⟨List.mem_of_getElem? (i := 2152) (by decide +kernel), by decide +kernel⟩, ⟨List.mem_of_getElem? (i := 2153) (by decide +kernel), by decide +kernel⟩⟩
theorem kmL_213 : inW (Cond.methodLink RL 213 yX12_about) := ⟨List.mem_of_getElem? (i := 2151) (by decide +kernel), by decide +kernel⟩
theorem dL_law_1522 : decode cL_law 1522 = .ok (.pop, 1) := by decide +kernel
theorem dL_law_1523 : decode cL_law 1523 = .ok (.goto 3, 3) := by decide +kernel
set_option maxHeartbeats 4000000 in
set_option maxRecDepth 100000 in
theorem law_36 {p : Program} {e : Env} {s : State} {m : MethodId} {below : List Frame} {meth : Method} {c : Code} (l : Launch) {b L : Nat} {xs : Nat → Int32} (C0 : lw_At p s m meth c b L xs) (hL : L ≤ 3072) {G : GG} {A : Nat → Prop} (hAe : A = (fun q : Nat => s.heap.size ≤ q)) (S : SX G A p s m meth c RL code 4 ret) {aK aV : Nat → Nat} {z0 : Option Nat} (hz : ZS aK aV z0 A s s.heap) {adx adm : Nat → Nat → Nat} {i : Int32} (hi : 0 ≤ i.toInt ∧ i.toInt + 6 ≤ (L : Int)) {nL : Int} {bT : Nat → Int32} {kF pF a a8 : Int} {Lx Lm : List Nat} {fx fm : HF} {H : Heap} {locs : List Loc} {ls : Array Slot} (hC : CI G adx nL bT kF pF a a8 Lx fx) (hM : MI G adm nL bT kF pF a a8 Lm fm) (Y : DY G A s (va_pl Lx fx) Lm fm H locs) (hl : lv_has ls 4 [(3, .int i), (2, .ref (adm 0 0)), (1, .ref (adx 0 0)), (0, .ref b)]) (tail : ∀ (nL : Int) (bT : Nat → Int32) (kF pF a a8 : Int) (Lx Lm : List Nat) (fx fm : HF) (H : Heap) (locs : List Loc) (ls : Array Slot), CI G adx nL bT kF pF a a8 Lx fx → MI G adm nL bT kF pF a a8 Lm fm → DY G A s (va_pl Lx fx) Lm fm H locs → lv_has ls 4 [(3, .int i), (2, .ref (adm 0 0)), (1, .ref (adx 0 0)), (0, .ref b)] → W p l e room_1 s m #[Value.ref b] below meth c H locs 1000 60000 (lw_Z below #[Value.ref b] s) (F0 m 1526 ls [])) : W p l e room_1 s m #[Value.ref b] below meth c H locs 1000 60000 (lw_Z below #[Value.ref b] s) (F0 m 1264 ls []) := by
  obtain ⟨hx, hb, hr, hml, hown, hts, hX, hbl, hlocks, hgv⟩ := id C0
  have hbA : ¬ A b := by rw [hAe]; exact Nat.not_le.mpr hbl
  refine lv_aload_n hx hb dL_law_1264 rfl (lv_at hl 2 rfl) ?_
  refine lv_aload_n hx hb dL_law_1265 rfl (lv_at hl 3 rfl) ?_
  refine lv_iload_n hx hb dL_law_1266 rfl (lv_at hl 0 rfl) ?_
  refine lv_iconst (v := 1) hx hb dL_law_1267 (by decide) ?_
  refine lv_iadd hx hb dL_law_1268 ?_
  refine lv_topi (fun x_186232 ex_186232 => ?_)
  obtain ⟨v1, ev1⟩ : ∃ z, z = xs (i.toInt.toNat + (1 : Int32).toInt.toNat) := ⟨_, rfl⟩
  refine va_sld hx hb hX hbl hbA Y.2.2 (law_in ex_186232 hi hL (by decide)) dL_law_1269 ?_
  refine lv_fold (z := v1) ((law_rd ex_186232 hi hL (by decide)).trans ev1.symm) ?_
  have Y := Y.swap
  obtain ⟨tc, w, q, I, hW, hT, hQ, hZ, hE, hw2, hw7, hq2, hq7, ha, ha8, hL9, hBT⟩ := hC
  refine cVi (As := [.int v1]) (rest := []) S Y (x_X11_known (l := l) I hW hT hQ hZ hE) cw_X11_known kmL_165 (I.opo (k := 0) (j := 0) (by decide) rfl).choose_spec.1 ok_X11.1 rfl rfl ⟨Nat.le_of_ble_eq_true rfl, Nat.le_of_ble_eq_true rfl⟩ hl.1 rfl (Nat.le_of_ble_eq_true rfl) ⟨Nat.le_of_ble_eq_true rfl, Nat.le_of_ble_eq_true rfl⟩ dL_law_1270 (fun r_186233 L_186234 f_186235 H locs h_186236 Y => ?_)
  have I := h_186236
  have hC : CI G adx nL bT kF pF a a8 L_186234 f_186235 := ⟨tc, w, q, I, hW, hT, hQ, hZ, hE, hw2, hw7, hq2, hq7, ha, ha8, hL9, hBT⟩
  have Y := Y.swap
  refine lv_pop hx hb dL_law_1273 rfl ?_
  refine lv_aload_n hx hb dL_law_1274 rfl (lv_at hl 1 rfl) ?_
  refine lv_aload_n hx hb dL_law_1275 rfl (lv_at hl 3 rfl) ?_
  refine lv_iload_n hx hb dL_law_1276 rfl (lv_at hl 0 rfl) ?_
  refine lv_iconst (v := 1) hx hb dL_law_1277 (by decide) ?_
  refine lv_iadd hx hb dL_law_1278 ?_
  refine lv_topi (fun x_186237 ex_186237 => ?_)
  refine va_sld hx hb hX hbl hbA Y.2.2 (law_in ex_186237 hi hL (by decide)) dL_law_1279 ?_
  refine lv_fold (z := v1) ((law_rd ex_186237 hi hL (by decide)).trans ev1.symm) ?_
  obtain ⟨wm, wm2, g0, I, hB, hB2, hX0, ew1, ew2, ha, ha8, hL9, hBT⟩ := hM
  refine cVp (As := [.int v1]) (rest := []) S Y (x_X12_known (l := l) I hB hX0) cw_X12_known kmL_168 (I.opo (k := 0) (j := 0) (by decide) rfl).choose_spec.1 ok_X12.1 rfl rfl ⟨Nat.le_of_ble_eq_true rfl, Nat.le_of_ble_eq_true rfl⟩ hl.1 rfl (Nat.le_of_ble_eq_true rfl) ⟨Nat.le_of_ble_eq_true rfl, Nat.le_of_ble_eq_true rfl⟩ dL_law_1280 (fun r_186238 H locs er_186238 Y => ?_)
  have hM : MI G adm nL bT kF pF a a8 Lm fm := ⟨wm, wm2, g0, I, hB, hB2, hX0, ew1, ew2, ha, ha8, hL9, hBT⟩
  refine lv_pop hx hb dL_law_1283 rfl ?_
  refine lv_goto (tgt := 1526) hx hb dL_law_1284 (by decide) ?_
  exact tail _ _ _ _ _ _ _ _ _ _ _ _ _ hC hM Y hl
set_option maxHeartbeats 4000000 in
set_option maxRecDepth 100000 in
theorem law_37 {p : Program} {e : Env} {s : State} {m : MethodId} {below : List Frame} {meth : Method} {c : Code} (l : Launch) {b L : Nat} {xs : Nat → Int32} (C0 : lw_At p s m meth c b L xs) (hL : L ≤ 3072) {G : GG} {A : Nat → Prop} (hAe : A = (fun q : Nat => s.heap.size ≤ q)) (S : SX G A p s m meth c RL code 4 ret) {aK aV : Nat → Nat} {z0 : Option Nat} (hz : ZS aK aV z0 A s s.heap) {adx adm : Nat → Nat → Nat} {i : Int32} (hi : 0 ≤ i.toInt ∧ i.toInt + 6 ≤ (L : Int)) {nL : Int} {bT : Nat → Int32} {kF pF a a8 : Int} {Lx Lm : List Nat} {fx fm : HF} {H : Heap} {locs : List Loc} {ls : Array Slot} (hC : CI G adx nL bT kF pF a a8 Lx fx) (hM : MI G adm nL bT kF pF a a8 Lm fm) (Y : DY G A s (va_pl Lx fx) Lm fm H locs) (hl : lv_has ls 4 [(3, .int i), (2, .ref (adm 0 0)), (1, .ref (adx 0 0)), (0, .ref b)]) (tail : ∀ (nL : Int) (bT : Nat → Int32) (kF pF a a8 : Int) (Lx Lm : List Nat) (fx fm : HF) (H : Heap) (locs : List Loc) (ls : Array Slot), CI G adx nL bT kF pF a a8 Lx fx → MI G adm nL bT kF pF a a8 Lm fm → DY G A s (va_pl Lx fx) Lm fm H locs → lv_has ls 4 [(3, .int i), (2, .ref (adm 0 0)), (1, .ref (adx 0 0)), (0, .ref b)] → W p l e room_1 s m #[Value.ref b] below meth c H locs 1000 60000 (lw_Z below #[Value.ref b] s) (F0 m 1526 ls [])) : W p l e room_1 s m #[Value.ref b] below meth c H locs 1000 60000 (lw_Z below #[Value.ref b] s) (F0 m 1287 ls []) := by
  obtain ⟨hx, hb, hr, hml, hown, hts, hX, hbl, hlocks, hgv⟩ := id C0
  have hbA : ¬ A b := by rw [hAe]; exact Nat.not_le.mpr hbl
  refine lv_aload_n hx hb dL_law_1287 rfl (lv_at hl 2 rfl) ?_
  have Y := Y.swap
  obtain ⟨tc, w, q, I, hW, hT, hQ, hZ, hE, hw2, hw7, hq2, hq7, ha, ha8, hL9, hBT⟩ := hC
  refine cVi (As := []) (rest := []) S Y (x_X11_together (l := l) I hW hT hQ hZ hE) cw_X11_together kmL_169 (I.opo (k := 0) (j := 0) (by decide) rfl).choose_spec.1 ok_X11.1 rfl rfl ⟨Nat.le_of_ble_eq_true rfl, Nat.le_of_ble_eq_true rfl⟩ hl.1 rfl (Nat.le_of_ble_eq_true rfl) ⟨Nat.le_of_ble_eq_true rfl, Nat.le_of_ble_eq_true rfl⟩ dL_law_1288 (fun r_186239 L_186240 f_186241 H locs h_186242 Y => ?_)
  have I := h_186242
  have hC : CI G adx nL bT kF pF a a8 L_186240 f_186241 := ⟨tc, w, q, I, hW, hT, hQ, hZ, hE, hw2, hw7, hq2, hq7, ha, ha8, hL9, hBT⟩
  have Y := Y.swap
  refine lv_pop hx hb dL_law_1291 rfl ?_
  refine lv_aload_n hx hb dL_law_1292 rfl (lv_at hl 1 rfl) ?_
  obtain ⟨wm, wm2, g0, I, hB, hB2, hX0, ew1, ew2, ha, ha8, hL9, hBT⟩ := hM
  refine cVi (As := []) (rest := []) S Y (x_X12_together (l := l) I hB hX0) cw_X12_together kmL_172 (I.opo (k := 0) (j := 0) (by decide) rfl).choose_spec.1 ok_X12.1 rfl rfl ⟨Nat.le_of_ble_eq_true rfl, Nat.le_of_ble_eq_true rfl⟩ hl.1 rfl (Nat.le_of_ble_eq_true rfl) ⟨Nat.le_of_ble_eq_true rfl, Nat.le_of_ble_eq_true rfl⟩ dL_law_1293 (fun r_186243 L_186244 f_186245 H locs h_186246 Y => ?_)
  have I := h_186246
  have hM : MI G adm nL bT kF pF a a8 L_186244 f_186245 := ⟨wm, wm2, g0, I, hB, hB2, hX0, ew1, ew2, ha, ha8, hL9, hBT⟩
  refine lv_pop hx hb dL_law_1296 rfl ?_
  refine lv_goto (tgt := 1526) hx hb dL_law_1297 (by decide) ?_
  exact tail _ _ _ _ _ _ _ _ _ _ _ _ _ hC hM Y hl
set_option maxHeartbeats 4000000 in
set_option maxRecDepth 100000 in
theorem law_38 {p : Program} {e : Env} {s : State} {m : MethodId} {below : List Frame} {meth : Method} {c : Code} (l : Launch) {b L : Nat} {xs : Nat → Int32} (C0 : lw_At p s m meth c b L xs) (hL : L ≤ 3072) {G : GG} {A : Nat → Prop} (hAe : A = (fun q : Nat => s.heap.size ≤ q)) (S : SX G A p s m meth c RL code 4 ret) {aK aV : Nat → Nat} {z0 : Option Nat} (hz : ZS aK aV z0 A s s.heap) {adx adm : Nat → Nat → Nat} {i : Int32} (hi : 0 ≤ i.toInt ∧ i.toInt + 6 ≤ (L : Int)) {nL : Int} {bT : Nat → Int32} {kF pF a a8 : Int} {Lx Lm : List Nat} {fx fm : HF} {H : Heap} {locs : List Loc} {ls : Array Slot} (hC : CI G adx nL bT kF pF a a8 Lx fx) (hM : MI G adm nL bT kF pF a a8 Lm fm) (Y : DY G A s (va_pl Lx fx) Lm fm H locs) (hl : lv_has ls 4 [(3, .int i), (2, .ref (adm 0 0)), (1, .ref (adx 0 0)), (0, .ref b)]) (tail : ∀ (nL : Int) (bT : Nat → Int32) (kF pF a a8 : Int) (Lx Lm : List Nat) (fx fm : HF) (H : Heap) (locs : List Loc) (ls : Array Slot), CI G adx nL bT kF pF a a8 Lx fx → MI G adm nL bT kF pF a a8 Lm fm → DY G A s (va_pl Lx fx) Lm fm H locs → lv_has ls 4 [(3, .int i), (2, .ref (adm 0 0)), (1, .ref (adx 0 0)), (0, .ref b)] → W p l e room_1 s m #[Value.ref b] below meth c H locs 1000 60000 (lw_Z below #[Value.ref b] s) (F0 m 1526 ls [])) : W p l e room_1 s m #[Value.ref b] below meth c H locs 1000 60000 (lw_Z below #[Value.ref b] s) (F0 m 1300 ls []) := by
  obtain ⟨hx, hb, hr, hml, hown, hts, hX, hbl, hlocks, hgv⟩ := id C0
  have hbA : ¬ A b := by rw [hAe]; exact Nat.not_le.mpr hbl
  refine lv_aload_n hx hb dL_law_1300 rfl (lv_at hl 2 rfl) ?_
  refine lv_aload_n hx hb dL_law_1301 rfl (lv_at hl 3 rfl) ?_
  refine lv_iload_n hx hb dL_law_1302 rfl (lv_at hl 0 rfl) ?_
  refine lv_iconst (v := 1) hx hb dL_law_1303 (by decide) ?_
  refine lv_iadd hx hb dL_law_1304 ?_
  refine lv_topi (fun x_186247 ex_186247 => ?_)
  obtain ⟨v1, ev1⟩ : ∃ z, z = xs (i.toInt.toNat + (1 : Int32).toInt.toNat) := ⟨_, rfl⟩
  refine va_sld hx hb hX hbl hbA Y.2.2 (law_in ex_186247 hi hL (by decide)) dL_law_1305 ?_
  refine lv_fold (z := v1) ((law_rd ex_186247 hi hL (by decide)).trans ev1.symm) ?_
  refine lv_aload_n hx hb dL_law_1306 rfl (lv_at hl 3 rfl) ?_
  refine lv_iload_n hx hb dL_law_1307 rfl (lv_at hl 0 rfl) ?_
  refine lv_iconst (v := 2) hx hb dL_law_1308 (by decide) ?_
  refine lv_iadd hx hb dL_law_1309 ?_
  refine lv_topi (fun x_186248 ex_186248 => ?_)
  obtain ⟨v2, ev2⟩ : ∃ z, z = xs (i.toInt.toNat + (2 : Int32).toInt.toNat) := ⟨_, rfl⟩
  refine va_sld hx hb hX hbl hbA Y.2.2 (law_in ex_186248 hi hL (by decide)) dL_law_1310 ?_
  refine lv_fold (z := v2) ((law_rd ex_186248 hi hL (by decide)).trans ev2.symm) ?_
  refine lv_aload_n hx hb dL_law_1311 rfl (lv_at hl 3 rfl) ?_
  refine lv_iload_n hx hb dL_law_1312 rfl (lv_at hl 0 rfl) ?_
  refine lv_iconst (v := 3) hx hb dL_law_1313 (by decide) ?_
  refine lv_iadd hx hb dL_law_1314 ?_
  refine lv_topi (fun x_186249 ex_186249 => ?_)
  obtain ⟨v3, ev3⟩ : ∃ z, z = xs (i.toInt.toNat + (3 : Int32).toInt.toNat) := ⟨_, rfl⟩
  refine va_sld hx hb hX hbl hbA Y.2.2 (law_in ex_186249 hi hL (by decide)) dL_law_1315 ?_
  refine lv_fold (z := v3) ((law_rd ex_186249 hi hL (by decide)).trans ev3.symm) ?_
  refine lv_aload_n hx hb dL_law_1316 rfl (lv_at hl 3 rfl) ?_
  refine lv_iload_n hx hb dL_law_1317 rfl (lv_at hl 0 rfl) ?_
  refine lv_iconst (v := 4) hx hb dL_law_1318 (by decide) ?_
  refine lv_iadd hx hb dL_law_1319 ?_
  refine lv_topi (fun x_186250 ex_186250 => ?_)
  obtain ⟨v4, ev4⟩ : ∃ z, z = xs (i.toInt.toNat + (4 : Int32).toInt.toNat) := ⟨_, rfl⟩
  refine va_sld hx hb hX hbl hbA Y.2.2 (law_in ex_186250 hi hL (by decide)) dL_law_1320 ?_
  refine lv_fold (z := v4) ((law_rd ex_186250 hi hL (by decide)).trans ev4.symm) ?_
  refine lv_if_eq (tgt := 1328) hx hb dL_law_1321 (by decide) (fun c_186251 => ?_) (fun c_186251 => ?_)
  · refine lv_iconst (v := 0) hx hb dL_law_1328 (by decide) ?_
    have Y := Y.swap
    obtain ⟨tc, w, q, I, hW, hT, hQ, hZ, hE, hw2, hw7, hq2, hq7, ha, ha8, hL9, hBT⟩ := hC
    refine cVi (As := [.int v1, .int v2, .int v3, .int 0]) (rest := []) S Y (x_X11_copy (l := l) I hW hT hQ (show bn 0 1 (0 : Int32) from bn_k (by decide)) hZ hE) cw_X11_copy kmL_173 (I.opo (k := 0) (j := 0) (by decide) rfl).choose_spec.1 ok_X11.1 rfl rfl ⟨Nat.le_of_ble_eq_true rfl, Nat.le_of_ble_eq_true rfl⟩ hl.1 rfl (Nat.le_of_ble_eq_true rfl) ⟨Nat.le_of_ble_eq_true rfl, Nat.le_of_ble_eq_true rfl⟩ dL_law_1329 (fun r_186252 L_186253 f_186254 H locs h_186255 Y => ?_)
    have I := h_186255
    have hC : CI G adx nL bT kF pF a a8 L_186253 f_186254 := ⟨tc, w, q, I, hW, hT, hQ, hZ, hE, hw2, hw7, hq2, hq7, ha, ha8, hL9, hBT⟩
    have Y := Y.swap
    refine lv_pop hx hb dL_law_1332 rfl ?_
    refine lv_aload_n hx hb dL_law_1333 rfl (lv_at hl 1 rfl) ?_
    refine lv_aload_n hx hb dL_law_1334 rfl (lv_at hl 3 rfl) ?_
    refine lv_iload_n hx hb dL_law_1335 rfl (lv_at hl 0 rfl) ?_
    refine lv_iconst (v := 1) hx hb dL_law_1336 (by decide) ?_
    refine lv_iadd hx hb dL_law_1337 ?_
    refine lv_topi (fun x_186256 ex_186256 => ?_)
    refine va_sld hx hb hX hbl hbA Y.2.2 (law_in ex_186256 hi hL (by decide)) dL_law_1338 ?_
    refine lv_fold (z := v1) ((law_rd ex_186256 hi hL (by decide)).trans ev1.symm) ?_
    refine lv_aload_n hx hb dL_law_1339 rfl (lv_at hl 3 rfl) ?_
    refine lv_iload_n hx hb dL_law_1340 rfl (lv_at hl 0 rfl) ?_
    refine lv_iconst (v := 2) hx hb dL_law_1341 (by decide) ?_
    refine lv_iadd hx hb dL_law_1342 ?_
    refine lv_topi (fun x_186257 ex_186257 => ?_)
    refine va_sld hx hb hX hbl hbA Y.2.2 (law_in ex_186257 hi hL (by decide)) dL_law_1343 ?_
    refine lv_fold (z := v2) ((law_rd ex_186257 hi hL (by decide)).trans ev2.symm) ?_
    refine lv_aload_n hx hb dL_law_1344 rfl (lv_at hl 3 rfl) ?_
    refine lv_iload_n hx hb dL_law_1345 rfl (lv_at hl 0 rfl) ?_
    refine lv_iconst (v := 3) hx hb dL_law_1346 (by decide) ?_
    refine lv_iadd hx hb dL_law_1347 ?_
    refine lv_topi (fun x_186258 ex_186258 => ?_)
    refine va_sld hx hb hX hbl hbA Y.2.2 (law_in ex_186258 hi hL (by decide)) dL_law_1348 ?_
    refine lv_fold (z := v3) ((law_rd ex_186258 hi hL (by decide)).trans ev3.symm) ?_
    refine lv_aload_n hx hb dL_law_1349 rfl (lv_at hl 3 rfl) ?_
    refine lv_iload_n hx hb dL_law_1350 rfl (lv_at hl 0 rfl) ?_
    refine lv_iconst (v := 4) hx hb dL_law_1351 (by decide) ?_
    refine lv_iadd hx hb dL_law_1352 ?_
    refine lv_topi (fun x_186259 ex_186259 => ?_)
    refine va_sld hx hb hX hbl hbA Y.2.2 (law_in ex_186259 hi hL (by decide)) dL_law_1353 ?_
    refine lv_fold (z := v4) ((law_rd ex_186259 hi hL (by decide)).trans ev4.symm) ?_
    refine lv_if_eq (tgt := 1361) hx hb dL_law_1354 (by decide) (fun _ => ?_) (fun h => absurd c_186251 h)
    refine lv_iconst (v := 0) hx hb dL_law_1361 (by decide) ?_
    obtain ⟨wm, wm2, g0, I, hB, hB2, hX0, ew1, ew2, ha, ha8, hL9, hBT⟩ := hM
    refine cVi (As := [.int v1, .int v2, .int v3, .int 0]) (rest := []) S Y (x_X12_copy_ (l := l) I hB hX0 (show bn 0 1 (0 : Int32) from bn_k (by decide))) cw_X12_copy_ kmL_177 (I.opo (k := 0) (j := 0) (by decide) rfl).choose_spec.1 ok_X12.1 rfl rfl ⟨Nat.le_of_ble_eq_true rfl, Nat.le_of_ble_eq_true rfl⟩ hl.1 rfl (Nat.le_of_ble_eq_true rfl) ⟨Nat.le_of_ble_eq_true rfl, Nat.le_of_ble_eq_true rfl⟩ dL_law_1362 (fun r_186260 L_186261 f_186262 H locs h_186263 Y => ?_)
    have I := h_186263
    have hM : MI G adm nL bT kF pF a a8 L_186261 f_186262 := ⟨wm, wm2, g0, I, hB, hB2, hX0, ew1, ew2, ha, ha8, hL9, hBT⟩
    refine lv_pop hx hb dL_law_1365 rfl ?_
    refine lv_goto (tgt := 1526) hx hb dL_law_1366 (by decide) ?_
    exact tail _ _ _ _ _ _ _ _ _ _ _ _ _ hC hM Y hl
  · refine lv_iconst (v := 1) hx hb dL_law_1324 (by decide) ?_
    refine lv_goto (tgt := 1329) hx hb dL_law_1325 (by decide) ?_
    have Y := Y.swap
    obtain ⟨tc, w, q, I, hW, hT, hQ, hZ, hE, hw2, hw7, hq2, hq7, ha, ha8, hL9, hBT⟩ := hC
    refine cVi (As := [.int v1, .int v2, .int v3, .int 1]) (rest := []) S Y (x_X11_copy (l := l) I hW hT hQ (show bn 0 1 (1 : Int32) from bn_k (by decide)) hZ hE) cw_X11_copy kmL_173 (I.opo (k := 0) (j := 0) (by decide) rfl).choose_spec.1 ok_X11.1 rfl rfl ⟨Nat.le_of_ble_eq_true rfl, Nat.le_of_ble_eq_true rfl⟩ hl.1 rfl (Nat.le_of_ble_eq_true rfl) ⟨Nat.le_of_ble_eq_true rfl, Nat.le_of_ble_eq_true rfl⟩ dL_law_1329 (fun r_186264 L_186265 f_186266 H locs h_186267 Y => ?_)
    have I := h_186267
    have hC : CI G adx nL bT kF pF a a8 L_186265 f_186266 := ⟨tc, w, q, I, hW, hT, hQ, hZ, hE, hw2, hw7, hq2, hq7, ha, ha8, hL9, hBT⟩
    have Y := Y.swap
    refine lv_pop hx hb dL_law_1332 rfl ?_
    refine lv_aload_n hx hb dL_law_1333 rfl (lv_at hl 1 rfl) ?_
    refine lv_aload_n hx hb dL_law_1334 rfl (lv_at hl 3 rfl) ?_
    refine lv_iload_n hx hb dL_law_1335 rfl (lv_at hl 0 rfl) ?_
    refine lv_iconst (v := 1) hx hb dL_law_1336 (by decide) ?_
    refine lv_iadd hx hb dL_law_1337 ?_
    refine lv_topi (fun x_186268 ex_186268 => ?_)
    refine va_sld hx hb hX hbl hbA Y.2.2 (law_in ex_186268 hi hL (by decide)) dL_law_1338 ?_
    refine lv_fold (z := v1) ((law_rd ex_186268 hi hL (by decide)).trans ev1.symm) ?_
    refine lv_aload_n hx hb dL_law_1339 rfl (lv_at hl 3 rfl) ?_
    refine lv_iload_n hx hb dL_law_1340 rfl (lv_at hl 0 rfl) ?_
    refine lv_iconst (v := 2) hx hb dL_law_1341 (by decide) ?_
    refine lv_iadd hx hb dL_law_1342 ?_
    refine lv_topi (fun x_186269 ex_186269 => ?_)
    refine va_sld hx hb hX hbl hbA Y.2.2 (law_in ex_186269 hi hL (by decide)) dL_law_1343 ?_
    refine lv_fold (z := v2) ((law_rd ex_186269 hi hL (by decide)).trans ev2.symm) ?_
    refine lv_aload_n hx hb dL_law_1344 rfl (lv_at hl 3 rfl) ?_
    refine lv_iload_n hx hb dL_law_1345 rfl (lv_at hl 0 rfl) ?_
    refine lv_iconst (v := 3) hx hb dL_law_1346 (by decide) ?_
    refine lv_iadd hx hb dL_law_1347 ?_
    refine lv_topi (fun x_186270 ex_186270 => ?_)
    refine va_sld hx hb hX hbl hbA Y.2.2 (law_in ex_186270 hi hL (by decide)) dL_law_1348 ?_
    refine lv_fold (z := v3) ((law_rd ex_186270 hi hL (by decide)).trans ev3.symm) ?_
    refine lv_aload_n hx hb dL_law_1349 rfl (lv_at hl 3 rfl) ?_
    refine lv_iload_n hx hb dL_law_1350 rfl (lv_at hl 0 rfl) ?_
    refine lv_iconst (v := 4) hx hb dL_law_1351 (by decide) ?_
    refine lv_iadd hx hb dL_law_1352 ?_
    refine lv_topi (fun x_186271 ex_186271 => ?_)
    refine va_sld hx hb hX hbl hbA Y.2.2 (law_in ex_186271 hi hL (by decide)) dL_law_1353 ?_
    refine lv_fold (z := v4) ((law_rd ex_186271 hi hL (by decide)).trans ev4.symm) ?_
    refine lv_if_eq (tgt := 1361) hx hb dL_law_1354 (by decide) (fun h => absurd h c_186251) (fun _ => ?_)
    refine lv_iconst (v := 1) hx hb dL_law_1357 (by decide) ?_
    refine lv_goto (tgt := 1362) hx hb dL_law_1358 (by decide) ?_
    obtain ⟨wm, wm2, g0, I, hB, hB2, hX0, ew1, ew2, ha, ha8, hL9, hBT⟩ := hM
    refine cVi (As := [.int v1, .int v2, .int v3, .int 1]) (rest := []) S Y (x_X12_copy_ (l := l) I hB hX0 (show bn 0 1 (1 : Int32) from bn_k (by decide))) cw_X12_copy_ kmL_177 (I.opo (k := 0) (j := 0) (by decide) rfl).choose_spec.1 ok_X12.1 rfl rfl ⟨Nat.le_of_ble_eq_true rfl, Nat.le_of_ble_eq_true rfl⟩ hl.1 rfl (Nat.le_of_ble_eq_true rfl) ⟨Nat.le_of_ble_eq_true rfl, Nat.le_of_ble_eq_true rfl⟩ dL_law_1362 (fun r_186272 L_186273 f_186274 H locs h_186275 Y => ?_)
    have I := h_186275
    have hM : MI G adm nL bT kF pF a a8 L_186273 f_186274 := ⟨wm, wm2, g0, I, hB, hB2, hX0, ew1, ew2, ha, ha8, hL9, hBT⟩
    refine lv_pop hx hb dL_law_1365 rfl ?_
    refine lv_goto (tgt := 1526) hx hb dL_law_1366 (by decide) ?_
    exact tail _ _ _ _ _ _ _ _ _ _ _ _ _ hC hM Y hl
set_option maxHeartbeats 4000000 in
set_option maxRecDepth 100000 in
theorem law_39 {p : Program} {e : Env} {s : State} {m : MethodId} {below : List Frame} {meth : Method} {c : Code} (l : Launch) {b L : Nat} {xs : Nat → Int32} (C0 : lw_At p s m meth c b L xs) (hL : L ≤ 3072) {G : GG} {A : Nat → Prop} (hAe : A = (fun q : Nat => s.heap.size ≤ q)) (S : SX G A p s m meth c RL code 4 ret) {aK aV : Nat → Nat} {z0 : Option Nat} (hz : ZS aK aV z0 A s s.heap) {adx adm : Nat → Nat → Nat} {i : Int32} (hi : 0 ≤ i.toInt ∧ i.toInt + 6 ≤ (L : Int)) {nL : Int} {bT : Nat → Int32} {kF pF a a8 : Int} {Lx Lm : List Nat} {fx fm : HF} {H : Heap} {locs : List Loc} {ls : Array Slot} (hC : CI G adx nL bT kF pF a a8 Lx fx) (hM : MI G adm nL bT kF pF a a8 Lm fm) (Y : DY G A s (va_pl Lx fx) Lm fm H locs) (hl : lv_has ls 4 [(3, .int i), (2, .ref (adm 0 0)), (1, .ref (adx 0 0)), (0, .ref b)]) (tail : ∀ (nL : Int) (bT : Nat → Int32) (kF pF a a8 : Int) (Lx Lm : List Nat) (fx fm : HF) (H : Heap) (locs : List Loc) (ls : Array Slot), CI G adx nL bT kF pF a a8 Lx fx → MI G adm nL bT kF pF a a8 Lm fm → DY G A s (va_pl Lx fx) Lm fm H locs → lv_has ls 4 [(3, .int i), (2, .ref (adm 0 0)), (1, .ref (adx 0 0)), (0, .ref b)] → W p l e room_1 s m #[Value.ref b] below meth c H locs 1000 60000 (lw_Z below #[Value.ref b] s) (F0 m 1526 ls [])) : W p l e room_1 s m #[Value.ref b] below meth c H locs 1000 60000 (lw_Z below #[Value.ref b] s) (F0 m 1369 ls []) := by
  obtain ⟨hx, hb, hr, hml, hown, hts, hX, hbl, hlocks, hgv⟩ := id C0
  have hbA : ¬ A b := by rw [hAe]; exact Nat.not_le.mpr hbl
  refine lv_aload_n hx hb dL_law_1369 rfl (lv_at hl 2 rfl) ?_
  refine lv_aload_n hx hb dL_law_1370 rfl (lv_at hl 3 rfl) ?_
  refine lv_iload_n hx hb dL_law_1371 rfl (lv_at hl 0 rfl) ?_
  refine lv_iconst (v := 1) hx hb dL_law_1372 (by decide) ?_
  refine lv_iadd hx hb dL_law_1373 ?_
  refine lv_topi (fun x_186276 ex_186276 => ?_)
  obtain ⟨v1, ev1⟩ : ∃ z, z = xs (i.toInt.toNat + (1 : Int32).toInt.toNat) := ⟨_, rfl⟩
  refine va_sld hx hb hX hbl hbA Y.2.2 (law_in ex_186276 hi hL (by decide)) dL_law_1374 ?_
  refine lv_fold (z := v1) ((law_rd ex_186276 hi hL (by decide)).trans ev1.symm) ?_
  refine lv_aload_n hx hb dL_law_1375 rfl (lv_at hl 3 rfl) ?_
  refine lv_iload_n hx hb dL_law_1376 rfl (lv_at hl 0 rfl) ?_
  refine lv_iconst (v := 2) hx hb dL_law_1377 (by decide) ?_
  refine lv_iadd hx hb dL_law_1378 ?_
  refine lv_topi (fun x_186277 ex_186277 => ?_)
  obtain ⟨v2, ev2⟩ : ∃ z, z = xs (i.toInt.toNat + (2 : Int32).toInt.toNat) := ⟨_, rfl⟩
  refine va_sld hx hb hX hbl hbA Y.2.2 (law_in ex_186277 hi hL (by decide)) dL_law_1379 ?_
  refine lv_fold (z := v2) ((law_rd ex_186277 hi hL (by decide)).trans ev2.symm) ?_
  have Y := Y.swap
  obtain ⟨tc, w, q, I, hW, hT, hQ, hZ, hE, hw2, hw7, hq2, hq7, ha, ha8, hL9, hBT⟩ := hC
  refine cVi (As := [.int v1, .int v2]) (rest := []) S Y (x_X11_worn (l := l) I hW hT hQ hZ hE) cw_X11_worn kmL_178 (I.opo (k := 0) (j := 0) (by decide) rfl).choose_spec.1 ok_X11.1 rfl rfl ⟨Nat.le_of_ble_eq_true rfl, Nat.le_of_ble_eq_true rfl⟩ hl.1 rfl (Nat.le_of_ble_eq_true rfl) ⟨Nat.le_of_ble_eq_true rfl, Nat.le_of_ble_eq_true rfl⟩ dL_law_1380 (fun r_186278 L_186279 f_186280 H locs h_186281 Y => ?_)
  have I := h_186281
  have hC : CI G adx nL bT kF pF a a8 L_186279 f_186280 := ⟨tc, w, q, I, hW, hT, hQ, hZ, hE, hw2, hw7, hq2, hq7, ha, ha8, hL9, hBT⟩
  have Y := Y.swap
  refine lv_pop hx hb dL_law_1383 rfl ?_
  refine lv_aload_n hx hb dL_law_1384 rfl (lv_at hl 1 rfl) ?_
  refine lv_aload_n hx hb dL_law_1385 rfl (lv_at hl 3 rfl) ?_
  refine lv_iload_n hx hb dL_law_1386 rfl (lv_at hl 0 rfl) ?_
  refine lv_iconst (v := 1) hx hb dL_law_1387 (by decide) ?_
  refine lv_iadd hx hb dL_law_1388 ?_
  refine lv_topi (fun x_186282 ex_186282 => ?_)
  refine va_sld hx hb hX hbl hbA Y.2.2 (law_in ex_186282 hi hL (by decide)) dL_law_1389 ?_
  refine lv_fold (z := v1) ((law_rd ex_186282 hi hL (by decide)).trans ev1.symm) ?_
  refine lv_aload_n hx hb dL_law_1390 rfl (lv_at hl 3 rfl) ?_
  refine lv_iload_n hx hb dL_law_1391 rfl (lv_at hl 0 rfl) ?_
  refine lv_iconst (v := 2) hx hb dL_law_1392 (by decide) ?_
  refine lv_iadd hx hb dL_law_1393 ?_
  refine lv_topi (fun x_186283 ex_186283 => ?_)
  refine va_sld hx hb hX hbl hbA Y.2.2 (law_in ex_186283 hi hL (by decide)) dL_law_1394 ?_
  refine lv_fold (z := v2) ((law_rd ex_186283 hi hL (by decide)).trans ev2.symm) ?_
  obtain ⟨wm, wm2, g0, I, hB, hB2, hX0, ew1, ew2, ha, ha8, hL9, hBT⟩ := hM
  refine cVi (As := [.int v1, .int v2]) (rest := []) S Y (x_X12_worn (l := l) I hB hX0) cw_X12_worn kmL_181 (I.opo (k := 0) (j := 0) (by decide) rfl).choose_spec.1 ok_X12.1 rfl rfl ⟨Nat.le_of_ble_eq_true rfl, Nat.le_of_ble_eq_true rfl⟩ hl.1 rfl (Nat.le_of_ble_eq_true rfl) ⟨Nat.le_of_ble_eq_true rfl, Nat.le_of_ble_eq_true rfl⟩ dL_law_1395 (fun r_186284 L_186285 f_186286 H locs h_186287 Y => ?_)
  have I := h_186287
  have hM : MI G adm nL bT kF pF a a8 L_186285 f_186286 := ⟨wm, wm2, g0, I, hB, hB2, hX0, ew1, ew2, ha, ha8, hL9, hBT⟩
  refine lv_pop hx hb dL_law_1398 rfl ?_
  refine lv_goto (tgt := 1526) hx hb dL_law_1399 (by decide) ?_
  exact tail _ _ _ _ _ _ _ _ _ _ _ _ _ hC hM Y hl
set_option maxHeartbeats 4000000 in
set_option maxRecDepth 100000 in
theorem law_40 {p : Program} {e : Env} {s : State} {m : MethodId} {below : List Frame} {meth : Method} {c : Code} (l : Launch) {b L : Nat} {xs : Nat → Int32} (C0 : lw_At p s m meth c b L xs) (hL : L ≤ 3072) {G : GG} {A : Nat → Prop} (hAe : A = (fun q : Nat => s.heap.size ≤ q)) (S : SX G A p s m meth c RL code 4 ret) {aK aV : Nat → Nat} {z0 : Option Nat} (hz : ZS aK aV z0 A s s.heap) {adx adm : Nat → Nat → Nat} {i : Int32} (hi : 0 ≤ i.toInt ∧ i.toInt + 6 ≤ (L : Int)) {nL : Int} {bT : Nat → Int32} {kF pF a a8 : Int} {Lx Lm : List Nat} {fx fm : HF} {H : Heap} {locs : List Loc} {ls : Array Slot} (hC : CI G adx nL bT kF pF a a8 Lx fx) (hM : MI G adm nL bT kF pF a a8 Lm fm) (Y : DY G A s (va_pl Lx fx) Lm fm H locs) (hl : lv_has ls 4 [(3, .int i), (2, .ref (adm 0 0)), (1, .ref (adx 0 0)), (0, .ref b)]) (tail : ∀ (nL : Int) (bT : Nat → Int32) (kF pF a a8 : Int) (Lx Lm : List Nat) (fx fm : HF) (H : Heap) (locs : List Loc) (ls : Array Slot), CI G adx nL bT kF pF a a8 Lx fx → MI G adm nL bT kF pF a a8 Lm fm → DY G A s (va_pl Lx fx) Lm fm H locs → lv_has ls 4 [(3, .int i), (2, .ref (adm 0 0)), (1, .ref (adx 0 0)), (0, .ref b)] → W p l e room_1 s m #[Value.ref b] below meth c H locs 1000 60000 (lw_Z below #[Value.ref b] s) (F0 m 1526 ls [])) : W p l e room_1 s m #[Value.ref b] below meth c H locs 1000 60000 (lw_Z below #[Value.ref b] s) (F0 m 1402 ls []) := by
  obtain ⟨hx, hb, hr, hml, hown, hts, hX, hbl, hlocks, hgv⟩ := id C0
  have hbA : ¬ A b := by rw [hAe]; exact Nat.not_le.mpr hbl
  refine lv_aload_n hx hb dL_law_1402 rfl (lv_at hl 2 rfl) ?_
  have Y := Y.swap
  obtain ⟨tc, w, q, I, hW, hT, hQ, hZ, hE, hw2, hw7, hq2, hq7, ha, ha8, hL9, hBT⟩ := hC
  refine cVi (As := []) (rest := []) S Y (x_X11_whose (l := l) I hW hT hQ hZ hE) cw_X11_whose kmL_182 (I.opo (k := 0) (j := 0) (by decide) rfl).choose_spec.1 ok_X11.1 rfl rfl ⟨Nat.le_of_ble_eq_true rfl, Nat.le_of_ble_eq_true rfl⟩ hl.1 rfl (Nat.le_of_ble_eq_true rfl) ⟨Nat.le_of_ble_eq_true rfl, Nat.le_of_ble_eq_true rfl⟩ dL_law_1403 (fun r_186288 L_186289 f_186290 H locs h_186291 Y => ?_)
  have I := h_186291
  have hC : CI G adx nL bT kF pF a a8 L_186289 f_186290 := ⟨tc, w, q, I, hW, hT, hQ, hZ, hE, hw2, hw7, hq2, hq7, ha, ha8, hL9, hBT⟩
  have Y := Y.swap
  refine lv_pop hx hb dL_law_1406 rfl ?_
  refine lv_aload_n hx hb dL_law_1407 rfl (lv_at hl 1 rfl) ?_
  obtain ⟨wm, wm2, g0, I, hB, hB2, hX0, ew1, ew2, ha, ha8, hL9, hBT⟩ := hM
  refine cVi (As := []) (rest := []) S Y (x_X12_whose (l := l) I hB hX0) cw_X12_whose kmL_185 (I.opo (k := 0) (j := 0) (by decide) rfl).choose_spec.1 ok_X12.1 rfl rfl ⟨Nat.le_of_ble_eq_true rfl, Nat.le_of_ble_eq_true rfl⟩ hl.1 rfl (Nat.le_of_ble_eq_true rfl) ⟨Nat.le_of_ble_eq_true rfl, Nat.le_of_ble_eq_true rfl⟩ dL_law_1408 (fun r_186292 L_186293 f_186294 H locs h_186295 Y => ?_)
  have I := h_186295
  have hM : MI G adm nL bT kF pF a a8 L_186293 f_186294 := ⟨wm, wm2, g0, I, hB, hB2, hX0, ew1, ew2, ha, ha8, hL9, hBT⟩
  refine lv_pop hx hb dL_law_1411 rfl ?_
  refine lv_goto (tgt := 1526) hx hb dL_law_1412 (by decide) ?_
  exact tail _ _ _ _ _ _ _ _ _ _ _ _ _ hC hM Y hl
set_option maxHeartbeats 4000000 in
set_option maxRecDepth 100000 in
theorem law_41 {p : Program} {e : Env} {s : State} {m : MethodId} {below : List Frame} {meth : Method} {c : Code} (l : Launch) {b L : Nat} {xs : Nat → Int32} (C0 : lw_At p s m meth c b L xs) (hL : L ≤ 3072) {G : GG} {A : Nat → Prop} (hAe : A = (fun q : Nat => s.heap.size ≤ q)) (S : SX G A p s m meth c RL code 4 ret) {aK aV : Nat → Nat} {z0 : Option Nat} (hz : ZS aK aV z0 A s s.heap) {adx adm : Nat → Nat → Nat} {i : Int32} (hi : 0 ≤ i.toInt ∧ i.toInt + 6 ≤ (L : Int)) {nL : Int} {bT : Nat → Int32} {kF pF a a8 : Int} {Lx Lm : List Nat} {fx fm : HF} {H : Heap} {locs : List Loc} {ls : Array Slot} (hC : CI G adx nL bT kF pF a a8 Lx fx) (hM : MI G adm nL bT kF pF a a8 Lm fm) (Y : DY G A s (va_pl Lx fx) Lm fm H locs) (hl : lv_has ls 4 [(3, .int i), (2, .ref (adm 0 0)), (1, .ref (adx 0 0)), (0, .ref b)]) (tail : ∀ (nL : Int) (bT : Nat → Int32) (kF pF a a8 : Int) (Lx Lm : List Nat) (fx fm : HF) (H : Heap) (locs : List Loc) (ls : Array Slot), CI G adx nL bT kF pF a a8 Lx fx → MI G adm nL bT kF pF a a8 Lm fm → DY G A s (va_pl Lx fx) Lm fm H locs → lv_has ls 4 [(3, .int i), (2, .ref (adm 0 0)), (1, .ref (adx 0 0)), (0, .ref b)] → W p l e room_1 s m #[Value.ref b] below meth c H locs 1000 60000 (lw_Z below #[Value.ref b] s) (F0 m 1526 ls [])) : W p l e room_1 s m #[Value.ref b] below meth c H locs 1000 60000 (lw_Z below #[Value.ref b] s) (F0 m 1415 ls []) := by
  obtain ⟨hx, hb, hr, hml, hown, hts, hX, hbl, hlocks, hgv⟩ := id C0
  have hbA : ¬ A b := by rw [hAe]; exact Nat.not_le.mpr hbl
  refine lv_aload_n hx hb dL_law_1415 rfl (lv_at hl 2 rfl) ?_
  have Y := Y.swap
  obtain ⟨tc, w, q, I, hW, hT, hQ, hZ, hE, hw2, hw7, hq2, hq7, ha, ha8, hL9, hBT⟩ := hC
  refine cVi (As := []) (rest := []) S Y (x_X11_mostSworn (l := l) I hW hT hQ hZ hE) cw_X11_mostSworn kmL_186 (I.opo (k := 0) (j := 0) (by decide) rfl).choose_spec.1 ok_X11.1 rfl rfl ⟨Nat.le_of_ble_eq_true rfl, Nat.le_of_ble_eq_true rfl⟩ hl.1 rfl (Nat.le_of_ble_eq_true rfl) ⟨Nat.le_of_ble_eq_true rfl, Nat.le_of_ble_eq_true rfl⟩ dL_law_1416 (fun r_186296 L_186297 f_186298 H locs h_186299 Y => ?_)
  have I := h_186299
  have hC : CI G adx nL bT kF pF a a8 L_186297 f_186298 := ⟨tc, w, q, I, hW, hT, hQ, hZ, hE, hw2, hw7, hq2, hq7, ha, ha8, hL9, hBT⟩
  have Y := Y.swap
  refine lv_pop hx hb dL_law_1419 rfl ?_
  refine lv_aload_n hx hb dL_law_1420 rfl (lv_at hl 1 rfl) ?_
  obtain ⟨wm, wm2, g0, I, hB, hB2, hX0, ew1, ew2, ha, ha8, hL9, hBT⟩ := hM
  refine cVp (As := []) (rest := []) S Y (x_X12_mostSworn (l := l) I hB hX0) cw_X12_mostSworn kmL_189 (I.opo (k := 0) (j := 0) (by decide) rfl).choose_spec.1 ok_X12.1 rfl rfl ⟨Nat.le_of_ble_eq_true rfl, Nat.le_of_ble_eq_true rfl⟩ hl.1 rfl (Nat.le_of_ble_eq_true rfl) ⟨Nat.le_of_ble_eq_true rfl, Nat.le_of_ble_eq_true rfl⟩ dL_law_1421 (fun r_186300 H locs er_186300 Y => ?_)
  have hM : MI G adm nL bT kF pF a a8 Lm fm := ⟨wm, wm2, g0, I, hB, hB2, hX0, ew1, ew2, ha, ha8, hL9, hBT⟩
  refine lv_pop hx hb dL_law_1424 rfl ?_
  refine lv_goto (tgt := 1526) hx hb dL_law_1425 (by decide) ?_
  exact tail _ _ _ _ _ _ _ _ _ _ _ _ _ hC hM Y hl
set_option maxHeartbeats 4000000 in
set_option maxRecDepth 100000 in
theorem law_42 {p : Program} {e : Env} {s : State} {m : MethodId} {below : List Frame} {meth : Method} {c : Code} (l : Launch) {b L : Nat} {xs : Nat → Int32} (C0 : lw_At p s m meth c b L xs) (hL : L ≤ 3072) {G : GG} {A : Nat → Prop} (hAe : A = (fun q : Nat => s.heap.size ≤ q)) (S : SX G A p s m meth c RL code 4 ret) {aK aV : Nat → Nat} {z0 : Option Nat} (hz : ZS aK aV z0 A s s.heap) {adx adm : Nat → Nat → Nat} {i : Int32} (hi : 0 ≤ i.toInt ∧ i.toInt + 6 ≤ (L : Int)) {nL : Int} {bT : Nat → Int32} {kF pF a a8 : Int} {Lx Lm : List Nat} {fx fm : HF} {H : Heap} {locs : List Loc} {ls : Array Slot} (hC : CI G adx nL bT kF pF a a8 Lx fx) (hM : MI G adm nL bT kF pF a a8 Lm fm) (Y : DY G A s (va_pl Lx fx) Lm fm H locs) (hl : lv_has ls 4 [(3, .int i), (2, .ref (adm 0 0)), (1, .ref (adx 0 0)), (0, .ref b)]) (tail : ∀ (nL : Int) (bT : Nat → Int32) (kF pF a a8 : Int) (Lx Lm : List Nat) (fx fm : HF) (H : Heap) (locs : List Loc) (ls : Array Slot), CI G adx nL bT kF pF a a8 Lx fx → MI G adm nL bT kF pF a a8 Lm fm → DY G A s (va_pl Lx fx) Lm fm H locs → lv_has ls 4 [(3, .int i), (2, .ref (adm 0 0)), (1, .ref (adx 0 0)), (0, .ref b)] → W p l e room_1 s m #[Value.ref b] below meth c H locs 1000 60000 (lw_Z below #[Value.ref b] s) (F0 m 1526 ls [])) : W p l e room_1 s m #[Value.ref b] below meth c H locs 1000 60000 (lw_Z below #[Value.ref b] s) (F0 m 1428 ls []) := by
  obtain ⟨hx, hb, hr, hml, hown, hts, hX, hbl, hlocks, hgv⟩ := id C0
  have hbA : ¬ A b := by rw [hAe]; exact Nat.not_le.mpr hbl
  refine lv_aload_n hx hb dL_law_1428 rfl (lv_at hl 2 rfl) ?_
  have Y := Y.swap
  obtain ⟨tc, w, q, I, hW, hT, hQ, hZ, hE, hw2, hw7, hq2, hq7, ha, ha8, hL9, hBT⟩ := hC
  refine cVi (As := []) (rest := []) S Y (x_X11_faithful (l := l) I hW hT hQ hZ hE) cw_X11_faithful kmL_190 (I.opo (k := 0) (j := 0) (by decide) rfl).choose_spec.1 ok_X11.1 rfl rfl ⟨Nat.le_of_ble_eq_true rfl, Nat.le_of_ble_eq_true rfl⟩ hl.1 rfl (Nat.le_of_ble_eq_true rfl) ⟨Nat.le_of_ble_eq_true rfl, Nat.le_of_ble_eq_true rfl⟩ dL_law_1429 (fun r_186301 L_186302 f_186303 H locs h_186304 Y => ?_)
  have I := h_186304
  have hC : CI G adx nL bT kF pF a a8 L_186302 f_186303 := ⟨tc, w, q, I, hW, hT, hQ, hZ, hE, hw2, hw7, hq2, hq7, ha, ha8, hL9, hBT⟩
  have Y := Y.swap
  refine lv_pop hx hb dL_law_1432 rfl ?_
  refine lv_aload_n hx hb dL_law_1433 rfl (lv_at hl 1 rfl) ?_
  obtain ⟨wm, wm2, g0, I, hB, hB2, hX0, ew1, ew2, ha, ha8, hL9, hBT⟩ := hM
  refine cVp (As := []) (rest := []) S Y (x_X12_faithful (l := l) I hB hX0) cw_X12_faithful kmL_193 (I.opo (k := 0) (j := 0) (by decide) rfl).choose_spec.1 ok_X12.1 rfl rfl ⟨Nat.le_of_ble_eq_true rfl, Nat.le_of_ble_eq_true rfl⟩ hl.1 rfl (Nat.le_of_ble_eq_true rfl) ⟨Nat.le_of_ble_eq_true rfl, Nat.le_of_ble_eq_true rfl⟩ dL_law_1434 (fun r_186305 H locs er_186305 Y => ?_)
  have hM : MI G adm nL bT kF pF a a8 Lm fm := ⟨wm, wm2, g0, I, hB, hB2, hX0, ew1, ew2, ha, ha8, hL9, hBT⟩
  refine lv_pop hx hb dL_law_1437 rfl ?_
  refine lv_goto (tgt := 1526) hx hb dL_law_1438 (by decide) ?_
  exact tail _ _ _ _ _ _ _ _ _ _ _ _ _ hC hM Y hl
set_option maxHeartbeats 4000000 in
set_option maxRecDepth 100000 in
theorem law_43 {p : Program} {e : Env} {s : State} {m : MethodId} {below : List Frame} {meth : Method} {c : Code} (l : Launch) {b L : Nat} {xs : Nat → Int32} (C0 : lw_At p s m meth c b L xs) (hL : L ≤ 3072) {G : GG} {A : Nat → Prop} (hAe : A = (fun q : Nat => s.heap.size ≤ q)) (S : SX G A p s m meth c RL code 4 ret) {aK aV : Nat → Nat} {z0 : Option Nat} (hz : ZS aK aV z0 A s s.heap) {adx adm : Nat → Nat → Nat} {i : Int32} (hi : 0 ≤ i.toInt ∧ i.toInt + 6 ≤ (L : Int)) {nL : Int} {bT : Nat → Int32} {kF pF a a8 : Int} {Lx Lm : List Nat} {fx fm : HF} {H : Heap} {locs : List Loc} {ls : Array Slot} (hC : CI G adx nL bT kF pF a a8 Lx fx) (hM : MI G adm nL bT kF pF a a8 Lm fm) (Y : DY G A s (va_pl Lx fx) Lm fm H locs) (hl : lv_has ls 4 [(3, .int i), (2, .ref (adm 0 0)), (1, .ref (adx 0 0)), (0, .ref b)]) (tail : ∀ (nL : Int) (bT : Nat → Int32) (kF pF a a8 : Int) (Lx Lm : List Nat) (fx fm : HF) (H : Heap) (locs : List Loc) (ls : Array Slot), CI G adx nL bT kF pF a a8 Lx fx → MI G adm nL bT kF pF a a8 Lm fm → DY G A s (va_pl Lx fx) Lm fm H locs → lv_has ls 4 [(3, .int i), (2, .ref (adm 0 0)), (1, .ref (adx 0 0)), (0, .ref b)] → W p l e room_1 s m #[Value.ref b] below meth c H locs 1000 60000 (lw_Z below #[Value.ref b] s) (F0 m 1526 ls [])) : W p l e room_1 s m #[Value.ref b] below meth c H locs 1000 60000 (lw_Z below #[Value.ref b] s) (F0 m 1441 ls []) := by
  obtain ⟨hx, hb, hr, hml, hown, hts, hX, hbl, hlocks, hgv⟩ := id C0
  have hbA : ¬ A b := by rw [hAe]; exact Nat.not_le.mpr hbl
  refine lv_aload_n hx hb dL_law_1441 rfl (lv_at hl 2 rfl) ?_
  refine lv_aload_n hx hb dL_law_1442 rfl (lv_at hl 3 rfl) ?_
  refine lv_iload_n hx hb dL_law_1443 rfl (lv_at hl 0 rfl) ?_
  refine lv_iconst (v := 1) hx hb dL_law_1444 (by decide) ?_
  refine lv_iadd hx hb dL_law_1445 ?_
  refine lv_topi (fun x_186306 ex_186306 => ?_)
  obtain ⟨v1, ev1⟩ : ∃ z, z = xs (i.toInt.toNat + (1 : Int32).toInt.toNat) := ⟨_, rfl⟩
  refine va_sld hx hb hX hbl hbA Y.2.2 (law_in ex_186306 hi hL (by decide)) dL_law_1446 ?_
  refine lv_fold (z := v1) ((law_rd ex_186306 hi hL (by decide)).trans ev1.symm) ?_
  have Y := Y.swap
  obtain ⟨tc, w, q, I, hW, hT, hQ, hZ, hE, hw2, hw7, hq2, hq7, ha, ha8, hL9, hBT⟩ := hC
  refine cVi (As := [.int v1]) (rest := []) S Y (x_X11_ached (l := l) I hW hT hQ hZ hE) cw_X11_ached kmL_194 (I.opo (k := 0) (j := 0) (by decide) rfl).choose_spec.1 ok_X11.1 rfl rfl ⟨Nat.le_of_ble_eq_true rfl, Nat.le_of_ble_eq_true rfl⟩ hl.1 rfl (Nat.le_of_ble_eq_true rfl) ⟨Nat.le_of_ble_eq_true rfl, Nat.le_of_ble_eq_true rfl⟩ dL_law_1447 (fun r_186307 L_186308 f_186309 H locs h_186310 Y => ?_)
  have I := h_186310
  have hC : CI G adx nL bT kF pF a a8 L_186308 f_186309 := ⟨tc, w, q, I, hW, hT, hQ, hZ, hE, hw2, hw7, hq2, hq7, ha, ha8, hL9, hBT⟩
  have Y := Y.swap
  refine lv_pop hx hb dL_law_1450 rfl ?_
  refine lv_aload_n hx hb dL_law_1451 rfl (lv_at hl 1 rfl) ?_
  refine lv_aload_n hx hb dL_law_1452 rfl (lv_at hl 3 rfl) ?_
  refine lv_iload_n hx hb dL_law_1453 rfl (lv_at hl 0 rfl) ?_
  refine lv_iconst (v := 1) hx hb dL_law_1454 (by decide) ?_
  refine lv_iadd hx hb dL_law_1455 ?_
  refine lv_topi (fun x_186311 ex_186311 => ?_)
  refine va_sld hx hb hX hbl hbA Y.2.2 (law_in ex_186311 hi hL (by decide)) dL_law_1456 ?_
  refine lv_fold (z := v1) ((law_rd ex_186311 hi hL (by decide)).trans ev1.symm) ?_
  obtain ⟨wm, wm2, g0, I, hB, hB2, hX0, ew1, ew2, ha, ha8, hL9, hBT⟩ := hM
  refine cVp (As := [.int v1]) (rest := []) S Y (x_X12_ached (l := l) I hB hX0) cw_X12_ached kmL_197 (I.opo (k := 0) (j := 0) (by decide) rfl).choose_spec.1 ok_X12.1 rfl rfl ⟨Nat.le_of_ble_eq_true rfl, Nat.le_of_ble_eq_true rfl⟩ hl.1 rfl (Nat.le_of_ble_eq_true rfl) ⟨Nat.le_of_ble_eq_true rfl, Nat.le_of_ble_eq_true rfl⟩ dL_law_1457 (fun r_186312 H locs er_186312 Y => ?_)
  have hM : MI G adm nL bT kF pF a a8 Lm fm := ⟨wm, wm2, g0, I, hB, hB2, hX0, ew1, ew2, ha, ha8, hL9, hBT⟩
  refine lv_pop hx hb dL_law_1460 rfl ?_
  refine lv_goto (tgt := 1526) hx hb dL_law_1461 (by decide) ?_
  exact tail _ _ _ _ _ _ _ _ _ _ _ _ _ hC hM Y hl
set_option maxHeartbeats 4000000 in
set_option maxRecDepth 100000 in
theorem law_44 {p : Program} {e : Env} {s : State} {m : MethodId} {below : List Frame} {meth : Method} {c : Code} (l : Launch) {b L : Nat} {xs : Nat → Int32} (C0 : lw_At p s m meth c b L xs) (hL : L ≤ 3072) {G : GG} {A : Nat → Prop} (hAe : A = (fun q : Nat => s.heap.size ≤ q)) (S : SX G A p s m meth c RL code 4 ret) {aK aV : Nat → Nat} {z0 : Option Nat} (hz : ZS aK aV z0 A s s.heap) {adx adm : Nat → Nat → Nat} {i : Int32} (hi : 0 ≤ i.toInt ∧ i.toInt + 6 ≤ (L : Int)) {nL : Int} {bT : Nat → Int32} {kF pF a a8 : Int} {Lx Lm : List Nat} {fx fm : HF} {H : Heap} {locs : List Loc} {ls : Array Slot} (hC : CI G adx nL bT kF pF a a8 Lx fx) (hM : MI G adm nL bT kF pF a a8 Lm fm) (Y : DY G A s (va_pl Lx fx) Lm fm H locs) (hl : lv_has ls 4 [(3, .int i), (2, .ref (adm 0 0)), (1, .ref (adx 0 0)), (0, .ref b)]) (tail : ∀ (nL : Int) (bT : Nat → Int32) (kF pF a a8 : Int) (Lx Lm : List Nat) (fx fm : HF) (H : Heap) (locs : List Loc) (ls : Array Slot), CI G adx nL bT kF pF a a8 Lx fx → MI G adm nL bT kF pF a a8 Lm fm → DY G A s (va_pl Lx fx) Lm fm H locs → lv_has ls 4 [(3, .int i), (2, .ref (adm 0 0)), (1, .ref (adx 0 0)), (0, .ref b)] → W p l e room_1 s m #[Value.ref b] below meth c H locs 1000 60000 (lw_Z below #[Value.ref b] s) (F0 m 1526 ls [])) : W p l e room_1 s m #[Value.ref b] below meth c H locs 1000 60000 (lw_Z below #[Value.ref b] s) (F0 m 1464 ls []) := by
  obtain ⟨hx, hb, hr, hml, hown, hts, hX, hbl, hlocks, hgv⟩ := id C0
  have hbA : ¬ A b := by rw [hAe]; exact Nat.not_le.mpr hbl
  refine lv_aload_n hx hb dL_law_1464 rfl (lv_at hl 2 rfl) ?_
  have Y := Y.swap
  obtain ⟨tc, w, q, I, hW, hT, hQ, hZ, hE, hw2, hw7, hq2, hq7, ha, ha8, hL9, hBT⟩ := hC
  refine cVi (As := []) (rest := []) S Y (x_X11_worstDay (l := l) I hW hT hQ hZ hE) cw_X11_worstDay kmL_198 (I.opo (k := 0) (j := 0) (by decide) rfl).choose_spec.1 ok_X11.1 rfl rfl ⟨Nat.le_of_ble_eq_true rfl, Nat.le_of_ble_eq_true rfl⟩ hl.1 rfl (Nat.le_of_ble_eq_true rfl) ⟨Nat.le_of_ble_eq_true rfl, Nat.le_of_ble_eq_true rfl⟩ dL_law_1465 (fun r_186313 L_186314 f_186315 H locs h_186316 Y => ?_)
  have I := h_186316
  have hC : CI G adx nL bT kF pF a a8 L_186314 f_186315 := ⟨tc, w, q, I, hW, hT, hQ, hZ, hE, hw2, hw7, hq2, hq7, ha, ha8, hL9, hBT⟩
  have Y := Y.swap
  refine lv_pop hx hb dL_law_1468 rfl ?_
  refine lv_aload_n hx hb dL_law_1469 rfl (lv_at hl 1 rfl) ?_
  obtain ⟨wm, wm2, g0, I, hB, hB2, hX0, ew1, ew2, ha, ha8, hL9, hBT⟩ := hM
  refine cVp (As := []) (rest := []) S Y (x_X12_worstDay (l := l) I hB hX0) cw_X12_worstDay kmL_201 (I.opo (k := 0) (j := 0) (by decide) rfl).choose_spec.1 ok_X12.1 rfl rfl ⟨Nat.le_of_ble_eq_true rfl, Nat.le_of_ble_eq_true rfl⟩ hl.1 rfl (Nat.le_of_ble_eq_true rfl) ⟨Nat.le_of_ble_eq_true rfl, Nat.le_of_ble_eq_true rfl⟩ dL_law_1470 (fun r_186317 H locs er_186317 Y => ?_)
  have hM : MI G adm nL bT kF pF a a8 Lm fm := ⟨wm, wm2, g0, I, hB, hB2, hX0, ew1, ew2, ha, ha8, hL9, hBT⟩
  refine lv_pop hx hb dL_law_1473 rfl ?_
  refine lv_goto (tgt := 1526) hx hb dL_law_1474 (by decide) ?_
  exact tail _ _ _ _ _ _ _ _ _ _ _ _ _ hC hM Y hl
set_option maxHeartbeats 4000000 in
set_option maxRecDepth 100000 in
theorem law_45 {p : Program} {e : Env} {s : State} {m : MethodId} {below : List Frame} {meth : Method} {c : Code} (l : Launch) {b L : Nat} {xs : Nat → Int32} (C0 : lw_At p s m meth c b L xs) (hL : L ≤ 3072) {G : GG} {A : Nat → Prop} (hAe : A = (fun q : Nat => s.heap.size ≤ q)) (S : SX G A p s m meth c RL code 4 ret) {aK aV : Nat → Nat} {z0 : Option Nat} (hz : ZS aK aV z0 A s s.heap) {adx adm : Nat → Nat → Nat} {i : Int32} (hi : 0 ≤ i.toInt ∧ i.toInt + 6 ≤ (L : Int)) {nL : Int} {bT : Nat → Int32} {kF pF a a8 : Int} {Lx Lm : List Nat} {fx fm : HF} {H : Heap} {locs : List Loc} {ls : Array Slot} (hC : CI G adx nL bT kF pF a a8 Lx fx) (hM : MI G adm nL bT kF pF a a8 Lm fm) (Y : DY G A s (va_pl Lx fx) Lm fm H locs) (hl : lv_has ls 4 [(3, .int i), (2, .ref (adm 0 0)), (1, .ref (adx 0 0)), (0, .ref b)]) (tail : ∀ (nL : Int) (bT : Nat → Int32) (kF pF a a8 : Int) (Lx Lm : List Nat) (fx fm : HF) (H : Heap) (locs : List Loc) (ls : Array Slot), CI G adx nL bT kF pF a a8 Lx fx → MI G adm nL bT kF pF a a8 Lm fm → DY G A s (va_pl Lx fx) Lm fm H locs → lv_has ls 4 [(3, .int i), (2, .ref (adm 0 0)), (1, .ref (adx 0 0)), (0, .ref b)] → W p l e room_1 s m #[Value.ref b] below meth c H locs 1000 60000 (lw_Z below #[Value.ref b] s) (F0 m 1526 ls [])) : W p l e room_1 s m #[Value.ref b] below meth c H locs 1000 60000 (lw_Z below #[Value.ref b] s) (F0 m 1477 ls []) := by
  obtain ⟨hx, hb, hr, hml, hown, hts, hX, hbl, hlocks, hgv⟩ := id C0
  have hbA : ¬ A b := by rw [hAe]; exact Nat.not_le.mpr hbl
  refine lv_aload_n hx hb dL_law_1477 rfl (lv_at hl 2 rfl) ?_
  have Y := Y.swap
  obtain ⟨tc, w, q, I, hW, hT, hQ, hZ, hE, hw2, hw7, hq2, hq7, ha, ha8, hL9, hBT⟩ := hC
  refine cVi (As := []) (rest := []) S Y (x_X11_image (l := l) I hW hT hQ hZ hE) cw_X11_image kmL_202 (I.opo (k := 0) (j := 0) (by decide) rfl).choose_spec.1 ok_X11.1 rfl rfl ⟨Nat.le_of_ble_eq_true rfl, Nat.le_of_ble_eq_true rfl⟩ hl.1 rfl (Nat.le_of_ble_eq_true rfl) ⟨Nat.le_of_ble_eq_true rfl, Nat.le_of_ble_eq_true rfl⟩ dL_law_1478 (fun r_186318 L_186319 f_186320 H locs h_186321 Y => ?_)
  obtain ⟨tc2, w2, q2, I, e1, e2, ew0, ew1, ew2, ew3, ew4, ewr, eq0, eq1, eq2, eq3, eq4, eqr, eT, eW, eQ⟩ := h_186321
  have hZ2 : ZZp w2 q2 := ZZ_c hZ (fun j h1 h2 h3 => by
    rcases j10 h1 h2 h3 with rfl | rfl | rfl | rfl | rfl | rfl | rfl | rfl
    · exact ⟨0, by decide, by decide, by decide, ewr _ (by decide), eqr _ (by decide)⟩
    · exact ⟨1, by decide, by decide, by decide, ewr _ (by decide), eqr _ (by decide)⟩
    · exact ⟨3, by decide, by decide, by decide, ewr _ (by decide), eqr _ (by decide)⟩
    · exact ⟨4, by decide, by decide, by decide, ewr _ (by decide), eqr _ (by decide)⟩
    · exact ⟨0, by decide, by decide, by decide, ew0, eq0⟩
    · exact ⟨1, by decide, by decide, by decide, ew1, eq1⟩
    · exact ⟨3, by decide, by decide, by decide, ew3, eq3⟩
    · exact ⟨4, by decide, by decide, by decide, ew4, eq4⟩)
  have hE2 := tc_c (tc2 := tc2) hE (fun j => by by_cases z : j = 1; exact ⟨0, by rw [z]; exact e1⟩; exact ⟨j, e2 j z⟩)
  have hC : CI G adx nL bT kF pF a a L_186319 f_186320 := ⟨tc2, w2, q2, I, eW, eT, eQ, hZ2, hE2, (by rw [ewr 2 (by decide)]; exact hw2), (by rw [ew2]; exact hw2), (by rw [eqr 2 (by decide)]; exact hq2), (by rw [eq2]; exact hq2), (by rw [e2 0 (by decide)]; exact ha), (by rw [e1]; exact ha), hL9, hBT⟩
  have Y := Y.swap
  refine lv_pop hx hb dL_law_1481 rfl ?_
  refine lv_aload_n hx hb dL_law_1482 rfl (lv_at hl 1 rfl) ?_
  obtain ⟨wm, wm2, g0, I, hB, hB2, hX0, ew1, ew2, ha, ha8, hL9, hBT⟩ := hM
  refine cVi (As := []) (rest := []) S Y (x_X12_image (l := l) I hB hX0) cw_X12_image kmL_205 (I.opo (k := 0) (j := 0) (by decide) rfl).choose_spec.1 ok_X12.1 rfl rfl ⟨Nat.le_of_ble_eq_true rfl, Nat.le_of_ble_eq_true rfl⟩ hl.1 rfl (Nat.le_of_ble_eq_true rfl) ⟨Nat.le_of_ble_eq_true rfl, Nat.le_of_ble_eq_true rfl⟩ dL_law_1483 (fun r_186322 L_186323 f_186324 H locs h_186325 Y => ?_)
  have I := h_186325
  have hM : MI G adm nL bT kF pF a a L_186323 f_186324 := ⟨wm, wm, g0, I, hB, hB, hX0, ew1, ew1, ha, ha, hL9, hBT⟩
  refine lv_pop hx hb dL_law_1486 rfl ?_
  refine lv_goto (tgt := 1526) hx hb dL_law_1487 (by decide) ?_
  exact tail _ _ _ _ _ _ _ _ _ _ _ _ _ hC hM Y hl
set_option maxHeartbeats 4000000 in
set_option maxRecDepth 100000 in
theorem law_46 {p : Program} {e : Env} {s : State} {m : MethodId} {below : List Frame} {meth : Method} {c : Code} (l : Launch) {b L : Nat} {xs : Nat → Int32} (C0 : lw_At p s m meth c b L xs) (hL : L ≤ 3072) {G : GG} {A : Nat → Prop} (hAe : A = (fun q : Nat => s.heap.size ≤ q)) (S : SX G A p s m meth c RL code 4 ret) {aK aV : Nat → Nat} {z0 : Option Nat} (hz : ZS aK aV z0 A s s.heap) {adx adm : Nat → Nat → Nat} {i : Int32} (hi : 0 ≤ i.toInt ∧ i.toInt + 6 ≤ (L : Int)) {nL : Int} {bT : Nat → Int32} {kF pF a a8 : Int} {Lx Lm : List Nat} {fx fm : HF} {H : Heap} {locs : List Loc} {ls : Array Slot} (hC : CI G adx nL bT kF pF a a8 Lx fx) (hM : MI G adm nL bT kF pF a a8 Lm fm) (Y : DY G A s (va_pl Lx fx) Lm fm H locs) (hl : lv_has ls 4 [(3, .int i), (2, .ref (adm 0 0)), (1, .ref (adx 0 0)), (0, .ref b)]) (tail : ∀ (nL : Int) (bT : Nat → Int32) (kF pF a a8 : Int) (Lx Lm : List Nat) (fx fm : HF) (H : Heap) (locs : List Loc) (ls : Array Slot), CI G adx nL bT kF pF a a8 Lx fx → MI G adm nL bT kF pF a a8 Lm fm → DY G A s (va_pl Lx fx) Lm fm H locs → lv_has ls 4 [(3, .int i), (2, .ref (adm 0 0)), (1, .ref (adx 0 0)), (0, .ref b)] → W p l e room_1 s m #[Value.ref b] below meth c H locs 1000 60000 (lw_Z below #[Value.ref b] s) (F0 m 1526 ls [])) : W p l e room_1 s m #[Value.ref b] below meth c H locs 1000 60000 (lw_Z below #[Value.ref b] s) (F0 m 1490 ls []) := by
  obtain ⟨hx, hb, hr, hml, hown, hts, hX, hbl, hlocks, hgv⟩ := id C0
  have hbA : ¬ A b := by rw [hAe]; exact Nat.not_le.mpr hbl
  refine lv_aload_n hx hb dL_law_1490 rfl (lv_at hl 2 rfl) ?_
  have Y := Y.swap
  obtain ⟨tc, w, q, I, hW, hT, hQ, hZ, hE, hw2, hw7, hq2, hq7, ha, ha8, hL9, hBT⟩ := hC
  refine cVi (As := []) (rest := []) S Y (x_X11_back (l := l) I hW hT hQ hZ hE) cw_X11_back kmL_206 (I.opo (k := 0) (j := 0) (by decide) rfl).choose_spec.1 ok_X11.1 rfl rfl ⟨Nat.le_of_ble_eq_true rfl, Nat.le_of_ble_eq_true rfl⟩ hl.1 rfl (Nat.le_of_ble_eq_true rfl) ⟨Nat.le_of_ble_eq_true rfl, Nat.le_of_ble_eq_true rfl⟩ dL_law_1491 (fun r_186326 L_186327 f_186328 H locs h_186329 Y => ?_)
  obtain ⟨tc2, w2, q2, I, e1, e2, ew0, ew1, ew2, ew3, ew4, ewr, eq0, eq1, eq2, eq3, eq4, eqr, eT, eW, eQ⟩ := h_186329
  have hZ2 : ZZp w2 q2 := ZZ_c hZ (fun j h1 h2 h3 => by
    rcases j10 h1 h2 h3 with rfl | rfl | rfl | rfl | rfl | rfl | rfl | rfl
    · exact ⟨5, by decide, by decide, by decide, ew0, eq0⟩
    · exact ⟨6, by decide, by decide, by decide, ew1, eq1⟩
    · exact ⟨8, by decide, by decide, by decide, ew3, eq3⟩
    · exact ⟨9, by decide, by decide, by decide, ew4, eq4⟩
    · exact ⟨5, by decide, by decide, by decide, ewr _ (by decide), eqr _ (by decide)⟩
    · exact ⟨6, by decide, by decide, by decide, ewr _ (by decide), eqr _ (by decide)⟩
    · exact ⟨8, by decide, by decide, by decide, ewr _ (by decide), eqr _ (by decide)⟩
    · exact ⟨9, by decide, by decide, by decide, ewr _ (by decide), eqr _ (by decide)⟩)
  have hE2 := tc_c (tc2 := tc2) hE (fun j => by by_cases z : j = 0; exact ⟨1, by rw [z]; exact e1⟩; exact ⟨j, e2 j z⟩)
  have hC : CI G adx nL bT kF pF a8 a8 L_186327 f_186328 := ⟨tc2, w2, q2, I, eW, eT, eQ, hZ2, hE2, (by rw [ew2]; exact hw7), (by rw [ewr 7 (by decide)]; exact hw7), (by rw [eq2]; exact hq7), (by rw [eqr 7 (by decide)]; exact hq7), (by rw [e1]; exact ha8), (by rw [e2 1 (by decide)]; exact ha8), hL9, hBT⟩
  have Y := Y.swap
  refine lv_pop hx hb dL_law_1494 rfl ?_
  refine lv_aload_n hx hb dL_law_1495 rfl (lv_at hl 1 rfl) ?_
  obtain ⟨wm, wm2, g0, I, hB, hB2, hX0, ew1, ew2, ha, ha8, hL9, hBT⟩ := hM
  refine cVi (As := []) (rest := []) S Y (x_X12_back (l := l) I hB hX0 hB2) cw_X12_back kmL_209 (I.opo (k := 0) (j := 0) (by decide) rfl).choose_spec.1 ok_X12.1 rfl rfl ⟨Nat.le_of_ble_eq_true rfl, Nat.le_of_ble_eq_true rfl⟩ hl.1 rfl (Nat.le_of_ble_eq_true rfl) ⟨Nat.le_of_ble_eq_true rfl, Nat.le_of_ble_eq_true rfl⟩ dL_law_1496 (fun r_186330 L_186331 f_186332 H locs h_186333 Y => ?_)
  have I := h_186333
  have hM : MI G adm nL bT kF pF a8 a8 L_186331 f_186332 := ⟨wm2, wm2, g0, I, hB2, hB2, hX0, ew2, ew2, ha8, ha8, hL9, hBT⟩
  refine lv_pop hx hb dL_law_1499 rfl ?_
  refine lv_goto (tgt := 1526) hx hb dL_law_1500 (by decide) ?_
  exact tail _ _ _ _ _ _ _ _ _ _ _ _ _ hC hM Y hl
set_option maxHeartbeats 4000000 in
set_option maxRecDepth 100000 in
theorem law_47 {p : Program} {e : Env} {s : State} {m : MethodId} {below : List Frame} {meth : Method} {c : Code} (l : Launch) {b L : Nat} {xs : Nat → Int32} (C0 : lw_At p s m meth c b L xs) (hL : L ≤ 3072) {G : GG} {A : Nat → Prop} (hAe : A = (fun q : Nat => s.heap.size ≤ q)) (S : SX G A p s m meth c RL code 4 ret) {aK aV : Nat → Nat} {z0 : Option Nat} (hz : ZS aK aV z0 A s s.heap) {adx adm : Nat → Nat → Nat} {i : Int32} (hi : 0 ≤ i.toInt ∧ i.toInt + 6 ≤ (L : Int)) {nL : Int} {bT : Nat → Int32} {kF pF a a8 : Int} {Lx Lm : List Nat} {fx fm : HF} {H : Heap} {locs : List Loc} {ls : Array Slot} (hC : CI G adx nL bT kF pF a a8 Lx fx) (hM : MI G adm nL bT kF pF a a8 Lm fm) (Y : DY G A s (va_pl Lx fx) Lm fm H locs) (hl : lv_has ls 4 [(3, .int i), (2, .ref (adm 0 0)), (1, .ref (adx 0 0)), (0, .ref b)]) (tail : ∀ (nL : Int) (bT : Nat → Int32) (kF pF a a8 : Int) (Lx Lm : List Nat) (fx fm : HF) (H : Heap) (locs : List Loc) (ls : Array Slot), CI G adx nL bT kF pF a a8 Lx fx → MI G adm nL bT kF pF a a8 Lm fm → DY G A s (va_pl Lx fx) Lm fm H locs → lv_has ls 4 [(3, .int i), (2, .ref (adm 0 0)), (1, .ref (adx 0 0)), (0, .ref b)] → W p l e room_1 s m #[Value.ref b] below meth c H locs 1000 60000 (lw_Z below #[Value.ref b] s) (F0 m 1526 ls [])) : W p l e room_1 s m #[Value.ref b] below meth c H locs 1000 60000 (lw_Z below #[Value.ref b] s) (F0 m 1503 ls []) := by
  obtain ⟨hx, hb, hr, hml, hown, hts, hX, hbl, hlocks, hgv⟩ := id C0
  have hbA : ¬ A b := by rw [hAe]; exact Nat.not_le.mpr hbl
  refine lv_aload_n hx hb dL_law_1503 rfl (lv_at hl 2 rfl) ?_
  refine lv_aload_n hx hb dL_law_1504 rfl (lv_at hl 3 rfl) ?_
  refine lv_iload_n hx hb dL_law_1505 rfl (lv_at hl 0 rfl) ?_
  refine lv_iconst (v := 1) hx hb dL_law_1506 (by decide) ?_
  refine lv_iadd hx hb dL_law_1507 ?_
  refine lv_topi (fun x_186334 ex_186334 => ?_)
  obtain ⟨v1, ev1⟩ : ∃ z, z = xs (i.toInt.toNat + (1 : Int32).toInt.toNat) := ⟨_, rfl⟩
  refine va_sld hx hb hX hbl hbA Y.2.2 (law_in ex_186334 hi hL (by decide)) dL_law_1508 ?_
  refine lv_fold (z := v1) ((law_rd ex_186334 hi hL (by decide)).trans ev1.symm) ?_
  have Y := Y.swap
  obtain ⟨tc, w, q, I, hW, hT, hQ, hZ, hE, hw2, hw7, hq2, hq7, ha, ha8, hL9, hBT⟩ := hC
  refine cVi (As := [.int v1]) (rest := []) S Y (x_X11_about (l := l) I hW hT hQ hZ hE) cw_X11_about kmL_210 (I.opo (k := 0) (j := 0) (by decide) rfl).choose_spec.1 ok_X11.1 rfl rfl ⟨Nat.le_of_ble_eq_true rfl, Nat.le_of_ble_eq_true rfl⟩ hl.1 rfl (Nat.le_of_ble_eq_true rfl) ⟨Nat.le_of_ble_eq_true rfl, Nat.le_of_ble_eq_true rfl⟩ dL_law_1509 (fun r_186335 L_186336 f_186337 H locs h_186338 Y => ?_)
  have I := h_186338
  have hC : CI G adx nL bT kF pF a a8 L_186336 f_186337 := ⟨tc, w, q, I, hW, hT, hQ, hZ, hE, hw2, hw7, hq2, hq7, ha, ha8, hL9, hBT⟩
  have Y := Y.swap
  refine lv_pop hx hb dL_law_1512 rfl ?_
  refine lv_aload_n hx hb dL_law_1513 rfl (lv_at hl 1 rfl) ?_
  refine lv_aload_n hx hb dL_law_1514 rfl (lv_at hl 3 rfl) ?_
  refine lv_iload_n hx hb dL_law_1515 rfl (lv_at hl 0 rfl) ?_
  refine lv_iconst (v := 1) hx hb dL_law_1516 (by decide) ?_
  refine lv_iadd hx hb dL_law_1517 ?_
  refine lv_topi (fun x_186339 ex_186339 => ?_)
  refine va_sld hx hb hX hbl hbA Y.2.2 (law_in ex_186339 hi hL (by decide)) dL_law_1518 ?_
  refine lv_fold (z := v1) ((law_rd ex_186339 hi hL (by decide)).trans ev1.symm) ?_
  obtain ⟨wm, wm2, g0, I, hB, hB2, hX0, ew1, ew2, ha, ha8, hL9, hBT⟩ := hM
  refine cVp (As := [.int v1]) (rest := []) S Y (x_X12_about (l := l) I hB hX0) cw_X12_about kmL_213 (I.opo (k := 0) (j := 0) (by decide) rfl).choose_spec.1 ok_X12.1 rfl rfl ⟨Nat.le_of_ble_eq_true rfl, Nat.le_of_ble_eq_true rfl⟩ hl.1 rfl (Nat.le_of_ble_eq_true rfl) ⟨Nat.le_of_ble_eq_true rfl, Nat.le_of_ble_eq_true rfl⟩ dL_law_1519 (fun r_186340 H locs er_186340 Y => ?_)
  have hM : MI G adm nL bT kF pF a a8 Lm fm := ⟨wm, wm2, g0, I, hB, hB2, hX0, ew1, ew2, ha, ha8, hL9, hBT⟩
  refine lv_pop hx hb dL_law_1522 rfl ?_
  refine lv_goto (tgt := 1526) hx hb dL_law_1523 (by decide) ?_
  exact tail _ _ _ _ _ _ _ _ _ _ _ _ _ hC hM Y hl
