theorem kw_1308 : Cond.methodLink RX11 403 yX8_howMany ∈ gw := gw_of (List.mem_of_getElem? (i := 1308) (by decide +kernel)) rfl
theorem kw_1309 : Cond.instanceMethod yX8_howMany ∈ gw := gw_of (List.mem_of_getElem? (i := 1309) (by decide +kernel)) rfl
theorem kw_1310 : Cond.selects RX8 yX8_howMany yX8_howMany ∈ gw := gw_of (List.mem_of_getElem? (i := 1310) (by decide +kernel)) rfl
theorem kw_1311 : Cond.code yX8_howMany cX8_howMany 2 (Option.some FieldType.int) ∈ gw := gw_of (List.mem_of_getElem? (i := 1311) (by decide +kernel)) rfl
theorem kw_1312 : Cond.methodLink RX11 405 yX8_heatIn ∈ gw := gw_of (List.mem_of_getElem? (i := 1312) (by decide +kernel)) rfl
theorem kw_1313 : Cond.methodLink RL 135 yX11_image ∈ gw := gw_of (List.mem_of_getElem? (i := 1313) (by decide +kernel)) rfl
theorem kw_1314 : Cond.instanceMethod yX11_image ∈ gw := gw_of (List.mem_of_getElem? (i := 1314) (by decide +kernel)) rfl
theorem kw_1315 : Cond.selects RX11 yX11_image yX11_image ∈ gw := gw_of (List.mem_of_getElem? (i := 1315) (by decide +kernel)) rfl
theorem kw_1316 : Cond.code yX11_image cX11_image 2 (Option.some FieldType.int) ∈ gw := gw_of (List.mem_of_getElem? (i := 1316) (by decide +kernel)) rfl
theorem kw_1317 : Cond.methodLink RX11 408 yX4_become ∈ gw := gw_of (List.mem_of_getElem? (i := 1317) (by decide +kernel)) rfl
theorem kw_1318 : Cond.instanceMethod yX4_become ∈ gw := gw_of (List.mem_of_getElem? (i := 1318) (by decide +kernel)) rfl
theorem kw_1319 : Cond.selects RX4 yX4_become yX4_become ∈ gw := gw_of (List.mem_of_getElem? (i := 1319) (by decide +kernel)) rfl
theorem kw_1320 : Cond.code yX4_become cX4_become 2 (Option.none : Option FieldType) ∈ gw := gw_of (List.mem_of_getElem? (i := 1320) (by decide +kernel)) rfl
theorem kw_1321 : Cond.methodLink RX4 42 yX8_become ∈ gw := gw_of (List.mem_of_getElem? (i := 1321) (by decide +kernel)) rfl
theorem kw_1322 : Cond.methodLink RX4 46 yX5_become ∈ gw := gw_of (List.mem_of_getElem? (i := 1322) (by decide +kernel)) rfl
theorem kw_1323 : Cond.methodLink RX4 55 ⟨"java/lang/System", "arraycopy", "(Ljava/lang/Object;ILjava/lang/Object;II)V"⟩ ∈ gw := gw_of (List.mem_of_getElem? (i := 1323) (by decide +kernel)) rfl
theorem kw_1324 : Cond.methodLink RL 139 yX11_back ∈ gw := gw_of (List.mem_of_getElem? (i := 1324) (by decide +kernel)) rfl
theorem kw_1325 : Cond.instanceMethod yX11_back ∈ gw := gw_of (List.mem_of_getElem? (i := 1325) (by decide +kernel)) rfl
theorem kw_1326 : Cond.selects RX11 yX11_back yX11_back ∈ gw := gw_of (List.mem_of_getElem? (i := 1326) (by decide +kernel)) rfl
theorem kw_1327 : Cond.code yX11_back cX11_back 2 (Option.some FieldType.int) ∈ gw := gw_of (List.mem_of_getElem? (i := 1327) (by decide +kernel)) rfl
theorem kw_1328 : Cond.classLink RL 10 RX12 ∈ gw := gw_of (List.mem_of_getElem? (i := 1328) (by decide +kernel)) rfl
theorem kw_1329 : Cond.instantiable RX12 38 ∈ gw := gw_of (List.mem_of_getElem? (i := 1329) (by decide +kernel)) rfl
theorem kw_1330 : Cond.methodLink RL 12 yX12_init ∈ gw := gw_of (List.mem_of_getElem? (i := 1330) (by decide +kernel)) rfl
theorem kw_1331 : Cond.instanceMethod yX12_init ∈ gw := gw_of (List.mem_of_getElem? (i := 1331) (by decide +kernel)) rfl
theorem kw_1332 : Cond.code yX12_init cX12_init 1 (Option.none : Option FieldType) ∈ gw := gw_of (List.mem_of_getElem? (i := 1332) (by decide +kernel)) rfl
theorem kw_1333 : Cond.methodLink RX12 1 ⟨"java/lang/Object", "<init>", "()V"⟩ ∈ gw := gw_of (List.mem_of_getElem? (i := 1333) (by decide +kernel)) rfl
theorem kw_1334 : Cond.fieldLink RX12 7 "TurningMilkModel" "tape" "[B" ∈ gw := gw_of (List.mem_of_getElem? (i := 1334) (by decide +kernel)) rfl
theorem kw_1335 : Cond.fieldLink RX12 80 "TurningMilkModel" "taped" "I" ∈ gw := gw_of (List.mem_of_getElem? (i := 1335) (by decide +kernel)) rfl
theorem kw_1336 : Cond.fieldLink RX12 260 "TurningMilkModel" "rules" "I" ∈ gw := gw_of (List.mem_of_getElem? (i := 1336) (by decide +kernel)) rfl
theorem kw_1337 : Cond.fieldLink RX12 13 "TurningMilkModel" "sign" "[I" ∈ gw := gw_of (List.mem_of_getElem? (i := 1337) (by decide +kernel)) rfl
theorem kw_1338 : Cond.fieldLink RX12 17 "TurningMilkModel" "length" "[I" ∈ gw := gw_of (List.mem_of_getElem? (i := 1338) (by decide +kernel)) rfl
theorem kw_1339 : Cond.fieldLink RX12 20 "TurningMilkModel" "clause" "[I" ∈ gw := gw_of (List.mem_of_getElem? (i := 1339) (by decide +kernel)) rfl
theorem kw_1340 : Cond.fieldLink RX12 23 "TurningMilkModel" "clauses" "[I" ∈ gw := gw_of (List.mem_of_getElem? (i := 1340) (by decide +kernel)) rfl
theorem kw_1341 : Cond.fieldLink RX12 26 "TurningMilkModel" "read" "[I" ∈ gw := gw_of (List.mem_of_getElem? (i := 1341) (by decide +kernel)) rfl
theorem kw_1342 : Cond.fieldLink RX12 90 "TurningMilkModel" "next" "I" ∈ gw := gw_of (List.mem_of_getElem? (i := 1342) (by decide +kernel)) rfl
theorem kw_1343 : Cond.fieldLink RX12 87 "TurningMilkModel" "wrong" "I" ∈ gw := gw_of (List.mem_of_getElem? (i := 1343) (by decide +kernel)) rfl
theorem kw_1344 : Cond.fieldLink RX12 115 "TurningMilkModel" "number" "I" ∈ gw := gw_of (List.mem_of_getElem? (i := 1344) (by decide +kernel)) rfl
theorem kw_1345 : Cond.fieldLink RX12 142 "TurningMilkModel" "text" "I" ∈ gw := gw_of (List.mem_of_getElem? (i := 1345) (by decide +kernel)) rfl
theorem kw_1346 : Cond.fieldLink RX12 145 "TurningMilkModel" "made" "I" ∈ gw := gw_of (List.mem_of_getElem? (i := 1346) (by decide +kernel)) rfl
theorem kw_1347 : Cond.fieldLink RX12 148 "TurningMilkModel" "deep" "I" ∈ gw := gw_of (List.mem_of_getElem? (i := 1347) (by decide +kernel)) rfl
theorem kw_1348 : Cond.fieldLink RX12 248 "TurningMilkModel" "lines" "I" ∈ gw := gw_of (List.mem_of_getElem? (i := 1348) (by decide +kernel)) rfl
theorem kw_1349 : Cond.fieldLink RX12 29 "TurningMilkModel" "open" "[I" ∈ gw := gw_of (List.mem_of_getElem? (i := 1349) (by decide +kernel)) rfl
theorem kw_1350 : Cond.fieldLink RX12 151 "TurningMilkModel" "opened" "I" ∈ gw := gw_of (List.mem_of_getElem? (i := 1350) (by decide +kernel)) rfl
theorem kw_1351 : Cond.fieldLink RX12 32 "TurningMilkModel" "stack" "[J" ∈ gw := gw_of (List.mem_of_getElem? (i := 1351) (by decide +kernel)) rfl
theorem kw_1352 : Cond.fieldLink RX12 269 "TurningMilkModel" "top" "I" ∈ gw := gw_of (List.mem_of_getElem? (i := 1352) (by decide +kernel)) rfl
theorem kw_1353 : Cond.fieldLink RX12 36 "TurningMilkModel" "word" "[J" ∈ gw := gw_of (List.mem_of_getElem? (i := 1353) (by decide +kernel)) rfl
theorem kw_1354 : Cond.fieldLink RX12 39 "TurningMilkModel" "said" "[I" ∈ gw := gw_of (List.mem_of_getElem? (i := 1354) (by decide +kernel)) rfl
theorem kw_1355 : Cond.fieldLink RX12 42 "TurningMilkModel" "force" "I" ∈ gw := gw_of (List.mem_of_getElem? (i := 1355) (by decide +kernel)) rfl
theorem kw_1356 : Cond.fieldLink RX12 477 "TurningMilkModel" "x" "I" ∈ gw := gw_of (List.mem_of_getElem? (i := 1356) (by decide +kernel)) rfl
theorem kw_1357 : Cond.fieldLink RX12 288 "TurningMilkModel" "isIced" "Z" ∈ gw := gw_of (List.mem_of_getElem? (i := 1357) (by decide +kernel)) rfl
theorem kw_1358 : Cond.fieldLink RX12 46 "TurningMilkModel" "wasSaid" "[I" ∈ gw := gw_of (List.mem_of_getElem? (i := 1358) (by decide +kernel)) rfl
theorem kw_1359 : Cond.fieldLink RX12 266 "TurningMilkModel" "undone" "I" ∈ gw := gw_of (List.mem_of_getElem? (i := 1359) (by decide +kernel)) rfl
theorem kw_1360 : Cond.fieldLink RX12 49 "TurningMilkModel" "kept" "[I" ∈ gw := gw_of (List.mem_of_getElem? (i := 1360) (by decide +kernel)) rfl
theorem kw_1361 : Cond.fieldLink RX12 52 "TurningMilkModel" "hoursTo" "[I" ∈ gw := gw_of (List.mem_of_getElem? (i := 1361) (by decide +kernel)) rfl
theorem kw_1362 : Cond.fieldLink RX12 55 "TurningMilkModel" "roadHours" "[I" ∈ gw := gw_of (List.mem_of_getElem? (i := 1362) (by decide +kernel)) rfl
theorem kw_1363 : Cond.fieldLink RX12 398 "TurningMilkModel" "roadMany" "I" ∈ gw := gw_of (List.mem_of_getElem? (i := 1363) (by decide +kernel)) rfl
theorem kw_1364 : Cond.fieldLink RX12 58 "TurningMilkModel" "probed" "[I" ∈ gw := gw_of (List.mem_of_getElem? (i := 1364) (by decide +kernel)) rfl
theorem kw_1365 : Cond.fieldLink RX12 61 "TurningMilkModel" "rowsOf" "[I" ∈ gw := gw_of (List.mem_of_getElem? (i := 1365) (by decide +kernel)) rfl
theorem kw_1366 : Cond.fieldLink RX12 64 "TurningMilkModel" "hasRow" "[Z" ∈ gw := gw_of (List.mem_of_getElem? (i := 1366) (by decide +kernel)) rfl
theorem kw_1367 : Cond.fieldLink RX12 480 "TurningMilkModel" "drawX" "J" ∈ gw := gw_of (List.mem_of_getElem? (i := 1367) (by decide +kernel)) rfl
theorem kw_1368 : Cond.fieldLink RX12 68 "TurningMilkModel" "images" "[I" ∈ gw := gw_of (List.mem_of_getElem? (i := 1368) (by decide +kernel)) rfl
theorem kw_1369 : Cond.fieldLink RX12 71 "TurningMilkModel" "imageForce" "[I" ∈ gw := gw_of (List.mem_of_getElem? (i := 1369) (by decide +kernel)) rfl
theorem kw_1370 : Cond.fieldLink RX12 74 "TurningMilkModel" "imageX" "[I" ∈ gw := gw_of (List.mem_of_getElem? (i := 1370) (by decide +kernel)) rfl
theorem kw_1371 : Cond.fieldLink RX12 77 "TurningMilkModel" "isMade" "[Z" ∈ gw := gw_of (List.mem_of_getElem? (i := 1371) (by decide +kernel)) rfl
theorem kw_1372 : Cond.laysFinal "TurningMilkModel" "TurningMilkModel" "tape" "[B" ∈ gw := gw_of (List.mem_of_getElem? (i := 1372) (by decide +kernel)) rfl
theorem kw_1374 : Cond.lays "TurningMilkModel" "TurningMilkModel" "taped" "I" ∈ gw := gw_of (List.mem_of_getElem? (i := 1374) (by decide +kernel)) rfl
theorem kw_1376 : Cond.lays "TurningMilkModel" "TurningMilkModel" "rules" "I" ∈ gw := gw_of (List.mem_of_getElem? (i := 1376) (by decide +kernel)) rfl
theorem kw_1378 : Cond.laysFinal "TurningMilkModel" "TurningMilkModel" "sign" "[I" ∈ gw := gw_of (List.mem_of_getElem? (i := 1378) (by decide +kernel)) rfl
theorem kw_1380 : Cond.laysFinal "TurningMilkModel" "TurningMilkModel" "length" "[I" ∈ gw := gw_of (List.mem_of_getElem? (i := 1380) (by decide +kernel)) rfl
theorem kw_1382 : Cond.laysFinal "TurningMilkModel" "TurningMilkModel" "clause" "[I" ∈ gw := gw_of (List.mem_of_getElem? (i := 1382) (by decide +kernel)) rfl
theorem kw_1384 : Cond.laysFinal "TurningMilkModel" "TurningMilkModel" "clauses" "[I" ∈ gw := gw_of (List.mem_of_getElem? (i := 1384) (by decide +kernel)) rfl
theorem kw_1386 : Cond.laysFinal "TurningMilkModel" "TurningMilkModel" "read" "[I" ∈ gw := gw_of (List.mem_of_getElem? (i := 1386) (by decide +kernel)) rfl
theorem kw_1388 : Cond.lays "TurningMilkModel" "TurningMilkModel" "next" "I" ∈ gw := gw_of (List.mem_of_getElem? (i := 1388) (by decide +kernel)) rfl
theorem kw_1390 : Cond.lays "TurningMilkModel" "TurningMilkModel" "wrong" "I" ∈ gw := gw_of (List.mem_of_getElem? (i := 1390) (by decide +kernel)) rfl
theorem kw_1392 : Cond.lays "TurningMilkModel" "TurningMilkModel" "number" "I" ∈ gw := gw_of (List.mem_of_getElem? (i := 1392) (by decide +kernel)) rfl
theorem kw_1394 : Cond.lays "TurningMilkModel" "TurningMilkModel" "text" "I" ∈ gw := gw_of (List.mem_of_getElem? (i := 1394) (by decide +kernel)) rfl
theorem kw_1396 : Cond.lays "TurningMilkModel" "TurningMilkModel" "made" "I" ∈ gw := gw_of (List.mem_of_getElem? (i := 1396) (by decide +kernel)) rfl
theorem kw_1398 : Cond.lays "TurningMilkModel" "TurningMilkModel" "deep" "I" ∈ gw := gw_of (List.mem_of_getElem? (i := 1398) (by decide +kernel)) rfl
theorem kw_1400 : Cond.lays "TurningMilkModel" "TurningMilkModel" "lines" "I" ∈ gw := gw_of (List.mem_of_getElem? (i := 1400) (by decide +kernel)) rfl
theorem kw_1402 : Cond.laysFinal "TurningMilkModel" "TurningMilkModel" "open" "[I" ∈ gw := gw_of (List.mem_of_getElem? (i := 1402) (by decide +kernel)) rfl
theorem kw_1404 : Cond.lays "TurningMilkModel" "TurningMilkModel" "opened" "I" ∈ gw := gw_of (List.mem_of_getElem? (i := 1404) (by decide +kernel)) rfl
theorem kw_1406 : Cond.laysFinal "TurningMilkModel" "TurningMilkModel" "stack" "[J" ∈ gw := gw_of (List.mem_of_getElem? (i := 1406) (by decide +kernel)) rfl
theorem kw_1408 : Cond.lays "TurningMilkModel" "TurningMilkModel" "top" "I" ∈ gw := gw_of (List.mem_of_getElem? (i := 1408) (by decide +kernel)) rfl
theorem kw_1410 : Cond.laysFinal "TurningMilkModel" "TurningMilkModel" "word" "[J" ∈ gw := gw_of (List.mem_of_getElem? (i := 1410) (by decide +kernel)) rfl
theorem kw_1412 : Cond.laysFinal "TurningMilkModel" "TurningMilkModel" "said" "[I" ∈ gw := gw_of (List.mem_of_getElem? (i := 1412) (by decide +kernel)) rfl
theorem kw_1414 : Cond.lays "TurningMilkModel" "TurningMilkModel" "force" "I" ∈ gw := gw_of (List.mem_of_getElem? (i := 1414) (by decide +kernel)) rfl
theorem kw_1416 : Cond.lays "TurningMilkModel" "TurningMilkModel" "x" "I" ∈ gw := gw_of (List.mem_of_getElem? (i := 1416) (by decide +kernel)) rfl
theorem kw_1418 : Cond.lays "TurningMilkModel" "TurningMilkModel" "isIced" "Z" ∈ gw := gw_of (List.mem_of_getElem? (i := 1418) (by decide +kernel)) rfl
theorem kw_1420 : Cond.laysFinal "TurningMilkModel" "TurningMilkModel" "wasSaid" "[I" ∈ gw := gw_of (List.mem_of_getElem? (i := 1420) (by decide +kernel)) rfl
theorem kw_1422 : Cond.lays "TurningMilkModel" "TurningMilkModel" "undone" "I" ∈ gw := gw_of (List.mem_of_getElem? (i := 1422) (by decide +kernel)) rfl
theorem kw_1424 : Cond.laysFinal "TurningMilkModel" "TurningMilkModel" "kept" "[I" ∈ gw := gw_of (List.mem_of_getElem? (i := 1424) (by decide +kernel)) rfl
theorem kw_1426 : Cond.laysFinal "TurningMilkModel" "TurningMilkModel" "hoursTo" "[I" ∈ gw := gw_of (List.mem_of_getElem? (i := 1426) (by decide +kernel)) rfl
theorem kw_1428 : Cond.laysFinal "TurningMilkModel" "TurningMilkModel" "roadHours" "[I" ∈ gw := gw_of (List.mem_of_getElem? (i := 1428) (by decide +kernel)) rfl
theorem kw_1430 : Cond.lays "TurningMilkModel" "TurningMilkModel" "roadMany" "I" ∈ gw := gw_of (List.mem_of_getElem? (i := 1430) (by decide +kernel)) rfl
theorem kw_1432 : Cond.laysFinal "TurningMilkModel" "TurningMilkModel" "probed" "[I" ∈ gw := gw_of (List.mem_of_getElem? (i := 1432) (by decide +kernel)) rfl
theorem kw_1434 : Cond.laysFinal "TurningMilkModel" "TurningMilkModel" "rowsOf" "[I" ∈ gw := gw_of (List.mem_of_getElem? (i := 1434) (by decide +kernel)) rfl
theorem kw_1436 : Cond.laysFinal "TurningMilkModel" "TurningMilkModel" "hasRow" "[Z" ∈ gw := gw_of (List.mem_of_getElem? (i := 1436) (by decide +kernel)) rfl
theorem kw_1438 : Cond.lays "TurningMilkModel" "TurningMilkModel" "drawX" "J" ∈ gw := gw_of (List.mem_of_getElem? (i := 1438) (by decide +kernel)) rfl
theorem kw_1440 : Cond.laysFinal "TurningMilkModel" "TurningMilkModel" "images" "[I" ∈ gw := gw_of (List.mem_of_getElem? (i := 1440) (by decide +kernel)) rfl
theorem kw_1442 : Cond.laysFinal "TurningMilkModel" "TurningMilkModel" "imageForce" "[I" ∈ gw := gw_of (List.mem_of_getElem? (i := 1442) (by decide +kernel)) rfl
theorem kw_1444 : Cond.laysFinal "TurningMilkModel" "TurningMilkModel" "imageX" "[I" ∈ gw := gw_of (List.mem_of_getElem? (i := 1444) (by decide +kernel)) rfl
theorem kw_1446 : Cond.laysFinal "TurningMilkModel" "TurningMilkModel" "isMade" "[Z" ∈ gw := gw_of (List.mem_of_getElem? (i := 1446) (by decide +kernel)) rfl
theorem kw_1448 : Cond.superclass "TurningMilkModel" "java/lang/Object" ∈ gw := gw_of (List.mem_of_getElem? (i := 1448) (by decide +kernel)) rfl
theorem kw_1449 : Cond.arrayClass FieldType.boolean ∈ gw := gw_of (List.mem_of_getElem? (i := 1449) (by decide +kernel)) rfl
theorem kw_1450 : Cond.methodLink RL 17 yX12_feed ∈ gw := gw_of (List.mem_of_getElem? (i := 1450) (by decide +kernel)) rfl
theorem kw_1451 : Cond.instanceMethod yX12_feed ∈ gw := gw_of (List.mem_of_getElem? (i := 1451) (by decide +kernel)) rfl
theorem kw_1452 : Cond.selects RX12 yX12_feed yX12_feed ∈ gw := gw_of (List.mem_of_getElem? (i := 1452) (by decide +kernel)) rfl
theorem kw_1453 : Cond.code yX12_feed cX12_feed 6 (Option.some FieldType.int) ∈ gw := gw_of (List.mem_of_getElem? (i := 1453) (by decide +kernel)) rfl
theorem kw_1454 : Cond.methodLink RX12 83 yX12_four ∈ gw := gw_of (List.mem_of_getElem? (i := 1454) (by decide +kernel)) rfl
theorem kw_1456 : Cond.instanceMethod yX12_four ∈ gw := gw_of (List.mem_of_getElem? (i := 1456) (by decide +kernel)) rfl
theorem kw_1457 : Cond.code yX12_four cX12_four 3 (Option.none : Option FieldType) ∈ gw := gw_of (List.mem_of_getElem? (i := 1457) (by decide +kernel)) rfl
theorem kw_1458 : Cond.methodLink RL 22 yX12_end ∈ gw := gw_of (List.mem_of_getElem? (i := 1458) (by decide +kernel)) rfl
theorem kw_1459 : Cond.instanceMethod yX12_end ∈ gw := gw_of (List.mem_of_getElem? (i := 1459) (by decide +kernel)) rfl
theorem kw_1460 : Cond.selects RX12 yX12_end yX12_end ∈ gw := gw_of (List.mem_of_getElem? (i := 1460) (by decide +kernel)) rfl
theorem kw_1461 : Cond.code yX12_end cX12_end 2 (Option.some FieldType.int) ∈ gw := gw_of (List.mem_of_getElem? (i := 1461) (by decide +kernel)) rfl
theorem kw_1462 : Cond.methodLink RL 31 yX12_rule ∈ gw := gw_of (List.mem_of_getElem? (i := 1462) (by decide +kernel)) rfl
theorem kw_1463 : Cond.instanceMethod yX12_rule ∈ gw := gw_of (List.mem_of_getElem? (i := 1463) (by decide +kernel)) rfl
theorem kw_1464 : Cond.selects RX12 yX12_rule yX12_rule ∈ gw := gw_of (List.mem_of_getElem? (i := 1464) (by decide +kernel)) rfl
theorem kw_1465 : Cond.code yX12_rule cX12_rule 1 (Option.some FieldType.int) ∈ gw := gw_of (List.mem_of_getElem? (i := 1465) (by decide +kernel)) rfl
theorem kw_1466 : Cond.methodLink RX12 263 yX12_readsAll ∈ gw := gw_of (List.mem_of_getElem? (i := 1466) (by decide +kernel)) rfl
theorem kw_1468 : Cond.instanceMethod yX12_readsAll ∈ gw := gw_of (List.mem_of_getElem? (i := 1468) (by decide +kernel)) rfl
theorem kw_1469 : Cond.code yX12_readsAll cX12_readsAll 2 (Option.some FieldType.boolean) ∈ gw := gw_of (List.mem_of_getElem? (i := 1469) (by decide +kernel)) rfl
theorem kw_1470 : Cond.methodLink RX12 257 yX12_clauseHere ∈ gw := gw_of (List.mem_of_getElem? (i := 1470) (by decide +kernel)) rfl
theorem kw_1472 : Cond.instanceMethod yX12_clauseHere ∈ gw := gw_of (List.mem_of_getElem? (i := 1472) (by decide +kernel)) rfl
theorem kw_1473 : Cond.code yX12_clauseHere cX12_clauseHere 3 (Option.some FieldType.boolean) ∈ gw := gw_of (List.mem_of_getElem? (i := 1473) (by decide +kernel)) rfl
theorem kw_1474 : Cond.methodLink RX12 93 yX12_see ∈ gw := gw_of (List.mem_of_getElem? (i := 1474) (by decide +kernel)) rfl
theorem kw_1476 : Cond.instanceMethod yX12_see ∈ gw := gw_of (List.mem_of_getElem? (i := 1476) (by decide +kernel)) rfl
theorem kw_1477 : Cond.code yX12_see cX12_see 1 (Option.some FieldType.int) ∈ gw := gw_of (List.mem_of_getElem? (i := 1477) (by decide +kernel)) rfl
theorem kw_1478 : Cond.methodLink RX12 243 yX12_isDairyWord ∈ gw := gw_of (List.mem_of_getElem? (i := 1478) (by decide +kernel)) rfl
theorem kw_1480 : Cond.instanceMethod yX12_isDairyWord ∈ gw := gw_of (List.mem_of_getElem? (i := 1480) (by decide +kernel)) rfl
theorem kw_1481 : Cond.code yX12_isDairyWord cX12_isDairyWord 1 (Option.some FieldType.boolean) ∈ gw := gw_of (List.mem_of_getElem? (i := 1481) (by decide +kernel)) rfl
theorem kw_1482 : Cond.constantLong RX12 221 (431131030137 : Int64) ∈ gw := gw_of (List.mem_of_getElem? (i := 1482) (by decide +kernel)) rfl
theorem kw_1483 : Cond.methodLink RX12 101 yX12_isWord ∈ gw := gw_of (List.mem_of_getElem? (i := 1483) (by decide +kernel)) rfl
theorem kw_1485 : Cond.instanceMethod yX12_isWord ∈ gw := gw_of (List.mem_of_getElem? (i := 1485) (by decide +kernel)) rfl
theorem kw_1486 : Cond.code yX12_isWord cX12_isWord 6 (Option.some FieldType.boolean) ∈ gw := gw_of (List.mem_of_getElem? (i := 1486) (by decide +kernel)) rfl
theorem kw_1487 : Cond.methodLink RX12 97 yX12_isLetter ∈ gw := gw_of (List.mem_of_getElem? (i := 1487) (by decide +kernel)) rfl
theorem kw_1489 : Cond.instanceMethod yX12_isLetter ∈ gw := gw_of (List.mem_of_getElem? (i := 1489) (by decide +kernel)) rfl
theorem kw_1490 : Cond.code yX12_isLetter cX12_isLetter 2 (Option.some FieldType.boolean) ∈ gw := gw_of (List.mem_of_getElem? (i := 1490) (by decide +kernel)) rfl
theorem kw_1491 : Cond.constantLong RX12 136 (1919902052 : Int64) ∈ gw := gw_of (List.mem_of_getElem? (i := 1491) (by decide +kernel)) rfl
theorem kw_1492 : Cond.constantLong RX12 122 (1751215716 : Int64) ∈ gw := gw_of (List.mem_of_getElem? (i := 1492) (by decide +kernel)) rfl
theorem kw_1493 : Cond.constantLong RX12 128 (6976871 : Int64) ∈ gw := gw_of (List.mem_of_getElem? (i := 1493) (by decide +kernel)) rfl
theorem kw_1494 : Cond.constantLong RX12 132 (1751474548 : Int64) ∈ gw := gw_of (List.mem_of_getElem? (i := 1494) (by decide +kernel)) rfl
theorem kw_1495 : Cond.constantLong RX12 241 (2002873972 : Int64) ∈ gw := gw_of (List.mem_of_getElem? (i := 1495) (by decide +kernel)) rfl
theorem kw_1496 : Cond.constantLong RX12 246 (1953854062 : Int64) ∈ gw := gw_of (List.mem_of_getElem? (i := 1496) (by decide +kernel)) rfl
theorem kw_1497 : Cond.methodLink RX12 111 yX12_fails ∈ gw := gw_of (List.mem_of_getElem? (i := 1497) (by decide +kernel)) rfl
theorem kw_1499 : Cond.instanceMethod yX12_fails ∈ gw := gw_of (List.mem_of_getElem? (i := 1499) (by decide +kernel)) rfl
theorem kw_1500 : Cond.code yX12_fails cX12_fails 3 (Option.some FieldType.boolean) ∈ gw := gw_of (List.mem_of_getElem? (i := 1500) (by decide +kernel)) rfl
theorem kw_1501 : Cond.methodLink RX12 251 yX12_dairyLineHere ∈ gw := gw_of (List.mem_of_getElem? (i := 1501) (by decide +kernel)) rfl
theorem kw_1503 : Cond.instanceMethod yX12_dairyLineHere ∈ gw := gw_of (List.mem_of_getElem? (i := 1503) (by decide +kernel)) rfl
theorem kw_1504 : Cond.code yX12_dairyLineHere cX12_dairyLineHere 2 (Option.some FieldType.boolean) ∈ gw := gw_of (List.mem_of_getElem? (i := 1504) (by decide +kernel)) rfl
theorem kw_1505 : Cond.methodLink RX12 223 yX12_isDairyHere ∈ gw := gw_of (List.mem_of_getElem? (i := 1505) (by decide +kernel)) rfl
theorem kw_1507 : Cond.instanceMethod yX12_isDairyHere ∈ gw := gw_of (List.mem_of_getElem? (i := 1507) (by decide +kernel)) rfl
theorem kw_1508 : Cond.code yX12_isDairyHere cX12_isDairyHere 3 (Option.some FieldType.boolean) ∈ gw := gw_of (List.mem_of_getElem? (i := 1508) (by decide +kernel)) rfl
theorem kw_1509 : Cond.methodLink RX12 105 yX12_passWord ∈ gw := gw_of (List.mem_of_getElem? (i := 1509) (by decide +kernel)) rfl
theorem kw_1511 : Cond.instanceMethod yX12_passWord ∈ gw := gw_of (List.mem_of_getElem? (i := 1511) (by decide +kernel)) rfl
theorem kw_1512 : Cond.code yX12_passWord cX12_passWord 1 (Option.none : Option FieldType) ∈ gw := gw_of (List.mem_of_getElem? (i := 1512) (by decide +kernel)) rfl
theorem kw_1513 : Cond.methodLink RX12 163 yX12_numberHere ∈ gw := gw_of (List.mem_of_getElem? (i := 1513) (by decide +kernel)) rfl
theorem kw_1515 : Cond.instanceMethod yX12_numberHere ∈ gw := gw_of (List.mem_of_getElem? (i := 1515) (by decide +kernel)) rfl
theorem kw_1516 : Cond.code yX12_numberHere cX12_numberHere 5 (Option.some FieldType.boolean) ∈ gw := gw_of (List.mem_of_getElem? (i := 1516) (by decide +kernel)) rfl
theorem kw_1517 : Cond.methodLink RX12 108 yX12_isDigit ∈ gw := gw_of (List.mem_of_getElem? (i := 1517) (by decide +kernel)) rfl
theorem kw_1519 : Cond.instanceMethod yX12_isDigit ∈ gw := gw_of (List.mem_of_getElem? (i := 1519) (by decide +kernel)) rfl
theorem kw_1520 : Cond.code yX12_isDigit cX12_isDigit 2 (Option.some FieldType.boolean) ∈ gw := gw_of (List.mem_of_getElem? (i := 1520) (by decide +kernel)) rfl
theorem kw_1521 : Cond.methodLink RX12 118 yX12_in ∈ gw := gw_of (List.mem_of_getElem? (i := 1521) (by decide +kernel)) rfl
theorem kw_1522 : Cond.static yX12_in ∈ gw := gw_of (List.mem_of_getElem? (i := 1522) (by decide +kernel)) rfl
theorem kw_1523 : Cond.code yX12_in cX12_in 6 (Option.some FieldType.boolean) ∈ gw := gw_of (List.mem_of_getElem? (i := 1523) (by decide +kernel)) rfl
theorem kw_1524 : Cond.methodLink RX12 214 yX12_cellHere ∈ gw := gw_of (List.mem_of_getElem? (i := 1524) (by decide +kernel)) rfl
theorem kw_1526 : Cond.instanceMethod yX12_cellHere ∈ gw := gw_of (List.mem_of_getElem? (i := 1526) (by decide +kernel)) rfl
theorem kw_1527 : Cond.code yX12_cellHere cX12_cellHere 4 (Option.some FieldType.boolean) ∈ gw := gw_of (List.mem_of_getElem? (i := 1527) (by decide +kernel)) rfl
theorem kw_1528 : Cond.methodLink RX12 226 yX12_isRoadHere ∈ gw := gw_of (List.mem_of_getElem? (i := 1528) (by decide +kernel)) rfl
theorem kw_1530 : Cond.instanceMethod yX12_isRoadHere ∈ gw := gw_of (List.mem_of_getElem? (i := 1530) (by decide +kernel)) rfl
theorem kw_1531 : Cond.code yX12_isRoadHere cX12_isRoadHere 4 (Option.some FieldType.boolean) ∈ gw := gw_of (List.mem_of_getElem? (i := 1531) (by decide +kernel)) rfl
theorem kw_1532 : Cond.methodLink RX12 218 yX12_isRoadTold ∈ gw := gw_of (List.mem_of_getElem? (i := 1532) (by decide +kernel)) rfl
theorem kw_1534 : Cond.instanceMethod yX12_isRoadTold ∈ gw := gw_of (List.mem_of_getElem? (i := 1534) (by decide +kernel)) rfl
theorem kw_1535 : Cond.code yX12_isRoadTold cX12_isRoadTold 5 (Option.some FieldType.boolean) ∈ gw := gw_of (List.mem_of_getElem? (i := 1535) (by decide +kernel)) rfl
theorem kw_1536 : Cond.methodLink RX12 229 yX12_isHandHere ∈ gw := gw_of (List.mem_of_getElem? (i := 1536) (by decide +kernel)) rfl
theorem kw_1538 : Cond.instanceMethod yX12_isHandHere ∈ gw := gw_of (List.mem_of_getElem? (i := 1538) (by decide +kernel)) rfl
theorem kw_1539 : Cond.code yX12_isHandHere cX12_isHandHere 3 (Option.some FieldType.boolean) ∈ gw := gw_of (List.mem_of_getElem? (i := 1539) (by decide +kernel)) rfl
theorem kw_1540 : Cond.methodLink RX12 232 yX12_isJugHere ∈ gw := gw_of (List.mem_of_getElem? (i := 1540) (by decide +kernel)) rfl
theorem kw_1542 : Cond.instanceMethod yX12_isJugHere ∈ gw := gw_of (List.mem_of_getElem? (i := 1542) (by decide +kernel)) rfl
theorem kw_1543 : Cond.code yX12_isJugHere cX12_isJugHere 3 (Option.some FieldType.boolean) ∈ gw := gw_of (List.mem_of_getElem? (i := 1543) (by decide +kernel)) rfl
theorem kw_1544 : Cond.methodLink RX12 235 yX12_isHeatHere ∈ gw := gw_of (List.mem_of_getElem? (i := 1544) (by decide +kernel)) rfl
theorem kw_1546 : Cond.instanceMethod yX12_isHeatHere ∈ gw := gw_of (List.mem_of_getElem? (i := 1546) (by decide +kernel)) rfl
theorem kw_1547 : Cond.code yX12_isHeatHere cX12_isHeatHere 3 (Option.some FieldType.boolean) ∈ gw := gw_of (List.mem_of_getElem? (i := 1547) (by decide +kernel)) rfl
theorem kw_1548 : Cond.methodLink RX12 238 yX12_isWantHere ∈ gw := gw_of (List.mem_of_getElem? (i := 1548) (by decide +kernel)) rfl
theorem kw_1550 : Cond.instanceMethod yX12_isWantHere ∈ gw := gw_of (List.mem_of_getElem? (i := 1550) (by decide +kernel)) rfl
theorem kw_1551 : Cond.code yX12_isWantHere cX12_isWantHere 3 (Option.some FieldType.boolean) ∈ gw := gw_of (List.mem_of_getElem? (i := 1551) (by decide +kernel)) rfl
theorem kw_1552 : Cond.methodLink RX12 254 yX12_isTurnHere ∈ gw := gw_of (List.mem_of_getElem? (i := 1552) (by decide +kernel)) rfl
theorem kw_1554 : Cond.instanceMethod yX12_isTurnHere ∈ gw := gw_of (List.mem_of_getElem? (i := 1554) (by decide +kernel)) rfl
theorem kw_1555 : Cond.code yX12_isTurnHere cX12_isTurnHere 2 (Option.some FieldType.boolean) ∈ gw := gw_of (List.mem_of_getElem? (i := 1555) (by decide +kernel)) rfl
theorem kw_1556 : Cond.methodLink RX12 179 yX12_sum ∈ gw := gw_of (List.mem_of_getElem? (i := 1556) (by decide +kernel)) rfl
theorem kw_1558 : Cond.instanceMethod yX12_sum ∈ gw := gw_of (List.mem_of_getElem? (i := 1558) (by decide +kernel)) rfl
theorem kw_1559 : Cond.code yX12_sum cX12_sum 2 (Option.some FieldType.boolean) ∈ gw := gw_of (List.mem_of_getElem? (i := 1559) (by decide +kernel)) rfl
theorem kw_1560 : Cond.methodLink RX12 176 yX12_term ∈ gw := gw_of (List.mem_of_getElem? (i := 1560) (by decide +kernel)) rfl
theorem kw_1562 : Cond.instanceMethod yX12_term ∈ gw := gw_of (List.mem_of_getElem? (i := 1562) (by decide +kernel)) rfl
theorem kw_1563 : Cond.code yX12_term cX12_term 2 (Option.some FieldType.boolean) ∈ gw := gw_of (List.mem_of_getElem? (i := 1563) (by decide +kernel)) rfl
theorem kw_1564 : Cond.methodLink RX12 172 yX12_value ∈ gw := gw_of (List.mem_of_getElem? (i := 1564) (by decide +kernel)) rfl
theorem kw_1566 : Cond.instanceMethod yX12_value ∈ gw := gw_of (List.mem_of_getElem? (i := 1566) (by decide +kernel)) rfl
theorem kw_1567 : Cond.code yX12_value cX12_value 3 (Option.some FieldType.boolean) ∈ gw := gw_of (List.mem_of_getElem? (i := 1567) (by decide +kernel)) rfl
theorem kw_1568 : Cond.constant RX12 162 (99999 : Int32) ∈ gw := gw_of (List.mem_of_getElem? (i := 1568) (by decide +kernel)) rfl
theorem kw_1569 : Cond.methodLink RX12 166 yX12_makes ∈ gw := gw_of (List.mem_of_getElem? (i := 1569) (by decide +kernel)) rfl
theorem kw_1571 : Cond.instanceMethod yX12_makes ∈ gw := gw_of (List.mem_of_getElem? (i := 1571) (by decide +kernel)) rfl
theorem kw_1572 : Cond.code yX12_makes cX12_makes 2 (Option.some FieldType.boolean) ∈ gw := gw_of (List.mem_of_getElem? (i := 1572) (by decide +kernel)) rfl
theorem kw_1573 : Cond.methodLink RX12 158 yX12_puts ∈ gw := gw_of (List.mem_of_getElem? (i := 1573) (by decide +kernel)) rfl
theorem kw_1575 : Cond.instanceMethod yX12_puts ∈ gw := gw_of (List.mem_of_getElem? (i := 1575) (by decide +kernel)) rfl
theorem kw_1576 : Cond.code yX12_puts cX12_puts 3 (Option.none : Option FieldType) ∈ gw := gw_of (List.mem_of_getElem? (i := 1576) (by decide +kernel)) rfl
theorem kw_1577 : Cond.methodLink RX12 169 yX12_wordHere ∈ gw := gw_of (List.mem_of_getElem? (i := 1577) (by decide +kernel)) rfl
theorem kw_1579 : Cond.instanceMethod yX12_wordHere ∈ gw := gw_of (List.mem_of_getElem? (i := 1579) (by decide +kernel)) rfl
theorem kw_1580 : Cond.code yX12_wordHere cX12_wordHere 1 (Option.some FieldType.int) ∈ gw := gw_of (List.mem_of_getElem? (i := 1580) (by decide +kernel)) rfl
theorem kw_1581 : Cond.constantLong RX12 124 (495806932324 : Int64) ∈ gw := gw_of (List.mem_of_getElem? (i := 1581) (by decide +kernel)) rfl
theorem kw_1582 : Cond.constantLong RX12 126 (499985311076 : Int64) ∈ gw := gw_of (List.mem_of_getElem? (i := 1582) (by decide +kernel)) rfl
theorem kw_1583 : Cond.constantLong RX12 130 (128047779833188 : Int64) ∈ gw := gw_of (List.mem_of_getElem? (i := 1583) (by decide +kernel)) rfl
theorem kw_1584 : Cond.constantLong RX12 134 (1752135026 : Int64) ∈ gw := gw_of (List.mem_of_getElem? (i := 1584) (by decide +kernel)) rfl
theorem kw_1585 : Cond.constantLong RX12 138 (1751477348 : Int64) ∈ gw := gw_of (List.mem_of_getElem? (i := 1585) (by decide +kernel)) rfl
theorem kw_1586 : Cond.constantLong RX12 140 (1936684402 : Int64) ∈ gw := gw_of (List.mem_of_getElem? (i := 1586) (by decide +kernel)) rfl
theorem kw_1587 : Cond.constantLong RX12 206 (26982 : Int64) ∈ gw := gw_of (List.mem_of_getElem? (i := 1587) (by decide +kernel)) rfl
theorem kw_1588 : Cond.methodLink RX12 208 yX12_takesWord ∈ gw := gw_of (List.mem_of_getElem? (i := 1588) (by decide +kernel)) rfl
theorem kw_1590 : Cond.instanceMethod yX12_takesWord ∈ gw := gw_of (List.mem_of_getElem? (i := 1590) (by decide +kernel)) rfl
theorem kw_1591 : Cond.code yX12_takesWord cX12_takesWord 3 (Option.some FieldType.boolean) ∈ gw := gw_of (List.mem_of_getElem? (i := 1591) (by decide +kernel)) rfl
theorem kw_1592 : Cond.methodLink RX12 211 yX12_tested ∈ gw := gw_of (List.mem_of_getElem? (i := 1592) (by decide +kernel)) rfl
theorem kw_1594 : Cond.instanceMethod yX12_tested ∈ gw := gw_of (List.mem_of_getElem? (i := 1594) (by decide +kernel)) rfl
theorem kw_1595 : Cond.code yX12_tested cX12_tested 3 (Option.some FieldType.boolean) ∈ gw := gw_of (List.mem_of_getElem? (i := 1595) (by decide +kernel)) rfl
theorem kw_1596 : Cond.methodLink RX12 196 yX12_fact ∈ gw := gw_of (List.mem_of_getElem? (i := 1596) (by decide +kernel)) rfl
theorem kw_1598 : Cond.instanceMethod yX12_fact ∈ gw := gw_of (List.mem_of_getElem? (i := 1598) (by decide +kernel)) rfl
theorem kw_1599 : Cond.code yX12_fact cX12_fact 3 (Option.some FieldType.boolean) ∈ gw := gw_of (List.mem_of_getElem? (i := 1599) (by decide +kernel)) rfl
theorem kw_1600 : Cond.constantLong RX12 182 (7237492 : Int64) ∈ gw := gw_of (List.mem_of_getElem? (i := 1600) (by decide +kernel)) rfl
theorem kw_1601 : Cond.methodLink RX12 184 yX12_opens ∈ gw := gw_of (List.mem_of_getElem? (i := 1601) (by decide +kernel)) rfl
theorem kw_1603 : Cond.instanceMethod yX12_opens ∈ gw := gw_of (List.mem_of_getElem? (i := 1603) (by decide +kernel)) rfl
theorem kw_1604 : Cond.code yX12_opens cX12_opens 2 (Option.some FieldType.boolean) ∈ gw := gw_of (List.mem_of_getElem? (i := 1604) (by decide +kernel)) rfl
theorem kw_1605 : Cond.methodLink RX12 187 yX12_compare ∈ gw := gw_of (List.mem_of_getElem? (i := 1605) (by decide +kernel)) rfl
theorem kw_1607 : Cond.instanceMethod yX12_compare ∈ gw := gw_of (List.mem_of_getElem? (i := 1607) (by decide +kernel)) rfl
theorem kw_1608 : Cond.code yX12_compare cX12_compare 5 (Option.some FieldType.boolean) ∈ gw := gw_of (List.mem_of_getElem? (i := 1608) (by decide +kernel)) rfl
theorem kw_1609 : Cond.methodLink RX12 199 yX12_closes ∈ gw := gw_of (List.mem_of_getElem? (i := 1609) (by decide +kernel)) rfl
theorem kw_1611 : Cond.instanceMethod yX12_closes ∈ gw := gw_of (List.mem_of_getElem? (i := 1611) (by decide +kernel)) rfl
theorem kw_1612 : Cond.code yX12_closes cX12_closes 1 (Option.none : Option FieldType) ∈ gw := gw_of (List.mem_of_getElem? (i := 1612) (by decide +kernel)) rfl
theorem kw_1613 : Cond.methodLink RX12 190 yX12_settles ∈ gw := gw_of (List.mem_of_getElem? (i := 1613) (by decide +kernel)) rfl
theorem kw_1615 : Cond.instanceMethod yX12_settles ∈ gw := gw_of (List.mem_of_getElem? (i := 1615) (by decide +kernel)) rfl
theorem kw_1616 : Cond.code yX12_settles cX12_settles 2 (Option.none : Option FieldType) ∈ gw := gw_of (List.mem_of_getElem? (i := 1616) (by decide +kernel)) rfl
theorem kw_1617 : Cond.methodLink RX12 154 yX12_strength ∈ gw := gw_of (List.mem_of_getElem? (i := 1617) (by decide +kernel)) rfl
theorem kw_1618 : Cond.static yX12_strength ∈ gw := gw_of (List.mem_of_getElem? (i := 1618) (by decide +kernel)) rfl
theorem kw_1619 : Cond.code yX12_strength cX12_strength 1 (Option.some FieldType.int) ∈ gw := gw_of (List.mem_of_getElem? (i := 1619) (by decide +kernel)) rfl
theorem kw_1620 : Cond.methodLink RX12 193 yX12_isInside ∈ gw := gw_of (List.mem_of_getElem? (i := 1620) (by decide +kernel)) rfl
theorem kw_1622 : Cond.instanceMethod yX12_isInside ∈ gw := gw_of (List.mem_of_getElem? (i := 1622) (by decide +kernel)) rfl
theorem kw_1623 : Cond.code yX12_isInside cX12_isInside 2 (Option.some FieldType.boolean) ∈ gw := gw_of (List.mem_of_getElem? (i := 1623) (by decide +kernel)) rfl
theorem kw_1624 : Cond.constantLong RX12 202 (6385252 : Int64) ∈ gw := gw_of (List.mem_of_getElem? (i := 1624) (by decide +kernel)) rfl
theorem kw_1625 : Cond.constantLong RX12 204 (28530 : Int64) ∈ gw := gw_of (List.mem_of_getElem? (i := 1625) (by decide +kernel)) rfl
theorem kw_1626 : Cond.methodLink RL 27 yX12_dairy ∈ gw := gw_of (List.mem_of_getElem? (i := 1626) (by decide +kernel)) rfl
theorem kw_1627 : Cond.instanceMethod yX12_dairy ∈ gw := gw_of (List.mem_of_getElem? (i := 1627) (by decide +kernel)) rfl
theorem kw_1628 : Cond.selects RX12 yX12_dairy yX12_dairy ∈ gw := gw_of (List.mem_of_getElem? (i := 1628) (by decide +kernel)) rfl
theorem kw_1629 : Cond.code yX12_dairy cX12_dairy 2 (Option.some FieldType.int) ∈ gw := gw_of (List.mem_of_getElem? (i := 1629) (by decide +kernel)) rfl
theorem kw_1630 : Cond.methodLink RL 35 yX12_force ∈ gw := gw_of (List.mem_of_getElem? (i := 1630) (by decide +kernel)) rfl
theorem kw_1631 : Cond.instanceMethod yX12_force ∈ gw := gw_of (List.mem_of_getElem? (i := 1631) (by decide +kernel)) rfl
theorem kw_1632 : Cond.selects RX12 yX12_force yX12_force ∈ gw := gw_of (List.mem_of_getElem? (i := 1632) (by decide +kernel)) rfl
theorem kw_1633 : Cond.code yX12_force cX12_force 3 (Option.some FieldType.int) ∈ gw := gw_of (List.mem_of_getElem? (i := 1633) (by decide +kernel)) rfl
theorem kw_1634 : Cond.methodLink RX12 298 yX12_isRule ∈ gw := gw_of (List.mem_of_getElem? (i := 1634) (by decide +kernel)) rfl
theorem kw_1636 : Cond.instanceMethod yX12_isRule ∈ gw := gw_of (List.mem_of_getElem? (i := 1636) (by decide +kernel)) rfl
theorem kw_1637 : Cond.code yX12_isRule cX12_isRule 2 (Option.some FieldType.boolean) ∈ gw := gw_of (List.mem_of_getElem? (i := 1637) (by decide +kernel)) rfl
theorem kw_1638 : Cond.methodLink RL 40 yX12_hand ∈ gw := gw_of (List.mem_of_getElem? (i := 1638) (by decide +kernel)) rfl
theorem kw_1639 : Cond.instanceMethod yX12_hand ∈ gw := gw_of (List.mem_of_getElem? (i := 1639) (by decide +kernel)) rfl
theorem kw_1640 : Cond.selects RX12 yX12_hand yX12_hand ∈ gw := gw_of (List.mem_of_getElem? (i := 1640) (by decide +kernel)) rfl
theorem kw_1641 : Cond.code yX12_hand cX12_hand 3 (Option.some FieldType.int) ∈ gw := gw_of (List.mem_of_getElem? (i := 1641) (by decide +kernel)) rfl
theorem kw_1642 : Cond.methodLink RX12 301 yX12_isHand ∈ gw := gw_of (List.mem_of_getElem? (i := 1642) (by decide +kernel)) rfl
theorem kw_1644 : Cond.instanceMethod yX12_isHand ∈ gw := gw_of (List.mem_of_getElem? (i := 1644) (by decide +kernel)) rfl
theorem kw_1645 : Cond.code yX12_isHand cX12_isHand 2 (Option.some FieldType.boolean) ∈ gw := gw_of (List.mem_of_getElem? (i := 1645) (by decide +kernel)) rfl
theorem kw_1646 : Cond.constantLong RX12 304 (5 : Int64) ∈ gw := gw_of (List.mem_of_getElem? (i := 1646) (by decide +kernel)) rfl
theorem kw_1647 : Cond.methodLink RX12 306 yX12_handOf ∈ gw := gw_of (List.mem_of_getElem? (i := 1647) (by decide +kernel)) rfl
theorem kw_1649 : Cond.instanceMethod yX12_handOf ∈ gw := gw_of (List.mem_of_getElem? (i := 1649) (by decide +kernel)) rfl
theorem kw_1650 : Cond.code yX12_handOf cX12_handOf 3 (Option.some FieldType.int) ∈ gw := gw_of (List.mem_of_getElem? (i := 1650) (by decide +kernel)) rfl
theorem kw_1651 : Cond.methodLink RX12 309 yX12_held ∈ gw := gw_of (List.mem_of_getElem? (i := 1651) (by decide +kernel)) rfl
theorem kw_1653 : Cond.instanceMethod yX12_held ∈ gw := gw_of (List.mem_of_getElem? (i := 1653) (by decide +kernel)) rfl
theorem kw_1654 : Cond.code yX12_held cX12_held 4 (Option.some FieldType.int) ∈ gw := gw_of (List.mem_of_getElem? (i := 1654) (by decide +kernel)) rfl
theorem kw_1655 : Cond.methodLink RX12 284 yX12_jugOf ∈ gw := gw_of (List.mem_of_getElem? (i := 1655) (by decide +kernel)) rfl
theorem kw_1657 : Cond.instanceMethod yX12_jugOf ∈ gw := gw_of (List.mem_of_getElem? (i := 1657) (by decide +kernel)) rfl
theorem kw_1658 : Cond.code yX12_jugOf cX12_jugOf 3 (Option.some FieldType.int) ∈ gw := gw_of (List.mem_of_getElem? (i := 1658) (by decide +kernel)) rfl
theorem kw_1659 : Cond.methodLink RL 44 yX12_jug ∈ gw := gw_of (List.mem_of_getElem? (i := 1659) (by decide +kernel)) rfl
theorem kw_1660 : Cond.instanceMethod yX12_jug ∈ gw := gw_of (List.mem_of_getElem? (i := 1660) (by decide +kernel)) rfl
theorem kw_1661 : Cond.selects RX12 yX12_jug yX12_jug ∈ gw := gw_of (List.mem_of_getElem? (i := 1661) (by decide +kernel)) rfl
theorem kw_1662 : Cond.code yX12_jug cX12_jug 3 (Option.some FieldType.int) ∈ gw := gw_of (List.mem_of_getElem? (i := 1662) (by decide +kernel)) rfl
theorem kw_1663 : Cond.methodLink RX12 312 yX12_isJug ∈ gw := gw_of (List.mem_of_getElem? (i := 1663) (by decide +kernel)) rfl
theorem kw_1665 : Cond.instanceMethod yX12_isJug ∈ gw := gw_of (List.mem_of_getElem? (i := 1665) (by decide +kernel)) rfl
theorem kw_1666 : Cond.code yX12_isJug cX12_isJug 2 (Option.some FieldType.boolean) ∈ gw := gw_of (List.mem_of_getElem? (i := 1666) (by decide +kernel)) rfl
theorem kw_1667 : Cond.methodLink RX12 292 yX12_stands ∈ gw := gw_of (List.mem_of_getElem? (i := 1667) (by decide +kernel)) rfl
theorem kw_1669 : Cond.instanceMethod yX12_stands ∈ gw := gw_of (List.mem_of_getElem? (i := 1669) (by decide +kernel)) rfl
theorem kw_1670 : Cond.code yX12_stands cX12_stands 2 (Option.some FieldType.boolean) ∈ gw := gw_of (List.mem_of_getElem? (i := 1670) (by decide +kernel)) rfl
theorem kw_1671 : Cond.methodLink RL 48 yX12_want ∈ gw := gw_of (List.mem_of_getElem? (i := 1671) (by decide +kernel)) rfl
theorem kw_1672 : Cond.instanceMethod yX12_want ∈ gw := gw_of (List.mem_of_getElem? (i := 1672) (by decide +kernel)) rfl
theorem kw_1673 : Cond.selects RX12 yX12_want yX12_want ∈ gw := gw_of (List.mem_of_getElem? (i := 1673) (by decide +kernel)) rfl
theorem kw_1674 : Cond.code yX12_want cX12_want 3 (Option.some FieldType.int) ∈ gw := gw_of (List.mem_of_getElem? (i := 1674) (by decide +kernel)) rfl
theorem kw_1675 : Cond.methodLink RX12 315 yX12_isWant ∈ gw := gw_of (List.mem_of_getElem? (i := 1675) (by decide +kernel)) rfl
theorem kw_1677 : Cond.instanceMethod yX12_isWant ∈ gw := gw_of (List.mem_of_getElem? (i := 1677) (by decide +kernel)) rfl
theorem kw_1678 : Cond.code yX12_isWant cX12_isWant 2 (Option.some FieldType.boolean) ∈ gw := gw_of (List.mem_of_getElem? (i := 1678) (by decide +kernel)) rfl
theorem kw_1679 : Cond.methodLink RX12 295 yX12_wantOf ∈ gw := gw_of (List.mem_of_getElem? (i := 1679) (by decide +kernel)) rfl
theorem kw_1681 : Cond.instanceMethod yX12_wantOf ∈ gw := gw_of (List.mem_of_getElem? (i := 1681) (by decide +kernel)) rfl
theorem kw_1682 : Cond.code yX12_wantOf cX12_wantOf 3 (Option.some FieldType.int) ∈ gw := gw_of (List.mem_of_getElem? (i := 1682) (by decide +kernel)) rfl
theorem kw_1683 : Cond.methodLink RX12 318 yX12_firstFor ∈ gw := gw_of (List.mem_of_getElem? (i := 1683) (by decide +kernel)) rfl
theorem kw_1685 : Cond.instanceMethod yX12_firstFor ∈ gw := gw_of (List.mem_of_getElem? (i := 1685) (by decide +kernel)) rfl
theorem kw_1686 : Cond.code yX12_firstFor cX12_firstFor 3 (Option.some FieldType.int) ∈ gw := gw_of (List.mem_of_getElem? (i := 1686) (by decide +kernel)) rfl
theorem kw_1687 : Cond.methodLink RL 76 yX12_undo ∈ gw := gw_of (List.mem_of_getElem? (i := 1687) (by decide +kernel)) rfl
theorem kw_1688 : Cond.instanceMethod yX12_undo ∈ gw := gw_of (List.mem_of_getElem? (i := 1688) (by decide +kernel)) rfl
theorem kw_1689 : Cond.selects RX12 yX12_undo yX12_undo ∈ gw := gw_of (List.mem_of_getElem? (i := 1689) (by decide +kernel)) rfl
theorem kw_1690 : Cond.code yX12_undo cX12_undo 2 (Option.some FieldType.int) ∈ gw := gw_of (List.mem_of_getElem? (i := 1690) (by decide +kernel)) rfl
theorem kw_1691 : Cond.methodLink RL 52 yX12_hour ∈ gw := gw_of (List.mem_of_getElem? (i := 1691) (by decide +kernel)) rfl
theorem kw_1692 : Cond.instanceMethod yX12_hour ∈ gw := gw_of (List.mem_of_getElem? (i := 1692) (by decide +kernel)) rfl
theorem kw_1693 : Cond.selects RX12 yX12_hour yX12_hour ∈ gw := gw_of (List.mem_of_getElem? (i := 1693) (by decide +kernel)) rfl
theorem kw_1694 : Cond.code yX12_hour cX12_hour 1 (Option.some FieldType.int) ∈ gw := gw_of (List.mem_of_getElem? (i := 1694) (by decide +kernel)) rfl
theorem kw_1695 : Cond.methodLink RX12 350 yX12_isDairy ∈ gw := gw_of (List.mem_of_getElem? (i := 1695) (by decide +kernel)) rfl
theorem kw_1697 : Cond.instanceMethod yX12_isDairy ∈ gw := gw_of (List.mem_of_getElem? (i := 1697) (by decide +kernel)) rfl
theorem kw_1698 : Cond.code yX12_isDairy cX12_isDairy 1 (Option.some FieldType.boolean) ∈ gw := gw_of (List.mem_of_getElem? (i := 1698) (by decide +kernel)) rfl
theorem kw_1699 : Cond.methodLink RX12 353 yX12_keepsAct ∈ gw := gw_of (List.mem_of_getElem? (i := 1699) (by decide +kernel)) rfl
theorem kw_1701 : Cond.instanceMethod yX12_keepsAct ∈ gw := gw_of (List.mem_of_getElem? (i := 1701) (by decide +kernel)) rfl
theorem kw_1702 : Cond.code yX12_keepsAct cX12_keepsAct 2 (Option.none : Option FieldType) ∈ gw := gw_of (List.mem_of_getElem? (i := 1702) (by decide +kernel)) rfl
theorem kw_1703 : Cond.methodLink RX12 356 yX12_passes ∈ gw := gw_of (List.mem_of_getElem? (i := 1703) (by decide +kernel)) rfl
theorem kw_1705 : Cond.instanceMethod yX12_passes ∈ gw := gw_of (List.mem_of_getElem? (i := 1705) (by decide +kernel)) rfl
theorem kw_1706 : Cond.code yX12_passes cX12_passes 5 (Option.some FieldType.int) ∈ gw := gw_of (List.mem_of_getElem? (i := 1706) (by decide +kernel)) rfl
theorem kw_1707 : Cond.methodLink RX12 347 yX12_turns ∈ gw := gw_of (List.mem_of_getElem? (i := 1707) (by decide +kernel)) rfl
theorem kw_1709 : Cond.instanceMethod yX12_turns ∈ gw := gw_of (List.mem_of_getElem? (i := 1709) (by decide +kernel)) rfl
theorem kw_1710 : Cond.code yX12_turns cX12_turns 5 (Option.none : Option FieldType) ∈ gw := gw_of (List.mem_of_getElem? (i := 1710) (by decide +kernel)) rfl
theorem kw_1711 : Cond.methodLink RX12 325 yX12_heatIn ∈ gw := gw_of (List.mem_of_getElem? (i := 1711) (by decide +kernel)) rfl
theorem kw_1713 : Cond.instanceMethod yX12_heatIn ∈ gw := gw_of (List.mem_of_getElem? (i := 1713) (by decide +kernel)) rfl
theorem kw_1714 : Cond.code yX12_heatIn cX12_heatIn 5 (Option.some FieldType.int) ∈ gw := gw_of (List.mem_of_getElem? (i := 1714) (by decide +kernel)) rfl
theorem kw_1715 : Cond.methodLink RX12 344 yX12_bits ∈ gw := gw_of (List.mem_of_getElem? (i := 1715) (by decide +kernel)) rfl
theorem kw_1716 : Cond.static yX12_bits ∈ gw := gw_of (List.mem_of_getElem? (i := 1716) (by decide +kernel)) rfl
theorem kw_1717 : Cond.code yX12_bits cX12_bits 3 (Option.some FieldType.int) ∈ gw := gw_of (List.mem_of_getElem? (i := 1717) (by decide +kernel)) rfl
theorem kw_1718 : Cond.methodLink RX12 337 yX12_turnsIn ∈ gw := gw_of (List.mem_of_getElem? (i := 1718) (by decide +kernel)) rfl
theorem kw_1720 : Cond.instanceMethod yX12_turnsIn ∈ gw := gw_of (List.mem_of_getElem? (i := 1720) (by decide +kernel)) rfl
theorem kw_1721 : Cond.code yX12_turnsIn cX12_turnsIn 11 (Option.some FieldType.int) ∈ gw := gw_of (List.mem_of_getElem? (i := 1721) (by decide +kernel)) rfl
theorem kw_1722 : Cond.methodLink RX12 328 yX12_summedBy ∈ gw := gw_of (List.mem_of_getElem? (i := 1722) (by decide +kernel)) rfl
theorem kw_1724 : Cond.instanceMethod yX12_summedBy ∈ gw := gw_of (List.mem_of_getElem? (i := 1724) (by decide +kernel)) rfl
theorem kw_1725 : Cond.code yX12_summedBy cX12_summedBy 4 (Option.some FieldType.long) ∈ gw := gw_of (List.mem_of_getElem? (i := 1725) (by decide +kernel)) rfl
theorem kw_1726 : Cond.methodLink RX12 321 yX12_reckons ∈ gw := gw_of (List.mem_of_getElem? (i := 1726) (by decide +kernel)) rfl
theorem kw_1728 : Cond.instanceMethod yX12_reckons ∈ gw := gw_of (List.mem_of_getElem? (i := 1728) (by decide +kernel)) rfl
theorem kw_1729 : Cond.code yX12_reckons cX12_reckons 11 (Option.some FieldType.long) ∈ gw := gw_of (List.mem_of_getElem? (i := 1729) (by decide +kernel)) rfl
theorem kw_1730 : Cond.methodLink RX12 272 yX12_push ∈ gw := gw_of (List.mem_of_getElem? (i := 1730) (by decide +kernel)) rfl
theorem kw_1732 : Cond.instanceMethod yX12_push ∈ gw := gw_of (List.mem_of_getElem? (i := 1732) (by decide +kernel)) rfl
theorem kw_1733 : Cond.code yX12_push cX12_push 3 (Option.none : Option FieldType) ∈ gw := gw_of (List.mem_of_getElem? (i := 1733) (by decide +kernel)) rfl
theorem kw_1734 : Cond.methodLink RX12 276 yX12_pop ∈ gw := gw_of (List.mem_of_getElem? (i := 1734) (by decide +kernel)) rfl
theorem kw_1736 : Cond.instanceMethod yX12_pop ∈ gw := gw_of (List.mem_of_getElem? (i := 1736) (by decide +kernel)) rfl
theorem kw_1737 : Cond.code yX12_pop cX12_pop 1 (Option.some FieldType.long) ∈ gw := gw_of (List.mem_of_getElem? (i := 1737) (by decide +kernel)) rfl
theorem kw_1738 : Cond.methodLink RX12 280 yX12_one ∈ gw := gw_of (List.mem_of_getElem? (i := 1738) (by decide +kernel)) rfl
theorem kw_1739 : Cond.static yX12_one ∈ gw := gw_of (List.mem_of_getElem? (i := 1739) (by decide +kernel)) rfl
theorem kw_1740 : Cond.code yX12_one cX12_one 5 (Option.some FieldType.long) ∈ gw := gw_of (List.mem_of_getElem? (i := 1740) (by decide +kernel)) rfl
