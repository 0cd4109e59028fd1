section
theorem kw_1308 : Cond.methodLink RX11 403 yX8_howMany ∈ gw := kc_6 108 rfl rfl
theorem kw_1309 : Cond.instanceMethod yX8_howMany ∈ gw := kc_6 109 rfl rfl
theorem kw_1310 : Cond.selects RX8 yX8_howMany yX8_howMany ∈ gw := kc_6 110 rfl rfl
theorem kw_1311 : Cond.code yX8_howMany cX8_howMany 2 (Option.some FieldType.int) ∈ gw := kc_6 111 rfl rfl
theorem kw_1312 : Cond.methodLink RX11 405 yX8_heatIn ∈ gw := kc_6 112 rfl rfl
theorem kw_1313 : Cond.methodLink RL 135 yX11_image ∈ gw := kc_6 113 rfl rfl
theorem kw_1314 : Cond.instanceMethod yX11_image ∈ gw := kc_6 114 rfl rfl
theorem kw_1315 : Cond.selects RX11 yX11_image yX11_image ∈ gw := kc_6 115 rfl rfl
theorem kw_1316 : Cond.code yX11_image cX11_image 2 (Option.some FieldType.int) ∈ gw := kc_6 116 rfl rfl
theorem kw_1317 : Cond.methodLink RX11 408 yX4_become ∈ gw := kc_6 117 rfl rfl
theorem kw_1318 : Cond.instanceMethod yX4_become ∈ gw := kc_6 118 rfl rfl
theorem kw_1319 : Cond.selects RX4 yX4_become yX4_become ∈ gw := kc_6 119 rfl rfl
theorem kw_1320 : Cond.code yX4_become cX4_become 2 (Option.none : Option FieldType) ∈ gw := kc_6 120 rfl rfl
theorem kw_1321 : Cond.methodLink RX4 42 yX8_become ∈ gw := kc_6 121 rfl rfl
theorem kw_1322 : Cond.methodLink RX4 46 yX5_become ∈ gw := kc_6 122 rfl rfl
theorem kw_1323 : Cond.methodLink RX4 55 ⟨"java/lang/System", "arraycopy", "(Ljava/lang/Object;ILjava/lang/Object;II)V"⟩ ∈ gw := kc_6 123 rfl rfl
theorem kw_1324 : Cond.methodLink RL 139 yX11_back ∈ gw := kc_6 124 rfl rfl
theorem kw_1325 : Cond.instanceMethod yX11_back ∈ gw := kc_6 125 rfl rfl
theorem kw_1326 : Cond.selects RX11 yX11_back yX11_back ∈ gw := kc_6 126 rfl rfl
theorem kw_1327 : Cond.code yX11_back cX11_back 2 (Option.some FieldType.int) ∈ gw := kc_6 127 rfl rfl
theorem kw_1328 : Cond.classLink RL 10 RX12 ∈ gw := kc_6 128 rfl rfl
theorem kw_1329 : Cond.instantiable RX12 38 ∈ gw := kc_6 129 rfl rfl
theorem kw_1330 : Cond.methodLink RL 12 yX12_init ∈ gw := kc_6 130 rfl rfl
theorem kw_1331 : Cond.instanceMethod yX12_init ∈ gw := kc_6 131 rfl rfl
theorem kw_1332 : Cond.code yX12_init cX12_init 1 (Option.none : Option FieldType) ∈ gw := kc_6 132 rfl rfl
theorem kw_1333 : Cond.methodLink RX12 1 ⟨"java/lang/Object", "<init>", "()V"⟩ ∈ gw := kc_6 133 rfl rfl
theorem kw_1334 : Cond.fieldLink RX12 7 "TurningMilkModel" "tape" "[B" ∈ gw := kc_6 134 rfl rfl
theorem kw_1335 : Cond.fieldLink RX12 80 "TurningMilkModel" "taped" "I" ∈ gw := kc_6 135 rfl rfl
theorem kw_1336 : Cond.fieldLink RX12 260 "TurningMilkModel" "rules" "I" ∈ gw := kc_6 136 rfl rfl
theorem kw_1337 : Cond.fieldLink RX12 13 "TurningMilkModel" "sign" "[I" ∈ gw := kc_6 137 rfl rfl
theorem kw_1338 : Cond.fieldLink RX12 17 "TurningMilkModel" "length" "[I" ∈ gw := kc_6 138 rfl rfl
theorem kw_1339 : Cond.fieldLink RX12 20 "TurningMilkModel" "clause" "[I" ∈ gw := kc_6 139 rfl rfl
theorem kw_1340 : Cond.fieldLink RX12 23 "TurningMilkModel" "clauses" "[I" ∈ gw := kc_6 140 rfl rfl
theorem kw_1341 : Cond.fieldLink RX12 26 "TurningMilkModel" "read" "[I" ∈ gw := kc_6 141 rfl rfl
theorem kw_1342 : Cond.fieldLink RX12 90 "TurningMilkModel" "next" "I" ∈ gw := kc_6 142 rfl rfl
theorem kw_1343 : Cond.fieldLink RX12 87 "TurningMilkModel" "wrong" "I" ∈ gw := kc_6 143 rfl rfl
theorem kw_1344 : Cond.fieldLink RX12 115 "TurningMilkModel" "number" "I" ∈ gw := kc_6 144 rfl rfl
theorem kw_1345 : Cond.fieldLink RX12 142 "TurningMilkModel" "text" "I" ∈ gw := kc_6 145 rfl rfl
theorem kw_1346 : Cond.fieldLink RX12 145 "TurningMilkModel" "made" "I" ∈ gw := kc_6 146 rfl rfl
theorem kw_1347 : Cond.fieldLink RX12 148 "TurningMilkModel" "deep" "I" ∈ gw := kc_6 147 rfl rfl
theorem kw_1348 : Cond.fieldLink RX12 248 "TurningMilkModel" "lines" "I" ∈ gw := kc_6 148 rfl rfl
theorem kw_1349 : Cond.fieldLink RX12 29 "TurningMilkModel" "open" "[I" ∈ gw := kc_6 149 rfl rfl
theorem kw_1350 : Cond.fieldLink RX12 151 "TurningMilkModel" "opened" "I" ∈ gw := kc_6 150 rfl rfl
theorem kw_1351 : Cond.fieldLink RX12 32 "TurningMilkModel" "stack" "[J" ∈ gw := kc_6 151 rfl rfl
theorem kw_1352 : Cond.fieldLink RX12 269 "TurningMilkModel" "top" "I" ∈ gw := kc_6 152 rfl rfl
theorem kw_1353 : Cond.fieldLink RX12 36 "TurningMilkModel" "word" "[J" ∈ gw := kc_6 153 rfl rfl
theorem kw_1354 : Cond.fieldLink RX12 39 "TurningMilkModel" "said" "[I" ∈ gw := kc_6 154 rfl rfl
theorem kw_1355 : Cond.fieldLink RX12 42 "TurningMilkModel" "force" "I" ∈ gw := kc_6 155 rfl rfl
theorem kw_1356 : Cond.fieldLink RX12 477 "TurningMilkModel" "x" "I" ∈ gw := kc_6 156 rfl rfl
theorem kw_1357 : Cond.fieldLink RX12 288 "TurningMilkModel" "isIced" "Z" ∈ gw := kc_6 157 rfl rfl
theorem kw_1358 : Cond.fieldLink RX12 46 "TurningMilkModel" "wasSaid" "[I" ∈ gw := kc_6 158 rfl rfl
theorem kw_1359 : Cond.fieldLink RX12 266 "TurningMilkModel" "undone" "I" ∈ gw := kc_6 159 rfl rfl
theorem kw_1360 : Cond.fieldLink RX12 49 "TurningMilkModel" "kept" "[I" ∈ gw := kc_6 160 rfl rfl
theorem kw_1361 : Cond.fieldLink RX12 52 "TurningMilkModel" "hoursTo" "[I" ∈ gw := kc_6 161 rfl rfl
theorem kw_1362 : Cond.fieldLink RX12 55 "TurningMilkModel" "roadHours" "[I" ∈ gw := kc_6 162 rfl rfl
theorem kw_1363 : Cond.fieldLink RX12 398 "TurningMilkModel" "roadMany" "I" ∈ gw := kc_6 163 rfl rfl
theorem kw_1364 : Cond.fieldLink RX12 58 "TurningMilkModel" "probed" "[I" ∈ gw := kc_6 164 rfl rfl
theorem kw_1365 : Cond.fieldLink RX12 61 "TurningMilkModel" "rowsOf" "[I" ∈ gw := kc_6 165 rfl rfl
theorem kw_1366 : Cond.fieldLink RX12 64 "TurningMilkModel" "hasRow" "[Z" ∈ gw := kc_6 166 rfl rfl
theorem kw_1367 : Cond.fieldLink RX12 480 "TurningMilkModel" "drawX" "J" ∈ gw := kc_6 167 rfl rfl
theorem kw_1368 : Cond.fieldLink RX12 68 "TurningMilkModel" "images" "[I" ∈ gw := kc_6 168 rfl rfl
theorem kw_1369 : Cond.fieldLink RX12 71 "TurningMilkModel" "imageForce" "[I" ∈ gw := kc_6 169 rfl rfl
theorem kw_1370 : Cond.fieldLink RX12 74 "TurningMilkModel" "imageX" "[I" ∈ gw := kc_6 170 rfl rfl
theorem kw_1371 : Cond.fieldLink RX12 77 "TurningMilkModel" "isMade" "[Z" ∈ gw := kc_6 171 rfl rfl
theorem kw_1372 : Cond.laysFinal "TurningMilkModel" "TurningMilkModel" "tape" "[B" ∈ gw := kc_6 172 rfl rfl
theorem kw_1374 : Cond.lays "TurningMilkModel" "TurningMilkModel" "taped" "I" ∈ gw := kc_6 174 rfl rfl
theorem kw_1376 : Cond.lays "TurningMilkModel" "TurningMilkModel" "rules" "I" ∈ gw := kc_6 176 rfl rfl
theorem kw_1378 : Cond.laysFinal "TurningMilkModel" "TurningMilkModel" "sign" "[I" ∈ gw := kc_6 178 rfl rfl
theorem kw_1380 : Cond.laysFinal "TurningMilkModel" "TurningMilkModel" "length" "[I" ∈ gw := kc_6 180 rfl rfl
theorem kw_1382 : Cond.laysFinal "TurningMilkModel" "TurningMilkModel" "clause" "[I" ∈ gw := kc_6 182 rfl rfl
theorem kw_1384 : Cond.laysFinal "TurningMilkModel" "TurningMilkModel" "clauses" "[I" ∈ gw := kc_6 184 rfl rfl
theorem kw_1386 : Cond.laysFinal "TurningMilkModel" "TurningMilkModel" "read" "[I" ∈ gw := kc_6 186 rfl rfl
theorem kw_1388 : Cond.lays "TurningMilkModel" "TurningMilkModel" "next" "I" ∈ gw := kc_6 188 rfl rfl
theorem kw_1390 : Cond.lays "TurningMilkModel" "TurningMilkModel" "wrong" "I" ∈ gw := kc_6 190 rfl rfl
theorem kw_1392 : Cond.lays "TurningMilkModel" "TurningMilkModel" "number" "I" ∈ gw := kc_6 192 rfl rfl
theorem kw_1394 : Cond.lays "TurningMilkModel" "TurningMilkModel" "text" "I" ∈ gw := kc_6 194 rfl rfl
theorem kw_1396 : Cond.lays "TurningMilkModel" "TurningMilkModel" "made" "I" ∈ gw := kc_6 196 rfl rfl
theorem kw_1398 : Cond.lays "TurningMilkModel" "TurningMilkModel" "deep" "I" ∈ gw := kc_6 198 rfl rfl
theorem kw_1400 : Cond.lays "TurningMilkModel" "TurningMilkModel" "lines" "I" ∈ gw := kc_6 200 rfl rfl
theorem kw_1402 : Cond.laysFinal "TurningMilkModel" "TurningMilkModel" "open" "[I" ∈ gw := kc_6 202 rfl rfl
theorem kw_1404 : Cond.lays "TurningMilkModel" "TurningMilkModel" "opened" "I" ∈ gw := kc_6 204 rfl rfl
theorem kw_1406 : Cond.laysFinal "TurningMilkModel" "TurningMilkModel" "stack" "[J" ∈ gw := kc_6 206 rfl rfl
theorem kw_1408 : Cond.lays "TurningMilkModel" "TurningMilkModel" "top" "I" ∈ gw := kc_6 208 rfl rfl
theorem kw_1410 : Cond.laysFinal "TurningMilkModel" "TurningMilkModel" "word" "[J" ∈ gw := kc_6 210 rfl rfl
theorem kw_1412 : Cond.laysFinal "TurningMilkModel" "TurningMilkModel" "said" "[I" ∈ gw := kc_6 212 rfl rfl
theorem kw_1414 : Cond.lays "TurningMilkModel" "TurningMilkModel" "force" "I" ∈ gw := kc_6 214 rfl rfl
theorem kw_1416 : Cond.lays "TurningMilkModel" "TurningMilkModel" "x" "I" ∈ gw := kc_6 216 rfl rfl
theorem kw_1418 : Cond.lays "TurningMilkModel" "TurningMilkModel" "isIced" "Z" ∈ gw := kc_6 218 rfl rfl
theorem kw_1420 : Cond.laysFinal "TurningMilkModel" "TurningMilkModel" "wasSaid" "[I" ∈ gw := kc_6 220 rfl rfl
theorem kw_1422 : Cond.lays "TurningMilkModel" "TurningMilkModel" "undone" "I" ∈ gw := kc_6 222 rfl rfl
theorem kw_1424 : Cond.laysFinal "TurningMilkModel" "TurningMilkModel" "kept" "[I" ∈ gw := kc_6 224 rfl rfl
theorem kw_1426 : Cond.laysFinal "TurningMilkModel" "TurningMilkModel" "hoursTo" "[I" ∈ gw := kc_6 226 rfl rfl
theorem kw_1428 : Cond.laysFinal "TurningMilkModel" "TurningMilkModel" "roadHours" "[I" ∈ gw := kc_6 228 rfl rfl
theorem kw_1430 : Cond.lays "TurningMilkModel" "TurningMilkModel" "roadMany" "I" ∈ gw := kc_6 230 rfl rfl
theorem kw_1432 : Cond.laysFinal "TurningMilkModel" "TurningMilkModel" "probed" "[I" ∈ gw := kc_6 232 rfl rfl
theorem kw_1434 : Cond.laysFinal "TurningMilkModel" "TurningMilkModel" "rowsOf" "[I" ∈ gw := kc_6 234 rfl rfl
theorem kw_1436 : Cond.laysFinal "TurningMilkModel" "TurningMilkModel" "hasRow" "[Z" ∈ gw := kc_6 236 rfl rfl
theorem kw_1438 : Cond.lays "TurningMilkModel" "TurningMilkModel" "drawX" "J" ∈ gw := kc_6 238 rfl rfl
theorem kw_1440 : Cond.laysFinal "TurningMilkModel" "TurningMilkModel" "images" "[I" ∈ gw := kc_7 0 rfl rfl
theorem kw_1442 : Cond.laysFinal "TurningMilkModel" "TurningMilkModel" "imageForce" "[I" ∈ gw := kc_7 2 rfl rfl
theorem kw_1444 : Cond.laysFinal "TurningMilkModel" "TurningMilkModel" "imageX" "[I" ∈ gw := kc_7 4 rfl rfl
theorem kw_1446 : Cond.laysFinal "TurningMilkModel" "TurningMilkModel" "isMade" "[Z" ∈ gw := kc_7 6 rfl rfl
theorem kw_1449 : Cond.arrayClass FieldType.boolean ∈ gw := kc_7 9 rfl rfl
theorem kw_1450 : Cond.methodLink RL 17 yX12_feed ∈ gw := kc_7 10 rfl rfl
theorem kw_1451 : Cond.instanceMethod yX12_feed ∈ gw := kc_7 11 rfl rfl
theorem kw_1452 : Cond.selects RX12 yX12_feed yX12_feed ∈ gw := kc_7 12 rfl rfl
theorem kw_1453 : Cond.code yX12_feed cX12_feed 6 (Option.some FieldType.int) ∈ gw := kc_7 13 rfl rfl
theorem kw_1454 : Cond.methodLink RX12 83 yX12_four ∈ gw := kc_7 14 rfl rfl
theorem kw_1456 : Cond.instanceMethod yX12_four ∈ gw := kc_7 16 rfl rfl
theorem kw_1457 : Cond.code yX12_four cX12_four 3 (Option.none : Option FieldType) ∈ gw := kc_7 17 rfl rfl
theorem kw_1458 : Cond.methodLink RL 22 yX12_end ∈ gw := kc_7 18 rfl rfl
theorem kw_1459 : Cond.instanceMethod yX12_end ∈ gw := kc_7 19 rfl rfl
theorem kw_1460 : Cond.selects RX12 yX12_end yX12_end ∈ gw := kc_7 20 rfl rfl
theorem kw_1461 : Cond.code yX12_end cX12_end 2 (Option.some FieldType.int) ∈ gw := kc_7 21 rfl rfl
theorem kw_1462 : Cond.methodLink RL 31 yX12_rule ∈ gw := kc_7 22 rfl rfl
theorem kw_1463 : Cond.instanceMethod yX12_rule ∈ gw := kc_7 23 rfl rfl
theorem kw_1464 : Cond.selects RX12 yX12_rule yX12_rule ∈ gw := kc_7 24 rfl rfl
theorem kw_1465 : Cond.code yX12_rule cX12_rule 1 (Option.some FieldType.int) ∈ gw := kc_7 25 rfl rfl
theorem kw_1466 : Cond.methodLink RX12 263 yX12_readsAll ∈ gw := kc_7 26 rfl rfl
theorem kw_1468 : Cond.instanceMethod yX12_readsAll ∈ gw := kc_7 28 rfl rfl
theorem kw_1469 : Cond.code yX12_readsAll cX12_readsAll 2 (Option.some FieldType.boolean) ∈ gw := kc_7 29 rfl rfl
theorem kw_1470 : Cond.methodLink RX12 257 yX12_clauseHere ∈ gw := kc_7 30 rfl rfl
theorem kw_1472 : Cond.instanceMethod yX12_clauseHere ∈ gw := kc_7 32 rfl rfl
theorem kw_1473 : Cond.code yX12_clauseHere cX12_clauseHere 3 (Option.some FieldType.boolean) ∈ gw := kc_7 33 rfl rfl
theorem kw_1474 : Cond.methodLink RX12 93 yX12_see ∈ gw := kc_7 34 rfl rfl
theorem kw_1476 : Cond.instanceMethod yX12_see ∈ gw := kc_7 36 rfl rfl
theorem kw_1477 : Cond.code yX12_see cX12_see 1 (Option.some FieldType.int) ∈ gw := kc_7 37 rfl rfl
theorem kw_1478 : Cond.methodLink RX12 243 yX12_isDairyWord ∈ gw := kc_7 38 rfl rfl
theorem kw_1480 : Cond.instanceMethod yX12_isDairyWord ∈ gw := kc_7 40 rfl rfl
theorem kw_1481 : Cond.code yX12_isDairyWord cX12_isDairyWord 1 (Option.some FieldType.boolean) ∈ gw := kc_7 41 rfl rfl
theorem kw_1482 : Cond.constantLong RX12 221 (431131030137 : Int64) ∈ gw := kc_7 42 rfl rfl
theorem kw_1483 : Cond.methodLink RX12 101 yX12_isWord ∈ gw := kc_7 43 rfl rfl
theorem kw_1485 : Cond.instanceMethod yX12_isWord ∈ gw := kc_7 45 rfl rfl
theorem kw_1486 : Cond.code yX12_isWord cX12_isWord 6 (Option.some FieldType.boolean) ∈ gw := kc_7 46 rfl rfl
theorem kw_1487 : Cond.methodLink RX12 97 yX12_isLetter ∈ gw := kc_7 47 rfl rfl
theorem kw_1489 : Cond.instanceMethod yX12_isLetter ∈ gw := kc_7 49 rfl rfl
theorem kw_1490 : Cond.code yX12_isLetter cX12_isLetter 2 (Option.some FieldType.boolean) ∈ gw := kc_7 50 rfl rfl
theorem kw_1491 : Cond.constantLong RX12 136 (1919902052 : Int64) ∈ gw := kc_7 51 rfl rfl
theorem kw_1492 : Cond.constantLong RX12 122 (1751215716 : Int64) ∈ gw := kc_7 52 rfl rfl
theorem kw_1493 : Cond.constantLong RX12 128 (6976871 : Int64) ∈ gw := kc_7 53 rfl rfl
theorem kw_1494 : Cond.constantLong RX12 132 (1751474548 : Int64) ∈ gw := kc_7 54 rfl rfl
theorem kw_1495 : Cond.constantLong RX12 241 (2002873972 : Int64) ∈ gw := kc_7 55 rfl rfl
theorem kw_1496 : Cond.constantLong RX12 246 (1953854062 : Int64) ∈ gw := kc_7 56 rfl rfl
theorem kw_1497 : Cond.methodLink RX12 111 yX12_fails ∈ gw := kc_7 57 rfl rfl
theorem kw_1499 : Cond.instanceMethod yX12_fails ∈ gw := kc_7 59 rfl rfl
theorem kw_1500 : Cond.code yX12_fails cX12_fails 3 (Option.some FieldType.boolean) ∈ gw := kc_7 60 rfl rfl
theorem kw_1501 : Cond.methodLink RX12 251 yX12_dairyLineHere ∈ gw := kc_7 61 rfl rfl
theorem kw_1503 : Cond.instanceMethod yX12_dairyLineHere ∈ gw := kc_7 63 rfl rfl
theorem kw_1504 : Cond.code yX12_dairyLineHere cX12_dairyLineHere 2 (Option.some FieldType.boolean) ∈ gw := kc_7 64 rfl rfl
theorem kw_1505 : Cond.methodLink RX12 223 yX12_isDairyHere ∈ gw := kc_7 65 rfl rfl
theorem kw_1507 : Cond.instanceMethod yX12_isDairyHere ∈ gw := kc_7 67 rfl rfl
theorem kw_1508 : Cond.code yX12_isDairyHere cX12_isDairyHere 3 (Option.some FieldType.boolean) ∈ gw := kc_7 68 rfl rfl
theorem kw_1509 : Cond.methodLink RX12 105 yX12_passWord ∈ gw := kc_7 69 rfl rfl
theorem kw_1511 : Cond.instanceMethod yX12_passWord ∈ gw := kc_7 71 rfl rfl
theorem kw_1512 : Cond.code yX12_passWord cX12_passWord 1 (Option.none : Option FieldType) ∈ gw := kc_7 72 rfl rfl
theorem kw_1513 : Cond.methodLink RX12 163 yX12_numberHere ∈ gw := kc_7 73 rfl rfl
theorem kw_1515 : Cond.instanceMethod yX12_numberHere ∈ gw := kc_7 75 rfl rfl
theorem kw_1516 : Cond.code yX12_numberHere cX12_numberHere 5 (Option.some FieldType.boolean) ∈ gw := kc_7 76 rfl rfl
theorem kw_1517 : Cond.methodLink RX12 108 yX12_isDigit ∈ gw := kc_7 77 rfl rfl
theorem kw_1519 : Cond.instanceMethod yX12_isDigit ∈ gw := kc_7 79 rfl rfl
theorem kw_1520 : Cond.code yX12_isDigit cX12_isDigit 2 (Option.some FieldType.boolean) ∈ gw := kc_7 80 rfl rfl
theorem kw_1521 : Cond.methodLink RX12 118 yX12_in ∈ gw := kc_7 81 rfl rfl
theorem kw_1522 : Cond.static yX12_in ∈ gw := kc_7 82 rfl rfl
theorem kw_1523 : Cond.code yX12_in cX12_in 6 (Option.some FieldType.boolean) ∈ gw := kc_7 83 rfl rfl
theorem kw_1524 : Cond.methodLink RX12 214 yX12_cellHere ∈ gw := kc_7 84 rfl rfl
theorem kw_1526 : Cond.instanceMethod yX12_cellHere ∈ gw := kc_7 86 rfl rfl
theorem kw_1527 : Cond.code yX12_cellHere cX12_cellHere 4 (Option.some FieldType.boolean) ∈ gw := kc_7 87 rfl rfl
theorem kw_1528 : Cond.methodLink RX12 226 yX12_isRoadHere ∈ gw := kc_7 88 rfl rfl
theorem kw_1530 : Cond.instanceMethod yX12_isRoadHere ∈ gw := kc_7 90 rfl rfl
theorem kw_1531 : Cond.code yX12_isRoadHere cX12_isRoadHere 4 (Option.some FieldType.boolean) ∈ gw := kc_7 91 rfl rfl
theorem kw_1532 : Cond.methodLink RX12 218 yX12_isRoadTold ∈ gw := kc_7 92 rfl rfl
theorem kw_1534 : Cond.instanceMethod yX12_isRoadTold ∈ gw := kc_7 94 rfl rfl
theorem kw_1535 : Cond.code yX12_isRoadTold cX12_isRoadTold 5 (Option.some FieldType.boolean) ∈ gw := kc_7 95 rfl rfl
theorem kw_1536 : Cond.methodLink RX12 229 yX12_isHandHere ∈ gw := kc_7 96 rfl rfl
theorem kw_1538 : Cond.instanceMethod yX12_isHandHere ∈ gw := kc_7 98 rfl rfl
theorem kw_1539 : Cond.code yX12_isHandHere cX12_isHandHere 3 (Option.some FieldType.boolean) ∈ gw := kc_7 99 rfl rfl
theorem kw_1540 : Cond.methodLink RX12 232 yX12_isJugHere ∈ gw := kc_7 100 rfl rfl
theorem kw_1542 : Cond.instanceMethod yX12_isJugHere ∈ gw := kc_7 102 rfl rfl
theorem kw_1543 : Cond.code yX12_isJugHere cX12_isJugHere 3 (Option.some FieldType.boolean) ∈ gw := kc_7 103 rfl rfl
theorem kw_1544 : Cond.methodLink RX12 235 yX12_isHeatHere ∈ gw := kc_7 104 rfl rfl
theorem kw_1546 : Cond.instanceMethod yX12_isHeatHere ∈ gw := kc_7 106 rfl rfl
theorem kw_1547 : Cond.code yX12_isHeatHere cX12_isHeatHere 3 (Option.some FieldType.boolean) ∈ gw := kc_7 107 rfl rfl
theorem kw_1548 : Cond.methodLink RX12 238 yX12_isWantHere ∈ gw := kc_7 108 rfl rfl
theorem kw_1550 : Cond.instanceMethod yX12_isWantHere ∈ gw := kc_7 110 rfl rfl
theorem kw_1551 : Cond.code yX12_isWantHere cX12_isWantHere 3 (Option.some FieldType.boolean) ∈ gw := kc_7 111 rfl rfl
theorem kw_1552 : Cond.methodLink RX12 254 yX12_isTurnHere ∈ gw := kc_7 112 rfl rfl
theorem kw_1554 : Cond.instanceMethod yX12_isTurnHere ∈ gw := kc_7 114 rfl rfl
theorem kw_1555 : Cond.code yX12_isTurnHere cX12_isTurnHere 2 (Option.some FieldType.boolean) ∈ gw := kc_7 115 rfl rfl
theorem kw_1556 : Cond.methodLink RX12 179 yX12_sum ∈ gw := kc_7 116 rfl rfl
theorem kw_1558 : Cond.instanceMethod yX12_sum ∈ gw := kc_7 118 rfl rfl
theorem kw_1559 : Cond.code yX12_sum cX12_sum 2 (Option.some FieldType.boolean) ∈ gw := kc_7 119 rfl rfl
theorem kw_1560 : Cond.methodLink RX12 176 yX12_term ∈ gw := kc_7 120 rfl rfl
theorem kw_1562 : Cond.instanceMethod yX12_term ∈ gw := kc_7 122 rfl rfl
theorem kw_1563 : Cond.code yX12_term cX12_term 2 (Option.some FieldType.boolean) ∈ gw := kc_7 123 rfl rfl
theorem kw_1564 : Cond.methodLink RX12 172 yX12_value ∈ gw := kc_7 124 rfl rfl
theorem kw_1566 : Cond.instanceMethod yX12_value ∈ gw := kc_7 126 rfl rfl
theorem kw_1567 : Cond.code yX12_value cX12_value 3 (Option.some FieldType.boolean) ∈ gw := kc_7 127 rfl rfl
theorem kw_1568 : Cond.constant RX12 162 (99999 : Int32) ∈ gw := kc_7 128 rfl rfl
theorem kw_1569 : Cond.methodLink RX12 166 yX12_makes ∈ gw := kc_7 129 rfl rfl
theorem kw_1571 : Cond.instanceMethod yX12_makes ∈ gw := kc_7 131 rfl rfl
theorem kw_1572 : Cond.code yX12_makes cX12_makes 2 (Option.some FieldType.boolean) ∈ gw := kc_7 132 rfl rfl
theorem kw_1573 : Cond.methodLink RX12 158 yX12_puts ∈ gw := kc_7 133 rfl rfl
theorem kw_1575 : Cond.instanceMethod yX12_puts ∈ gw := kc_7 135 rfl rfl
theorem kw_1576 : Cond.code yX12_puts cX12_puts 3 (Option.none : Option FieldType) ∈ gw := kc_7 136 rfl rfl
theorem kw_1577 : Cond.methodLink RX12 169 yX12_wordHere ∈ gw := kc_7 137 rfl rfl
theorem kw_1579 : Cond.instanceMethod yX12_wordHere ∈ gw := kc_7 139 rfl rfl
theorem kw_1580 : Cond.code yX12_wordHere cX12_wordHere 1 (Option.some FieldType.int) ∈ gw := kc_7 140 rfl rfl
theorem kw_1581 : Cond.constantLong RX12 124 (495806932324 : Int64) ∈ gw := kc_7 141 rfl rfl
theorem kw_1582 : Cond.constantLong RX12 126 (499985311076 : Int64) ∈ gw := kc_7 142 rfl rfl
theorem kw_1583 : Cond.constantLong RX12 130 (128047779833188 : Int64) ∈ gw := kc_7 143 rfl rfl
theorem kw_1584 : Cond.constantLong RX12 134 (1752135026 : Int64) ∈ gw := kc_7 144 rfl rfl
theorem kw_1585 : Cond.constantLong RX12 138 (1751477348 : Int64) ∈ gw := kc_7 145 rfl rfl
theorem kw_1586 : Cond.constantLong RX12 140 (1936684402 : Int64) ∈ gw := kc_7 146 rfl rfl
theorem kw_1587 : Cond.constantLong RX12 206 (26982 : Int64) ∈ gw := kc_7 147 rfl rfl
theorem kw_1588 : Cond.methodLink RX12 208 yX12_takesWord ∈ gw := kc_7 148 rfl rfl
theorem kw_1590 : Cond.instanceMethod yX12_takesWord ∈ gw := kc_7 150 rfl rfl
theorem kw_1591 : Cond.code yX12_takesWord cX12_takesWord 3 (Option.some FieldType.boolean) ∈ gw := kc_7 151 rfl rfl
theorem kw_1592 : Cond.methodLink RX12 211 yX12_tested ∈ gw := kc_7 152 rfl rfl
theorem kw_1594 : Cond.instanceMethod yX12_tested ∈ gw := kc_7 154 rfl rfl
theorem kw_1595 : Cond.code yX12_tested cX12_tested 3 (Option.some FieldType.boolean) ∈ gw := kc_7 155 rfl rfl
theorem kw_1596 : Cond.methodLink RX12 196 yX12_fact ∈ gw := kc_7 156 rfl rfl
theorem kw_1598 : Cond.instanceMethod yX12_fact ∈ gw := kc_7 158 rfl rfl
theorem kw_1599 : Cond.code yX12_fact cX12_fact 3 (Option.some FieldType.boolean) ∈ gw := kc_7 159 rfl rfl
theorem kw_1600 : Cond.constantLong RX12 182 (7237492 : Int64) ∈ gw := kc_7 160 rfl rfl
theorem kw_1601 : Cond.methodLink RX12 184 yX12_opens ∈ gw := kc_7 161 rfl rfl
theorem kw_1603 : Cond.instanceMethod yX12_opens ∈ gw := kc_7 163 rfl rfl
theorem kw_1604 : Cond.code yX12_opens cX12_opens 2 (Option.some FieldType.boolean) ∈ gw := kc_7 164 rfl rfl
theorem kw_1605 : Cond.methodLink RX12 187 yX12_compare ∈ gw := kc_7 165 rfl rfl
theorem kw_1607 : Cond.instanceMethod yX12_compare ∈ gw := kc_7 167 rfl rfl
theorem kw_1608 : Cond.code yX12_compare cX12_compare 5 (Option.some FieldType.boolean) ∈ gw := kc_7 168 rfl rfl
theorem kw_1609 : Cond.methodLink RX12 199 yX12_closes ∈ gw := kc_7 169 rfl rfl
theorem kw_1611 : Cond.instanceMethod yX12_closes ∈ gw := kc_7 171 rfl rfl
theorem kw_1612 : Cond.code yX12_closes cX12_closes 1 (Option.none : Option FieldType) ∈ gw := kc_7 172 rfl rfl
theorem kw_1613 : Cond.methodLink RX12 190 yX12_settles ∈ gw := kc_7 173 rfl rfl
theorem kw_1615 : Cond.instanceMethod yX12_settles ∈ gw := kc_7 175 rfl rfl
theorem kw_1616 : Cond.code yX12_settles cX12_settles 2 (Option.none : Option FieldType) ∈ gw := kc_7 176 rfl rfl
theorem kw_1617 : Cond.methodLink RX12 154 yX12_strength ∈ gw := kc_7 177 rfl rfl
theorem kw_1618 : Cond.static yX12_strength ∈ gw := kc_7 178 rfl rfl
theorem kw_1619 : Cond.code yX12_strength cX12_strength 1 (Option.some FieldType.int) ∈ gw := kc_7 179 rfl rfl
theorem kw_1620 : Cond.methodLink RX12 193 yX12_isInside ∈ gw := kc_7 180 rfl rfl
theorem kw_1622 : Cond.instanceMethod yX12_isInside ∈ gw := kc_7 182 rfl rfl
theorem kw_1623 : Cond.code yX12_isInside cX12_isInside 2 (Option.some FieldType.boolean) ∈ gw := kc_7 183 rfl rfl
theorem kw_1624 : Cond.constantLong RX12 202 (6385252 : Int64) ∈ gw := kc_7 184 rfl rfl
theorem kw_1625 : Cond.constantLong RX12 204 (28530 : Int64) ∈ gw := kc_7 185 rfl rfl
theorem kw_1626 : Cond.methodLink RL 27 yX12_dairy ∈ gw := kc_7 186 rfl rfl
theorem kw_1627 : Cond.instanceMethod yX12_dairy ∈ gw := kc_7 187 rfl rfl
theorem kw_1628 : Cond.selects RX12 yX12_dairy yX12_dairy ∈ gw := kc_7 188 rfl rfl
theorem kw_1629 : Cond.code yX12_dairy cX12_dairy 2 (Option.some FieldType.int) ∈ gw := kc_7 189 rfl rfl
theorem kw_1630 : Cond.methodLink RL 35 yX12_force ∈ gw := kc_7 190 rfl rfl
theorem kw_1631 : Cond.instanceMethod yX12_force ∈ gw := kc_7 191 rfl rfl
theorem kw_1632 : Cond.selects RX12 yX12_force yX12_force ∈ gw := kc_7 192 rfl rfl
theorem kw_1633 : Cond.code yX12_force cX12_force 3 (Option.some FieldType.int) ∈ gw := kc_7 193 rfl rfl
theorem kw_1634 : Cond.methodLink RX12 298 yX12_isRule ∈ gw := kc_7 194 rfl rfl
theorem kw_1636 : Cond.instanceMethod yX12_isRule ∈ gw := kc_7 196 rfl rfl
theorem kw_1637 : Cond.code yX12_isRule cX12_isRule 2 (Option.some FieldType.boolean) ∈ gw := kc_7 197 rfl rfl
theorem kw_1638 : Cond.methodLink RL 40 yX12_hand ∈ gw := kc_7 198 rfl rfl
theorem kw_1639 : Cond.instanceMethod yX12_hand ∈ gw := kc_7 199 rfl rfl
theorem kw_1640 : Cond.selects RX12 yX12_hand yX12_hand ∈ gw := kc_7 200 rfl rfl
theorem kw_1641 : Cond.code yX12_hand cX12_hand 3 (Option.some FieldType.int) ∈ gw := kc_7 201 rfl rfl
theorem kw_1642 : Cond.methodLink RX12 301 yX12_isHand ∈ gw := kc_7 202 rfl rfl
theorem kw_1644 : Cond.instanceMethod yX12_isHand ∈ gw := kc_7 204 rfl rfl
theorem kw_1645 : Cond.code yX12_isHand cX12_isHand 2 (Option.some FieldType.boolean) ∈ gw := kc_7 205 rfl rfl
theorem kw_1646 : Cond.constantLong RX12 304 (5 : Int64) ∈ gw := kc_7 206 rfl rfl
theorem kw_1647 : Cond.methodLink RX12 306 yX12_handOf ∈ gw := kc_7 207 rfl rfl
theorem kw_1649 : Cond.instanceMethod yX12_handOf ∈ gw := kc_7 209 rfl rfl
theorem kw_1650 : Cond.code yX12_handOf cX12_handOf 3 (Option.some FieldType.int) ∈ gw := kc_7 210 rfl rfl
theorem kw_1651 : Cond.methodLink RX12 309 yX12_held ∈ gw := kc_7 211 rfl rfl
theorem kw_1653 : Cond.instanceMethod yX12_held ∈ gw := kc_7 213 rfl rfl
theorem kw_1654 : Cond.code yX12_held cX12_held 4 (Option.some FieldType.int) ∈ gw := kc_7 214 rfl rfl
theorem kw_1655 : Cond.methodLink RX12 284 yX12_jugOf ∈ gw := kc_7 215 rfl rfl
theorem kw_1657 : Cond.instanceMethod yX12_jugOf ∈ gw := kc_7 217 rfl rfl
theorem kw_1658 : Cond.code yX12_jugOf cX12_jugOf 3 (Option.some FieldType.int) ∈ gw := kc_7 218 rfl rfl
theorem kw_1659 : Cond.methodLink RL 44 yX12_jug ∈ gw := kc_7 219 rfl rfl
theorem kw_1660 : Cond.instanceMethod yX12_jug ∈ gw := kc_7 220 rfl rfl
theorem kw_1661 : Cond.selects RX12 yX12_jug yX12_jug ∈ gw := kc_7 221 rfl rfl
theorem kw_1662 : Cond.code yX12_jug cX12_jug 3 (Option.some FieldType.int) ∈ gw := kc_7 222 rfl rfl
theorem kw_1663 : Cond.methodLink RX12 312 yX12_isJug ∈ gw := kc_7 223 rfl rfl
theorem kw_1665 : Cond.instanceMethod yX12_isJug ∈ gw := kc_7 225 rfl rfl
theorem kw_1666 : Cond.code yX12_isJug cX12_isJug 2 (Option.some FieldType.boolean) ∈ gw := kc_7 226 rfl rfl
theorem kw_1667 : Cond.methodLink RX12 292 yX12_stands ∈ gw := kc_7 227 rfl rfl
theorem kw_1669 : Cond.instanceMethod yX12_stands ∈ gw := kc_7 229 rfl rfl
theorem kw_1670 : Cond.code yX12_stands cX12_stands 2 (Option.some FieldType.boolean) ∈ gw := kc_7 230 rfl rfl
theorem kw_1671 : Cond.methodLink RL 48 yX12_want ∈ gw := kc_7 231 rfl rfl
theorem kw_1672 : Cond.instanceMethod yX12_want ∈ gw := kc_7 232 rfl rfl
theorem kw_1673 : Cond.selects RX12 yX12_want yX12_want ∈ gw := kc_7 233 rfl rfl
theorem kw_1674 : Cond.code yX12_want cX12_want 3 (Option.some FieldType.int) ∈ gw := kc_7 234 rfl rfl
theorem kw_1675 : Cond.methodLink RX12 315 yX12_isWant ∈ gw := kc_7 235 rfl rfl
theorem kw_1677 : Cond.instanceMethod yX12_isWant ∈ gw := kc_7 237 rfl rfl
theorem kw_1678 : Cond.code yX12_isWant cX12_isWant 2 (Option.some FieldType.boolean) ∈ gw := kc_7 238 rfl rfl
theorem kw_1679 : Cond.methodLink RX12 295 yX12_wantOf ∈ gw := kc_7 239 rfl rfl
theorem kw_1681 : Cond.instanceMethod yX12_wantOf ∈ gw := kc_8 1 rfl rfl
theorem kw_1682 : Cond.code yX12_wantOf cX12_wantOf 3 (Option.some FieldType.int) ∈ gw := kc_8 2 rfl rfl
theorem kw_1683 : Cond.methodLink RX12 318 yX12_firstFor ∈ gw := kc_8 3 rfl rfl
theorem kw_1685 : Cond.instanceMethod yX12_firstFor ∈ gw := kc_8 5 rfl rfl
theorem kw_1686 : Cond.code yX12_firstFor cX12_firstFor 3 (Option.some FieldType.int) ∈ gw := kc_8 6 rfl rfl
theorem kw_1687 : Cond.methodLink RL 76 yX12_undo ∈ gw := kc_8 7 rfl rfl
theorem kw_1688 : Cond.instanceMethod yX12_undo ∈ gw := kc_8 8 rfl rfl
theorem kw_1689 : Cond.selects RX12 yX12_undo yX12_undo ∈ gw := kc_8 9 rfl rfl
theorem kw_1690 : Cond.code yX12_undo cX12_undo 2 (Option.some FieldType.int) ∈ gw := kc_8 10 rfl rfl
theorem kw_1691 : Cond.methodLink RL 52 yX12_hour ∈ gw := kc_8 11 rfl rfl
theorem kw_1692 : Cond.instanceMethod yX12_hour ∈ gw := kc_8 12 rfl rfl
theorem kw_1693 : Cond.selects RX12 yX12_hour yX12_hour ∈ gw := kc_8 13 rfl rfl
theorem kw_1694 : Cond.code yX12_hour cX12_hour 1 (Option.some FieldType.int) ∈ gw := kc_8 14 rfl rfl
theorem kw_1695 : Cond.methodLink RX12 350 yX12_isDairy ∈ gw := kc_8 15 rfl rfl
theorem kw_1697 : Cond.instanceMethod yX12_isDairy ∈ gw := kc_8 17 rfl rfl
theorem kw_1698 : Cond.code yX12_isDairy cX12_isDairy 1 (Option.some FieldType.boolean) ∈ gw := kc_8 18 rfl rfl
theorem kw_1699 : Cond.methodLink RX12 353 yX12_keepsAct ∈ gw := kc_8 19 rfl rfl
theorem kw_1701 : Cond.instanceMethod yX12_keepsAct ∈ gw := kc_8 21 rfl rfl
theorem kw_1702 : Cond.code yX12_keepsAct cX12_keepsAct 2 (Option.none : Option FieldType) ∈ gw := kc_8 22 rfl rfl
theorem kw_1703 : Cond.methodLink RX12 356 yX12_passes ∈ gw := kc_8 23 rfl rfl
theorem kw_1705 : Cond.instanceMethod yX12_passes ∈ gw := kc_8 25 rfl rfl
theorem kw_1706 : Cond.code yX12_passes cX12_passes 5 (Option.some FieldType.int) ∈ gw := kc_8 26 rfl rfl
theorem kw_1707 : Cond.methodLink RX12 347 yX12_turns ∈ gw := kc_8 27 rfl rfl
theorem kw_1709 : Cond.instanceMethod yX12_turns ∈ gw := kc_8 29 rfl rfl
theorem kw_1710 : Cond.code yX12_turns cX12_turns 5 (Option.none : Option FieldType) ∈ gw := kc_8 30 rfl rfl
theorem kw_1711 : Cond.methodLink RX12 325 yX12_heatIn ∈ gw := kc_8 31 rfl rfl
theorem kw_1713 : Cond.instanceMethod yX12_heatIn ∈ gw := kc_8 33 rfl rfl
theorem kw_1714 : Cond.code yX12_heatIn cX12_heatIn 5 (Option.some FieldType.int) ∈ gw := kc_8 34 rfl rfl
theorem kw_1715 : Cond.methodLink RX12 344 yX12_bits ∈ gw := kc_8 35 rfl rfl
theorem kw_1716 : Cond.static yX12_bits ∈ gw := kc_8 36 rfl rfl
theorem kw_1717 : Cond.code yX12_bits cX12_bits 3 (Option.some FieldType.int) ∈ gw := kc_8 37 rfl rfl
theorem kw_1718 : Cond.methodLink RX12 337 yX12_turnsIn ∈ gw := kc_8 38 rfl rfl
theorem kw_1720 : Cond.instanceMethod yX12_turnsIn ∈ gw := kc_8 40 rfl rfl
theorem kw_1721 : Cond.code yX12_turnsIn cX12_turnsIn 11 (Option.some FieldType.int) ∈ gw := kc_8 41 rfl rfl
theorem kw_1722 : Cond.methodLink RX12 328 yX12_summedBy ∈ gw := kc_8 42 rfl rfl
theorem kw_1724 : Cond.instanceMethod yX12_summedBy ∈ gw := kc_8 44 rfl rfl
theorem kw_1725 : Cond.code yX12_summedBy cX12_summedBy 4 (Option.some FieldType.long) ∈ gw := kc_8 45 rfl rfl
theorem kw_1726 : Cond.methodLink RX12 321 yX12_reckons ∈ gw := kc_8 46 rfl rfl
theorem kw_1728 : Cond.instanceMethod yX12_reckons ∈ gw := kc_8 48 rfl rfl
theorem kw_1729 : Cond.code yX12_reckons cX12_reckons 11 (Option.some FieldType.long) ∈ gw := kc_8 49 rfl rfl
theorem kw_1730 : Cond.methodLink RX12 272 yX12_push ∈ gw := kc_8 50 rfl rfl
theorem kw_1732 : Cond.instanceMethod yX12_push ∈ gw := kc_8 52 rfl rfl
theorem kw_1733 : Cond.code yX12_push cX12_push 3 (Option.none : Option FieldType) ∈ gw := kc_8 53 rfl rfl
theorem kw_1734 : Cond.methodLink RX12 276 yX12_pop ∈ gw := kc_8 54 rfl rfl
theorem kw_1736 : Cond.instanceMethod yX12_pop ∈ gw := kc_8 56 rfl rfl
theorem kw_1737 : Cond.code yX12_pop cX12_pop 1 (Option.some FieldType.long) ∈ gw := kc_8 57 rfl rfl
theorem kw_1738 : Cond.methodLink RX12 280 yX12_one ∈ gw := kc_8 58 rfl rfl
theorem kw_1739 : Cond.static yX12_one ∈ gw := kc_8 59 rfl rfl
theorem kw_1740 : Cond.code yX12_one cX12_one 5 (Option.some FieldType.long) ∈ gw := kc_8 60 rfl rfl
end
section
theorem kw_1741 : Cond.constantLong RX12 332 (50 : Int64) ∈ gw := kc_8 61 rfl rfl
theorem kw_1742 : Cond.methodLink RX12 334 yX12_atMost ∈ gw := kc_8 62 rfl rfl
theorem kw_1743 : Cond.static yX12_atMost ∈ gw := kc_8 63 rfl rfl
theorem kw_1744 : Cond.code yX12_atMost cX12_atMost 2 (Option.some FieldType.int) ∈ gw := kc_8 64 rfl rfl
theorem kw_1745 : Cond.methodLink RX12 341 yX12_moreTired ∈ gw := kc_8 65 rfl rfl
theorem kw_1747 : Cond.instanceMethod yX12_moreTired ∈ gw := kc_8 67 rfl rfl
theorem kw_1748 : Cond.code yX12_moreTired cX12_moreTired 3 (Option.some FieldType.int) ∈ gw := kc_8 68 rfl rfl
theorem kw_1749 : Cond.methodLink RL 56 yX12_take ∈ gw := kc_8 69 rfl rfl
theorem kw_1750 : Cond.instanceMethod yX12_take ∈ gw := kc_8 70 rfl rfl
theorem kw_1751 : Cond.selects RX12 yX12_take yX12_take ∈ gw := kc_8 71 rfl rfl
theorem kw_1752 : Cond.code yX12_take cX12_take 3 (Option.some FieldType.int) ∈ gw := kc_8 72 rfl rfl
theorem kw_1753 : Cond.methodLink RX12 362 yX12_canTake ∈ gw := kc_8 73 rfl rfl
theorem kw_1755 : Cond.instanceMethod yX12_canTake ∈ gw := kc_8 75 rfl rfl
theorem kw_1756 : Cond.code yX12_canTake cX12_canTake 3 (Option.some FieldType.boolean) ∈ gw := kc_8 76 rfl rfl
theorem kw_1757 : Cond.methodLink RX12 359 yX12_isAtPlace ∈ gw := kc_8 77 rfl rfl
theorem kw_1759 : Cond.instanceMethod yX12_isAtPlace ∈ gw := kc_8 79 rfl rfl
theorem kw_1760 : Cond.code yX12_isAtPlace cX12_isAtPlace 2 (Option.some FieldType.boolean) ∈ gw := kc_8 80 rfl rfl
theorem kw_1761 : Cond.methodLink RX12 365 yX12_takes ∈ gw := kc_8 81 rfl rfl
theorem kw_1763 : Cond.instanceMethod yX12_takes ∈ gw := kc_8 83 rfl rfl
theorem kw_1764 : Cond.code yX12_takes cX12_takes 3 (Option.none : Option FieldType) ∈ gw := kc_8 84 rfl rfl
theorem kw_1765 : Cond.methodLink RL 60 yX12_put ∈ gw := kc_8 85 rfl rfl
theorem kw_1766 : Cond.instanceMethod yX12_put ∈ gw := kc_8 86 rfl rfl
theorem kw_1767 : Cond.selects RX12 yX12_put yX12_put ∈ gw := kc_8 87 rfl rfl
theorem kw_1768 : Cond.code yX12_put cX12_put 3 (Option.some FieldType.int) ∈ gw := kc_8 88 rfl rfl
theorem kw_1769 : Cond.methodLink RL 64 yX12_handOn ∈ gw := kc_8 89 rfl rfl
theorem kw_1770 : Cond.instanceMethod yX12_handOn ∈ gw := kc_8 90 rfl rfl
theorem kw_1771 : Cond.selects RX12 yX12_handOn yX12_handOn ∈ gw := kc_8 91 rfl rfl
theorem kw_1772 : Cond.code yX12_handOn cX12_handOn 4 (Option.some FieldType.int) ∈ gw := kc_8 92 rfl rfl
theorem kw_1773 : Cond.methodLink RL 68 yX12_go ∈ gw := kc_8 93 rfl rfl
theorem kw_1774 : Cond.instanceMethod yX12_go ∈ gw := kc_8 94 rfl rfl
theorem kw_1775 : Cond.selects RX12 yX12_go yX12_go ∈ gw := kc_8 95 rfl rfl
theorem kw_1776 : Cond.code yX12_go cX12_go 3 (Option.some FieldType.int) ∈ gw := kc_8 96 rfl rfl
theorem kw_1777 : Cond.methodLink RX12 371 yX12_isPlace ∈ gw := kc_8 97 rfl rfl
theorem kw_1779 : Cond.instanceMethod yX12_isPlace ∈ gw := kc_8 99 rfl rfl
theorem kw_1780 : Cond.code yX12_isPlace cX12_isPlace 2 (Option.some FieldType.boolean) ∈ gw := kc_8 100 rfl rfl
theorem kw_1781 : Cond.methodLink RX12 374 yX12_canGo ∈ gw := kc_8 101 rfl rfl
theorem kw_1783 : Cond.instanceMethod yX12_canGo ∈ gw := kc_8 103 rfl rfl
theorem kw_1784 : Cond.code yX12_canGo cX12_canGo 3 (Option.some FieldType.boolean) ∈ gw := kc_8 104 rfl rfl
theorem kw_1785 : Cond.methodLink RX12 368 yX12_roadOf ∈ gw := kc_8 105 rfl rfl
theorem kw_1787 : Cond.instanceMethod yX12_roadOf ∈ gw := kc_8 107 rfl rfl
theorem kw_1788 : Cond.code yX12_roadOf cX12_roadOf 5 (Option.some FieldType.int) ∈ gw := kc_8 108 rfl rfl
theorem kw_1789 : Cond.methodLink RX12 377 yX12_goes ∈ gw := kc_8 109 rfl rfl
theorem kw_1791 : Cond.instanceMethod yX12_goes ∈ gw := kc_8 111 rfl rfl
theorem kw_1792 : Cond.code yX12_goes cX12_goes 3 (Option.none : Option FieldType) ∈ gw := kc_8 112 rfl rfl
theorem kw_1793 : Cond.methodLink RL 72 yX12_meet ∈ gw := kc_8 113 rfl rfl
theorem kw_1794 : Cond.instanceMethod yX12_meet ∈ gw := kc_8 114 rfl rfl
theorem kw_1795 : Cond.selects RX12 yX12_meet yX12_meet ∈ gw := kc_8 115 rfl rfl
theorem kw_1796 : Cond.code yX12_meet cX12_meet 3 (Option.some FieldType.int) ∈ gw := kc_8 116 rfl rfl
theorem kw_1797 : Cond.methodLink RL 81 yX12_ahead ∈ gw := kc_8 117 rfl rfl
theorem kw_1798 : Cond.instanceMethod yX12_ahead ∈ gw := kc_8 118 rfl rfl
theorem kw_1799 : Cond.selects RX12 yX12_ahead yX12_ahead ∈ gw := kc_8 119 rfl rfl
theorem kw_1800 : Cond.code yX12_ahead cX12_ahead 5 (Option.some FieldType.int) ∈ gw := kc_8 120 rfl rfl
theorem kw_1801 : Cond.constantLong RX12 380 (100 : Int64) ∈ gw := kc_8 121 rfl rfl
theorem kw_1802 : Cond.methodLink RX12 382 yX12_keeps ∈ gw := kc_8 122 rfl rfl
theorem kw_1804 : Cond.instanceMethod yX12_keeps ∈ gw := kc_8 124 rfl rfl
theorem kw_1805 : Cond.code yX12_keeps cX12_keeps 2 (Option.none : Option FieldType) ∈ gw := kc_8 125 rfl rfl
theorem kw_1806 : Cond.methodLink RX12 385 yX12_laysBack ∈ gw := kc_8 126 rfl rfl
theorem kw_1808 : Cond.instanceMethod yX12_laysBack ∈ gw := kc_8 128 rfl rfl
theorem kw_1809 : Cond.code yX12_laysBack cX12_laysBack 2 (Option.none : Option FieldType) ∈ gw := kc_8 129 rfl rfl
theorem kw_1810 : Cond.methodLink RL 85 yX12_way ∈ gw := kc_8 130 rfl rfl
theorem kw_1811 : Cond.instanceMethod yX12_way ∈ gw := kc_8 131 rfl rfl
theorem kw_1812 : Cond.selects RX12 yX12_way yX12_way ∈ gw := kc_8 132 rfl rfl
theorem kw_1813 : Cond.code yX12_way cX12_way 4 (Option.some FieldType.int) ∈ gw := kc_8 133 rfl rfl
theorem kw_1814 : Cond.methodLink RX12 388 yX12_fillsHours ∈ gw := kc_8 134 rfl rfl
theorem kw_1816 : Cond.instanceMethod yX12_fillsHours ∈ gw := kc_8 136 rfl rfl
theorem kw_1817 : Cond.code yX12_fillsHours cX12_fillsHours 6 (Option.none : Option FieldType) ∈ gw := kc_8 137 rfl rfl
theorem kw_1818 : Cond.methodLink RX12 391 yX12_nextPlace ∈ gw := kc_8 138 rfl rfl
theorem kw_1820 : Cond.instanceMethod yX12_nextPlace ∈ gw := kc_8 140 rfl rfl
theorem kw_1821 : Cond.code yX12_nextPlace cX12_nextPlace 3 (Option.some FieldType.int) ∈ gw := kc_8 141 rfl rfl
theorem kw_1822 : Cond.methodLink RL 89 yX12_brings ∈ gw := kc_8 142 rfl rfl
theorem kw_1823 : Cond.instanceMethod yX12_brings ∈ gw := kc_8 143 rfl rfl
theorem kw_1824 : Cond.selects RX12 yX12_brings yX12_brings ∈ gw := kc_8 144 rfl rfl
theorem kw_1825 : Cond.code yX12_brings cX12_brings 5 (Option.some FieldType.int) ∈ gw := kc_8 145 rfl rfl
theorem kw_1826 : Cond.methodLink RX12 394 yX12_turnedBy ∈ gw := kc_8 146 rfl rfl
theorem kw_1828 : Cond.instanceMethod yX12_turnedBy ∈ gw := kc_8 148 rfl rfl
theorem kw_1829 : Cond.code yX12_turnedBy cX12_turnedBy 10 (Option.some FieldType.int) ∈ gw := kc_8 149 rfl rfl
theorem kw_1830 : Cond.methodLink RL 93 yX12_relay ∈ gw := kc_8 150 rfl rfl
theorem kw_1831 : Cond.instanceMethod yX12_relay ∈ gw := kc_8 151 rfl rfl
theorem kw_1832 : Cond.selects RX12 yX12_relay yX12_relay ∈ gw := kc_8 152 rfl rfl
theorem kw_1833 : Cond.code yX12_relay cX12_relay 11 (Option.some FieldType.int) ∈ gw := kc_8 153 rfl rfl
theorem kw_1834 : Cond.constantLong RX12 407 (999 : Int64) ∈ gw := kc_8 154 rfl rfl
theorem kw_1835 : Cond.constantLong RX12 409 (6 : Int64) ∈ gw := kc_8 155 rfl rfl
theorem kw_1836 : Cond.methodLink RX12 411 yX12_fillsRoads ∈ gw := kc_8 156 rfl rfl
theorem kw_1838 : Cond.instanceMethod yX12_fillsRoads ∈ gw := kc_8 158 rfl rfl
theorem kw_1839 : Cond.code yX12_fillsRoads cX12_fillsRoads 5 (Option.none : Option FieldType) ∈ gw := kc_8 159 rfl rfl
theorem kw_1840 : Cond.methodLink RX12 401 yX12_power ∈ gw := kc_8 160 rfl rfl
theorem kw_1841 : Cond.static yX12_power ∈ gw := kc_8 161 rfl rfl
theorem kw_1842 : Cond.code yX12_power cX12_power 4 (Option.some FieldType.int) ∈ gw := kc_8 162 rfl rfl
theorem kw_1843 : Cond.methodLink RX12 414 yX12_turnedByRow ∈ gw := kc_8 163 rfl rfl
theorem kw_1845 : Cond.instanceMethod yX12_turnedByRow ∈ gw := kc_8 165 rfl rfl
theorem kw_1846 : Cond.code yX12_turnedByRow cX12_turnedByRow 6 (Option.some FieldType.int) ∈ gw := kc_8 166 rfl rfl
theorem kw_1847 : Cond.methodLink RX12 404 yX12_handIn ∈ gw := kc_8 167 rfl rfl
theorem kw_1849 : Cond.instanceMethod yX12_handIn ∈ gw := kc_8 169 rfl rfl
theorem kw_1850 : Cond.code yX12_handIn cX12_handIn 3 (Option.some FieldType.int) ∈ gw := kc_8 170 rfl rfl
theorem kw_1851 : Cond.methodLink RL 97 yX12_match ∈ gw := kc_8 171 rfl rfl
theorem kw_1852 : Cond.instanceMethod yX12_match ∈ gw := kc_8 172 rfl rfl
theorem kw_1853 : Cond.selects RX12 yX12_match yX12_match ∈ gw := kc_8 173 rfl rfl
theorem kw_1854 : Cond.code yX12_match cX12_match 6 (Option.some FieldType.int) ∈ gw := kc_8 174 rfl rfl
theorem kw_1855 : Cond.methodLink RX12 423 yX12_payBy ∈ gw := kc_8 175 rfl rfl
theorem kw_1857 : Cond.instanceMethod yX12_payBy ∈ gw := kc_8 177 rfl rfl
theorem kw_1858 : Cond.code yX12_payBy cX12_payBy 6 (Option.some FieldType.int) ∈ gw := kc_8 178 rfl rfl
theorem kw_1859 : Cond.methodLink RX12 417 yX12_jugIn ∈ gw := kc_8 179 rfl rfl
theorem kw_1861 : Cond.instanceMethod yX12_jugIn ∈ gw := kc_8 181 rfl rfl
theorem kw_1862 : Cond.code yX12_jugIn cX12_jugIn 3 (Option.some FieldType.int) ∈ gw := kc_8 182 rfl rfl
theorem kw_1863 : Cond.methodLink RX12 420 yX12_isOf ∈ gw := kc_8 183 rfl rfl
theorem kw_1864 : Cond.static yX12_isOf ∈ gw := kc_8 184 rfl rfl
theorem kw_1865 : Cond.code yX12_isOf cX12_isOf 2 (Option.some FieldType.boolean) ∈ gw := kc_8 185 rfl rfl
theorem kw_1866 : Cond.methodLink RL 102 yX12_rest ∈ gw := kc_8 186 rfl rfl
theorem kw_1867 : Cond.instanceMethod yX12_rest ∈ gw := kc_8 187 rfl rfl
theorem kw_1868 : Cond.selects RX12 yX12_rest yX12_rest ∈ gw := kc_8 188 rfl rfl
theorem kw_1869 : Cond.code yX12_rest cX12_rest 9 (Option.some FieldType.int) ∈ gw := kc_8 189 rfl rfl
theorem kw_1870 : Cond.constantLong RX12 426 (10 : Int64) ∈ gw := kc_8 190 rfl rfl
theorem kw_1871 : Cond.methodLink RX12 428 yX12_turnedResting ∈ gw := kc_8 191 rfl rfl
theorem kw_1873 : Cond.instanceMethod yX12_turnedResting ∈ gw := kc_8 193 rfl rfl
theorem kw_1874 : Cond.code yX12_turnedResting cX12_turnedResting 7 (Option.some FieldType.int) ∈ gw := kc_8 194 rfl rfl
theorem kw_1875 : Cond.methodLink RL 106 yX12_test ∈ gw := kc_8 195 rfl rfl
theorem kw_1876 : Cond.instanceMethod yX12_test ∈ gw := kc_8 196 rfl rfl
theorem kw_1877 : Cond.selects RX12 yX12_test yX12_test ∈ gw := kc_8 197 rfl rfl
theorem kw_1878 : Cond.code yX12_test cX12_test 6 (Option.some FieldType.int) ∈ gw := kc_8 198 rfl rfl
theorem kw_1879 : Cond.constantLong RX12 432 (20 : Int64) ∈ gw := kc_8 199 rfl rfl
theorem kw_1880 : Cond.constantLong RX12 434 (99 : Int64) ∈ gw := kc_8 200 rfl rfl
theorem kw_1881 : Cond.methodLink RL 110 yX12_who ∈ gw := kc_8 201 rfl rfl
theorem kw_1882 : Cond.instanceMethod yX12_who ∈ gw := kc_8 202 rfl rfl
theorem kw_1883 : Cond.selects RX12 yX12_who yX12_who ∈ gw := kc_8 203 rfl rfl
theorem kw_1884 : Cond.code yX12_who cX12_who 4 (Option.some FieldType.int) ∈ gw := kc_8 204 rfl rfl
theorem kw_1885 : Cond.constantLong RX12 439 (2 : Int64) ∈ gw := kc_8 205 rfl rfl
theorem kw_1886 : Cond.methodLink RX12 441 yX12_fitting ∈ gw := kc_8 206 rfl rfl
theorem kw_1888 : Cond.instanceMethod yX12_fitting ∈ gw := kc_8 208 rfl rfl
theorem kw_1889 : Cond.code yX12_fitting cX12_fitting 3 (Option.some FieldType.int) ∈ gw := kc_8 209 rfl rfl
theorem kw_1890 : Cond.methodLink RX12 436 yX12_fitsTests ∈ gw := kc_8 210 rfl rfl
theorem kw_1892 : Cond.instanceMethod yX12_fitsTests ∈ gw := kc_8 212 rfl rfl
theorem kw_1893 : Cond.code yX12_fitsTests cX12_fitsTests 4 (Option.some FieldType.boolean) ∈ gw := kc_8 213 rfl rfl
theorem kw_1894 : Cond.methodLink RL 114 yX12_probe ∈ gw := kc_8 214 rfl rfl
theorem kw_1895 : Cond.instanceMethod yX12_probe ∈ gw := kc_8 215 rfl rfl
theorem kw_1896 : Cond.selects RX12 yX12_probe yX12_probe ∈ gw := kc_8 216 rfl rfl
theorem kw_1897 : Cond.code yX12_probe cX12_probe 5 (Option.some FieldType.int) ∈ gw := kc_8 217 rfl rfl
theorem kw_1898 : Cond.methodLink RX12 444 yX12_alikeBy ∈ gw := kc_8 218 rfl rfl
theorem kw_1900 : Cond.instanceMethod yX12_alikeBy ∈ gw := kc_8 220 rfl rfl
theorem kw_1901 : Cond.code yX12_alikeBy cX12_alikeBy 7 (Option.some FieldType.int) ∈ gw := kc_8 221 rfl rfl
theorem kw_1902 : Cond.methodLink RL 118 yX12_rows ∈ gw := kc_8 222 rfl rfl
theorem kw_1903 : Cond.instanceMethod yX12_rows ∈ gw := kc_8 223 rfl rfl
theorem kw_1904 : Cond.selects RX12 yX12_rows yX12_rows ∈ gw := kc_8 224 rfl rfl
theorem kw_1905 : Cond.code yX12_rows cX12_rows 6 (Option.some FieldType.int) ∈ gw := kc_8 225 rfl rfl
theorem kw_1906 : Cond.constantLong RX12 452 (12 : Int64) ∈ gw := kc_8 226 rfl rfl
theorem kw_1907 : Cond.constantLong RX12 454 (300 : Int64) ∈ gw := kc_8 227 rfl rfl
theorem kw_1908 : Cond.constantLong RX12 456 (-1 : Int64) ∈ gw := kc_8 228 rfl rfl
theorem kw_1909 : Cond.constantLong RX12 458 (11 : Int64) ∈ gw := kc_8 229 rfl rfl
theorem kw_1910 : Cond.constantLong RX12 460 (31 : Int64) ∈ gw := kc_8 230 rfl rfl
theorem kw_1911 : Cond.methodLink RX12 462 yX12_fillsRows ∈ gw := kc_8 231 rfl rfl
theorem kw_1913 : Cond.instanceMethod yX12_fillsRows ∈ gw := kc_8 233 rfl rfl
theorem kw_1914 : Cond.code yX12_fillsRows cX12_fillsRows 9 (Option.none : Option FieldType) ∈ gw := kc_8 234 rfl rfl
theorem kw_1915 : Cond.methodLink RX12 447 yX12_spot ∈ gw := kc_8 235 rfl rfl
theorem kw_1916 : Cond.static yX12_spot ∈ gw := kc_8 236 rfl rfl
theorem kw_1917 : Cond.code yX12_spot cX12_spot 2 (Option.some FieldType.int) ∈ gw := kc_8 237 rfl rfl
theorem kw_1918 : Cond.constantLong RX12 450 (1000000007 : Int64) ∈ gw := kc_8 238 rfl rfl
theorem kw_1919 : Cond.methodLink RX12 465 yX12_firstHand ∈ gw := kc_8 239 rfl rfl
theorem kw_1921 : Cond.instanceMethod yX12_firstHand ∈ gw := kc_9 1 rfl rfl
theorem kw_1922 : Cond.code yX12_firstHand cX12_firstHand 7 (Option.some FieldType.int) ∈ gw := kc_9 2 rfl rfl
theorem kw_1923 : Cond.methodLink RL 122 yX12_ice ∈ gw := kc_9 3 rfl rfl
theorem kw_1924 : Cond.instanceMethod yX12_ice ∈ gw := kc_9 4 rfl rfl
theorem kw_1925 : Cond.selects RX12 yX12_ice yX12_ice ∈ gw := kc_9 5 rfl rfl
theorem kw_1926 : Cond.code yX12_ice cX12_ice 2 (Option.some FieldType.int) ∈ gw := kc_9 6 rfl rfl
theorem kw_1927 : Cond.constantLong RX12 471 (60 : Int64) ∈ gw := kc_9 7 rfl rfl
theorem kw_1928 : Cond.methodLink RX12 473 yX12_turnedIn ∈ gw := kc_9 8 rfl rfl
theorem kw_1930 : Cond.instanceMethod yX12_turnedIn ∈ gw := kc_9 10 rfl rfl
theorem kw_1931 : Cond.code yX12_turnedIn cX12_turnedIn 4 (Option.some FieldType.int) ∈ gw := kc_9 11 rfl rfl
theorem kw_1932 : Cond.methodLink RX12 468 yX12_turnedAll ∈ gw := kc_9 12 rfl rfl
theorem kw_1934 : Cond.instanceMethod yX12_turnedAll ∈ gw := kc_9 14 rfl rfl
theorem kw_1935 : Cond.code yX12_turnedAll cX12_turnedAll 3 (Option.some FieldType.int) ∈ gw := kc_9 15 rfl rfl
theorem kw_1936 : Cond.methodLink RL 126 yX12_seed ∈ gw := kc_9 16 rfl rfl
theorem kw_1937 : Cond.instanceMethod yX12_seed ∈ gw := kc_9 17 rfl rfl
theorem kw_1938 : Cond.selects RX12 yX12_seed yX12_seed ∈ gw := kc_9 18 rfl rfl
theorem kw_1939 : Cond.code yX12_seed cX12_seed 3 (Option.some FieldType.int) ∈ gw := kc_9 19 rfl rfl
theorem kw_1940 : Cond.methodLink RL 130 yX12_years ∈ gw := kc_9 20 rfl rfl
theorem kw_1941 : Cond.instanceMethod yX12_years ∈ gw := kc_9 21 rfl rfl
theorem kw_1942 : Cond.selects RX12 yX12_years yX12_years ∈ gw := kc_9 22 rfl rfl
theorem kw_1943 : Cond.code yX12_years cX12_years 8 (Option.some FieldType.int) ∈ gw := kc_9 23 rfl rfl
theorem kw_1944 : Cond.methodLink RX12 495 yX12_actsDrawn ∈ gw := kc_9 24 rfl rfl
theorem kw_1946 : Cond.instanceMethod yX12_actsDrawn ∈ gw := kc_9 26 rfl rfl
theorem kw_1947 : Cond.code yX12_actsDrawn cX12_actsDrawn 3 (Option.none : Option FieldType) ∈ gw := kc_9 27 rfl rfl
theorem kw_1948 : Cond.methodLink RX12 492 yX12_draw ∈ gw := kc_9 28 rfl rfl
theorem kw_1950 : Cond.instanceMethod yX12_draw ∈ gw := kc_9 30 rfl rfl
theorem kw_1951 : Cond.code yX12_draw cX12_draw 2 (Option.some FieldType.int) ∈ gw := kc_9 31 rfl rfl
theorem kw_1952 : Cond.constantLong RX12 484 (1103515245 : Int64) ∈ gw := kc_9 32 rfl rfl
theorem kw_1953 : Cond.constantLong RX12 486 (12345 : Int64) ∈ gw := kc_9 33 rfl rfl
theorem kw_1954 : Cond.constantLong RX12 488 (2147483648 : Int64) ∈ gw := kc_9 34 rfl rfl
theorem kw_1955 : Cond.constantLong RX12 490 (65536 : Int64) ∈ gw := kc_9 35 rfl rfl
theorem kw_1956 : Cond.methodLink RL 134 yX12_count ∈ gw := kc_9 36 rfl rfl
theorem kw_1957 : Cond.instanceMethod yX12_count ∈ gw := kc_9 37 rfl rfl
theorem kw_1958 : Cond.selects RX12 yX12_count yX12_count ∈ gw := kc_9 38 rfl rfl
theorem kw_1959 : Cond.code yX12_count cX12_count 2 (Option.some FieldType.int) ∈ gw := kc_9 39 rfl rfl
theorem kw_1960 : Cond.methodLink RL 138 yX12_image ∈ gw := kc_9 40 rfl rfl
theorem kw_1961 : Cond.instanceMethod yX12_image ∈ gw := kc_9 41 rfl rfl
theorem kw_1962 : Cond.selects RX12 yX12_image yX12_image ∈ gw := kc_9 42 rfl rfl
theorem kw_1963 : Cond.code yX12_image cX12_image 3 (Option.some FieldType.int) ∈ gw := kc_9 43 rfl rfl
theorem kw_1964 : Cond.constantLong RX12 498 (3 : Int64) ∈ gw := kc_9 44 rfl rfl
theorem kw_1965 : Cond.methodLink RL 142 yX12_back ∈ gw := kc_9 45 rfl rfl
theorem kw_1966 : Cond.instanceMethod yX12_back ∈ gw := kc_9 46 rfl rfl
theorem kw_1967 : Cond.selects RX12 yX12_back yX12_back ∈ gw := kc_9 47 rfl rfl
theorem kw_1968 : Cond.code yX12_back cX12_back 3 (Option.some FieldType.int) ∈ gw := kc_9 48 rfl rfl
theorem kw_1969 : Cond.fieldLink RJ0 9 "java/lang/String" "value" "[B" ∈ gw := kc_9 49 rfl rfl
theorem kw_1970 : Cond.fieldLink RJ0 15 "java/lang/String" "coder" "B" ∈ gw := kc_9 50 rfl rfl
theorem kp_0 : Cond.selects RX0 yX0_readClause yX0_readClause ∈ gw := gw_priv (q := (⟨"TurningMilk$DairyReader", "readClause", "(I)Z"⟩, 3)) (List.mem_of_getElem? (i := 0) (by decide +kernel)) rfl
theorem kp_1 : Cond.selects RX0 yX0_takeKind yX0_takeKind ∈ gw := gw_priv (q := (⟨"TurningMilk$DairyReader", "takeKind", "()I"⟩, 3)) (List.mem_of_getElem? (i := 1) (by decide +kernel)) rfl
theorem kp_2 : Cond.selects RX7 yX7_byteAt yX7_byteAt ∈ gw := gw_priv (q := (⟨"TurningMilk$Tape", "byteAt", "(I)I"⟩, 5)) (List.mem_of_getElem? (i := 2) (by decide +kernel)) rfl
theorem kp_3 : Cond.selects RX0 yX0_hasRoomFor yX0_hasRoomFor ∈ gw := gw_priv (q := (⟨"TurningMilk$DairyReader", "hasRoomFor", "(I)Z"⟩, 3)) (List.mem_of_getElem? (i := 3) (by decide +kernel)) rfl
theorem kp_4 : Cond.selects RX0 yX0_readDairy yX0_readDairy ∈ gw := gw_priv (q := (⟨"TurningMilk$DairyReader", "readDairy", "()Z"⟩, 3)) (List.mem_of_getElem? (i := 4) (by decide +kernel)) rfl
theorem kp_5 : Cond.selects RX0 yX0_readRoad yX0_readRoad ∈ gw := gw_priv (q := (⟨"TurningMilk$DairyReader", "readRoad", "()Z"⟩, 3)) (List.mem_of_getElem? (i := 5) (by decide +kernel)) rfl
theorem kp_6 : Cond.selects RX0 yX0_takePlace yX0_takePlace ∈ gw := gw_priv (q := (⟨"TurningMilk$DairyReader", "takePlace", "()I"⟩, 3)) (List.mem_of_getElem? (i := 6) (by decide +kernel)) rfl
theorem kp_7 : Cond.selects RX0 yX0_readHand yX0_readHand ∈ gw := gw_priv (q := (⟨"TurningMilk$DairyReader", "readHand", "()Z"⟩, 3)) (List.mem_of_getElem? (i := 7) (by decide +kernel)) rfl
theorem kp_8 : Cond.selects RX0 yX0_readJug yX0_readJug ∈ gw := gw_priv (q := (⟨"TurningMilk$DairyReader", "readJug", "()Z"⟩, 3)) (List.mem_of_getElem? (i := 8) (by decide +kernel)) rfl
theorem kp_9 : Cond.selects RX0 yX0_readHeat yX0_readHeat ∈ gw := gw_priv (q := (⟨"TurningMilk$DairyReader", "readHeat", "()Z"⟩, 3)) (List.mem_of_getElem? (i := 9) (by decide +kernel)) rfl
theorem kp_10 : Cond.selects RX0 yX0_readWant yX0_readWant ∈ gw := gw_priv (q := (⟨"TurningMilk$DairyReader", "readWant", "()Z"⟩, 3)) (List.mem_of_getElem? (i := 10) (by decide +kernel)) rfl
theorem kp_11 : Cond.selects RX3 yX3_readClause yX3_readClause ∈ gw := gw_priv (q := (⟨"TurningMilk$RuleReader", "readClause", "(I)Z"⟩, 9)) (List.mem_of_getElem? (i := 11) (by decide +kernel)) rfl
theorem kp_12 : Cond.selects RX3 yX3_readValue yX3_readValue ∈ gw := gw_priv (q := (⟨"TurningMilk$RuleReader", "readValue", "()Z"⟩, 9)) (List.mem_of_getElem? (i := 12) (by decide +kernel)) rfl
theorem kp_13 : Cond.selects RX3 yX3_takeValueWord yX3_takeValueWord ∈ gw := gw_priv (q := (⟨"TurningMilk$RuleReader", "takeValueWord", "()I"⟩, 9)) (List.mem_of_getElem? (i := 13) (by decide +kernel)) rfl
theorem kp_14 : Cond.selects RX3 yX3_write yX3_write ∈ gw := gw_priv (q := (⟨"TurningMilk$RuleReader", "write", "(I)V"⟩, 9)) (List.mem_of_getElem? (i := 14) (by decide +kernel)) rfl
theorem kp_15 : Cond.selects RX3 yX3_closeBrackets yX3_closeBrackets ∈ gw := gw_priv (q := (⟨"TurningMilk$RuleReader", "closeBrackets", "()V"⟩, 9)) (List.mem_of_getElem? (i := 15) (by decide +kernel)) rfl
theorem kp_16 : Cond.selects RX3 yX3_isFactWhole yX3_isFactWhole ∈ gw := gw_priv (q := (⟨"TurningMilk$RuleReader", "isFactWhole", "()Z"⟩, 9)) (List.mem_of_getElem? (i := 16) (by decide +kernel)) rfl
theorem kp_17 : Cond.selects RX3 yX3_unpile yX3_unpile ∈ gw := gw_priv (q := (⟨"TurningMilk$RuleReader", "unpile", "(I)V"⟩, 9)) (List.mem_of_getElem? (i := 17) (by decide +kernel)) rfl
theorem kp_18 : Cond.selects RX3 yX3_dropTop yX3_dropTop ∈ gw := gw_priv (q := (⟨"TurningMilk$RuleReader", "dropTop", "()V"⟩, 9)) (List.mem_of_getElem? (i := 18) (by decide +kernel)) rfl
theorem kp_19 : Cond.selects RX3 yX3_endsHere yX3_endsHere ∈ gw := gw_priv (q := (⟨"TurningMilk$RuleReader", "endsHere", "()Z"⟩, 9)) (List.mem_of_getElem? (i := 19) (by decide +kernel)) rfl
theorem kp_20 : Cond.selects RX3 yX3_readJoint yX3_readJoint ∈ gw := gw_priv (q := (⟨"TurningMilk$RuleReader", "readJoint", "()Z"⟩, 9)) (List.mem_of_getElem? (i := 20) (by decide +kernel)) rfl
theorem kp_21 : Cond.selects RX3 yX3_takeArithmetic yX3_takeArithmetic ∈ gw := gw_priv (q := (⟨"TurningMilk$RuleReader", "takeArithmetic", "()I"⟩, 9)) (List.mem_of_getElem? (i := 21) (by decide +kernel)) rfl
theorem kp_22 : Cond.selects RX3 yX3_pileUp yX3_pileUp ∈ gw := gw_priv (q := (⟨"TurningMilk$RuleReader", "pileUp", "(I)V"⟩, 9)) (List.mem_of_getElem? (i := 22) (by decide +kernel)) rfl
theorem kp_23 : Cond.selects RX3 yX3_push yX3_push ∈ gw := gw_priv (q := (⟨"TurningMilk$RuleReader", "push", "(I)V"⟩, 9)) (List.mem_of_getElem? (i := 23) (by decide +kernel)) rfl
theorem kp_24 : Cond.selects RX3 yX3_readIf yX3_readIf ∈ gw := gw_priv (q := (⟨"TurningMilk$RuleReader", "readIf", "()Z"⟩, 9)) (List.mem_of_getElem? (i := 24) (by decide +kernel)) rfl
theorem kp_25 : Cond.selects RX3 yX3_beginFact yX3_beginFact ∈ gw := gw_priv (q := (⟨"TurningMilk$RuleReader", "beginFact", "()Z"⟩, 9)) (List.mem_of_getElem? (i := 25) (by decide +kernel)) rfl
theorem kp_26 : Cond.selects RX3 yX3_readComparison yX3_readComparison ∈ gw := gw_priv (q := (⟨"TurningMilk$RuleReader", "readComparison", "()Z"⟩, 9)) (List.mem_of_getElem? (i := 26) (by decide +kernel)) rfl
theorem kp_27 : Cond.selects RX3 yX3_takeComparison yX3_takeComparison ∈ gw := gw_priv (q := (⟨"TurningMilk$RuleReader", "takeComparison", "()I"⟩, 9)) (List.mem_of_getElem? (i := 27) (by decide +kernel)) rfl
theorem kp_28 : Cond.selects RX11 yX11_enforce yX11_enforce ∈ gw := gw_priv (q := (⟨"TurningMilk", "enforce", "()V"⟩, 16)) (List.mem_of_getElem? (i := 28) (by decide +kernel)) rfl
theorem kp_29 : Cond.selects RX11 yX11_isHand yX11_isHand ∈ gw := gw_priv (q := (⟨"TurningMilk", "isHand", "(I)Z"⟩, 16)) (List.mem_of_getElem? (i := 29) (by decide +kernel)) rfl
theorem kp_30 : Cond.selects RX11 yX11_isJug yX11_isJug ∈ gw := gw_priv (q := (⟨"TurningMilk", "isJug", "(I)Z"⟩, 16)) (List.mem_of_getElem? (i := 30) (by decide +kernel)) rfl
theorem kp_31 : Cond.selects RX11 yX11_isWant yX11_isWant ∈ gw := gw_priv (q := (⟨"TurningMilk", "isWant", "(I)Z"⟩, 16)) (List.mem_of_getElem? (i := 31) (by decide +kernel)) rfl
theorem kp_32 : Cond.selects RX11 yX11_jugFor yX11_jugFor ∈ gw := gw_priv (q := (⟨"TurningMilk", "jugFor", "(I)I"⟩, 16)) (List.mem_of_getElem? (i := 32) (by decide +kernel)) rfl
theorem kp_33 : Cond.selects RX11 yX11_keepPast yX11_keepPast ∈ gw := gw_priv (q := (⟨"TurningMilk", "keepPast", "()V"⟩, 16)) (List.mem_of_getElem? (i := 33) (by decide +kernel)) rfl
theorem kp_34 : Cond.selects RX1 yX1_turnsIn yX1_turnsIn ∈ gw := gw_priv (q := (⟨"TurningMilk$Hours", "turnsIn", "(LTurningMilk$State;I)I"⟩, 3)) (List.mem_of_getElem? (i := 34) (by decide +kernel)) rfl
theorem kp_35 : Cond.selects RX10 yX10_sumByRule yX10_sumByRule ∈ gw := gw_priv (q := (⟨"TurningMilk$Turning", "sumByRule", "()J"⟩, 12)) (List.mem_of_getElem? (i := 35) (by decide +kernel)) rfl
theorem kp_36 : Cond.selects RX10 yX10_valueOf yX10_valueOf ∈ gw := gw_priv (q := (⟨"TurningMilk$Turning", "valueOf", "(I)J"⟩, 12)) (List.mem_of_getElem? (i := 36) (by decide +kernel)) rfl
theorem kp_37 : Cond.selects RX5 yX5_canHoldMore yX5_canHoldMore ∈ gw := gw_priv (q := (⟨"TurningMilk$State", "canHoldMore", "(I)Z"⟩, 9)) (List.mem_of_getElem? (i := 37) (by decide +kernel)) rfl
theorem kp_38 : Cond.selects RX11 yX11_isPlace yX11_isPlace ∈ gw := gw_priv (q := (⟨"TurningMilk", "isPlace", "(I)Z"⟩, 16)) (List.mem_of_getElem? (i := 38) (by decide +kernel)) rfl
theorem kp_39 : Cond.selects RX11 yX11_isStandingJug yX11_isStandingJug ∈ gw := gw_priv (q := (⟨"TurningMilk", "isStandingJug", "(I)Z"⟩, 16)) (List.mem_of_getElem? (i := 39) (by decide +kernel)) rfl
theorem kp_40 : Cond.selects RX2 yX2_visit yX2_visit ∈ gw := gw_priv (q := (⟨"TurningMilk$Relay", "visit", "(II)V"⟩, 11)) (List.mem_of_getElem? (i := 40) (by decide +kernel)) rfl
theorem kp_41 : Cond.selects RX2 yX2_carried yX2_carried ∈ gw := gw_priv (q := (⟨"TurningMilk$Relay", "carried", "(III)I"⟩, 11)) (List.mem_of_getElem? (i := 41) (by decide +kernel)) rfl
theorem kp_42 : Cond.selects RX2 yX2_firstHand yX2_firstHand ∈ gw := gw_priv (q := (⟨"TurningMilk$Relay", "firstHand", "(II)I"⟩, 11)) (List.mem_of_getElem? (i := 42) (by decide +kernel)) rfl
theorem kp_43 : Cond.selects RX6 yX6_payWith yX6_payWith ∈ gw := gw_priv (q := (⟨"TurningMilk$Tables", "payWith", "(LTurningMilk$State;III)I"⟩, 3)) (List.mem_of_getElem? (i := 43) (by decide +kernel)) rfl
theorem kp_44 : Cond.selects RX6 yX6_firstBest yX6_firstBest ∈ gw := gw_priv (q := (⟨"TurningMilk$Tables", "firstBest", "(LTurningMilk$State;II)I"⟩, 3)) (List.mem_of_getElem? (i := 44) (by decide +kernel)) rfl
theorem kp_45 : Cond.selects RX9 yX9_passesAll yX9_passesAll ∈ gw := gw_priv (q := (⟨"TurningMilk$Trials", "passesAll", "(I)Z"⟩, 5)) (List.mem_of_getElem? (i := 45) (by decide +kernel)) rfl
theorem kp_46 : Cond.selects RX9 yX9_mostAlike yX9_mostAlike ∈ gw := gw_priv (q := (⟨"TurningMilk$Trials", "mostAlike", "(II)I"⟩, 5)) (List.mem_of_getElem? (i := 46) (by decide +kernel)) rfl
theorem kp_47 : Cond.selects RX6 yX6_firstThatLeaves yX6_firstThatLeaves ∈ gw := gw_priv (q := (⟨"TurningMilk$Tables", "firstThatLeaves", "(II)I"⟩, 3)) (List.mem_of_getElem? (i := 47) (by decide +kernel)) rfl
theorem kp_48 : Cond.selects RX1 yX1_drawRoads yX1_drawRoads ∈ gw := gw_priv (q := (⟨"TurningMilk$Hours", "drawRoads", "(LTurningMilk$State;)V"⟩, 3)) (List.mem_of_getElem? (i := 48) (by decide +kernel)) rfl
theorem kp_49 : Cond.selects RX1 yX1_draw yX1_draw ∈ gw := gw_priv (q := (⟨"TurningMilk$Hours", "draw", "()I"⟩, 3)) (List.mem_of_getElem? (i := 49) (by decide +kernel)) rfl
theorem kp_50 : Cond.selects RX1 yX1_drawHolders yX1_drawHolders ∈ gw := gw_priv (q := (⟨"TurningMilk$Hours", "drawHolders", "(LTurningMilk$State;)V"⟩, 3)) (List.mem_of_getElem? (i := 50) (by decide +kernel)) rfl
theorem kp_51 : Cond.selects RX12 yX12_four yX12_four ∈ gw := gw_priv (q := (⟨"TurningMilkModel", "four", "(I)V"⟩, 38)) (List.mem_of_getElem? (i := 51) (by decide +kernel)) rfl
theorem kp_52 : Cond.selects RX12 yX12_readsAll yX12_readsAll ∈ gw := gw_priv (q := (⟨"TurningMilkModel", "readsAll", "()Z"⟩, 38)) (List.mem_of_getElem? (i := 52) (by decide +kernel)) rfl
theorem kp_53 : Cond.selects RX12 yX12_clauseHere yX12_clauseHere ∈ gw := gw_priv (q := (⟨"TurningMilkModel", "clauseHere", "()Z"⟩, 38)) (List.mem_of_getElem? (i := 53) (by decide +kernel)) rfl
theorem kp_54 : Cond.selects RX12 yX12_see yX12_see ∈ gw := gw_priv (q := (⟨"TurningMilkModel", "see", "()I"⟩, 38)) (List.mem_of_getElem? (i := 54) (by decide +kernel)) rfl
theorem kp_55 : Cond.selects RX12 yX12_isDairyWord yX12_isDairyWord ∈ gw := gw_priv (q := (⟨"TurningMilkModel", "isDairyWord", "()Z"⟩, 38)) (List.mem_of_getElem? (i := 55) (by decide +kernel)) rfl
theorem kp_56 : Cond.selects RX12 yX12_isWord yX12_isWord ∈ gw := gw_priv (q := (⟨"TurningMilkModel", "isWord", "(J)Z"⟩, 38)) (List.mem_of_getElem? (i := 56) (by decide +kernel)) rfl
theorem kp_57 : Cond.selects RX12 yX12_isLetter yX12_isLetter ∈ gw := gw_priv (q := (⟨"TurningMilkModel", "isLetter", "(I)Z"⟩, 38)) (List.mem_of_getElem? (i := 57) (by decide +kernel)) rfl
theorem kp_58 : Cond.selects RX12 yX12_fails yX12_fails ∈ gw := gw_priv (q := (⟨"TurningMilkModel", "fails", "(II)Z"⟩, 38)) (List.mem_of_getElem? (i := 58) (by decide +kernel)) rfl
theorem kp_59 : Cond.selects RX12 yX12_dairyLineHere yX12_dairyLineHere ∈ gw := gw_priv (q := (⟨"TurningMilkModel", "dairyLineHere", "(I)Z"⟩, 38)) (List.mem_of_getElem? (i := 59) (by decide +kernel)) rfl
theorem kp_60 : Cond.selects RX12 yX12_isDairyHere yX12_isDairyHere ∈ gw := gw_priv (q := (⟨"TurningMilkModel", "isDairyHere", "(I)Z"⟩, 38)) (List.mem_of_getElem? (i := 60) (by decide +kernel)) rfl
theorem kp_61 : Cond.selects RX12 yX12_passWord yX12_passWord ∈ gw := gw_priv (q := (⟨"TurningMilkModel", "passWord", "()V"⟩, 38)) (List.mem_of_getElem? (i := 61) (by decide +kernel)) rfl
theorem kp_62 : Cond.selects RX12 yX12_numberHere yX12_numberHere ∈ gw := gw_priv (q := (⟨"TurningMilkModel", "numberHere", "(II)Z"⟩, 38)) (List.mem_of_getElem? (i := 62) (by decide +kernel)) rfl
theorem kp_63 : Cond.selects RX12 yX12_isDigit yX12_isDigit ∈ gw := gw_priv (q := (⟨"TurningMilkModel", "isDigit", "(I)Z"⟩, 38)) (List.mem_of_getElem? (i := 63) (by decide +kernel)) rfl
theorem kp_64 : Cond.selects RX12 yX12_cellHere yX12_cellHere ∈ gw := gw_priv (q := (⟨"TurningMilkModel", "cellHere", "(III)Z"⟩, 38)) (List.mem_of_getElem? (i := 64) (by decide +kernel)) rfl
theorem kp_65 : Cond.selects RX12 yX12_isRoadHere yX12_isRoadHere ∈ gw := gw_priv (q := (⟨"TurningMilkModel", "isRoadHere", "(I)Z"⟩, 38)) (List.mem_of_getElem? (i := 65) (by decide +kernel)) rfl
theorem kp_66 : Cond.selects RX12 yX12_isRoadTold yX12_isRoadTold ∈ gw := gw_priv (q := (⟨"TurningMilkModel", "isRoadTold", "(II)Z"⟩, 38)) (List.mem_of_getElem? (i := 66) (by decide +kernel)) rfl
theorem kp_67 : Cond.selects RX12 yX12_isHandHere yX12_isHandHere ∈ gw := gw_priv (q := (⟨"TurningMilkModel", "isHandHere", "(I)Z"⟩, 38)) (List.mem_of_getElem? (i := 67) (by decide +kernel)) rfl
theorem kp_68 : Cond.selects RX12 yX12_isJugHere yX12_isJugHere ∈ gw := gw_priv (q := (⟨"TurningMilkModel", "isJugHere", "(I)Z"⟩, 38)) (List.mem_of_getElem? (i := 68) (by decide +kernel)) rfl
theorem kp_69 : Cond.selects RX12 yX12_isHeatHere yX12_isHeatHere ∈ gw := gw_priv (q := (⟨"TurningMilkModel", "isHeatHere", "(I)Z"⟩, 38)) (List.mem_of_getElem? (i := 69) (by decide +kernel)) rfl
theorem kp_70 : Cond.selects RX12 yX12_isWantHere yX12_isWantHere ∈ gw := gw_priv (q := (⟨"TurningMilkModel", "isWantHere", "(I)Z"⟩, 38)) (List.mem_of_getElem? (i := 70) (by decide +kernel)) rfl
theorem kp_71 : Cond.selects RX12 yX12_isTurnHere yX12_isTurnHere ∈ gw := gw_priv (q := (⟨"TurningMilkModel", "isTurnHere", "()Z"⟩, 38)) (List.mem_of_getElem? (i := 71) (by decide +kernel)) rfl
theorem kp_72 : Cond.selects RX12 yX12_sum yX12_sum ∈ gw := gw_priv (q := (⟨"TurningMilkModel", "sum", "()Z"⟩, 38)) (List.mem_of_getElem? (i := 72) (by decide +kernel)) rfl
theorem kp_73 : Cond.selects RX12 yX12_term yX12_term ∈ gw := gw_priv (q := (⟨"TurningMilkModel", "term", "()Z"⟩, 38)) (List.mem_of_getElem? (i := 73) (by decide +kernel)) rfl
theorem kp_74 : Cond.selects RX12 yX12_value yX12_value ∈ gw := gw_priv (q := (⟨"TurningMilkModel", "value", "()Z"⟩, 38)) (List.mem_of_getElem? (i := 74) (by decide +kernel)) rfl
theorem kp_75 : Cond.selects RX12 yX12_makes yX12_makes ∈ gw := gw_priv (q := (⟨"TurningMilkModel", "makes", "(I)Z"⟩, 38)) (List.mem_of_getElem? (i := 75) (by decide +kernel)) rfl
theorem kp_76 : Cond.selects RX12 yX12_puts yX12_puts ∈ gw := gw_priv (q := (⟨"TurningMilkModel", "puts", "(II)V"⟩, 38)) (List.mem_of_getElem? (i := 76) (by decide +kernel)) rfl
theorem kp_77 : Cond.selects RX12 yX12_wordHere yX12_wordHere ∈ gw := gw_priv (q := (⟨"TurningMilkModel", "wordHere", "()I"⟩, 38)) (List.mem_of_getElem? (i := 77) (by decide +kernel)) rfl
theorem kp_78 : Cond.selects RX12 yX12_takesWord yX12_takesWord ∈ gw := gw_priv (q := (⟨"TurningMilkModel", "takesWord", "(J)Z"⟩, 38)) (List.mem_of_getElem? (i := 78) (by decide +kernel)) rfl
theorem kp_79 : Cond.selects RX12 yX12_tested yX12_tested ∈ gw := gw_priv (q := (⟨"TurningMilkModel", "tested", "()Z"⟩, 38)) (List.mem_of_getElem? (i := 79) (by decide +kernel)) rfl
theorem kp_80 : Cond.selects RX12 yX12_fact yX12_fact ∈ gw := gw_priv (q := (⟨"TurningMilkModel", "fact", "()Z"⟩, 38)) (List.mem_of_getElem? (i := 80) (by decide +kernel)) rfl
theorem kp_81 : Cond.selects RX12 yX12_opens yX12_opens ∈ gw := gw_priv (q := (⟨"TurningMilkModel", "opens", "(I)Z"⟩, 38)) (List.mem_of_getElem? (i := 81) (by decide +kernel)) rfl
theorem kp_82 : Cond.selects RX12 yX12_compare yX12_compare ∈ gw := gw_priv (q := (⟨"TurningMilkModel", "compare", "()Z"⟩, 38)) (List.mem_of_getElem? (i := 82) (by decide +kernel)) rfl
theorem kp_83 : Cond.selects RX12 yX12_closes yX12_closes ∈ gw := gw_priv (q := (⟨"TurningMilkModel", "closes", "()V"⟩, 38)) (List.mem_of_getElem? (i := 83) (by decide +kernel)) rfl
theorem kp_84 : Cond.selects RX12 yX12_settles yX12_settles ∈ gw := gw_priv (q := (⟨"TurningMilkModel", "settles", "(I)V"⟩, 38)) (List.mem_of_getElem? (i := 84) (by decide +kernel)) rfl
theorem kp_85 : Cond.selects RX12 yX12_isInside yX12_isInside ∈ gw := gw_priv (q := (⟨"TurningMilkModel", "isInside", "()Z"⟩, 38)) (List.mem_of_getElem? (i := 85) (by decide +kernel)) rfl
theorem kp_86 : Cond.selects RX12 yX12_isRule yX12_isRule ∈ gw := gw_priv (q := (⟨"TurningMilkModel", "isRule", "(I)Z"⟩, 38)) (List.mem_of_getElem? (i := 86) (by decide +kernel)) rfl
theorem kp_87 : Cond.selects RX12 yX12_isHand yX12_isHand ∈ gw := gw_priv (q := (⟨"TurningMilkModel", "isHand", "(I)Z"⟩, 38)) (List.mem_of_getElem? (i := 87) (by decide +kernel)) rfl
theorem kp_88 : Cond.selects RX12 yX12_handOf yX12_handOf ∈ gw := gw_priv (q := (⟨"TurningMilkModel", "handOf", "(II)I"⟩, 38)) (List.mem_of_getElem? (i := 88) (by decide +kernel)) rfl
theorem kp_89 : Cond.selects RX12 yX12_held yX12_held ∈ gw := gw_priv (q := (⟨"TurningMilkModel", "held", "(I)I"⟩, 38)) (List.mem_of_getElem? (i := 89) (by decide +kernel)) rfl
theorem kp_90 : Cond.selects RX12 yX12_jugOf yX12_jugOf ∈ gw := gw_priv (q := (⟨"TurningMilkModel", "jugOf", "(II)I"⟩, 38)) (List.mem_of_getElem? (i := 90) (by decide +kernel)) rfl
theorem kp_91 : Cond.selects RX12 yX12_isJug yX12_isJug ∈ gw := gw_priv (q := (⟨"TurningMilkModel", "isJug", "(I)Z"⟩, 38)) (List.mem_of_getElem? (i := 91) (by decide +kernel)) rfl
theorem kp_92 : Cond.selects RX12 yX12_stands yX12_stands ∈ gw := gw_priv (q := (⟨"TurningMilkModel", "stands", "(I)Z"⟩, 38)) (List.mem_of_getElem? (i := 92) (by decide +kernel)) rfl
theorem kp_93 : Cond.selects RX12 yX12_isWant yX12_isWant ∈ gw := gw_priv (q := (⟨"TurningMilkModel", "isWant", "(I)Z"⟩, 38)) (List.mem_of_getElem? (i := 93) (by decide +kernel)) rfl
theorem kp_94 : Cond.selects RX12 yX12_wantOf yX12_wantOf ∈ gw := gw_priv (q := (⟨"TurningMilkModel", "wantOf", "(II)I"⟩, 38)) (List.mem_of_getElem? (i := 94) (by decide +kernel)) rfl
theorem kp_95 : Cond.selects RX12 yX12_firstFor yX12_firstFor ∈ gw := gw_priv (q := (⟨"TurningMilkModel", "firstFor", "(I)I"⟩, 38)) (List.mem_of_getElem? (i := 95) (by decide +kernel)) rfl
theorem kp_96 : Cond.selects RX12 yX12_isDairy yX12_isDairy ∈ gw := gw_priv (q := (⟨"TurningMilkModel", "isDairy", "()Z"⟩, 38)) (List.mem_of_getElem? (i := 96) (by decide +kernel)) rfl
theorem kp_97 : Cond.selects RX12 yX12_keepsAct yX12_keepsAct ∈ gw := gw_priv (q := (⟨"TurningMilkModel", "keepsAct", "()V"⟩, 38)) (List.mem_of_getElem? (i := 97) (by decide +kernel)) rfl
theorem kp_98 : Cond.selects RX12 yX12_passes yX12_passes ∈ gw := gw_priv (q := (⟨"TurningMilkModel", "passes", "()I"⟩, 38)) (List.mem_of_getElem? (i := 98) (by decide +kernel)) rfl
theorem kp_99 : Cond.selects RX12 yX12_turns yX12_turns ∈ gw := gw_priv (q := (⟨"TurningMilkModel", "turns", "(I)V"⟩, 38)) (List.mem_of_getElem? (i := 99) (by decide +kernel)) rfl
theorem kp_100 : Cond.selects RX12 yX12_heatIn yX12_heatIn ∈ gw := gw_priv (q := (⟨"TurningMilkModel", "heatIn", "(I)I"⟩, 38)) (List.mem_of_getElem? (i := 100) (by decide +kernel)) rfl
theorem kp_101 : Cond.selects RX12 yX12_turnsIn yX12_turnsIn ∈ gw := gw_priv (q := (⟨"TurningMilkModel", "turnsIn", "(IIIIIII)I"⟩, 38)) (List.mem_of_getElem? (i := 101) (by decide +kernel)) rfl
theorem kp_102 : Cond.selects RX12 yX12_summedBy yX12_summedBy ∈ gw := gw_priv (q := (⟨"TurningMilkModel", "summedBy", "(I)J"⟩, 38)) (List.mem_of_getElem? (i := 102) (by decide +kernel)) rfl
theorem kp_103 : Cond.selects RX12 yX12_reckons yX12_reckons ∈ gw := gw_priv (q := (⟨"TurningMilkModel", "reckons", "(III)J"⟩, 38)) (List.mem_of_getElem? (i := 103) (by decide +kernel)) rfl
theorem kp_104 : Cond.selects RX12 yX12_push yX12_push ∈ gw := gw_priv (q := (⟨"TurningMilkModel", "push", "(J)V"⟩, 38)) (List.mem_of_getElem? (i := 104) (by decide +kernel)) rfl
theorem kp_105 : Cond.selects RX12 yX12_pop yX12_pop ∈ gw := gw_priv (q := (⟨"TurningMilkModel", "pop", "()J"⟩, 38)) (List.mem_of_getElem? (i := 105) (by decide +kernel)) rfl
theorem kp_106 : Cond.selects RX12 yX12_moreTired yX12_moreTired ∈ gw := gw_priv (q := (⟨"TurningMilkModel", "moreTired", "(II)I"⟩, 38)) (List.mem_of_getElem? (i := 106) (by decide +kernel)) rfl
theorem kp_107 : Cond.selects RX12 yX12_canTake yX12_canTake ∈ gw := gw_priv (q := (⟨"TurningMilkModel", "canTake", "(II)Z"⟩, 38)) (List.mem_of_getElem? (i := 107) (by decide +kernel)) rfl
theorem kp_108 : Cond.selects RX12 yX12_isAtPlace yX12_isAtPlace ∈ gw := gw_priv (q := (⟨"TurningMilkModel", "isAtPlace", "(I)Z"⟩, 38)) (List.mem_of_getElem? (i := 108) (by decide +kernel)) rfl
theorem kp_109 : Cond.selects RX12 yX12_takes yX12_takes ∈ gw := gw_priv (q := (⟨"TurningMilkModel", "takes", "(II)V"⟩, 38)) (List.mem_of_getElem? (i := 109) (by decide +kernel)) rfl
theorem kp_110 : Cond.selects RX12 yX12_isPlace yX12_isPlace ∈ gw := gw_priv (q := (⟨"TurningMilkModel", "isPlace", "(I)Z"⟩, 38)) (List.mem_of_getElem? (i := 110) (by decide +kernel)) rfl
theorem kp_111 : Cond.selects RX12 yX12_canGo yX12_canGo ∈ gw := gw_priv (q := (⟨"TurningMilkModel", "canGo", "(II)Z"⟩, 38)) (List.mem_of_getElem? (i := 111) (by decide +kernel)) rfl
theorem kp_112 : Cond.selects RX12 yX12_roadOf yX12_roadOf ∈ gw := gw_priv (q := (⟨"TurningMilkModel", "roadOf", "(II)I"⟩, 38)) (List.mem_of_getElem? (i := 112) (by decide +kernel)) rfl
theorem kp_113 : Cond.selects RX12 yX12_goes yX12_goes ∈ gw := gw_priv (q := (⟨"TurningMilkModel", "goes", "(II)V"⟩, 38)) (List.mem_of_getElem? (i := 113) (by decide +kernel)) rfl
theorem kp_114 : Cond.selects RX12 yX12_keeps yX12_keeps ∈ gw := gw_priv (q := (⟨"TurningMilkModel", "keeps", "()V"⟩, 38)) (List.mem_of_getElem? (i := 114) (by decide +kernel)) rfl
theorem kp_115 : Cond.selects RX12 yX12_laysBack yX12_laysBack ∈ gw := gw_priv (q := (⟨"TurningMilkModel", "laysBack", "()V"⟩, 38)) (List.mem_of_getElem? (i := 115) (by decide +kernel)) rfl
theorem kp_116 : Cond.selects RX12 yX12_fillsHours yX12_fillsHours ∈ gw := gw_priv (q := (⟨"TurningMilkModel", "fillsHours", "(I)V"⟩, 38)) (List.mem_of_getElem? (i := 116) (by decide +kernel)) rfl
theorem kp_117 : Cond.selects RX12 yX12_nextPlace yX12_nextPlace ∈ gw := gw_priv (q := (⟨"TurningMilkModel", "nextPlace", "(I)I"⟩, 38)) (List.mem_of_getElem? (i := 117) (by decide +kernel)) rfl
theorem kp_118 : Cond.selects RX12 yX12_turnedBy yX12_turnedBy ∈ gw := gw_priv (q := (⟨"TurningMilkModel", "turnedBy", "(IIIIII)I"⟩, 38)) (List.mem_of_getElem? (i := 118) (by decide +kernel)) rfl
theorem kp_119 : Cond.selects RX12 yX12_fillsRoads yX12_fillsRoads ∈ gw := gw_priv (q := (⟨"TurningMilkModel", "fillsRoads", "(II)V"⟩, 38)) (List.mem_of_getElem? (i := 119) (by decide +kernel)) rfl
theorem kp_120 : Cond.selects RX12 yX12_turnedByRow yX12_turnedByRow ∈ gw := gw_priv (q := (⟨"TurningMilkModel", "turnedByRow", "(II)I"⟩, 38)) (List.mem_of_getElem? (i := 120) (by decide +kernel)) rfl
theorem kp_121 : Cond.selects RX12 yX12_handIn yX12_handIn ∈ gw := gw_priv (q := (⟨"TurningMilkModel", "handIn", "(II)I"⟩, 38)) (List.mem_of_getElem? (i := 121) (by decide +kernel)) rfl
theorem kp_122 : Cond.selects RX12 yX12_payBy yX12_payBy ∈ gw := gw_priv (q := (⟨"TurningMilkModel", "payBy", "(I)I"⟩, 38)) (List.mem_of_getElem? (i := 122) (by decide +kernel)) rfl
theorem kp_123 : Cond.selects RX12 yX12_jugIn yX12_jugIn ∈ gw := gw_priv (q := (⟨"TurningMilkModel", "jugIn", "(II)I"⟩, 38)) (List.mem_of_getElem? (i := 123) (by decide +kernel)) rfl
theorem kp_124 : Cond.selects RX12 yX12_turnedResting yX12_turnedResting ∈ gw := gw_priv (q := (⟨"TurningMilkModel", "turnedResting", "(III)I"⟩, 38)) (List.mem_of_getElem? (i := 124) (by decide +kernel)) rfl
theorem kp_125 : Cond.selects RX12 yX12_fitting yX12_fitting ∈ gw := gw_priv (q := (⟨"TurningMilkModel", "fitting", "()I"⟩, 38)) (List.mem_of_getElem? (i := 125) (by decide +kernel)) rfl
theorem kp_126 : Cond.selects RX12 yX12_fitsTests yX12_fitsTests ∈ gw := gw_priv (q := (⟨"TurningMilkModel", "fitsTests", "(I)Z"⟩, 38)) (List.mem_of_getElem? (i := 126) (by decide +kernel)) rfl
theorem kp_127 : Cond.selects RX12 yX12_alikeBy yX12_alikeBy ∈ gw := gw_priv (q := (⟨"TurningMilkModel", "alikeBy", "(II)I"⟩, 38)) (List.mem_of_getElem? (i := 127) (by decide +kernel)) rfl
theorem kp_128 : Cond.selects RX12 yX12_fillsRows yX12_fillsRows ∈ gw := gw_priv (q := (⟨"TurningMilkModel", "fillsRows", "(I)V"⟩, 38)) (List.mem_of_getElem? (i := 128) (by decide +kernel)) rfl
theorem kp_129 : Cond.selects RX12 yX12_firstHand yX12_firstHand ∈ gw := gw_priv (q := (⟨"TurningMilkModel", "firstHand", "(III)I"⟩, 38)) (List.mem_of_getElem? (i := 129) (by decide +kernel)) rfl
theorem kp_130 : Cond.selects RX12 yX12_turnedIn yX12_turnedIn ∈ gw := gw_priv (q := (⟨"TurningMilkModel", "turnedIn", "(IZ)I"⟩, 38)) (List.mem_of_getElem? (i := 130) (by decide +kernel)) rfl
theorem kp_131 : Cond.selects RX12 yX12_turnedAll yX12_turnedAll ∈ gw := gw_priv (q := (⟨"TurningMilkModel", "turnedAll", "()I"⟩, 38)) (List.mem_of_getElem? (i := 131) (by decide +kernel)) rfl
theorem kp_132 : Cond.selects RX12 yX12_actsDrawn yX12_actsDrawn ∈ gw := gw_priv (q := (⟨"TurningMilkModel", "actsDrawn", "()V"⟩, 38)) (List.mem_of_getElem? (i := 132) (by decide +kernel)) rfl
theorem kp_133 : Cond.selects RX12 yX12_draw yX12_draw ∈ gw := gw_priv (q := (⟨"TurningMilkModel", "draw", "(I)I"⟩, 38)) (List.mem_of_getElem? (i := 133) (by decide +kernel)) rfl
end
section
/-! my own words for the cells: numbers, by cell and place -/
abbrev Mm : Type := Int → Int → Int
/-- how many cells, the kind of each, the length of each -/
abbrev Sh : Type := Nat × (Int → Nat) × (Int → Nat)
/-- where each cell lies, where new ones begin, the empty row of the class, the row classes, the texts and their bytes -/
abbrev Gt : Type := (Nat → Nat) × Nat × Nat × (Nat → ClassId) × (Nat → Nat) × (Nat → Nat)
abbrev gB (G : Gt) : Nat := G.2.1
abbrev gZ (G : Gt) : Nat := G.2.2.1
abbrev gC (G : Gt) : Nat → ClassId := G.2.2.2.1
abbrev gK (G : Gt) : Nat → Nat := G.2.2.2.2.1
abbrev gV (G : Gt) : Nat → Nat := G.2.2.2.2.2
def adr (G : Gt) (x : Int) : Nat := if 0 ≤ x then G.1 x.toNat else if x = -2 then gZ G else gK G (-3 - x).toNat
def rfo (G : Gt) (x : Int) : Option Nat := if x = -1 then none else some (adr G x)
def nF (ci : Nat) : Nat := ([3, 3, 11, 9, 10, 9, 3, 5, 19, 5, 12, 16, 38] : List Nat).getD ci 0
def fTs : List (List Nat) := [[2, 2, 2], [2, 2, 0], [2, 2, 2, 2, 2, 2, 0, 0, 0, 0, 0], [2, 2, 0, 0, 2, 0, 0, 0, 0], [2, 2, 0, 0, 0, 2, 2, 2, 2, 0], [0, 0, 2, 2, 2, 2, 2, 2, 2], [2, 2, 2], [2, 0, 0, 0, 0], [0, 0, 0, 0, 0, 0, 0, 0, 2, 2, 2, 2, 2, 2, 2, 2, 2, 2, 2], [2, 2, 2, 0, 0], [2, 2, 0, 2, 0, 0, 0, 0, 0, 0, 0, 0], [2, 2, 2, 2, 0, 0, 2, 0, 2, 2, 2, 2, 2, 2, 2, 2], [2, 0, 0, 2, 2, 2, 2, 2, 0, 0, 0, 0, 0, 0, 0, 2, 0, 2, 0, 2, 2, 0, 0, 0, 2, 0, 2, 2, 2, 0, 2, 2, 2, 1, 2, 2, 2, 2]]
def fT (ci j : Nat) : Nat := (fTs.getD ci []).getD j 0
def nwT : List (String × Nat × String × String × String) := [("TurningMilk", 116, "TurningMilk$Tape", "length", "I"), ("TurningMilk", 124, "TurningMilk$Tape", "fault", "I"), ("TurningMilk$Hours", 115, "TurningMilk$Told", "places", "I"), ("TurningMilk$DairyReader", 121, "TurningMilk$Told", "places", "I"), ("TurningMilk", 166, "TurningMilk$Told", "places", "I"), ("TurningMilk$Hours", 70, "TurningMilk$Told", "ground", "I"), ("TurningMilk$DairyReader", 124, "TurningMilk$Told", "ground", "I"), ("TurningMilk$Hours", 44, "TurningMilk$Told", "sour", "I"), ("TurningMilk$Turning", 67, "TurningMilk$Told", "sour", "I"), ("TurningMilk$DairyReader", 127, "TurningMilk$Told", "sour", "I"), ("TurningMilk", 212, "TurningMilk$Told", "sour", "I"), ("TurningMilk$DairyReader", 76, "TurningMilk$Told", "roads", "I"), ("TurningMilk$Hours", 47, "TurningMilk$Told", "hands", "I"), ("TurningMilk$Trials", 67, "TurningMilk$Told", "hands", "I"), ("TurningMilk$DairyReader", 80, "TurningMilk$Told", "hands", "I"), ("TurningMilk$Relay", 89, "TurningMilk$Told", "hands", "I"), ("TurningMilk$Tables", 73, "TurningMilk$Told", "hands", "I"), ("TurningMilk", 169, "TurningMilk$Told", "hands", "I"), ("TurningMilk$Hours", 22, "TurningMilk$Told", "jugs", "I"), ("TurningMilk$Tables", 38, "TurningMilk$Told", "jugs", "I"), ("TurningMilk", 146, "TurningMilk$Told", "jugs", "I"), ("TurningMilk$DairyReader", 83, "TurningMilk$Told", "jugs", "I"), ("TurningMilk$DairyReader", 86, "TurningMilk$Told", "heats", "I"), ("TurningMilk$Tables", 28, "TurningMilk$Told", "wants", "I"), ("TurningMilk$DairyReader", 89, "TurningMilk$Told", "wants", "I"), ("TurningMilk", 172, "TurningMilk$Told", "wants", "I"), ("TurningMilk$Turning", 49, "TurningMilk$Told", "speed", "[I"), ("TurningMilk$Tables", 76, "TurningMilk$Told", "speed", "[I"), ("TurningMilk$DairyReader", 144, "TurningMilk$Told", "speed", "[I"), ("TurningMilk", 197, "TurningMilk$Told", "speed", "[I"), ("TurningMilk$Hours", 50, "TurningMilk$Told", "tires", "[I"), ("TurningMilk$Turning", 103, "TurningMilk$Told", "tires", "[I"), ("TurningMilk$DairyReader", 147, "TurningMilk$Told", "tires", "[I"), ("TurningMilk", 200, "TurningMilk$Told", "tires", "[I"), ("TurningMilk$DairyReader", 156, "TurningMilk$Told", "heatFirst", "[I"), ("TurningMilk$DairyReader", 159, "TurningMilk$Told", "heatLast", "[I"), ("TurningMilk$DairyReader", 162, "TurningMilk$Told", "heatMore", "[I"), ("TurningMilk$DairyReader", 165, "TurningMilk$Told", "wantPlace", "[I"), ("TurningMilk", 221, "TurningMilk$Told", "wantPlace", "[I"), ("TurningMilk$DairyReader", 168, "TurningMilk$Told", "wantLeast", "[I"), ("TurningMilk", 224, "TurningMilk$Told", "wantLeast", "[I"), ("TurningMilk$DairyReader", 171, "TurningMilk$Told", "wantMost", "[I"), ("TurningMilk", 227, "TurningMilk$Told", "wantMost", "[I"), ("TurningMilk$Tables", 63, "TurningMilk$Told", "wantPay", "[I"), ("TurningMilk$DairyReader", 174, "TurningMilk$Told", "wantPay", "[I"), ("TurningMilk", 230, "TurningMilk$Told", "wantPay", "[I"), ("TurningMilk$Trials", 29, "TurningMilk$State", "hour", "I"), ("TurningMilk$Hours", 63, "TurningMilk$State", "hour", "I"), ("TurningMilk$Turning", 85, "TurningMilk$State", "hour", "I"), ("TurningMilk", 252, "TurningMilk$State", "hour", "I"), ("TurningMilk", 286, "TurningMilk$State", "pay", "I"), ("TurningMilk$DairyReader", 140, "TurningMilk$State", "handPlace", "[I"), ("TurningMilk", 184, "TurningMilk$State", "handPlace", "[I"), ("TurningMilk$Trials", 47, "TurningMilk$State", "handToGo", "[I"), ("TurningMilk$Hours", 57, "TurningMilk$State", "handToGo", "[I"), ("TurningMilk", 187, "TurningMilk$State", "handToGo", "[I"), ("TurningMilk$Trials", 41, "TurningMilk$State", "handTired", "[I"), ("TurningMilk$Turning", 82, "TurningMilk$State", "handTired", "[I"), ("TurningMilk", 190, "TurningMilk$State", "handTired", "[I"), ("TurningMilk$DairyReader", 150, "TurningMilk$State", "jugPlace", "[I"), ("TurningMilk", 203, "TurningMilk$State", "jugPlace", "[I"), ("TurningMilk$Hours", 80, "TurningMilk$State", "jugHolder", "[I"), ("TurningMilk", 206, "TurningMilk$State", "jugHolder", "[I"), ("TurningMilk$Hours", 28, "TurningMilk$State", "jugTurned", "[I"), ("TurningMilk$Tables", 56, "TurningMilk$State", "jugTurned", "[I"), ("TurningMilk$Turning", 77, "TurningMilk$State", "jugTurned", "[I"), ("TurningMilk$DairyReader", 153, "TurningMilk$State", "jugTurned", "[I"), ("TurningMilk", 209, "TurningMilk$State", "jugTurned", "[I"), ("TurningMilk$Tables", 53, "TurningMilk$State", "wantMet", "[I"), ("TurningMilk", 233, "TurningMilk$State", "wantMet", "[I"), ("TurningMilk", 57, "TurningMilk$Scene", "told", "LTurningMilk$Told;"), ("TurningMilk$Trials", 63, "TurningMilk$Scene", "told", "LTurningMilk$Told;"), ("TurningMilk$Trials", 23, "TurningMilk$Scene", "state", "LTurningMilk$State;"), ("TurningMilk", 133, "TurningMilk$Scene", "state", "LTurningMilk$State;"), ("TurningMilk", 157, "TurningMilk$Scene", "force", "I"), ("TurningMilk", 393, "TurningMilk$Scene", "x", "I"), ("TurningMilk$Trials", 76, "TurningMilk$Scene", "tests", "I"), ("TurningMilk", 140, "TurningMilk$Scene", "tests", "I"), ("TurningMilk$Trials", 79, "TurningMilk$Scene", "testFrom", "[I"), ("TurningMilk$Trials", 85, "TurningMilk$Scene", "testHours", "[I"), ("TurningMilk$Trials", 82, "TurningMilk$Scene", "testAt", "[I"), ("TurningMilk$Trials", 88, "TurningMilk$Scene", "testTo", "[I"), ("TurningMilk", 411, "TurningMilk$Scene", "isMade", "Z"), ("TurningMilk", 127, "TurningMilk$DairyReader", "told", "LTurningMilk$Told;"), ("TurningMilk", 136, "TurningMilk$DairyReader", "state", "LTurningMilk$State;"), ("TurningMilk$Turning", 11, "TurningMilk", "NO_RULE", "[I"), ("TurningMilk$Hours", 15, "TurningMilk$Turning", "told", "LTurningMilk$Told;"), ("TurningMilk$Relay", 28, "TurningMilk$Turning", "told", "LTurningMilk$Told;"), ("TurningMilk", 163, "TurningMilk$Turning", "code", "[I"), ("TurningMilk", 389, "TurningMilk$Turning", "iced", "Z"), ("TurningMilk$Trials", 60, "TurningMilk$Turning", "turned", "I"), ("TurningMilk$Relay", 86, "TurningMilk$Turning", "turned", "I"), ("TurningMilk", 315, "TurningMilk$Turning", "turned", "I"), ("TurningMilk$Trials", 44, "TurningMilk$Turning", "tired", "I"), ("TurningMilk$Trials", 50, "TurningMilk$Turning", "road", "I"), ("TurningMilk$Relay", 79, "TurningMilk$Turning", "road", "I"), ("TurningMilk", 309, "TurningMilk$Turning", "road", "I"), ("TurningMilk", 396, "TurningMilk$Hours", "x", "I"), ("TurningMilk", 368, "TurningMilk$Trials", "probeHours", "I"), ("TurningMilk", 371, "TurningMilk$Trials", "probeAlike", "I")]
def txN : Nat := 17
def txL : List Nat := [5, 4, 4, 3, 4, 4, 4, 5, 5, 6, 4, 4, 4, 2, 3, 3, 2]
def txB : List (List Int32) := [[100, 97, 105, 114, 121], [114, 111, 97, 100], [104, 97, 110, 100], [106, 117, 103], [104, 101, 97, 116], [119, 97, 110, 116], [116, 117, 114, 110], [115, 112, 101, 101, 100], [116, 105, 114, 101, 100], [116, 117, 114, 110, 101, 100], [104, 111, 117, 114], [104, 101, 108, 100], [115, 111, 117, 114], [105, 102], [110, 111, 116], [97, 110, 100], [111, 114]]
def txR : List (String × Nat × String × Nat) := [("TurningMilk$DairyReader", 56, "dairy", 0), ("TurningMilk$DairyReader", 58, "road", 1), ("TurningMilk$DairyReader", 60, "hand", 2), ("TurningMilk$DairyReader", 62, "jug", 3), ("TurningMilk$DairyReader", 64, "heat", 4), ("TurningMilk$DairyReader", 66, "want", 5), ("TurningMilk$RuleReader", 55, "turn", 6), ("TurningMilk$Turning", 26, "hand", 2), ("TurningMilk$Turning", 28, "speed", 7), ("TurningMilk$Turning", 30, "tired", 8), ("TurningMilk$Turning", 32, "jug", 3), ("TurningMilk$Turning", 34, "turned", 9), ("TurningMilk$Turning", 36, "heat", 4), ("TurningMilk$Turning", 38, "hour", 10), ("TurningMilk$Turning", 40, "road", 1), ("TurningMilk$Turning", 42, "held", 11), ("TurningMilk$Turning", 44, "sour", 12), ("TurningMilk$RuleReader", 138, "if", 13), ("TurningMilk$RuleReader", 146, "not", 14), ("TurningMilk$RuleReader", 131, "and", 15), ("TurningMilk$RuleReader", 133, "or", 16)]
def fv (G : Gt) (t : Nat) (x : Int) : Value := if t = 0 then .int (Int32.ofInt x) else if t = 1 then .long (Int64.ofInt x) else va_rf (rfo G x)
def cE (G : Gt) (S : Sh) (M : Mm) (a : Nat) : va_E :=
  if S.2.1 a < 13 then .inr (S.2.1 a, (List.range (nF (S.2.1 a))).map (fun j => fv G (fT (S.2.1 a) j) (M a j)))
  else if S.2.1 a < 16 then .inl (gC G (S.2.1 a), S.2.2 a, .inl (fun j => Int32.ofInt (M a j)))
  else if S.2.1 a = 16 then .inl (gC G 16, S.2.2 a, .inr (.inl (fun j => Int64.ofInt (M a j))))
  else .inl (gC G (S.2.1 a), S.2.2 a, .inr (.inr (.inr (.inr (fun j => rfo G (M a j))))))
def wsM (G : Gt) (S : Sh) (M : Mm) : va_W := (List.range S.1).map (fun a => (G.1 a, cE G S M a))
def stT (S : Sh) (a : Int) (j : Nat) : Nat := if S.2.1 a < 13 then fT (S.2.1 a) j else if S.2.1 a < 16 then 0 else if S.2.1 a = 16 then 1 else 2
def r32 (x : Int) : Prop := -2147483648 ≤ x ∧ x ≤ 2147483647
def r64 (x : Int) : Prop := -9223372036854775808 ≤ x ∧ x ≤ 9223372036854775807
def Rg (S : Sh) (M : Mm) : Prop := ∀ (a : Int) (j : Nat), (stT S a j = 0 → r32 (M a j)) ∧ (stT S a j = 1 → r64 (M a j))
def aG (G : Gt) : Nat → Prop := fun q => gB G ≤ q
def Wd (D : va_G) (G : Gt) (S : Sh) (M : Mm) (H : Heap) : Prop := (∀ i j : Nat, i < S.1 → j < S.1 → G.1 i = G.1 j → i = j) ∧ (∀ i : Nat, i < S.1 → gB G ≤ G.1 i) ∧ va_P D vwCl (wsM G S M) H ∧ Rg S M
abbrev tyG (G : Gt) : List (ClassId × FieldType) := [(gC G 13, .byte), (gC G 14, .int), (gC G 15, .boolean), (gC G 16, .long), (gC G 17, .object "TurningMilk$Scene"), (gC G 18, .object "TurningMilk$State"), (gC G 19, .array .int)]
def va_AI (U : State) : Prop := (Cond.arrayOver (.array .int)).before #[] U = true
theorem va_AI.moved {u U : State} (hvm : u.vm.Alike U.vm) (h : va_AI u) : va_AI U := over_moved hvm h
/-- what is known of the tables, and of what lay there before the law began -/
def KN (D : va_G) (G : Gt) (U : State) : Prop :=
  va_K D vwCl (tyG G) U ∧ (∀ q ∈ nwT, va_Nw (.fieldLinkNest q.1 q.2.1 q.2.2.1 q.2.2.2.1 q.2.2.2.2 "TurningMilk") U) ∧ (∀ q ∈ txR, vk_R q.1 q.2.1 q.2.2.1 (gK G q.2.2.2) U) ∧ vk_S txN txL txB (gK G) (gV G) (aG G) U U.heap ∧ va_Z "TurningMilk" "NO_RULE" "[I" (.ref (gZ G)) (aG G) U U.heap ∧ va_T .int (gZ G) 0 (fun _ => .int 0) (aG G) U U.heap ∧ va_Z "java/lang/String" "COMPACT_STRINGS" "Z" (.int 1) (aG G) U U.heap ∧ va_Zq "jdk/internal/util/Preconditions" "SIOOBE_FORMATTER" "Ljava/util/function/BiFunction;" (aG G) U U.heap ∧ va_AO "TurningMilk$Scene" U ∧ va_AO "TurningMilk$State" U ∧ va_AI U
theorem KN.on {D : va_G} {G : Gt} {s U : State} {H : Heap} {locs : List Loc} (h : KN D G s) (hS : va_S (aG G) s.heap H locs) (hU : U.heap = H) (hW : s.WarmedH U.vm) : KN D G U := by
  obtain ⟨h1, h2, h3, h4, h5, h6, h7, h8, h9, h10, h11⟩ := h
  have hq : ∀ a : Nat, a < s.heap.size → ¬ aG G a → U.heap[a]? = s.heap[a]? := fun a ha hn => by rw [hU]; exact hS.2.1 a ha hn
  exact ⟨va_K.moved hW.alike h1, fun q hm => va_Nw.warmF hW (h2 q hm), fun q hm => vk_R.warm hW (h3 q hm), (h4.moved hW.alike).kept hq, (h5.moved hW.alike).kept hq, (h6.moved hW.alike).kept hq, (h7.moved hW.alike).kept hq, (h8.moved hW.alike).kept hq, h9.moved hW.alike, h10.moved hW.alike, h11.moved hW.alike⟩
theorem KN.calling {D : va_G} {G : Gt} {U : State} {g : JFrame} {mk : MethodId} {a : Array Value} (h : KN D G U) : KN D G (U.calling g mk a) := by
  obtain ⟨h1, h2, h3, h4, h5, h6, h7, h8, h9, h10, h11⟩ := h
  exact ⟨va_K.moved (u := U) (Vm.Alike.refl U.vm) h1, fun q hm => va_Nw.same (u := U) rfl rfl (h2 q hm), fun q hm => vk_R.same (u := U) rfl (h3 q hm), vk_S.moved (u := U) (Vm.Alike.refl U.vm) h4, va_Z.moved (u := U) (Vm.Alike.refl U.vm) h5, va_T.moved (u := U) (Vm.Alike.refl U.vm) h6, va_Z.moved (u := U) (Vm.Alike.refl U.vm) h7, va_Zq.moved (u := U) (Vm.Alike.refl U.vm) h8, va_AO.moved (u := U) (Vm.Alike.refl U.vm) h9, va_AO.moved (u := U) (Vm.Alike.refl U.vm) h10, va_AI.moved (u := U) (Vm.Alike.refl U.vm) h11⟩
theorem wsM_get {G : Gt} {S : Sh} {M : Mm} {a : Nat} (h : a < S.1) : (wsM G S M)[a]? = some (G.1 a, cE G S M a) := by
  unfold wsM
  rw [List.getElem?_map, List.getElem?_range h]
  rfl
theorem wsM_of {G : Gt} {S : Sh} {M : Mm} {k : Nat} {q : Nat × va_E} (h : (wsM G S M)[k]? = some q) : k < S.1 ∧ q = (G.1 k, cE G S M k) := by
  have hl : k < (wsM G S M).length := (List.getElem?_eq_some_iff.mp h).1
  have hk : k < S.1 := by simpa [wsM] using hl
  rw [wsM_get hk] at h
  exact ⟨hk, (Option.some.inj h).symm⟩
theorem Wd.D {D : va_G} {G : Gt} {S : Sh} {M : Mm} {H : Heap} (h : Wd D G S M H) {M2 : Mm} : va_D (aG G) (wsM G S M2) := by
  refine ⟨fun i j x y hi hj hxy => ?_, fun k q hk => ?_⟩
  · obtain ⟨li, rfl⟩ := wsM_of hi
    obtain ⟨lj, rfl⟩ := wsM_of hj
    exact h.1 i j li lj hxy
  · obtain ⟨lk, rfl⟩ := wsM_of hk
    exact h.2.1 k lk
theorem Wd.P {D : va_G} {G : Gt} {S : Sh} {M : Mm} {H : Heap} (h : Wd D G S M H) : va_P D vwCl (wsM G S M) H := h.2.2.1
theorem Wd.R {D : va_G} {G : Gt} {S : Sh} {M : Mm} {H : Heap} (h : Wd D G S M H) : Rg S M := h.2.2.2
def up (M : Mm) (x k v : Int) : Mm := fun a j => if a = x ∧ j = k then v else M a j
theorem up_at (M : Mm) (x k v : Int) : up M x k v x k = v := by simp [up]
theorem up_ne {M : Mm} {x k v a j : Int} (h : ¬ (a = x ∧ j = k)) : up M x k v a j = M a j := by simp [up, h]
theorem cE_ne {G : Gt} {S : Sh} {M : Mm} {x k v : Int} {b : Nat} (h : ¬ (b : Int) = x) : cE G S (up M x k v) b = cE G S M b := by
  have e : ∀ j : Int, up M x k v b j = M b j := fun j => up_ne (fun q => h q.1)
  unfold cE
  simp only [e]
/-- the cells behind one write -/
theorem wsM_set {G : Gt} {S : Sh} {M : Mm} {x k v : Int} (h0 : 0 ≤ x) (hn : x.toNat < S.1) {e : va_E} (he : e = cE G S (up M x k v) x.toNat) : (wsM G S M).set x.toNat (G.1 x.toNat, e) = wsM G S (up M x k v) := by
  apply List.ext_getElem?
  intro i
  by_cases hi : i = x.toNat
  · subst hi
    rw [List.getElem?_set_self (by simpa [wsM] using hn), wsM_get hn, he]
  · rw [List.getElem?_set_ne (Ne.symm hi)]
    by_cases hl : i < S.1
    · rw [wsM_get hl, wsM_get hl, cE_ne (by omega)]
    · rw [List.getElem?_eq_none (by simpa [wsM] using Nat.not_lt.mp hl), List.getElem?_eq_none (by simpa [wsM] using Nat.not_lt.mp hl)]
theorem Rg.put {S : Sh} {M : Mm} {x v : Int} {k : Nat} (h : Rg S M) (h1 : stT S x k = 0 → r32 v) (h2 : stT S x k = 1 → r64 v) : Rg S (up M x k v) := by
  intro a j
  by_cases e : a = x ∧ (j : Int) = k
  · obtain ⟨rfl, e2⟩ := e
    have : j = k := by omega
    subst this
    rw [up_at]
    exact ⟨h1, h2⟩
  · rw [up_ne e]
    exact h a j
/-- x is a cell of kind ci -/
def isK (S : Sh) (x : Int) (ci : Nat) : Prop := 0 ≤ x ∧ x.toNat < S.1 ∧ S.2.1 x = ci
theorem adr_of {G : Gt} {x : Int} (h : 0 ≤ x) : adr G x = G.1 x.toNat := by simp [adr, h]
theorem toInt_ofInt32 {x : Int} (h : r32 x) : (Int32.ofInt x).toInt = x := Int32.toInt_ofInt_of_le h.1 (by have := h.2; omega)
theorem toInt_ofInt64 {x : Int} (h : r64 x) : (Int64.ofInt x).toInt = x := Int64.toInt_ofInt_of_le h.1 (by have := h.2; omega)
theorem ofInt_toInt32 (k : Int32) : Int32.ofInt k.toInt = k := Int32.ofInt_toInt k
theorem ofInt_toInt64 (k : Int64) : Int64.ofInt k.toInt = k := Int64.ofInt_toInt k
theorem cE_obj {G : Gt} {S : Sh} {M : Mm} {x : Int} {ci : Nat} (h : isK S x ci) (hc : ci < 13) : cE G S M x.toNat = .inr (ci, (List.range (nF ci)).map (fun j => fv G (fT ci j) (M x j))) := by
  obtain ⟨h0, -, h2⟩ := h
  have e : ((x.toNat : Nat) : Int) = x := Int.toNat_of_nonneg h0
  unfold cE
  rw [e, h2, if_pos hc]
theorem cE_ints {G : Gt} {S : Sh} {M : Mm} {x : Int} {ci : Nat} (h : isK S x ci) (hc : 13 ≤ ci) (hc2 : ci < 16) : cE G S M x.toNat = .inl (gC G ci, S.2.2 x, .inl (fun j => Int32.ofInt (M x j))) := by
  obtain ⟨h0, -, h2⟩ := h
  have e : ((x.toNat : Nat) : Int) = x := Int.toNat_of_nonneg h0
  unfold cE
  rw [e, h2, if_neg (by omega), if_pos hc2]
theorem cE_longs {G : Gt} {S : Sh} {M : Mm} {x : Int} (h : isK S x 16) : cE G S M x.toNat = .inl (gC G 16, S.2.2 x, .inr (.inl (fun j => Int64.ofInt (M x j)))) := by
  obtain ⟨h0, -, h2⟩ := h
  have e : ((x.toNat : Nat) : Int) = x := Int.toNat_of_nonneg h0
  unfold cE
  rw [e, h2, if_neg (by omega), if_neg (by omega), if_pos rfl]
theorem cE_refs {G : Gt} {S : Sh} {M : Mm} {x : Int} {ci : Nat} (h : isK S x ci) (hc : 17 ≤ ci) : cE G S M x.toNat = .inl (gC G ci, S.2.2 x, .inr (.inr (.inr (.inr (fun j => rfo G (M x j)))))) := by
  obtain ⟨h0, -, h2⟩ := h
  have e : ((x.toNat : Nat) : Int) = x := Int.toNat_of_nonneg h0
  unfold cE
  rw [e, h2, if_neg (by omega), if_neg (by omega), if_neg (by omega)]
end
