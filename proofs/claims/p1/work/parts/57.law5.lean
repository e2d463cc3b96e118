theorem dL_law_1316 : decode cL_law 1316 = .ok (.aload_n 1, 1) := by decide +kernel
theorem dL_law_1317 : decode cL_law 1317 = .ok (.aload_n 0, 1) := by decide +kernel
theorem dL_law_1318 : decode cL_law 1318 = .ok (.iload 4, 2) := by decide +kernel
theorem dL_law_1320 : decode cL_law 1320 = .ok (.iconst 1, 1) := by decide +kernel
theorem dL_law_1321 : decode cL_law 1321 = .ok (.iadd, 1) := by decide +kernel
theorem dL_law_1322 : decode cL_law 1322 = .ok (.iaload, 1) := by decide +kernel
theorem dL_law_1323 : decode cL_law 1323 = .ok (.i2l, 1) := by decide +kernel
theorem dL_law_1324 : decode cL_law 1324 = .ok (.bipush 32, 2) := by decide +kernel
theorem dL_law_1326 : decode cL_law 1326 = .ok (.lshl, 1) := by decide +kernel
theorem dL_law_1327 : decode cL_law 1327 = .ok (.aload_n 0, 1) := by decide +kernel
theorem dL_law_1328 : decode cL_law 1328 = .ok (.iload 4, 2) := by decide +kernel
theorem dL_law_1330 : decode cL_law 1330 = .ok (.iconst 2, 1) := by decide +kernel
theorem dL_law_1331 : decode cL_law 1331 = .ok (.iadd, 1) := by decide +kernel
theorem dL_law_1332 : decode cL_law 1332 = .ok (.iaload, 1) := by decide +kernel
theorem dL_law_1333 : decode cL_law 1333 = .ok (.i2l, 1) := by decide +kernel
theorem dL_law_1334 : decode cL_law 1334 = .ok (.ldc2_w 75, 3) := by decide +kernel
theorem dL_law_1337 : decode cL_law 1337 = .ok (.land, 1) := by decide +kernel
theorem dL_law_1338 : decode cL_law 1338 = .ok (.lor, 1) := by decide +kernel
theorem dL_law_1339 : decode cL_law 1339 = .ok (.aload_n 0, 1) := by decide +kernel
theorem dL_law_1340 : decode cL_law 1340 = .ok (.iload 4, 2) := by decide +kernel
theorem dL_law_1342 : decode cL_law 1342 = .ok (.iconst 3, 1) := by decide +kernel
theorem dL_law_1343 : decode cL_law 1343 = .ok (.iadd, 1) := by decide +kernel
theorem dL_law_1344 : decode cL_law 1344 = .ok (.iaload, 1) := by decide +kernel
theorem k_9_22 : Jvm.Cond.code ({ cls := "FinderHouse", name := "goal", desc := "(JI)J" } : Jvm.MethodName) prog_1_method_56_code (4 : Nat) (Option.some Jvm.ClassFile.FieldType.long) ∈ tb := tb9 22 (by decide +kernel) (by decide +kernel)
theorem k_9_19 : Jvm.Cond.methodLink "FinderHouseLaw" (208 : Nat) ({ cls := "FinderHouse", name := "goal", desc := "(JI)J" } : Jvm.MethodName) ∈ tb := tb9 19 (by decide +kernel) (by decide +kernel)
theorem k_9_20 : Jvm.Cond.instanceMethod ({ cls := "FinderHouse", name := "goal", desc := "(JI)J" } : Jvm.MethodName) ∈ tb := tb9 20 (by decide +kernel) (by decide +kernel)
theorem k_9_21 : Jvm.Cond.selects "FinderHouse" ({ cls := "FinderHouse", name := "goal", desc := "(JI)J" } : Jvm.MethodName) ({ cls := "FinderHouse", name := "goal", desc := "(JI)J" } : Jvm.MethodName) ∈ tb := tb9 21 (by decide +kernel) (by decide +kernel)
theorem dL_law_1345 : decode cL_law 1345 = .ok (.invokevirtual 208, 3) := by decide +kernel
theorem dL_law_1348 : decode cL_law 1348 = .ok (.aload_n 2, 1) := by decide +kernel
theorem dL_law_1349 : decode cL_law 1349 = .ok (.aload_n 0, 1) := by decide +kernel
theorem dL_law_1350 : decode cL_law 1350 = .ok (.iload 4, 2) := by decide +kernel
theorem dL_law_1352 : decode cL_law 1352 = .ok (.iconst 1, 1) := by decide +kernel
theorem dL_law_1353 : decode cL_law 1353 = .ok (.iadd, 1) := by decide +kernel
theorem dL_law_1354 : decode cL_law 1354 = .ok (.iaload, 1) := by decide +kernel
theorem dL_law_1355 : decode cL_law 1355 = .ok (.i2l, 1) := by decide +kernel
theorem dL_law_1356 : decode cL_law 1356 = .ok (.bipush 32, 2) := by decide +kernel
theorem dL_law_1358 : decode cL_law 1358 = .ok (.lshl, 1) := by decide +kernel
theorem dL_law_1359 : decode cL_law 1359 = .ok (.aload_n 0, 1) := by decide +kernel
theorem dL_law_1360 : decode cL_law 1360 = .ok (.iload 4, 2) := by decide +kernel
theorem dL_law_1362 : decode cL_law 1362 = .ok (.iconst 2, 1) := by decide +kernel
theorem dL_law_1363 : decode cL_law 1363 = .ok (.iadd, 1) := by decide +kernel
theorem dL_law_1364 : decode cL_law 1364 = .ok (.iaload, 1) := by decide +kernel
theorem dL_law_1365 : decode cL_law 1365 = .ok (.i2l, 1) := by decide +kernel
theorem dL_law_1366 : decode cL_law 1366 = .ok (.ldc2_w 75, 3) := by decide +kernel
theorem dL_law_1369 : decode cL_law 1369 = .ok (.land, 1) := by decide +kernel
theorem dL_law_1370 : decode cL_law 1370 = .ok (.lor, 1) := by decide +kernel
theorem dL_law_1371 : decode cL_law 1371 = .ok (.aload_n 0, 1) := by decide +kernel
theorem dL_law_1372 : decode cL_law 1372 = .ok (.iload 4, 2) := by decide +kernel
theorem dL_law_1374 : decode cL_law 1374 = .ok (.iconst 3, 1) := by decide +kernel
theorem dL_law_1375 : decode cL_law 1375 = .ok (.iadd, 1) := by decide +kernel
theorem dL_law_1376 : decode cL_law 1376 = .ok (.iaload, 1) := by decide +kernel
theorem k_16_54 : Jvm.Cond.code ({ cls := "FinderHouseModel", name := "goal", desc := "(JI)J" } : Jvm.MethodName) prog_14_method_197_code (6 : Nat) (Option.some Jvm.ClassFile.FieldType.long) ∈ tb := tb16 54 (by decide +kernel) (by decide +kernel)
theorem k_16_51 : Jvm.Cond.methodLink "FinderHouseLaw" (212 : Nat) ({ cls := "FinderHouseModel", name := "goal", desc := "(JI)J" } : Jvm.MethodName) ∈ tb := tb16 51 (by decide +kernel) (by decide +kernel)
theorem k_16_52 : Jvm.Cond.instanceMethod ({ cls := "FinderHouseModel", name := "goal", desc := "(JI)J" } : Jvm.MethodName) ∈ tb := tb16 52 (by decide +kernel) (by decide +kernel)
theorem k_16_53 : Jvm.Cond.selects "FinderHouseModel" ({ cls := "FinderHouseModel", name := "goal", desc := "(JI)J" } : Jvm.MethodName) ({ cls := "FinderHouseModel", name := "goal", desc := "(JI)J" } : Jvm.MethodName) ∈ tb := tb16 53 (by decide +kernel) (by decide +kernel)
theorem dL_law_1377 : decode cL_law 1377 = .ok (.invokevirtual 212, 3) := by decide +kernel
theorem dL_law_1380 : decode cL_law 1380 = .ok (.lcmp, 1) := by decide +kernel
theorem dL_law_1381 : decode cL_law 1381 = .ok (.ifCond .eq 216, 3) := by decide +kernel
theorem dL_law_1386 : decode cL_law 1386 = .ok (.aload_n 1, 1) := by decide +kernel
theorem k_9_29 : Jvm.Cond.code ({ cls := "FinderHouse", name := "sync", desc := "()I" } : Jvm.MethodName) prog_1_method_57_code (2 : Nat) (Option.some Jvm.ClassFile.FieldType.int) ∈ tb := tb9 29 (by decide +kernel) (by decide +kernel)
theorem k_9_26 : Jvm.Cond.methodLink "FinderHouseLaw" (213 : Nat) ({ cls := "FinderHouse", name := "sync", desc := "()I" } : Jvm.MethodName) ∈ tb := tb9 26 (by decide +kernel) (by decide +kernel)
theorem k_9_27 : Jvm.Cond.instanceMethod ({ cls := "FinderHouse", name := "sync", desc := "()I" } : Jvm.MethodName) ∈ tb := tb9 27 (by decide +kernel) (by decide +kernel)
theorem k_9_28 : Jvm.Cond.selects "FinderHouse" ({ cls := "FinderHouse", name := "sync", desc := "()I" } : Jvm.MethodName) ({ cls := "FinderHouse", name := "sync", desc := "()I" } : Jvm.MethodName) ∈ tb := tb9 28 (by decide +kernel) (by decide +kernel)
theorem dL_law_1387 : decode cL_law 1387 = .ok (.invokevirtual 213, 3) := by decide +kernel
theorem dL_law_1390 : decode cL_law 1390 = .ok (.aload_n 2, 1) := by decide +kernel
theorem k_16_71 : Jvm.Cond.code ({ cls := "FinderHouseModel", name := "sync", desc := "()I" } : Jvm.MethodName) prog_14_method_202_code (6 : Nat) (Option.some Jvm.ClassFile.FieldType.int) ∈ tb := tb16 71 (by decide +kernel) (by decide +kernel)
theorem k_16_68 : Jvm.Cond.methodLink "FinderHouseLaw" (216 : Nat) ({ cls := "FinderHouseModel", name := "sync", desc := "()I" } : Jvm.MethodName) ∈ tb := tb16 68 (by decide +kernel) (by decide +kernel)
theorem k_16_69 : Jvm.Cond.instanceMethod ({ cls := "FinderHouseModel", name := "sync", desc := "()I" } : Jvm.MethodName) ∈ tb := tb16 69 (by decide +kernel) (by decide +kernel)
theorem k_16_70 : Jvm.Cond.selects "FinderHouseModel" ({ cls := "FinderHouseModel", name := "sync", desc := "()I" } : Jvm.MethodName) ({ cls := "FinderHouseModel", name := "sync", desc := "()I" } : Jvm.MethodName) ∈ tb := tb16 70 (by decide +kernel) (by decide +kernel)
theorem dL_law_1391 : decode cL_law 1391 = .ok (.invokevirtual 216, 3) := by decide +kernel
theorem dL_law_1394 : decode cL_law 1394 = .ok (.if_icmp .eq 203, 3) := by decide +kernel
theorem dL_law_1399 : decode cL_law 1399 = .ok (.aload_n 1, 1) := by decide +kernel
theorem dL_law_1400 : decode cL_law 1400 = .ok (.aload_n 0, 1) := by decide +kernel
theorem dL_law_1401 : decode cL_law 1401 = .ok (.iload 4, 2) := by decide +kernel
theorem dL_law_1403 : decode cL_law 1403 = .ok (.iconst 1, 1) := by decide +kernel
theorem dL_law_1404 : decode cL_law 1404 = .ok (.iadd, 1) := by decide +kernel
theorem dL_law_1405 : decode cL_law 1405 = .ok (.iaload, 1) := by decide +kernel
theorem dL_law_1406 : decode cL_law 1406 = .ok (.aload_n 0, 1) := by decide +kernel
theorem dL_law_1407 : decode cL_law 1407 = .ok (.iload 4, 2) := by decide +kernel
theorem dL_law_1409 : decode cL_law 1409 = .ok (.iconst 2, 1) := by decide +kernel
theorem dL_law_1410 : decode cL_law 1410 = .ok (.iadd, 1) := by decide +kernel
theorem dL_law_1411 : decode cL_law 1411 = .ok (.iaload, 1) := by decide +kernel
theorem k_9_53 : Jvm.Cond.code ({ cls := "FinderHouse", name := "cut", desc := "(II)I" } : Jvm.MethodName) prog_1_method_58_code (3 : Nat) (Option.some Jvm.ClassFile.FieldType.int) ∈ tb := tb9 53 (by decide +kernel) (by decide +kernel)
theorem k_9_50 : Jvm.Cond.methodLink "FinderHouseLaw" (217 : Nat) ({ cls := "FinderHouse", name := "cut", desc := "(II)I" } : Jvm.MethodName) ∈ tb := tb9 50 (by decide +kernel) (by decide +kernel)
theorem k_9_51 : Jvm.Cond.instanceMethod ({ cls := "FinderHouse", name := "cut", desc := "(II)I" } : Jvm.MethodName) ∈ tb := tb9 51 (by decide +kernel) (by decide +kernel)
theorem k_9_52 : Jvm.Cond.selects "FinderHouse" ({ cls := "FinderHouse", name := "cut", desc := "(II)I" } : Jvm.MethodName) ({ cls := "FinderHouse", name := "cut", desc := "(II)I" } : Jvm.MethodName) ∈ tb := tb9 52 (by decide +kernel) (by decide +kernel)
theorem dL_law_1412 : decode cL_law 1412 = .ok (.invokevirtual 217, 3) := by decide +kernel
theorem dL_law_1415 : decode cL_law 1415 = .ok (.aload_n 2, 1) := by decide +kernel
theorem dL_law_1416 : decode cL_law 1416 = .ok (.aload_n 0, 1) := by decide +kernel
theorem dL_law_1417 : decode cL_law 1417 = .ok (.iload 4, 2) := by decide +kernel
theorem dL_law_1419 : decode cL_law 1419 = .ok (.iconst 1, 1) := by decide +kernel
theorem dL_law_1420 : decode cL_law 1420 = .ok (.iadd, 1) := by decide +kernel
theorem dL_law_1421 : decode cL_law 1421 = .ok (.iaload, 1) := by decide +kernel
theorem dL_law_1422 : decode cL_law 1422 = .ok (.aload_n 0, 1) := by decide +kernel
theorem dL_law_1423 : decode cL_law 1423 = .ok (.iload 4, 2) := by decide +kernel
theorem dL_law_1425 : decode cL_law 1425 = .ok (.iconst 2, 1) := by decide +kernel
theorem dL_law_1426 : decode cL_law 1426 = .ok (.iadd, 1) := by decide +kernel
theorem dL_law_1427 : decode cL_law 1427 = .ok (.iaload, 1) := by decide +kernel
theorem k_16_79 : Jvm.Cond.code ({ cls := "FinderHouseModel", name := "cut", desc := "(II)I" } : Jvm.MethodName) prog_14_method_203_code (3 : Nat) (Option.some Jvm.ClassFile.FieldType.int) ∈ tb := tb16 79 (by decide +kernel) (by decide +kernel)
theorem k_16_76 : Jvm.Cond.methodLink "FinderHouseLaw" (220 : Nat) ({ cls := "FinderHouseModel", name := "cut", desc := "(II)I" } : Jvm.MethodName) ∈ tb := tb16 76 (by decide +kernel) (by decide +kernel)
theorem k_16_77 : Jvm.Cond.instanceMethod ({ cls := "FinderHouseModel", name := "cut", desc := "(II)I" } : Jvm.MethodName) ∈ tb := tb16 77 (by decide +kernel) (by decide +kernel)
theorem k_16_78 : Jvm.Cond.selects "FinderHouseModel" ({ cls := "FinderHouseModel", name := "cut", desc := "(II)I" } : Jvm.MethodName) ({ cls := "FinderHouseModel", name := "cut", desc := "(II)I" } : Jvm.MethodName) ∈ tb := tb16 78 (by decide +kernel) (by decide +kernel)
theorem dL_law_1428 : decode cL_law 1428 = .ok (.invokevirtual 220, 3) := by decide +kernel
theorem dL_law_1431 : decode cL_law 1431 = .ok (.if_icmp .eq 166, 3) := by decide +kernel
theorem dL_law_1436 : decode cL_law 1436 = .ok (.aload_n 1, 1) := by decide +kernel
theorem k_9_57 : Jvm.Cond.code ({ cls := "FinderHouse", name := "start", desc := "()I" } : Jvm.MethodName) prog_1_method_59_code (7 : Nat) (Option.some Jvm.ClassFile.FieldType.int) ∈ tb := tb9 57 (by decide +kernel) (by decide +kernel)
theorem k_9_54 : Jvm.Cond.methodLink "FinderHouseLaw" (221 : Nat) ({ cls := "FinderHouse", name := "start", desc := "()I" } : Jvm.MethodName) ∈ tb := tb9 54 (by decide +kernel) (by decide +kernel)
theorem k_9_55 : Jvm.Cond.instanceMethod ({ cls := "FinderHouse", name := "start", desc := "()I" } : Jvm.MethodName) ∈ tb := tb9 55 (by decide +kernel) (by decide +kernel)
theorem k_9_56 : Jvm.Cond.selects "FinderHouse" ({ cls := "FinderHouse", name := "start", desc := "()I" } : Jvm.MethodName) ({ cls := "FinderHouse", name := "start", desc := "()I" } : Jvm.MethodName) ∈ tb := tb9 56 (by decide +kernel) (by decide +kernel)
theorem dL_law_1437 : decode cL_law 1437 = .ok (.invokevirtual 221, 3) := by decide +kernel
theorem dL_law_1440 : decode cL_law 1440 = .ok (.aload_n 2, 1) := by decide +kernel
theorem k_16_85 : Jvm.Cond.code ({ cls := "FinderHouseModel", name := "start", desc := "()I" } : Jvm.MethodName) prog_14_method_205_code (5 : Nat) (Option.some Jvm.ClassFile.FieldType.int) ∈ tb := tb16 85 (by decide +kernel) (by decide +kernel)
theorem k_16_82 : Jvm.Cond.methodLink "FinderHouseLaw" (224 : Nat) ({ cls := "FinderHouseModel", name := "start", desc := "()I" } : Jvm.MethodName) ∈ tb := tb16 82 (by decide +kernel) (by decide +kernel)
theorem k_16_83 : Jvm.Cond.instanceMethod ({ cls := "FinderHouseModel", name := "start", desc := "()I" } : Jvm.MethodName) ∈ tb := tb16 83 (by decide +kernel) (by decide +kernel)
theorem k_16_84 : Jvm.Cond.selects "FinderHouseModel" ({ cls := "FinderHouseModel", name := "start", desc := "()I" } : Jvm.MethodName) ({ cls := "FinderHouseModel", name := "start", desc := "()I" } : Jvm.MethodName) ∈ tb := tb16 84 (by decide +kernel) (by decide +kernel)
theorem dL_law_1441 : decode cL_law 1441 = .ok (.invokevirtual 224, 3) := by decide +kernel
theorem dL_law_1444 : decode cL_law 1444 = .ok (.if_icmp .eq 153, 3) := by decide +kernel
theorem dL_law_1449 : decode cL_law 1449 = .ok (.aload_n 1, 1) := by decide +kernel
theorem dL_law_1450 : decode cL_law 1450 = .ok (.aload_n 0, 1) := by decide +kernel
theorem dL_law_1451 : decode cL_law 1451 = .ok (.iload 4, 2) := by decide +kernel
theorem dL_law_1453 : decode cL_law 1453 = .ok (.iconst 1, 1) := by decide +kernel
theorem dL_law_1454 : decode cL_law 1454 = .ok (.iadd, 1) := by decide +kernel
theorem dL_law_1455 : decode cL_law 1455 = .ok (.iaload, 1) := by decide +kernel
theorem dL_law_1456 : decode cL_law 1456 = .ok (.aload_n 0, 1) := by decide +kernel
theorem dL_law_1457 : decode cL_law 1457 = .ok (.iload 4, 2) := by decide +kernel
theorem dL_law_1459 : decode cL_law 1459 = .ok (.iconst 2, 1) := by decide +kernel
theorem dL_law_1460 : decode cL_law 1460 = .ok (.iadd, 1) := by decide +kernel
theorem dL_law_1461 : decode cL_law 1461 = .ok (.iaload, 1) := by decide +kernel
theorem dL_law_1462 : decode cL_law 1462 = .ok (.aload_n 3, 1) := by decide +kernel
theorem k_9_195 : Jvm.Cond.codeWith ({ cls := "FinderHouseLaw", name := "octet", desc := "(LFinderHouse;II[J)I" } : Jvm.MethodName) method_5_code (5 : Nat) (Option.some Jvm.ClassFile.FieldType.int) [((0 : Nat), (10 : Nat), (13 : Nat), (25 : Nat))] ∈ tb := tb9 195 (by decide +kernel) (by decide +kernel)
theorem k_9_193 : Jvm.Cond.methodLink "FinderHouseLaw" (225 : Nat) ({ cls := "FinderHouseLaw", name := "octet", desc := "(LFinderHouse;II[J)I" } : Jvm.MethodName) ∈ tb := tb9 193 (by decide +kernel) (by decide +kernel)
theorem k_9_194 : Jvm.Cond.static ({ cls := "FinderHouseLaw", name := "octet", desc := "(LFinderHouse;II[J)I" } : Jvm.MethodName) ∈ tb := tb9 194 (by decide +kernel) (by decide +kernel)
theorem dL_law_1463 : decode cL_law 1463 = .ok (.invokestatic 225, 3) := by decide +kernel
theorem dL_law_1466 : decode cL_law 1466 = .ok (.istore 5, 2) := by decide +kernel
theorem dL_law_1468 : decode cL_law 1468 = .ok (.aload_n 2, 1) := by decide +kernel
theorem dL_law_1469 : decode cL_law 1469 = .ok (.aload_n 0, 1) := by decide +kernel
theorem dL_law_1470 : decode cL_law 1470 = .ok (.iload 4, 2) := by decide +kernel
theorem dL_law_1472 : decode cL_law 1472 = .ok (.iconst 1, 1) := by decide +kernel
theorem dL_law_1473 : decode cL_law 1473 = .ok (.iadd, 1) := by decide +kernel
theorem dL_law_1474 : decode cL_law 1474 = .ok (.iaload, 1) := by decide +kernel
theorem dL_law_1475 : decode cL_law 1475 = .ok (.aload_n 0, 1) := by decide +kernel
theorem dL_law_1476 : decode cL_law 1476 = .ok (.iload 4, 2) := by decide +kernel
theorem dL_law_1478 : decode cL_law 1478 = .ok (.iconst 2, 1) := by decide +kernel
theorem dL_law_1479 : decode cL_law 1479 = .ok (.iadd, 1) := by decide +kernel
theorem dL_law_1480 : decode cL_law 1480 = .ok (.iaload, 1) := by decide +kernel
theorem k_16_107 : Jvm.Cond.code ({ cls := "FinderHouseModel", name := "octet", desc := "(II)I" } : Jvm.MethodName) prog_14_method_209_code (3 : Nat) (Option.some Jvm.ClassFile.FieldType.int) ∈ tb := tb16 107 (by decide +kernel) (by decide +kernel)
theorem k_16_104 : Jvm.Cond.methodLink "FinderHouseLaw" (228 : Nat) ({ cls := "FinderHouseModel", name := "octet", desc := "(II)I" } : Jvm.MethodName) ∈ tb := tb16 104 (by decide +kernel) (by decide +kernel)
theorem k_16_105 : Jvm.Cond.instanceMethod ({ cls := "FinderHouseModel", name := "octet", desc := "(II)I" } : Jvm.MethodName) ∈ tb := tb16 105 (by decide +kernel) (by decide +kernel)
theorem k_16_106 : Jvm.Cond.selects "FinderHouseModel" ({ cls := "FinderHouseModel", name := "octet", desc := "(II)I" } : Jvm.MethodName) ({ cls := "FinderHouseModel", name := "octet", desc := "(II)I" } : Jvm.MethodName) ∈ tb := tb16 106 (by decide +kernel) (by decide +kernel)
theorem dL_law_1481 : decode cL_law 1481 = .ok (.invokevirtual 228, 3) := by decide +kernel
theorem dL_law_1484 : decode cL_law 1484 = .ok (.istore 6, 2) := by decide +kernel
theorem dL_law_1486 : decode cL_law 1486 = .ok (.aload_n 2, 1) := by decide +kernel
theorem dL_law_1487 : decode cL_law 1487 = .ok (.invokevirtual 41, 3) := by decide +kernel
theorem dL_law_1490 : decode cL_law 1490 = .ok (.iload 5, 2) := by decide +kernel
theorem dL_law_1492 : decode cL_law 1492 = .ok (.if_icmp .eq 5, 3) := by decide +kernel
theorem dL_law_1497 : decode cL_law 1497 = .ok (.iload 5, 2) := by decide +kernel
theorem dL_law_1499 : decode cL_law 1499 = .ok (.ifCond .ne 15, 3) := by decide +kernel
theorem dL_law_1502 : decode cL_law 1502 = .ok (.aload_n 3, 1) := by decide +kernel
theorem dL_law_1503 : decode cL_law 1503 = .ok (.iconst 0, 1) := by decide +kernel
theorem dL_law_1504 : decode cL_law 1504 = .ok (.laload, 1) := by decide +kernel
theorem dL_law_1505 : decode cL_law 1505 = .ok (.iload 6, 2) := by decide +kernel
theorem dL_law_1507 : decode cL_law 1507 = .ok (.i2l, 1) := by decide +kernel
theorem dL_law_1508 : decode cL_law 1508 = .ok (.lcmp, 1) := by decide +kernel
theorem dL_law_1509 : decode cL_law 1509 = .ok (.ifCond .eq 5, 3) := by decide +kernel
theorem dL_law_1514 : decode cL_law 1514 = .ok (.goto 83, 3) := by decide +kernel
theorem dL_law_1517 : decode cL_law 1517 = .ok (.aload_n 1, 1) := by decide +kernel
theorem dL_law_1518 : decode cL_law 1518 = .ok (.aload_n 0, 1) := by decide +kernel
theorem dL_law_1519 : decode cL_law 1519 = .ok (.iload 4, 2) := by decide +kernel
theorem dL_law_1521 : decode cL_law 1521 = .ok (.iconst 1, 1) := by decide +kernel
theorem dL_law_1522 : decode cL_law 1522 = .ok (.iadd, 1) := by decide +kernel
theorem dL_law_1523 : decode cL_law 1523 = .ok (.iaload, 1) := by decide +kernel
theorem dL_law_1524 : decode cL_law 1524 = .ok (.aload_n 0, 1) := by decide +kernel
theorem dL_law_1525 : decode cL_law 1525 = .ok (.iload 4, 2) := by decide +kernel
theorem dL_law_1527 : decode cL_law 1527 = .ok (.iconst 2, 1) := by decide +kernel
theorem dL_law_1528 : decode cL_law 1528 = .ok (.iadd, 1) := by decide +kernel
theorem dL_law_1529 : decode cL_law 1529 = .ok (.iaload, 1) := by decide +kernel
theorem dL_law_1530 : decode cL_law 1530 = .ok (.aload_n 0, 1) := by decide +kernel
theorem dL_law_1531 : decode cL_law 1531 = .ok (.iload 4, 2) := by decide +kernel
theorem dL_law_1533 : decode cL_law 1533 = .ok (.iconst 3, 1) := by decide +kernel
theorem dL_law_1534 : decode cL_law 1534 = .ok (.iadd, 1) := by decide +kernel
theorem dL_law_1535 : decode cL_law 1535 = .ok (.iaload, 1) := by decide +kernel
theorem dL_law_1536 : decode cL_law 1536 = .ok (.aload_n 3, 1) := by decide +kernel
theorem k_9_224 : Jvm.Cond.codeWith ({ cls := "FinderHouseLaw", name := "poke", desc := "(LFinderHouse;III[J)I" } : Jvm.MethodName) method_6_code (6 : Nat) (Option.some Jvm.ClassFile.FieldType.int) [((0 : Nat), (12 : Nat), (15 : Nat), (25 : Nat))] ∈ tb := tb9 224 (by decide +kernel) (by decide +kernel)
theorem k_9_222 : Jvm.Cond.methodLink "FinderHouseLaw" (229 : Nat) ({ cls := "FinderHouseLaw", name := "poke", desc := "(LFinderHouse;III[J)I" } : Jvm.MethodName) ∈ tb := tb9 222 (by decide +kernel) (by decide +kernel)
theorem k_9_223 : Jvm.Cond.static ({ cls := "FinderHouseLaw", name := "poke", desc := "(LFinderHouse;III[J)I" } : Jvm.MethodName) ∈ tb := tb9 223 (by decide +kernel) (by decide +kernel)
theorem dL_law_1537 : decode cL_law 1537 = .ok (.invokestatic 229, 3) := by decide +kernel
theorem dL_law_1540 : decode cL_law 1540 = .ok (.istore 5, 2) := by decide +kernel
theorem dL_law_1542 : decode cL_law 1542 = .ok (.aload_n 2, 1) := by decide +kernel
theorem dL_law_1543 : decode cL_law 1543 = .ok (.aload_n 0, 1) := by decide +kernel
theorem dL_law_1544 : decode cL_law 1544 = .ok (.iload 4, 2) := by decide +kernel
theorem dL_law_1546 : decode cL_law 1546 = .ok (.iconst 1, 1) := by decide +kernel
theorem dL_law_1547 : decode cL_law 1547 = .ok (.iadd, 1) := by decide +kernel
theorem dL_law_1548 : decode cL_law 1548 = .ok (.iaload, 1) := by decide +kernel
theorem dL_law_1549 : decode cL_law 1549 = .ok (.aload_n 0, 1) := by decide +kernel
theorem dL_law_1550 : decode cL_law 1550 = .ok (.iload 4, 2) := by decide +kernel
theorem dL_law_1552 : decode cL_law 1552 = .ok (.iconst 2, 1) := by decide +kernel
theorem dL_law_1553 : decode cL_law 1553 = .ok (.iadd, 1) := by decide +kernel
theorem dL_law_1554 : decode cL_law 1554 = .ok (.iaload, 1) := by decide +kernel
theorem dL_law_1555 : decode cL_law 1555 = .ok (.aload_n 0, 1) := by decide +kernel
theorem dL_law_1556 : decode cL_law 1556 = .ok (.iload 4, 2) := by decide +kernel
theorem dL_law_1558 : decode cL_law 1558 = .ok (.iconst 3, 1) := by decide +kernel
theorem dL_law_1559 : decode cL_law 1559 = .ok (.iadd, 1) := by decide +kernel
theorem dL_law_1560 : decode cL_law 1560 = .ok (.iaload, 1) := by decide +kernel
theorem k_16_112 : Jvm.Cond.code ({ cls := "FinderHouseModel", name := "poke", desc := "(III)I" } : Jvm.MethodName) prog_14_method_210_code (4 : Nat) (Option.some Jvm.ClassFile.FieldType.int) ∈ tb := tb16 112 (by decide +kernel) (by decide +kernel)
theorem k_16_109 : Jvm.Cond.methodLink "FinderHouseLaw" (232 : Nat) ({ cls := "FinderHouseModel", name := "poke", desc := "(III)I" } : Jvm.MethodName) ∈ tb := tb16 109 (by decide +kernel) (by decide +kernel)
theorem k_16_110 : Jvm.Cond.instanceMethod ({ cls := "FinderHouseModel", name := "poke", desc := "(III)I" } : Jvm.MethodName) ∈ tb := tb16 110 (by decide +kernel) (by decide +kernel)
theorem k_16_111 : Jvm.Cond.selects "FinderHouseModel" ({ cls := "FinderHouseModel", name := "poke", desc := "(III)I" } : Jvm.MethodName) ({ cls := "FinderHouseModel", name := "poke", desc := "(III)I" } : Jvm.MethodName) ∈ tb := tb16 111 (by decide +kernel) (by decide +kernel)
theorem dL_law_1561 : decode cL_law 1561 = .ok (.invokevirtual 232, 3) := by decide +kernel
theorem dL_law_1564 : decode cL_law 1564 = .ok (.istore 6, 2) := by decide +kernel
theorem dL_law_1566 : decode cL_law 1566 = .ok (.aload_n 2, 1) := by decide +kernel
theorem dL_law_1567 : decode cL_law 1567 = .ok (.invokevirtual 41, 3) := by decide +kernel
theorem dL_law_1570 : decode cL_law 1570 = .ok (.iload 5, 2) := by decide +kernel
theorem dL_law_1572 : decode cL_law 1572 = .ok (.if_icmp .eq 5, 3) := by decide +kernel
theorem dL_law_1577 : decode cL_law 1577 = .ok (.iload 5, 2) := by decide +kernel
theorem dL_law_1579 : decode cL_law 1579 = .ok (.ifCond .ne 15, 3) := by decide +kernel
theorem dL_law_1582 : decode cL_law 1582 = .ok (.aload_n 3, 1) := by decide +kernel
theorem dL_law_1583 : decode cL_law 1583 = .ok (.iconst 0, 1) := by decide +kernel
theorem dL_law_1584 : decode cL_law 1584 = .ok (.laload, 1) := by decide +kernel
theorem dL_law_1585 : decode cL_law 1585 = .ok (.iload 6, 2) := by decide +kernel
theorem dL_law_1587 : decode cL_law 1587 = .ok (.i2l, 1) := by decide +kernel
theorem dL_law_1588 : decode cL_law 1588 = .ok (.lcmp, 1) := by decide +kernel
theorem dL_law_1589 : decode cL_law 1589 = .ok (.ifCond .eq 5, 3) := by decide +kernel
theorem dL_law_1594 : decode cL_law 1594 = .ok (.goto 3, 3) := by decide +kernel
set_option maxHeartbeats 4000000 in
set_option maxRecDepth 100000 in
theorem lw_c40 {p : Program} {e : Env} {s : State} {m : MethodId} {below : List Frame} {meth : Method} {c : Code} (l : Launch) {b : Nat} {xs : Nat → Int32} (C0 : lw_At p s m meth c b 6 xs) (dC : Nat → ClassId) (dI : Nat → Nat → Nat) {A : Nat → Prop} (hA : ∀ q : Nat, s.heap.size ≤ q → A q) (hA2 : ∀ q : Nat, A q → s.heap.size ≤ q) (xq : Nat) (xfs1 : List Value) (mq : Nat) (mfs1 : List Value) (mqa : Nat) (mca : ClassId) (mra : Nat → Nat) (mqb : Nat) (mcb : ClassId) (mrb : Nat → Nat) (mcy : ClassId) (ou : Nat) {H : Heap} {locs : List Loc} {ls : Array Slot} (hK : va_K (dC, dI) cls [(mca, .array .int), (mcy, .int), (mcb, .array .int)] s) (hP : va_P (dC, dI) cls [(xq, .inr (11, xfs1)), (mq, .inr (15, mfs1)), (mqa, .inl (mca, 9, .inr (.inr (.inr (.inr (fun i => if i < 9 then some (mra i) else none)))))), ((mra 0), .inl (mcy, 16, .inl (fun _ => 0))), ((mra 1), .inl (mcy, 16, .inl (fun _ => 0))), ((mra 2), .inl (mcy, 16, .inl (fun _ => 0))), ((mra 3), .inl (mcy, 16, .inl (fun _ => 0))), ((mra 4), .inl (mcy, 16, .inl (fun _ => 0))), ((mra 5), .inl (mcy, 16, .inl (fun _ => 0))), ((mra 6), .inl (mcy, 16, .inl (fun _ => 0))), ((mra 7), .inl (mcy, 16, .inl (fun _ => 0))), ((mra 8), .inl (mcy, 16, .inl (fun _ => 0))), (mqb, .inl (mcb, 9, .inr (.inr (.inr (.inr (fun i => if i < 9 then some (mrb i) else none)))))), ((mrb 0), .inl (mcy, 16, .inl (fun _ => 0))), ((mrb 1), .inl (mcy, 16, .inl (fun _ => 0))), ((mrb 2), .inl (mcy, 16, .inl (fun _ => 0))), ((mrb 3), .inl (mcy, 16, .inl (fun _ => 0))), ((mrb 4), .inl (mcy, 16, .inl (fun _ => 0))), ((mrb 5), .inl (mcy, 16, .inl (fun _ => 0))), ((mrb 6), .inl (mcy, 16, .inl (fun _ => 0))), ((mrb 7), .inl (mcy, 16, .inl (fun _ => 0))), ((mrb 8), .inl (mcy, 16, .inl (fun _ => 0)))] H) (hD : va_D A [(xq, .inr (11, xfs1)), (mq, .inr (15, mfs1)), (mqa, .inl (mca, 9, .inr (.inr (.inr (.inr (fun i => if i < 9 then some (mra i) else none)))))), ((mra 0), .inl (mcy, 16, .inl (fun _ => 0))), ((mra 1), .inl (mcy, 16, .inl (fun _ => 0))), ((mra 2), .inl (mcy, 16, .inl (fun _ => 0))), ((mra 3), .inl (mcy, 16, .inl (fun _ => 0))), ((mra 4), .inl (mcy, 16, .inl (fun _ => 0))), ((mra 5), .inl (mcy, 16, .inl (fun _ => 0))), ((mra 6), .inl (mcy, 16, .inl (fun _ => 0))), ((mra 7), .inl (mcy, 16, .inl (fun _ => 0))), ((mra 8), .inl (mcy, 16, .inl (fun _ => 0))), (mqb, .inl (mcb, 9, .inr (.inr (.inr (.inr (fun i => if i < 9 then some (mrb i) else none)))))), ((mrb 0), .inl (mcy, 16, .inl (fun _ => 0))), ((mrb 1), .inl (mcy, 16, .inl (fun _ => 0))), ((mrb 2), .inl (mcy, 16, .inl (fun _ => 0))), ((mrb 3), .inl (mcy, 16, .inl (fun _ => 0))), ((mrb 4), .inl (mcy, 16, .inl (fun _ => 0))), ((mrb 5), .inl (mcy, 16, .inl (fun _ => 0))), ((mrb 6), .inl (mcy, 16, .inl (fun _ => 0))), ((mrb 7), .inl (mcy, 16, .inl (fun _ => 0))), ((mrb 8), .inl (mcy, 16, .inl (fun _ => 0)))]) (hS : va_S A s.heap H locs) (hl : lv_has ls 7 [(4, .int 0), (3, .ref ou), (2, .ref mq), (1, .ref xq), (0, .ref b)]) (L_xfs1 : xfs1.length = 18) (L_mfs1 : mfs1.length = 163) (K139_mfs1 : mfs1[139]? = some (.ref mqa)) (K140_mfs1 : mfs1[140]? = some (.ref mqb)) : W p l e room_1 s m #[Value.ref b] below meth c H locs 951 1458901 (lw_Z below #[Value.ref b] s) (F0 m 1316 ls []) := by
  obtain ⟨hx, hb, hr, hml, hown, hts, hX, hbl, hlocks, hgv⟩ := id C0
  have hown : s.vm.findClass RL = some m.cls := hown
  have ht : ∀ w ∈ tb, w.before #[Value.ref b] s = true := fun w hw => hts w (List.mem_filter.mp hw).1
  have hbA : ¬ A b := fun h => absurd (hA2 _ h) (Nat.not_le.mpr hbl)
  refine lv_aload_n hx hb dL_law_1316 rfl (lv_at hl 3 rfl) ?_
  refine lv_aload_n hx hb dL_law_1317 rfl (lv_at hl 4 rfl) ?_
  refine lv_iload hx hb dL_law_1318 (lv_at hl 0 rfl) ?_
  refine lv_iconst (v := 1) hx hb dL_law_1320 (by decide) ?_
  refine lv_iadd hx hb dL_law_1321 ?_
  refine tk_i (y := 1) (by decide) ?_
  refine va_sld hx hb hX hbl hbA hS (by unfold vp_in; decide) dL_law_1322 ?_
  refine tk_i (y := (xs 1)) rfl ?_
  refine lv_i2l hx hb dL_law_1323 rfl ?_
  refine tk_l (y := (xs 1).toInt64) rfl ?_
  refine lv_bipush (v := 32) hx hb dL_law_1324 (by decide) ?_
  refine lv_lshl hx hb dL_law_1326 rfl ?_
  refine tk_l (y := (((xs 1).toInt64) <<< ((32 : Int32).toInt64 &&& 63))) rfl ?_
  refine lv_aload_n hx hb dL_law_1327 rfl (lv_at hl 4 rfl) ?_
  refine lv_iload hx hb dL_law_1328 (lv_at hl 0 rfl) ?_
  refine lv_iconst (v := 2) hx hb dL_law_1330 (by decide) ?_
  refine lv_iadd hx hb dL_law_1331 ?_
  refine tk_i (y := 2) (by decide) ?_
  refine va_sld hx hb hX hbl hbA hS (by unfold vp_in; decide) dL_law_1332 ?_
  refine tk_i (y := (xs 2)) rfl ?_
  refine lv_i2l hx hb dL_law_1333 rfl ?_
  refine tk_l (y := (xs 2).toInt64) rfl ?_
  refine lv_ldc2 (v := 4294967295) hx hb hown (ht _ k_16_113) dL_law_1334 ?_
  refine lv_land hx hb dL_law_1337 ?_
  refine tk_l (y := (((xs 2).toInt64) &&& 4294967295)) rfl ?_
  refine lv_lor hx hb dL_law_1338 ?_
  refine tk_l (y := ((((xs 1).toInt64) <<< ((32 : Int32).toInt64 &&& 63)) ||| (((xs 2).toInt64) &&& 4294967295))) rfl ?_
  refine lv_aload_n hx hb dL_law_1339 rfl (lv_at hl 4 rfl) ?_
  refine lv_iload hx hb dL_law_1340 (lv_at hl 0 rfl) ?_
  refine lv_iconst (v := 3) hx hb dL_law_1342 (by decide) ?_
  refine lv_iadd hx hb dL_law_1343 ?_
  refine tk_i (y := 3) (by decide) ?_
  refine va_sld hx hb hX hbl hbA hS (by unfold vp_in; decide) dL_law_1344 ?_
  refine tk_i (y := (xs 3)) rfl ?_
  refine ca_l (wr := [(mq, .inr (15, mfs1)), (mqa, .inl (mca, 9, .inr (.inr (.inr (.inr (fun i => if i < 9 then some (mra i) else none)))))), ((mra 0), .inl (mcy, 16, .inl (fun _ => 0))), ((mra 1), .inl (mcy, 16, .inl (fun _ => 0))), ((mra 2), .inl (mcy, 16, .inl (fun _ => 0))), ((mra 3), .inl (mcy, 16, .inl (fun _ => 0))), ((mra 4), .inl (mcy, 16, .inl (fun _ => 0))), ((mra 5), .inl (mcy, 16, .inl (fun _ => 0))), ((mra 6), .inl (mcy, 16, .inl (fun _ => 0))), ((mra 7), .inl (mcy, 16, .inl (fun _ => 0))), ((mra 8), .inl (mcy, 16, .inl (fun _ => 0))), (mqb, .inl (mcb, 9, .inr (.inr (.inr (.inr (fun i => if i < 9 then some (mrb i) else none)))))), ((mrb 0), .inl (mcy, 16, .inl (fun _ => 0))), ((mrb 1), .inl (mcy, 16, .inl (fun _ => 0))), ((mrb 2), .inl (mcy, 16, .inl (fun _ => 0))), ((mrb 3), .inl (mcy, 16, .inl (fun _ => 0))), ((mrb 4), .inl (mcy, 16, .inl (fun _ => 0))), ((mrb 5), .inl (mcy, 16, .inl (fun _ => 0))), ((mrb 6), .inl (mcy, 16, .inl (fun _ => 0))), ((mrb 7), .inl (mcy, 16, .inl (fun _ => 0))), ((mrb 8), .inl (mcy, 16, .inl (fun _ => 0)))]) (va_runV (As := [.long ((((xs 1).toInt64) <<< ((32 : Int32).toInt64 &&& 63)) ||| (((xs 2).toInt64) &&& 4294967295)), .int (xs 3)]) (rest := []) ⟨hx, hb, hml, hown, ht⟩ (x_goal l dC dI H.size xq xfs1 ((((xs 1).toInt64) <<< ((32 : Int32).toInt64 &&& 63)) ||| (((xs 2).toInt64) &&& 4294967295)) (xs 3) L_xfs1 ) (cwV 2 ht (gdV k_9_22 k_9_19 k_9_20 k_9_21 k_1_1) rfl rfl rfl (by decide +kernel) ⟨Nat.le_of_ble_eq_true rfl, Nat.le_of_ble_eq_true rfl⟩) ⟨pcw_blind, va_recv hK hP (ci := 11) (q0 := 0) rfl rfl, pcw_at hP hD hK [0] [] (by decide) rfl rfl rfl⟩ rfl rfl hl.1 rfl (lv_room (Nat.le_of_ble_eq_true rfl)) dL_law_1345 ⟨Nat.le_of_ble_eq_true rfl, Nat.le_of_ble_eq_true rfl⟩) hP hD hK hS hA [0] [1, 2, 3, 4, 5, 6, 7, 8, 9, 10, 11, 12, 13, 14, 15, 16, 17, 18, 19, 20, 21] rfl rfl (by decide) (by decide) (fun r_1 u H locs w_2 hK hP hD hS => ?_)
  have hK : va_K (dC, dI) cls [(mca, .array .int), (mcy, .int), (mcb, .array .int)] s := hK
  have hP : va_P (dC, dI) cls [(mq, .inr (15, mfs1)), (mqa, .inl (mca, 9, .inr (.inr (.inr (.inr (fun i => if i < 9 then some (mra i) else none)))))), ((mra 0), .inl (mcy, 16, .inl (fun _ => 0))), ((mra 1), .inl (mcy, 16, .inl (fun _ => 0))), ((mra 2), .inl (mcy, 16, .inl (fun _ => 0))), ((mra 3), .inl (mcy, 16, .inl (fun _ => 0))), ((mra 4), .inl (mcy, 16, .inl (fun _ => 0))), ((mra 5), .inl (mcy, 16, .inl (fun _ => 0))), ((mra 6), .inl (mcy, 16, .inl (fun _ => 0))), ((mra 7), .inl (mcy, 16, .inl (fun _ => 0))), ((mra 8), .inl (mcy, 16, .inl (fun _ => 0))), (mqb, .inl (mcb, 9, .inr (.inr (.inr (.inr (fun i => if i < 9 then some (mrb i) else none)))))), ((mrb 0), .inl (mcy, 16, .inl (fun _ => 0))), ((mrb 1), .inl (mcy, 16, .inl (fun _ => 0))), ((mrb 2), .inl (mcy, 16, .inl (fun _ => 0))), ((mrb 3), .inl (mcy, 16, .inl (fun _ => 0))), ((mrb 4), .inl (mcy, 16, .inl (fun _ => 0))), ((mrb 5), .inl (mcy, 16, .inl (fun _ => 0))), ((mrb 6), .inl (mcy, 16, .inl (fun _ => 0))), ((mrb 7), .inl (mcy, 16, .inl (fun _ => 0))), ((mrb 8), .inl (mcy, 16, .inl (fun _ => 0)))] H := hP
  have hD : va_D A [(mq, .inr (15, mfs1)), (mqa, .inl (mca, 9, .inr (.inr (.inr (.inr (fun i => if i < 9 then some (mra i) else none)))))), ((mra 0), .inl (mcy, 16, .inl (fun _ => 0))), ((mra 1), .inl (mcy, 16, .inl (fun _ => 0))), ((mra 2), .inl (mcy, 16, .inl (fun _ => 0))), ((mra 3), .inl (mcy, 16, .inl (fun _ => 0))), ((mra 4), .inl (mcy, 16, .inl (fun _ => 0))), ((mra 5), .inl (mcy, 16, .inl (fun _ => 0))), ((mra 6), .inl (mcy, 16, .inl (fun _ => 0))), ((mra 7), .inl (mcy, 16, .inl (fun _ => 0))), ((mra 8), .inl (mcy, 16, .inl (fun _ => 0))), (mqb, .inl (mcb, 9, .inr (.inr (.inr (.inr (fun i => if i < 9 then some (mrb i) else none)))))), ((mrb 0), .inl (mcy, 16, .inl (fun _ => 0))), ((mrb 1), .inl (mcy, 16, .inl (fun _ => 0))), ((mrb 2), .inl (mcy, 16, .inl (fun _ => 0))), ((mrb 3), .inl (mcy, 16, .inl (fun _ => 0))), ((mrb 4), .inl (mcy, 16, .inl (fun _ => 0))), ((mrb 5), .inl (mcy, 16, .inl (fun _ => 0))), ((mrb 6), .inl (mcy, 16, .inl (fun _ => 0))), ((mrb 7), .inl (mcy, 16, .inl (fun _ => 0))), ((mrb 8), .inl (mcy, 16, .inl (fun _ => 0)))] := hD
  refine lv_aload_n hx hb dL_law_1348 rfl (lv_at hl 2 rfl) ?_
  refine lv_aload_n hx hb dL_law_1349 rfl (lv_at hl 4 rfl) ?_
  refine lv_iload hx hb dL_law_1350 (lv_at hl 0 rfl) ?_
  refine lv_iconst (v := 1) hx hb dL_law_1352 (by decide) ?_
  refine lv_iadd hx hb dL_law_1353 ?_
  refine tk_i (y := 1) (by decide) ?_
  refine va_sld hx hb hX hbl hbA hS (by unfold vp_in; decide) dL_law_1354 ?_
  refine tk_i (y := (xs 1)) rfl ?_
  refine lv_i2l hx hb dL_law_1355 rfl ?_
  refine tk_l (y := (xs 1).toInt64) rfl ?_
  refine lv_bipush (v := 32) hx hb dL_law_1356 (by decide) ?_
  refine lv_lshl hx hb dL_law_1358 rfl ?_
  refine tk_l (y := (((xs 1).toInt64) <<< ((32 : Int32).toInt64 &&& 63))) rfl ?_
  refine lv_aload_n hx hb dL_law_1359 rfl (lv_at hl 4 rfl) ?_
  refine lv_iload hx hb dL_law_1360 (lv_at hl 0 rfl) ?_
  refine lv_iconst (v := 2) hx hb dL_law_1362 (by decide) ?_
  refine lv_iadd hx hb dL_law_1363 ?_
  refine tk_i (y := 2) (by decide) ?_
  refine va_sld hx hb hX hbl hbA hS (by unfold vp_in; decide) dL_law_1364 ?_
  refine tk_i (y := (xs 2)) rfl ?_
  refine lv_i2l hx hb dL_law_1365 rfl ?_
  refine tk_l (y := (xs 2).toInt64) rfl ?_
  refine lv_ldc2 (v := 4294967295) hx hb hown (ht _ k_16_113) dL_law_1366 ?_
  refine lv_land hx hb dL_law_1369 ?_
  refine tk_l (y := (((xs 2).toInt64) &&& 4294967295)) rfl ?_
  refine lv_lor hx hb dL_law_1370 ?_
  refine tk_l (y := ((((xs 1).toInt64) <<< ((32 : Int32).toInt64 &&& 63)) ||| (((xs 2).toInt64) &&& 4294967295))) rfl ?_
  refine lv_aload_n hx hb dL_law_1371 rfl (lv_at hl 4 rfl) ?_
  refine lv_iload hx hb dL_law_1372 (lv_at hl 0 rfl) ?_
  refine lv_iconst (v := 3) hx hb dL_law_1374 (by decide) ?_
  refine lv_iadd hx hb dL_law_1375 ?_
  refine tk_i (y := 3) (by decide) ?_
  refine va_sld hx hb hX hbl hbA hS (by unfold vp_in; decide) dL_law_1376 ?_
  refine tk_i (y := (xs 3)) rfl ?_
  refine ca_l (wr := []) (va_runV (As := [.long ((((xs 1).toInt64) <<< ((32 : Int32).toInt64 &&& 63)) ||| (((xs 2).toInt64) &&& 4294967295)), .int (xs 3)]) (rest := [.long r_1]) ⟨hx, hb, hml, hown, ht⟩ (r_goal l dC dI H.size mq mfs1 mqa mqb mca mcb mcy mra mrb ((((xs 1).toInt64) <<< ((32 : Int32).toInt64 &&& 63)) ||| (((xs 2).toInt64) &&& 4294967295)) (xs 3) L_mfs1 K139_mfs1 K140_mfs1 ) (cwV 2 ht (gdV k_16_54 k_16_51 k_16_52 k_16_53 k_1_17) rfl rfl rfl (by decide +kernel) ⟨Nat.le_of_ble_eq_true rfl, Nat.le_of_ble_eq_true rfl⟩) ⟨pcw_blind, va_recv hK hP (ci := 15) (q0 := 0) rfl rfl, pcw_at hP hD hK [0, 1, 11, 2, 3, 4, 5, 6, 7, 8, 9, 10, 12, 13, 14, 15, 16, 17, 18, 19, 20] [0, 2, 1, 1, 1, 1, 1, 1, 1, 1, 1, 1, 1, 1, 1, 1, 1, 1, 1, 1] (by decide) rfl rfl rfl⟩ rfl rfl hl.1 rfl (lv_room (Nat.le_of_ble_eq_true rfl)) dL_law_1377 ⟨Nat.le_of_ble_eq_true rfl, Nat.le_of_ble_eq_true rfl⟩) hP hD hK hS hA [0, 1, 11, 2, 3, 4, 5, 6, 7, 8, 9, 10, 12, 13, 14, 15, 16, 17, 18, 19, 20] [] rfl rfl (by decide) (by decide) (fun r_3 u H locs w_4 hK hP hD hS => ?_)
  have hK : va_K (dC, dI) cls [(mca, .array .int), (mcy, .int), (mcb, .array .int)] s := hK
  have hP : va_P (dC, dI) cls [] H := hP
  have hD : va_D A [] := hD
  refine W.lcmp hx hb dL_law_1380 ?_
  refine lv_if_eq (tgt := 1597) hx hb dL_law_1381 (by decide) (fun _ => ?_) (fun c0 => absurd ((lg_cmp_eq _ _).mpr (w_2.trans w_4.symm)) c0)
  exact lw_tail l C0 hA2 hS (lv_sub hl [0, 4] rfl) (Nat.le_of_ble_eq_true rfl) (Nat.le_of_ble_eq_true rfl)
set_option maxHeartbeats 4000000 in
set_option maxRecDepth 100000 in
theorem lw_c41 {p : Program} {e : Env} {s : State} {m : MethodId} {below : List Frame} {meth : Method} {c : Code} (l : Launch) {b : Nat} {xs : Nat → Int32} (C0 : lw_At p s m meth c b 6 xs) (dC : Nat → ClassId) (dI : Nat → Nat → Nat) {A : Nat → Prop} (hA : ∀ q : Nat, s.heap.size ≤ q → A q) (hA2 : ∀ q : Nat, A q → s.heap.size ≤ q) (xq : Nat) (xfs1 : List Value) (xdk : Nat) (xgd : List Value) (mq : Nat) (mfs1 : List Value) (ou : Nat) {H : Heap} {locs : List Loc} {ls : Array Slot} (hK : va_K (dC, dI) cls [] s) (hP : va_P (dC, dI) cls [(xq, .inr (11, xfs1)), (xdk, .inr (2, xgd)), (mq, .inr (15, mfs1))] H) (hD : va_D A [(xq, .inr (11, xfs1)), (xdk, .inr (2, xgd)), (mq, .inr (15, mfs1))]) (hS : va_S A s.heap H locs) (hl : lv_has ls 7 [(4, .int 0), (3, .ref ou), (2, .ref mq), (1, .ref xq), (0, .ref b)]) (L_xfs1 : xfs1.length = 18) (K2_xfs1 : xfs1[2]? = some (.int 0)) (K17_xfs1 : xfs1[17]? = some (.ref xdk)) (L_xgd : xgd.length = 7) (K1_xgd : xgd[1]? = some (.int 0)) (K3_xgd : xgd[3]? = some (.int 0)) (K4_xgd : xgd[4]? = some (.int 0)) (K5_xgd : xgd[5]? = some (.int (-1))) (L_mfs1 : mfs1.length = 163) (K54_mfs1 : mfs1[54]? = some (.int 0)) (K156_mfs1 : mfs1[156]? = some (.int 0)) (K160_mfs1 : mfs1[160]? = some (.int 0)) : W p l e room_1 s m #[Value.ref b] below meth c H locs 951 1458901 (lw_Z below #[Value.ref b] s) (F0 m 1386 ls []) := by
  obtain ⟨hx, hb, hr, hml, hown, hts, hX, hbl, hlocks, hgv⟩ := id C0
  have hown : s.vm.findClass RL = some m.cls := hown
  have ht : ∀ w ∈ tb, w.before #[Value.ref b] s = true := fun w hw => hts w (List.mem_filter.mp hw).1
  have hbA : ¬ A b := fun h => absurd (hA2 _ h) (Nat.not_le.mpr hbl)
  refine lv_aload_n hx hb dL_law_1386 rfl (lv_at hl 3 rfl) ?_
  refine ca_i (wr := [(mq, .inr (15, mfs1))]) (va_runV (As := []) (rest := []) ⟨hx, hb, hml, hown, ht⟩ (x_sync l dC dI H.size xq xfs1 xdk xgd L_xfs1 K2_xfs1 K17_xfs1 L_xgd K1_xgd K3_xgd K4_xgd K5_xgd ) (cwV 0 ht (gdV k_9_29 k_9_26 k_9_27 k_9_28 k_1_1) rfl rfl rfl (by decide +kernel) ⟨Nat.le_of_ble_eq_true rfl, Nat.le_of_ble_eq_true rfl⟩) ⟨pcw_blind, va_recv hK hP (ci := 11) (q0 := 0) rfl rfl, pcw_at hP hD hK [0, 1] [] (by decide) rfl rfl rfl⟩ rfl rfl hl.1 rfl (lv_room (Nat.le_of_ble_eq_true rfl)) dL_law_1387 ⟨Nat.le_of_ble_eq_true rfl, Nat.le_of_ble_eq_true rfl⟩) hP hD hK hS hA [0, 1] [2] rfl rfl (by decide) (by decide) (fun r_1 u H locs w_2 hK hP hD hS => ?_)
  have hK : va_K (dC, dI) cls [] s := hK
  have hP : va_P (dC, dI) cls [(mq, .inr (15, mfs1))] H := hP
  have hD : va_D A [(mq, .inr (15, mfs1))] := hD
  obtain rfl : r_1 = 0 := w_2
  refine lv_aload_n hx hb dL_law_1390 rfl (lv_at hl 2 rfl) ?_
  refine ca_i (wr := []) (va_runV (As := []) (rest := [.int 0]) ⟨hx, hb, hml, hown, ht⟩ (r_sync l dC dI H.size mq mfs1 L_mfs1 K54_mfs1 K156_mfs1 K160_mfs1 ) (cwV 0 ht (gdV k_16_71 k_16_68 k_16_69 k_16_70 k_1_17) rfl rfl rfl (by decide +kernel) ⟨Nat.le_of_ble_eq_true rfl, Nat.le_of_ble_eq_true rfl⟩) ⟨pcw_blind, va_recv hK hP (ci := 15) (q0 := 0) rfl rfl, pcw_at hP hD hK [0] [] (by decide) rfl rfl rfl⟩ rfl rfl hl.1 rfl (lv_room (Nat.le_of_ble_eq_true rfl)) dL_law_1391 ⟨Nat.le_of_ble_eq_true rfl, Nat.le_of_ble_eq_true rfl⟩) hP hD hK hS hA [0] [] rfl rfl (by decide) (by decide) (fun r_3 u H locs w_4 hK hP hD hS => ?_)
  have hK : va_K (dC, dI) cls [] s := hK
  have hP : va_P (dC, dI) cls [] H := hP
  have hD : va_D A [] := hD
  obtain rfl : r_3 = 0 := w_4
  refine lv_icmp_eq (tgt := 1597) hx hb dL_law_1394 (by decide) (fun _ => ?_) (fun c0 => absurd c0 (by decide))
  exact lw_tail l C0 hA2 hS (lv_sub hl [0, 4] rfl) (Nat.le_of_ble_eq_true rfl) (Nat.le_of_ble_eq_true rfl)
set_option maxHeartbeats 4000000 in
set_option maxRecDepth 100000 in
theorem lw_c42 {p : Program} {e : Env} {s : State} {m : MethodId} {below : List Frame} {meth : Method} {c : Code} (l : Launch) {b : Nat} {xs : Nat → Int32} (C0 : lw_At p s m meth c b 6 xs) (dC : Nat → ClassId) (dI : Nat → Nat → Nat) {A : Nat → Prop} (hA : ∀ q : Nat, s.heap.size ≤ q → A q) (hA2 : ∀ q : Nat, A q → s.heap.size ≤ q) (xq : Nat) (xfs1 : List Value) (xdk : Nat) (xgd : List Value) (mq : Nat) (mfs1 : List Value) (ou : Nat) {H : Heap} {locs : List Loc} {ls : Array Slot} (hK : va_K (dC, dI) cls [] s) (hP : va_P (dC, dI) cls [(xq, .inr (11, xfs1)), (xdk, .inr (2, xgd)), (mq, .inr (15, mfs1))] H) (hD : va_D A [(xq, .inr (11, xfs1)), (xdk, .inr (2, xgd)), (mq, .inr (15, mfs1))]) (hS : va_S A s.heap H locs) (hl : lv_has ls 7 [(4, .int 0), (3, .ref ou), (2, .ref mq), (1, .ref xq), (0, .ref b)]) (L_xfs1 : xfs1.length = 18) (K2_xfs1 : xfs1[2]? = some (.int 0)) (K17_xfs1 : xfs1[17]? = some (.ref xdk)) (L_xgd : xgd.length = 7) (L_mfs1 : mfs1.length = 163) (K54_mfs1 : mfs1[54]? = some (.int 0)) : W p l e room_1 s m #[Value.ref b] below meth c H locs 951 1458901 (lw_Z below #[Value.ref b] s) (F0 m 1399 ls []) := by
  obtain ⟨hx, hb, hr, hml, hown, hts, hX, hbl, hlocks, hgv⟩ := id C0
  have hown : s.vm.findClass RL = some m.cls := hown
  have ht : ∀ w ∈ tb, w.before #[Value.ref b] s = true := fun w hw => hts w (List.mem_filter.mp hw).1
  have hbA : ¬ A b := fun h => absurd (hA2 _ h) (Nat.not_le.mpr hbl)
  refine lv_aload_n hx hb dL_law_1399 rfl (lv_at hl 3 rfl) ?_
  refine lv_aload_n hx hb dL_law_1400 rfl (lv_at hl 4 rfl) ?_
  refine lv_iload hx hb dL_law_1401 (lv_at hl 0 rfl) ?_
  refine lv_iconst (v := 1) hx hb dL_law_1403 (by decide) ?_
  refine lv_iadd hx hb dL_law_1404 ?_
  refine tk_i (y := 1) (by decide) ?_
  refine va_sld hx hb hX hbl hbA hS (by unfold vp_in; decide) dL_law_1405 ?_
  refine tk_i (y := (xs 1)) rfl ?_
  refine lv_aload_n hx hb dL_law_1406 rfl (lv_at hl 4 rfl) ?_
  refine lv_iload hx hb dL_law_1407 (lv_at hl 0 rfl) ?_
  refine lv_iconst (v := 2) hx hb dL_law_1409 (by decide) ?_
  refine lv_iadd hx hb dL_law_1410 ?_
  refine tk_i (y := 2) (by decide) ?_
  refine va_sld hx hb hX hbl hbA hS (by unfold vp_in; decide) dL_law_1411 ?_
  refine tk_i (y := (xs 2)) rfl ?_
  refine ca_i (wr := [(mq, .inr (15, mfs1))]) (va_runV (As := [.int (xs 1), .int (xs 2)]) (rest := []) ⟨hx, hb, hml, hown, ht⟩ (x_cut l dC dI H.size xq xfs1 xdk xgd (xs 1) (xs 2) L_xfs1 K2_xfs1 K17_xfs1 L_xgd ) (cwV 2 ht (gdV k_9_53 k_9_50 k_9_51 k_9_52 k_1_1) rfl rfl rfl (by decide +kernel) ⟨Nat.le_of_ble_eq_true rfl, Nat.le_of_ble_eq_true rfl⟩) ⟨pcw_blind, va_recv hK hP (ci := 11) (q0 := 0) rfl rfl, pcw_at hP hD hK [0, 1] [] (by decide) rfl rfl rfl⟩ rfl rfl hl.1 rfl (lv_room (Nat.le_of_ble_eq_true rfl)) dL_law_1412 ⟨Nat.le_of_ble_eq_true rfl, Nat.le_of_ble_eq_true rfl⟩) hP hD hK hS hA [0, 1] [2] rfl rfl (by decide) (by decide) (fun r_1 u H locs w_2 hK hP hD hS => ?_)
  have hK : va_K (dC, dI) cls [] s := hK
  have hP : va_P (dC, dI) cls [(mq, .inr (15, mfs1))] H := hP
  have hD : va_D A [(mq, .inr (15, mfs1))] := hD
  refine lv_aload_n hx hb dL_law_1415 rfl (lv_at hl 2 rfl) ?_
  refine lv_aload_n hx hb dL_law_1416 rfl (lv_at hl 4 rfl) ?_
  refine lv_iload hx hb dL_law_1417 (lv_at hl 0 rfl) ?_
  refine lv_iconst (v := 1) hx hb dL_law_1419 (by decide) ?_
  refine lv_iadd hx hb dL_law_1420 ?_
  refine tk_i (y := 1) (by decide) ?_
  refine va_sld hx hb hX hbl hbA hS (by unfold vp_in; decide) dL_law_1421 ?_
  refine tk_i (y := (xs 1)) rfl ?_
  refine lv_aload_n hx hb dL_law_1422 rfl (lv_at hl 4 rfl) ?_
  refine lv_iload hx hb dL_law_1423 (lv_at hl 0 rfl) ?_
  refine lv_iconst (v := 2) hx hb dL_law_1425 (by decide) ?_
  refine lv_iadd hx hb dL_law_1426 ?_
  refine tk_i (y := 2) (by decide) ?_
  refine va_sld hx hb hX hbl hbA hS (by unfold vp_in; decide) dL_law_1427 ?_
  refine tk_i (y := (xs 2)) rfl ?_
  refine ca_i (wr := []) (va_runV (As := [.int (xs 1), .int (xs 2)]) (rest := [.int r_1]) ⟨hx, hb, hml, hown, ht⟩ (r_cut l dC dI H.size mq mfs1 (xs 1) (xs 2) L_mfs1 K54_mfs1 ) (cwV 2 ht (gdV k_16_79 k_16_76 k_16_77 k_16_78 k_1_17) rfl rfl rfl (by decide +kernel) ⟨Nat.le_of_ble_eq_true rfl, Nat.le_of_ble_eq_true rfl⟩) ⟨pcw_blind, va_recv hK hP (ci := 15) (q0 := 0) rfl rfl, pcw_at hP hD hK [0] [] (by decide) rfl rfl rfl⟩ rfl rfl hl.1 rfl (lv_room (Nat.le_of_ble_eq_true rfl)) dL_law_1428 ⟨Nat.le_of_ble_eq_true rfl, Nat.le_of_ble_eq_true rfl⟩) hP hD hK hS hA [0] [] rfl rfl (by decide) (by decide) (fun r_3 u H locs w_4 hK hP hD hS => ?_)
  have hK : va_K (dC, dI) cls [] s := hK
  have hP : va_P (dC, dI) cls [] H := hP
  have hD : va_D A [] := hD
  refine lv_icmp_eq (tgt := 1597) hx hb dL_law_1431 (by decide) (fun _ => ?_) (fun c0 => absurd (w_2.trans w_4.symm) c0)
  exact lw_tail l C0 hA2 hS (lv_sub hl [0, 4] rfl) (Nat.le_of_ble_eq_true rfl) (Nat.le_of_ble_eq_true rfl)
set_option maxHeartbeats 4000000 in
set_option maxRecDepth 100000 in
theorem lw_c43 {p : Program} {e : Env} {s : State} {m : MethodId} {below : List Frame} {meth : Method} {c : Code} (l : Launch) {b : Nat} {xs : Nat → Int32} (C0 : lw_At p s m meth c b 6 xs) (dC : Nat → ClassId) (dI : Nat → Nat → Nat) {A : Nat → Prop} (hA : ∀ q : Nat, s.heap.size ≤ q → A q) (hA2 : ∀ q : Nat, A q → s.heap.size ≤ q) (xq : Nat) (xfs1 : List Value) (mq : Nat) (mfs1 : List Value) (ou : Nat) {H : Heap} {locs : List Loc} {ls : Array Slot} (hK : va_K (dC, dI) cls [] s) (hP : va_P (dC, dI) cls [(xq, .inr (11, xfs1)), (mq, .inr (15, mfs1))] H) (hD : va_D A [(xq, .inr (11, xfs1)), (mq, .inr (15, mfs1))]) (hS : va_S A s.heap H locs) (hl : lv_has ls 7 [(4, .int 0), (3, .ref ou), (2, .ref mq), (1, .ref xq), (0, .ref b)]) (L_xfs1 : xfs1.length = 18) (K2_xfs1 : xfs1[2]? = some (.int 0)) (L_mfs1 : mfs1.length = 163) (K54_mfs1 : mfs1[54]? = some (.int 0)) : W p l e room_1 s m #[Value.ref b] below meth c H locs 951 1458901 (lw_Z below #[Value.ref b] s) (F0 m 1436 ls []) := by
  obtain ⟨hx, hb, hr, hml, hown, hts, hX, hbl, hlocks, hgv⟩ := id C0
  have hown : s.vm.findClass RL = some m.cls := hown
  have ht : ∀ w ∈ tb, w.before #[Value.ref b] s = true := fun w hw => hts w (List.mem_filter.mp hw).1
  have hbA : ¬ A b := fun h => absurd (hA2 _ h) (Nat.not_le.mpr hbl)
  refine lv_aload_n hx hb dL_law_1436 rfl (lv_at hl 3 rfl) ?_
  refine ca_i (wr := [(mq, .inr (15, mfs1))]) (va_runV (As := []) (rest := []) ⟨hx, hb, hml, hown, ht⟩ (x_start l dC dI H.size xq xfs1 L_xfs1 K2_xfs1 ) (cwV 0 ht (gdV k_9_57 k_9_54 k_9_55 k_9_56 k_1_1) rfl rfl rfl (by decide +kernel) ⟨Nat.le_of_ble_eq_true rfl, Nat.le_of_ble_eq_true rfl⟩) ⟨pcw_blind, va_recv hK hP (ci := 11) (q0 := 0) rfl rfl, pcw_at hP hD hK [0] [] (by decide) rfl rfl rfl⟩ rfl rfl hl.1 rfl (lv_room (Nat.le_of_ble_eq_true rfl)) dL_law_1437 ⟨Nat.le_of_ble_eq_true rfl, Nat.le_of_ble_eq_true rfl⟩) hP hD hK hS hA [0] [1] rfl rfl (by decide) (by decide) (fun r_1 u H locs w_2 hK hP hD hS => ?_)
  have hK : va_K (dC, dI) cls [] s := hK
  have hP : va_P (dC, dI) cls [(mq, .inr (15, mfs1))] H := hP
  have hD : va_D A [(mq, .inr (15, mfs1))] := hD
  obtain rfl : r_1 = (-2) := w_2
  refine lv_aload_n hx hb dL_law_1440 rfl (lv_at hl 2 rfl) ?_
  refine ca_i (wr := []) (va_runV (As := []) (rest := [.int (-2)]) ⟨hx, hb, hml, hown, ht⟩ (r_start l dC dI H.size mq mfs1 L_mfs1 K54_mfs1 ) (cwV 0 ht (gdV k_16_85 k_16_82 k_16_83 k_16_84 k_1_17) rfl rfl rfl (by decide +kernel) ⟨Nat.le_of_ble_eq_true rfl, Nat.le_of_ble_eq_true rfl⟩) ⟨pcw_blind, va_recv hK hP (ci := 15) (q0 := 0) rfl rfl, pcw_at hP hD hK [0] [] (by decide) rfl rfl rfl⟩ rfl rfl hl.1 rfl (lv_room (Nat.le_of_ble_eq_true rfl)) dL_law_1441 ⟨Nat.le_of_ble_eq_true rfl, Nat.le_of_ble_eq_true rfl⟩) hP hD hK hS hA [0] [] rfl rfl (by decide) (by decide) (fun r_3 u H locs w_4 hK hP hD hS => ?_)
  have hK : va_K (dC, dI) cls [] s := hK
  have hP : va_P (dC, dI) cls [] H := hP
  have hD : va_D A [] := hD
  obtain rfl : r_3 = (-2) := w_4
  refine lv_icmp_eq (tgt := 1597) hx hb dL_law_1444 (by decide) (fun _ => ?_) (fun c0 => absurd c0 (by decide))
  exact lw_tail l C0 hA2 hS (lv_sub hl [0, 4] rfl) (Nat.le_of_ble_eq_true rfl) (Nat.le_of_ble_eq_true rfl)
set_option maxHeartbeats 4000000 in
set_option maxRecDepth 100000 in
theorem lw_c44 {p : Program} {e : Env} {s : State} {m : MethodId} {below : List Frame} {meth : Method} {c : Code} (l : Launch) {b : Nat} {xs : Nat → Int32} (C0 : lw_At p s m meth c b 6 xs) (dC : Nat → ClassId) (dI : Nat → Nat → Nat) {A : Nat → Prop} (hA : ∀ q : Nat, s.heap.size ≤ q → A q) (hA2 : ∀ q : Nat, A q → s.heap.size ≤ q) (hlt : l.stackTraces = false) (xq : Nat) (xfs1 : List Value) (xdk : Nat) (xgd : List Value) (xbk : Nat) (xcB : ClassId) (mq : Nat) (mfs1 : List Value) (mqk : Nat) (mck : ClassId) (mrk : Nat → Nat) (mcy : ClassId) (ou : Nat) (cO : ClassId) (st0 : Nat) (st1 : Nat) (st2 : Nat) (st3 : Nat) (st4 : Nat) (st5 : Nat) (st6 : Nat) (st7 : Nat) (sv0 : Nat) (sv1 : Nat) (sv2 : Nat) (hE : xf_all A s s.heap [.inr (.inl ("FinderHouse$Acts", 47, "add sub mul div rem min max and or xor less same not both any if pick cat len take drop rev head like code sign ", st0)), .inr (.inl ("FinderHouse$Acts", 63, "nnn nnn nnn nnn nnn nnn nnn nnn nnn nnn nnt nnt tt ttt ttt tnnn tsss sss sn sns sns ss ss sst sn ns ", st1)), .inl ("java/lang/String", "COMPACT_STRINGS", "Z", .int 1), .inr (.inr (.inr (.inr (.inl ("jdk/internal/util/Preconditions", "SIOOBE_FORMATTER", "Ljava/util/function/BiFunction;"))))), .inr (.inr (.inr (.inl "FinderHouse$Term"))), .inr (.inr (.inr (.inr (.inr (.inr ()))))), .inr (.inl ("FinderHouseModel", 313, "add nnn sub nnn mul nnn div nnn rem nnn min nnn max nnn and nnn or nnn xor nnn less nnt same nnt not tt both ttt any ttt if tnnn pick tsss cat sss len sn take sns drop sns rev ss head ss like sst code sn sign ns ", st2)), .inr (.inr (.inr (.inr (.inr (.inl .int))))), .inr (.inr (.inr (.inr (.inr (.inl .long))))), .inr (.inr (.inr (.inr (.inl ("java/lang/Throwable", "UNASSIGNED_STACK", "[Ljava/lang/StackTraceElement;"))))), .inr (.inr (.inr (.inr (.inl ("java/lang/Throwable", "SUPPRESSED_SENTINEL", "Ljava/util/List;"))))), .inr (.inr (.inl (st0, sv0, bsN))), .inr (.inr (.inl (st1, sv1, bsK))), .inr (.inr (.inl (st2, sv2, bsB))), .inr (.inl ("FinderHouse$Reader", 209, "find", st3)), .inr (.inl ("FinderHouse$Reader", 271, "act", st4)), .inr (.inl ("FinderHouse$Reader", 291, "loop", st5)), .inl ("FinderHouseModel", "TRUE", "J", .long 407354), .inl ("FinderHouseModel", "FALSE", "J", .long 3217595), .inl ("FinderHouseModel", "FIND", "J", .long 125041), .inl ("FinderHouseModel", "ACT", "J", .long 830), .inl ("FinderHouseModel", "LOOP", "J", .long 247552), .inr (.inl ("FinderHouse", 104, "the tape has not so many bytes", st6)), .inr (.inl ("FinderHouse", 534, "no such byte on the disk", st7))]) {H : Heap} {locs : List Loc} {ls : Array Slot} (hK : va_K (dC, dI) cls [(xcB, .byte), (mck, .array .int), (cO, .long), (mcy, .int)] s) (hP : va_P (dC, dI) cls ([(xq, .inr (11, xfs1)), (xdk, .inr (2, xgd)), (xbk, .inl (xcB, 25600, .inl (fun _ => 0))), (mq, .inr (15, mfs1)), (mqk, .inl (mck, 201, .inr (.inr (.inr (.inr (fun i => if i < 201 then some (mrk i) else none)))))), (ou, .inl (cO, 1, .inr (.inl (fun _ => 0))))] ++ rowsP mrk mcy) H) (hD : va_D A ([(xq, .inr (11, xfs1)), (xdk, .inr (2, xgd)), (xbk, .inl (xcB, 25600, .inl (fun _ => 0))), (mq, .inr (15, mfs1)), (mqk, .inl (mck, 201, .inr (.inr (.inr (.inr (fun i => if i < 201 then some (mrk i) else none)))))), (ou, .inl (cO, 1, .inr (.inl (fun _ => 0))))] ++ rowsP mrk mcy)) (hS : va_S A s.heap H locs) (hl : lv_has ls 7 [(4, .int 0), (3, .ref ou), (2, .ref mq), (1, .ref xq), (0, .ref b)]) (L_xfs1 : xfs1.length = 18) (K17_xfs1 : xfs1[17]? = some (.ref xdk)) (L_xgd : xgd.length = 7) (K0_xgd : xgd[0]? = some (.ref xbk)) (L_mfs1 : mfs1.length = 163) (K157_mfs1 : mfs1[157]? = some (.ref mqk)) : W p l e room_1 s m #[Value.ref b] below meth c H locs 951 1458901 (lw_Z below #[Value.ref b] s) (F0 m 1449 ls []) := by
  obtain ⟨hx, hb, hr, hml, hown, hts, hX, hbl, hlocks, hgv⟩ := id C0
  have hown : s.vm.findClass RL = some m.cls := hown
  have ht : ∀ w ∈ tb, w.before #[Value.ref b] s = true := fun w hw => hts w (List.mem_filter.mp hw).1
  have hbA : ¬ A b := fun h => absurd (hA2 _ h) (Nat.not_le.mpr hbl)
  by_cases hdk : dkin (xs 1) (xs 2)
  · obtain ⟨m9, n9, hm9, hn9, e1, e2⟩ := dk_nat hdk
    have hi : dkin (nI (m9 + 1)) (nI n9) := by rw [← e1, ← e2]; exact hdk
    have hP := rows_P (X := [(xq, .inr (11, xfs1)), (xdk, .inr (2, xgd)), (xbk, .inl (xcB, 25600, .inl (fun _ => 0))), (mq, .inr (15, mfs1)), (mqk, .inl (mck, 201, .inr (.inr (.inr (.inr (fun i => if i < 201 then some (mrk i) else none)))))), (ou, .inl (cO, 1, .inr (.inl (fun _ => 0))))]) (j := m9 + 1) (by omega) hP
    have hD := rows_D (X := [(xq, .inr (11, xfs1)), (xdk, .inr (2, xgd)), (xbk, .inl (xcB, 25600, .inl (fun _ => 0))), (mq, .inr (15, mfs1)), (mqk, .inl (mck, 201, .inr (.inr (.inr (.inr (fun i => if i < 201 then some (mrk i) else none)))))), (ou, .inl (cO, 1, .inr (.inl (fun _ => 0))))]) (j := m9 + 1) (by omega) hD
    have hP : va_P (dC, dI) cls [(xq, .inr (11, xfs1)), (xdk, .inr (2, xgd)), (xbk, .inl (xcB, 25600, .inl (fun _ => 0))), (mq, .inr (15, mfs1)), (mqk, .inl (mck, 201, .inr (.inr (.inr (.inr (fun i => if i < 201 then some (mrk i) else none)))))), (ou, .inl (cO, 1, .inr (.inl (fun _ => 0)))), ((mrk (m9 + 1)), .inl (mcy, 128, .inl (fun _ => 0)))] H := hP
    have hD : va_D A [(xq, .inr (11, xfs1)), (xdk, .inr (2, xgd)), (xbk, .inl (xcB, 25600, .inl (fun _ => 0))), (mq, .inr (15, mfs1)), (mqk, .inl (mck, 201, .inr (.inr (.inr (.inr (fun i => if i < 201 then some (mrk i) else none)))))), (ou, .inl (cO, 1, .inr (.inl (fun _ => 0)))), ((mrk (m9 + 1)), .inl (mcy, 128, .inl (fun _ => 0)))] := hD
    refine lv_aload_n hx hb dL_law_1449 rfl (lv_at hl 3 rfl) ?_
    refine lv_aload_n hx hb dL_law_1450 rfl (lv_at hl 4 rfl) ?_
    refine lv_iload hx hb dL_law_1451 (lv_at hl 0 rfl) ?_
    refine lv_iconst (v := 1) hx hb dL_law_1453 (by decide) ?_
    refine lv_iadd hx hb dL_law_1454 ?_
    refine tk_i (y := 1) (by decide) ?_
    refine va_sld hx hb hX hbl hbA hS (by unfold vp_in; decide) dL_law_1455 ?_
    refine tk_i (y := (nI (m9 + 1))) e1 ?_
    refine lv_aload_n hx hb dL_law_1456 rfl (lv_at hl 4 rfl) ?_
    refine lv_iload hx hb dL_law_1457 (lv_at hl 0 rfl) ?_
    refine lv_iconst (v := 2) hx hb dL_law_1459 (by decide) ?_
    refine lv_iadd hx hb dL_law_1460 ?_
    refine tk_i (y := 2) (by decide) ?_
    refine va_sld hx hb hX hbl hbA hS (by unfold vp_in; decide) dL_law_1461 ?_
    refine tk_i (y := (nI n9)) e2 ?_
    refine lv_aload_n hx hb dL_law_1462 rfl (lv_at hl 1 rfl) ?_
    refine ca_i (wr := [(mq, .inr (15, mfs1)), (mqk, .inl (mck, 201, .inr (.inr (.inr (.inr (fun i => if i < 201 then some (mrk i) else none)))))), ((mrk (m9 + 1)), .inl (mcy, 128, .inl (fun _ => 0)))]) (vx_runSW (As := [.ref xq, .int (nI (m9 + 1)), .int (nI n9), .ref ou]) (rest := []) ⟨hx, hb, hml, hown, ht⟩ (l_octet_ok l dC dI H.size xq xfs1 xdk xgd xbk xcB ou cO (fun _ => 0) (nI (m9 + 1)) (nI n9) L_xfs1 K17_xfs1 L_xgd K0_xgd hi) (vx_cwSW 4 ht (gdS2 k_9_195 k_9_193 k_9_194 k_1_0) rfl rfl rfl (by decide +kernel) ⟨Nat.le_of_ble_eq_true rfl, Nat.le_of_ble_eq_true rfl⟩) ⟨pcw_blind, pcw_at hP hD hK [0, 1, 2, 5] [0, 2] (by decide) rfl rfl rfl⟩ rfl rfl hl.1 rfl (lv_room (Nat.le_of_ble_eq_true rfl)) dL_law_1463 ⟨Nat.le_of_ble_eq_true rfl, Nat.le_of_ble_eq_true rfl⟩) hP hD hK hS hA [0, 1, 2, 5] [3, 4, 6] rfl rfl (by decide) (by decide) (fun r_1 u H locs w_2 hK hP hD hS => ?_)
    obtain ⟨y_3, rfl⟩ : ∃ z, z = u := ⟨_, rfl⟩
    have hK : va_K (dC, dI) cls [(xcB, .byte), (mck, .array .int), (cO, .long), (mcy, .int), (cO, .long)] s := hK
    have hP : va_P (dC, dI) cls [(mq, .inr (15, mfs1)), (mqk, .inl (mck, 201, .inr (.inr (.inr (.inr (fun i => if i < 201 then some (mrk i) else none)))))), ((mrk (m9 + 1)), .inl (mcy, 128, .inl (fun _ => 0))), (ou, .inl (cO, 1, .inr (.inl y_3)))] H := hP
    have hD : va_D A [(mq, .inr (15, mfs1)), (mqk, .inl (mck, 201, .inr (.inr (.inr (.inr (fun i => if i < 201 then some (mrk i) else none)))))), ((mrk (m9 + 1)), .inl (mcy, 128, .inl (fun _ => 0))), (ou, .inl (cO, 1, .inr (.inl y_3)))] := hD
    obtain ⟨rfl, hfo⟩ := w_2
    refine lv_istore (lv' := [(5, .int 0), (4, .int 0), (3, .ref ou), (2, .ref mq), (1, .ref xq), (0, .ref b)]) hx hb dL_law_1466 hl (by decide) rfl (fun ls hl => ?_)
    refine lv_aload_n hx hb dL_law_1468 rfl (lv_at hl 3 rfl) ?_
    refine lv_aload_n hx hb dL_law_1469 rfl (lv_at hl 5 rfl) ?_
    refine lv_iload hx hb dL_law_1470 (lv_at hl 1 rfl) ?_
    refine lv_iconst (v := 1) hx hb dL_law_1472 (by decide) ?_
    refine lv_iadd hx hb dL_law_1473 ?_
    refine tk_i (y := 1) (by decide) ?_
    refine va_sld hx hb hX hbl hbA hS (by unfold vp_in; decide) dL_law_1474 ?_
    refine tk_i (y := (nI (m9 + 1))) e1 ?_
    refine lv_aload_n hx hb dL_law_1475 rfl (lv_at hl 5 rfl) ?_
    refine lv_iload hx hb dL_law_1476 (lv_at hl 1 rfl) ?_
    refine lv_iconst (v := 2) hx hb dL_law_1478 (by decide) ?_
    refine lv_iadd hx hb dL_law_1479 ?_
    refine tk_i (y := 2) (by decide) ?_
    refine va_sld hx hb hX hbl hbA hS (by unfold vp_in; decide) dL_law_1480 ?_
    refine tk_i (y := (nI n9)) e2 ?_
    refine ca_i (wr := [(ou, .inl (cO, 1, .inr (.inl y_3)))]) (va_runV (As := [.int (nI (m9 + 1)), .int (nI n9)]) (rest := []) ⟨hx, hb, hml, hown, ht⟩ (r_octet_ok l dC dI H.size mq mfs1 mqk mck mrk mcy m9 n9 L_mfs1 K157_mfs1 hm9 hn9) (cwV 2 ht (gdV k_16_107 k_16_104 k_16_105 k_16_106 k_1_17) rfl rfl rfl (by decide +kernel) ⟨Nat.le_of_ble_eq_true rfl, Nat.le_of_ble_eq_true rfl⟩) ⟨pcw_blind, va_recv hK hP (ci := 15) (q0 := 0) rfl rfl, pcw_at hP hD hK [0, 1, 2] [1, 3] (by decide) rfl rfl rfl⟩ rfl rfl hl.1 rfl (lv_room (Nat.le_of_ble_eq_true rfl)) dL_law_1481 ⟨Nat.le_of_ble_eq_true rfl, Nat.le_of_ble_eq_true rfl⟩) hP hD hK hS hA [0, 1, 2] [3] rfl rfl (by decide) (by decide) (fun r_4 u H locs w_5 hK hP hD hS => ?_)
    obtain ⟨F_6, rfl⟩ : ∃ z, z = u := ⟨_, rfl⟩
    have hK : va_K (dC, dI) cls [(xcB, .byte), (mck, .array .int), (cO, .long), (mcy, .int), (cO, .long)] s := hK
    have hP : va_P (dC, dI) cls [(ou, .inl (cO, 1, .inr (.inl y_3))), (mq, .inr (15, F_6))] H := hP
    have hD : va_D A [(ou, .inl (cO, 1, .inr (.inl y_3))), (mq, .inr (15, F_6))] := hD
    obtain ⟨w_5, K_7, K_8⟩ := w_5
    obtain rfl : r_4 = 0 := w_5
    refine lv_istore (lv' := [(6, .int 0), (5, .int 0), (4, .int 0), (3, .ref ou), (2, .ref mq), (1, .ref xq), (0, .ref b)]) hx hb dL_law_1484 hl (by decide) rfl (fun ls hl => ?_)
    refine lv_aload_n hx hb dL_law_1486 rfl (lv_at hl 4 rfl) ?_
    refine ca_i (wr := [(ou, .inl (cO, 1, .inr (.inl y_3)))]) (va_runV (As := []) (rest := []) ⟨hx, hb, hml, hown, ht⟩ (r_thrown_0 l dC dI H.size mq F_6 K_7 K_8 ) (cwV 0 ht (gdV k_12_201 k_12_198 k_12_199 k_12_200 k_1_17) rfl rfl rfl (by decide +kernel) ⟨Nat.le_of_ble_eq_true rfl, Nat.le_of_ble_eq_true rfl⟩) ⟨pcw_blind, va_recv hK hP (ci := 15) (q0 := 1) rfl rfl, pcw_at hP hD hK [1] [] (by decide) rfl rfl rfl⟩ rfl rfl hl.1 rfl (lv_room (Nat.le_of_ble_eq_true rfl)) dL_law_1487 ⟨Nat.le_of_ble_eq_true rfl, Nat.le_of_ble_eq_true rfl⟩) hP hD hK hS hA [1] [0] rfl rfl (by decide) (by decide) (fun r_9 u H locs w_10 hK hP hD hS => ?_)
    have hK : va_K (dC, dI) cls [(xcB, .byte), (mck, .array .int), (cO, .long), (mcy, .int), (cO, .long)] s := hK
    have hP : va_P (dC, dI) cls [(ou, .inl (cO, 1, .inr (.inl y_3)))] H := hP
    have hD : va_D A [(ou, .inl (cO, 1, .inr (.inl y_3)))] := hD
    obtain rfl : r_9 = 0 := w_10
    refine lv_iload hx hb dL_law_1490 (lv_at hl 1 rfl) ?_
    refine lv_icmp_eq (tgt := 1497) hx hb dL_law_1492 (by decide) (fun _ => ?_) (fun c0 => absurd c0 (by decide))
    refine lv_iload hx hb dL_law_1497 (lv_at hl 1 rfl) ?_
    refine lv_if_ne (tgt := 1514) hx hb dL_law_1499 (by decide) (fun c0 => absurd c0 (by decide)) (fun _ => ?_)
    refine lv_aload_n hx hb dL_law_1502 rfl (lv_at hl 3 rfl) ?_
    refine lv_iconst (v := 0) hx hb dL_law_1503 (by decide) ?_
    refine va_lald hx hb hK hP 0 2 rfl rfl (by unfold vp_in; decide) dL_law_1504 ?_
    refine tk_l (y := y_3 0) (by first | rfl | decide) ?_
    refine tk_l (y := 0) hfo ?_
    refine lv_iload hx hb dL_law_1505 (lv_at hl 0 rfl) ?_
    refine lv_i2l (v := 0) hx hb dL_law_1507 (by decide) ?_
    refine W.lcmp hx hb dL_law_1508 ?_
    refine tk_i (y := 0) (by decide) ?_
    refine lv_if_eq (tgt := 1514) hx hb dL_law_1509 (by decide) (fun _ => ?_) (fun c0 => absurd c0 (by decide))
    refine lv_goto (tgt := 1597) hx hb dL_law_1514 (by decide) ?_
    exact lw_tail l C0 hA2 hS (lv_sub hl [2, 6] rfl) (Nat.le_of_ble_eq_true rfl) (Nat.le_of_ble_eq_true rfl)
  · have hP := lft_P hP
    have hD := lft_D hD
    refine lv_aload_n hx hb dL_law_1449 rfl (lv_at hl 3 rfl) ?_
    refine lv_aload_n hx hb dL_law_1450 rfl (lv_at hl 4 rfl) ?_
    refine lv_iload hx hb dL_law_1451 (lv_at hl 0 rfl) ?_
    refine lv_iconst (v := 1) hx hb dL_law_1453 (by decide) ?_
    refine lv_iadd hx hb dL_law_1454 ?_
    refine tk_i (y := 1) (by decide) ?_
    refine va_sld hx hb hX hbl hbA hS (by unfold vp_in; decide) dL_law_1455 ?_
    refine tk_i (y := (xs 1)) rfl ?_
    refine lv_aload_n hx hb dL_law_1456 rfl (lv_at hl 4 rfl) ?_
    refine lv_iload hx hb dL_law_1457 (lv_at hl 0 rfl) ?_
    refine lv_iconst (v := 2) hx hb dL_law_1459 (by decide) ?_
    refine lv_iadd hx hb dL_law_1460 ?_
    refine tk_i (y := 2) (by decide) ?_
    refine va_sld hx hb hX hbl hbA hS (by unfold vp_in; decide) dL_law_1461 ?_
    refine tk_i (y := (xs 2)) rfl ?_
    refine lv_aload_n hx hb dL_law_1462 rfl (lv_at hl 1 rfl) ?_
    refine ca_i (wr := [(xbk, .inl (xcB, 25600, .inl (fun _ => 0))), (mq, .inr (15, mfs1)), (mqk, .inl (mck, 201, .inr (.inr (.inr (.inr (fun i => if i < 201 then some (mrk i) else none))))))]) (vx_runSW (As := [.ref xq, .int (xs 1), .int (xs 2), .ref ou]) (rest := []) ⟨hx, hb, hml, hown, ht⟩ (l_octet_no l dC dI H.size xq xfs1 xdk xgd ou cO (fun _ => 0) st7 (xs 1) (xs 2) L_xfs1 K17_xfs1 L_xgd hdk hlt) (vx_cwSW 4 ht (gdS2 k_9_195 k_9_193 k_9_194 k_1_0) rfl rfl rfl (by decide +kernel) ⟨Nat.le_of_ble_eq_true rfl, Nat.le_of_ble_eq_true rfl⟩) ⟨pcx_blind, pcx_at hP hD hK hS hA hE [0, 1, 5] [2] [23, 9, 10, 5] (by decide) rfl rfl rfl rfl⟩ rfl rfl hl.1 rfl (lv_room (Nat.le_of_ble_eq_true rfl)) dL_law_1463 ⟨Nat.le_of_ble_eq_true rfl, Nat.le_of_ble_eq_true rfl⟩) hP hD hK hS hA [0, 1, 5] [2, 3, 4] rfl rfl (by decide) (by decide) (fun r_11 u H locs w_12 hK hP hD hS => ?_)
    have hK : va_K (dC, dI) cls [(xcB, .byte), (mck, .array .int), (cO, .long), (mcy, .int)] s := hK
    have hP : va_P (dC, dI) cls [(xbk, .inl (xcB, 25600, .inl (fun _ => 0))), (mq, .inr (15, mfs1)), (mqk, .inl (mck, 201, .inr (.inr (.inr (.inr (fun i => if i < 201 then some (mrk i) else none))))))] H := hP
    have hD : va_D A [(xbk, .inl (xcB, 25600, .inl (fun _ => 0))), (mq, .inr (15, mfs1)), (mqk, .inl (mck, 201, .inr (.inr (.inr (.inr (fun i => if i < 201 then some (mrk i) else none))))))] := hD
    refine W.widen (k := 952) (n := 1458907) (Nat.le_of_ble_eq_true rfl) (Nat.le_of_ble_eq_true rfl) ?_
    obtain rfl : r_11 = 1 := w_12
    refine lv_istore (lv' := [(5, .int 1), (4, .int 0), (3, .ref ou), (2, .ref mq), (1, .ref xq), (0, .ref b)]) hx hb dL_law_1466 hl (by decide) rfl (fun ls hl => ?_)
    refine lv_aload_n hx hb dL_law_1468 rfl (lv_at hl 3 rfl) ?_
    refine lv_aload_n hx hb dL_law_1469 rfl (lv_at hl 5 rfl) ?_
    refine lv_iload hx hb dL_law_1470 (lv_at hl 1 rfl) ?_
    refine lv_iconst (v := 1) hx hb dL_law_1472 (by decide) ?_
    refine lv_iadd hx hb dL_law_1473 ?_
    refine tk_i (y := 1) (by decide) ?_
    refine va_sld hx hb hX hbl hbA hS (by unfold vp_in; decide) dL_law_1474 ?_
    refine tk_i (y := (xs 1)) rfl ?_
    refine lv_aload_n hx hb dL_law_1475 rfl (lv_at hl 5 rfl) ?_
    refine lv_iload hx hb dL_law_1476 (lv_at hl 1 rfl) ?_
    refine lv_iconst (v := 2) hx hb dL_law_1478 (by decide) ?_
    refine lv_iadd hx hb dL_law_1479 ?_
    refine tk_i (y := 2) (by decide) ?_
    refine va_sld hx hb hX hbl hbA hS (by unfold vp_in; decide) dL_law_1480 ?_
    refine tk_i (y := (xs 2)) rfl ?_
    refine ca_i (wr := [(xbk, .inl (xcB, 25600, .inl (fun _ => 0))), (mqk, .inl (mck, 201, .inr (.inr (.inr (.inr (fun i => if i < 201 then some (mrk i) else none))))))]) (va_runV (As := [.int (xs 1), .int (xs 2)]) (rest := []) ⟨hx, hb, hml, hown, ht⟩ (r_octet_no l dC dI H.size mq mfs1 (xs 1) (xs 2) L_mfs1 hdk) (cwV 2 ht (gdV k_16_107 k_16_104 k_16_105 k_16_106 k_1_17) rfl rfl rfl (by decide +kernel) ⟨Nat.le_of_ble_eq_true rfl, Nat.le_of_ble_eq_true rfl⟩) ⟨pcw_blind, va_recv hK hP (ci := 15) (q0 := 1) rfl rfl, pcw_at hP hD hK [1] [] (by decide) rfl rfl rfl⟩ rfl rfl hl.1 rfl (lv_room (Nat.le_of_ble_eq_true rfl)) dL_law_1481 ⟨Nat.le_of_ble_eq_true rfl, Nat.le_of_ble_eq_true rfl⟩) hP hD hK hS hA [1] [0, 2] rfl rfl (by decide) (by decide) (fun r_13 u H locs w_14 hK hP hD hS => ?_)
    obtain ⟨F_15, rfl⟩ : ∃ z, z = u := ⟨_, rfl⟩
    have hK : va_K (dC, dI) cls [(xcB, .byte), (mck, .array .int), (cO, .long), (mcy, .int)] s := hK
    have hP : va_P (dC, dI) cls [(xbk, .inl (xcB, 25600, .inl (fun _ => 0))), (mqk, .inl (mck, 201, .inr (.inr (.inr (.inr (fun i => if i < 201 then some (mrk i) else none)))))), (mq, .inr (15, F_15))] H := hP
    have hD : va_D A [(xbk, .inl (xcB, 25600, .inl (fun _ => 0))), (mqk, .inl (mck, 201, .inr (.inr (.inr (.inr (fun i => if i < 201 then some (mrk i) else none)))))), (mq, .inr (15, F_15))] := hD
    obtain ⟨w_14, K_16, K_17⟩ := w_14
    obtain rfl : r_13 = 0 := w_14
    refine lv_istore (lv' := [(6, .int 0), (5, .int 1), (4, .int 0), (3, .ref ou), (2, .ref mq), (1, .ref xq), (0, .ref b)]) hx hb dL_law_1484 hl (by decide) rfl (fun ls hl => ?_)
    refine lv_aload_n hx hb dL_law_1486 rfl (lv_at hl 4 rfl) ?_
    refine ca_i (wr := [(xbk, .inl (xcB, 25600, .inl (fun _ => 0))), (mqk, .inl (mck, 201, .inr (.inr (.inr (.inr (fun i => if i < 201 then some (mrk i) else none))))))]) (va_runV (As := []) (rest := []) ⟨hx, hb, hml, hown, ht⟩ (r_thrown_1 l dC dI H.size mq F_15 K_16 K_17 ) (cwV 0 ht (gdV k_12_201 k_12_198 k_12_199 k_12_200 k_1_17) rfl rfl rfl (by decide +kernel) ⟨Nat.le_of_ble_eq_true rfl, Nat.le_of_ble_eq_true rfl⟩) ⟨pcw_blind, va_recv hK hP (ci := 15) (q0 := 2) rfl rfl, pcw_at hP hD hK [2] [] (by decide) rfl rfl rfl⟩ rfl rfl hl.1 rfl (lv_room (Nat.le_of_ble_eq_true rfl)) dL_law_1487 ⟨Nat.le_of_ble_eq_true rfl, Nat.le_of_ble_eq_true rfl⟩) hP hD hK hS hA [2] [0, 1] rfl rfl (by decide) (by decide) (fun r_18 u H locs w_19 hK hP hD hS => ?_)
    have hK : va_K (dC, dI) cls [(xcB, .byte), (mck, .array .int), (cO, .long), (mcy, .int)] s := hK
    have hP : va_P (dC, dI) cls [(xbk, .inl (xcB, 25600, .inl (fun _ => 0))), (mqk, .inl (mck, 201, .inr (.inr (.inr (.inr (fun i => if i < 201 then some (mrk i) else none))))))] H := hP
    have hD : va_D A [(xbk, .inl (xcB, 25600, .inl (fun _ => 0))), (mqk, .inl (mck, 201, .inr (.inr (.inr (.inr (fun i => if i < 201 then some (mrk i) else none))))))] := hD
    obtain rfl : r_18 = 1 := w_19
    refine lv_iload hx hb dL_law_1490 (lv_at hl 1 rfl) ?_
    refine lv_icmp_eq (tgt := 1497) hx hb dL_law_1492 (by decide) (fun _ => ?_) (fun c0 => absurd c0 (by decide))
    refine lv_iload hx hb dL_law_1497 (lv_at hl 1 rfl) ?_
    refine lv_if_ne (tgt := 1514) hx hb dL_law_1499 (by decide) (fun _ => ?_) (fun c0 => absurd c0 (by decide))
    refine lv_goto (tgt := 1597) hx hb dL_law_1514 (by decide) ?_
    exact lw_tail l C0 hA2 hS (lv_sub hl [2, 6] rfl) (Nat.le_of_ble_eq_true rfl) (Nat.le_of_ble_eq_true rfl)
set_option maxHeartbeats 4000000 in
set_option maxRecDepth 100000 in
theorem lw_c45 {p : Program} {e : Env} {s : State} {m : MethodId} {below : List Frame} {meth : Method} {c : Code} (l : Launch) {b : Nat} {xs : Nat → Int32} (C0 : lw_At p s m meth c b 6 xs) (dC : Nat → ClassId) (dI : Nat → Nat → Nat) {A : Nat → Prop} (hA : ∀ q : Nat, s.heap.size ≤ q → A q) (hA2 : ∀ q : Nat, A q → s.heap.size ≤ q) (hlt : l.stackTraces = false) (xq : Nat) (xfs1 : List Value) (xdk : Nat) (xgd : List Value) (xbk : Nat) (xcB : ClassId) (mq : Nat) (mfs1 : List Value) (mqk : Nat) (mck : ClassId) (mrk : Nat → Nat) (mcy : ClassId) (ou : Nat) (cO : ClassId) (st0 : Nat) (st1 : Nat) (st2 : Nat) (st3 : Nat) (st4 : Nat) (st5 : Nat) (st6 : Nat) (st7 : Nat) (sv0 : Nat) (sv1 : Nat) (sv2 : Nat) (hE : xf_all A s s.heap [.inr (.inl ("FinderHouse$Acts", 47, "add sub mul div rem min max and or xor less same not both any if pick cat len take drop rev head like code sign ", st0)), .inr (.inl ("FinderHouse$Acts", 63, "nnn nnn nnn nnn nnn nnn nnn nnn nnn nnn nnt nnt tt ttt ttt tnnn tsss sss sn sns sns ss ss sst sn ns ", st1)), .inl ("java/lang/String", "COMPACT_STRINGS", "Z", .int 1), .inr (.inr (.inr (.inr (.inl ("jdk/internal/util/Preconditions", "SIOOBE_FORMATTER", "Ljava/util/function/BiFunction;"))))), .inr (.inr (.inr (.inl "FinderHouse$Term"))), .inr (.inr (.inr (.inr (.inr (.inr ()))))), .inr (.inl ("FinderHouseModel", 313, "add nnn sub nnn mul nnn div nnn rem nnn min nnn max nnn and nnn or nnn xor nnn less nnt same nnt not tt both ttt any ttt if tnnn pick tsss cat sss len sn take sns drop sns rev ss head ss like sst code sn sign ns ", st2)), .inr (.inr (.inr (.inr (.inr (.inl .int))))), .inr (.inr (.inr (.inr (.inr (.inl .long))))), .inr (.inr (.inr (.inr (.inl ("java/lang/Throwable", "UNASSIGNED_STACK", "[Ljava/lang/StackTraceElement;"))))), .inr (.inr (.inr (.inr (.inl ("java/lang/Throwable", "SUPPRESSED_SENTINEL", "Ljava/util/List;"))))), .inr (.inr (.inl (st0, sv0, bsN))), .inr (.inr (.inl (st1, sv1, bsK))), .inr (.inr (.inl (st2, sv2, bsB))), .inr (.inl ("FinderHouse$Reader", 209, "find", st3)), .inr (.inl ("FinderHouse$Reader", 271, "act", st4)), .inr (.inl ("FinderHouse$Reader", 291, "loop", st5)), .inl ("FinderHouseModel", "TRUE", "J", .long 407354), .inl ("FinderHouseModel", "FALSE", "J", .long 3217595), .inl ("FinderHouseModel", "FIND", "J", .long 125041), .inl ("FinderHouseModel", "ACT", "J", .long 830), .inl ("FinderHouseModel", "LOOP", "J", .long 247552), .inr (.inl ("FinderHouse", 104, "the tape has not so many bytes", st6)), .inr (.inl ("FinderHouse", 534, "no such byte on the disk", st7))]) {H : Heap} {locs : List Loc} {ls : Array Slot} (hK : va_K (dC, dI) cls [(xcB, .byte), (mck, .array .int), (cO, .long), (mcy, .int)] s) (hP : va_P (dC, dI) cls ([(xq, .inr (11, xfs1)), (xdk, .inr (2, xgd)), (xbk, .inl (xcB, 25600, .inl (fun _ => 0))), (mq, .inr (15, mfs1)), (mqk, .inl (mck, 201, .inr (.inr (.inr (.inr (fun i => if i < 201 then some (mrk i) else none)))))), (ou, .inl (cO, 1, .inr (.inl (fun _ => 0))))] ++ rowsP mrk mcy) H) (hD : va_D A ([(xq, .inr (11, xfs1)), (xdk, .inr (2, xgd)), (xbk, .inl (xcB, 25600, .inl (fun _ => 0))), (mq, .inr (15, mfs1)), (mqk, .inl (mck, 201, .inr (.inr (.inr (.inr (fun i => if i < 201 then some (mrk i) else none)))))), (ou, .inl (cO, 1, .inr (.inl (fun _ => 0))))] ++ rowsP mrk mcy)) (hS : va_S A s.heap H locs) (hl : lv_has ls 7 [(4, .int 0), (3, .ref ou), (2, .ref mq), (1, .ref xq), (0, .ref b)]) (L_xfs1 : xfs1.length = 18) (K17_xfs1 : xfs1[17]? = some (.ref xdk)) (L_xgd : xgd.length = 7) (K0_xgd : xgd[0]? = some (.ref xbk)) (L_mfs1 : mfs1.length = 163) (K157_mfs1 : mfs1[157]? = some (.ref mqk)) : W p l e room_1 s m #[Value.ref b] below meth c H locs 951 1458901 (lw_Z below #[Value.ref b] s) (F0 m 1517 ls []) := by
  obtain ⟨hx, hb, hr, hml, hown, hts, hX, hbl, hlocks, hgv⟩ := id C0
  have hown : s.vm.findClass RL = some m.cls := hown
  have ht : ∀ w ∈ tb, w.before #[Value.ref b] s = true := fun w hw => hts w (List.mem_filter.mp hw).1
  have hbA : ¬ A b := fun h => absurd (hA2 _ h) (Nat.not_le.mpr hbl)
  by_cases hdk : dkin (xs 1) (xs 2)
  · obtain ⟨m9, n9, hm9, hn9, e1, e2⟩ := dk_nat hdk
    have hi : dkin (nI (m9 + 1)) (nI n9) := by rw [← e1, ← e2]; exact hdk
    have hP := rows_P (X := [(xq, .inr (11, xfs1)), (xdk, .inr (2, xgd)), (xbk, .inl (xcB, 25600, .inl (fun _ => 0))), (mq, .inr (15, mfs1)), (mqk, .inl (mck, 201, .inr (.inr (.inr (.inr (fun i => if i < 201 then some (mrk i) else none)))))), (ou, .inl (cO, 1, .inr (.inl (fun _ => 0))))]) (j := m9 + 1) (by omega) hP
    have hD := rows_D (X := [(xq, .inr (11, xfs1)), (xdk, .inr (2, xgd)), (xbk, .inl (xcB, 25600, .inl (fun _ => 0))), (mq, .inr (15, mfs1)), (mqk, .inl (mck, 201, .inr (.inr (.inr (.inr (fun i => if i < 201 then some (mrk i) else none)))))), (ou, .inl (cO, 1, .inr (.inl (fun _ => 0))))]) (j := m9 + 1) (by omega) hD
    have hP : va_P (dC, dI) cls [(xq, .inr (11, xfs1)), (xdk, .inr (2, xgd)), (xbk, .inl (xcB, 25600, .inl (fun _ => 0))), (mq, .inr (15, mfs1)), (mqk, .inl (mck, 201, .inr (.inr (.inr (.inr (fun i => if i < 201 then some (mrk i) else none)))))), (ou, .inl (cO, 1, .inr (.inl (fun _ => 0)))), ((mrk (m9 + 1)), .inl (mcy, 128, .inl (fun _ => 0)))] H := hP
    have hD : va_D A [(xq, .inr (11, xfs1)), (xdk, .inr (2, xgd)), (xbk, .inl (xcB, 25600, .inl (fun _ => 0))), (mq, .inr (15, mfs1)), (mqk, .inl (mck, 201, .inr (.inr (.inr (.inr (fun i => if i < 201 then some (mrk i) else none)))))), (ou, .inl (cO, 1, .inr (.inl (fun _ => 0)))), ((mrk (m9 + 1)), .inl (mcy, 128, .inl (fun _ => 0)))] := hD
    refine lv_aload_n hx hb dL_law_1517 rfl (lv_at hl 3 rfl) ?_
    refine lv_aload_n hx hb dL_law_1518 rfl (lv_at hl 4 rfl) ?_
    refine lv_iload hx hb dL_law_1519 (lv_at hl 0 rfl) ?_
    refine lv_iconst (v := 1) hx hb dL_law_1521 (by decide) ?_
    refine lv_iadd hx hb dL_law_1522 ?_
    refine tk_i (y := 1) (by decide) ?_
    refine va_sld hx hb hX hbl hbA hS (by unfold vp_in; decide) dL_law_1523 ?_
    refine tk_i (y := (nI (m9 + 1))) e1 ?_
    refine lv_aload_n hx hb dL_law_1524 rfl (lv_at hl 4 rfl) ?_
    refine lv_iload hx hb dL_law_1525 (lv_at hl 0 rfl) ?_
    refine lv_iconst (v := 2) hx hb dL_law_1527 (by decide) ?_
    refine lv_iadd hx hb dL_law_1528 ?_
    refine tk_i (y := 2) (by decide) ?_
    refine va_sld hx hb hX hbl hbA hS (by unfold vp_in; decide) dL_law_1529 ?_
    refine tk_i (y := (nI n9)) e2 ?_
    refine lv_aload_n hx hb dL_law_1530 rfl (lv_at hl 4 rfl) ?_
    refine lv_iload hx hb dL_law_1531 (lv_at hl 0 rfl) ?_
    refine lv_iconst (v := 3) hx hb dL_law_1533 (by decide) ?_
    refine lv_iadd hx hb dL_law_1534 ?_
    refine tk_i (y := 3) (by decide) ?_
    refine va_sld hx hb hX hbl hbA hS (by unfold vp_in; decide) dL_law_1535 ?_
    refine tk_i (y := (xs 3)) rfl ?_
    refine lv_aload_n hx hb dL_law_1536 rfl (lv_at hl 1 rfl) ?_
    refine ca_i (wr := [(mq, .inr (15, mfs1)), (mqk, .inl (mck, 201, .inr (.inr (.inr (.inr (fun i => if i < 201 then some (mrk i) else none)))))), ((mrk (m9 + 1)), .inl (mcy, 128, .inl (fun _ => 0)))]) (vx_runSW (As := [.ref xq, .int (nI (m9 + 1)), .int (nI n9), .int (xs 3), .ref ou]) (rest := []) ⟨hx, hb, hml, hown, ht⟩ (l_poke_ok l dC dI H.size xq xfs1 xdk xgd xbk xcB ou cO (fun _ => 0) (nI (m9 + 1)) (nI n9) (xs 3) L_xfs1 K17_xfs1 L_xgd K0_xgd hi) (vx_cwSW 5 ht (gdS2 k_9_224 k_9_222 k_9_223 k_1_0) rfl rfl rfl (by decide +kernel) ⟨Nat.le_of_ble_eq_true rfl, Nat.le_of_ble_eq_true rfl⟩) ⟨pcw_blind, pcw_at hP hD hK [0, 1, 2, 5] [0, 2] (by decide) rfl rfl rfl⟩ rfl rfl hl.1 rfl (lv_room (Nat.le_of_ble_eq_true rfl)) dL_law_1537 ⟨Nat.le_of_ble_eq_true rfl, Nat.le_of_ble_eq_true rfl⟩) hP hD hK hS hA [0, 1, 2, 5] [3, 4, 6] rfl rfl (by decide) (by decide) (fun r_1 u H locs w_2 hK hP hD hS => ?_)
    obtain ⟨y_3, rfl⟩ : ∃ z, z = u := ⟨_, rfl⟩
    have hK : va_K (dC, dI) cls [(xcB, .byte), (mck, .array .int), (cO, .long), (mcy, .int), (cO, .long)] s := hK
    have hP : va_P (dC, dI) cls [(mq, .inr (15, mfs1)), (mqk, .inl (mck, 201, .inr (.inr (.inr (.inr (fun i => if i < 201 then some (mrk i) else none)))))), ((mrk (m9 + 1)), .inl (mcy, 128, .inl (fun _ => 0))), (ou, .inl (cO, 1, .inr (.inl y_3)))] H := hP
    have hD : va_D A [(mq, .inr (15, mfs1)), (mqk, .inl (mck, 201, .inr (.inr (.inr (.inr (fun i => if i < 201 then some (mrk i) else none)))))), ((mrk (m9 + 1)), .inl (mcy, 128, .inl (fun _ => 0))), (ou, .inl (cO, 1, .inr (.inl y_3)))] := hD
    obtain ⟨rfl, hfo⟩ := w_2
    refine lv_istore (lv' := [(5, .int 0), (4, .int 0), (3, .ref ou), (2, .ref mq), (1, .ref xq), (0, .ref b)]) hx hb dL_law_1540 hl (by decide) rfl (fun ls hl => ?_)
    refine lv_aload_n hx hb dL_law_1542 rfl (lv_at hl 3 rfl) ?_
    refine lv_aload_n hx hb dL_law_1543 rfl (lv_at hl 5 rfl) ?_
    refine lv_iload hx hb dL_law_1544 (lv_at hl 1 rfl) ?_
    refine lv_iconst (v := 1) hx hb dL_law_1546 (by decide) ?_
    refine lv_iadd hx hb dL_law_1547 ?_
    refine tk_i (y := 1) (by decide) ?_
    refine va_sld hx hb hX hbl hbA hS (by unfold vp_in; decide) dL_law_1548 ?_
    refine tk_i (y := (nI (m9 + 1))) e1 ?_
    refine lv_aload_n hx hb dL_law_1549 rfl (lv_at hl 5 rfl) ?_
    refine lv_iload hx hb dL_law_1550 (lv_at hl 1 rfl) ?_
    refine lv_iconst (v := 2) hx hb dL_law_1552 (by decide) ?_
    refine lv_iadd hx hb dL_law_1553 ?_
    refine tk_i (y := 2) (by decide) ?_
    refine va_sld hx hb hX hbl hbA hS (by unfold vp_in; decide) dL_law_1554 ?_
    refine tk_i (y := (nI n9)) e2 ?_
    refine lv_aload_n hx hb dL_law_1555 rfl (lv_at hl 5 rfl) ?_
    refine lv_iload hx hb dL_law_1556 (lv_at hl 1 rfl) ?_
    refine lv_iconst (v := 3) hx hb dL_law_1558 (by decide) ?_
    refine lv_iadd hx hb dL_law_1559 ?_
    refine tk_i (y := 3) (by decide) ?_
    refine va_sld hx hb hX hbl hbA hS (by unfold vp_in; decide) dL_law_1560 ?_
    refine tk_i (y := (xs 3)) rfl ?_
    refine ca_i (wr := [(ou, .inl (cO, 1, .inr (.inl y_3)))]) (va_runV (As := [.int (nI (m9 + 1)), .int (nI n9), .int (xs 3)]) (rest := []) ⟨hx, hb, hml, hown, ht⟩ (r_poke_ok l dC dI H.size mq mfs1 mqk mck mrk mcy m9 n9 (xs 3) L_mfs1 K157_mfs1 hm9 hn9) (cwV 3 ht (gdV k_16_112 k_16_109 k_16_110 k_16_111 k_1_17) rfl rfl rfl (by decide +kernel) ⟨Nat.le_of_ble_eq_true rfl, Nat.le_of_ble_eq_true rfl⟩) ⟨pcw_blind, va_recv hK hP (ci := 15) (q0 := 0) rfl rfl, pcw_at hP hD hK [0, 1, 2] [1, 3] (by decide) rfl rfl rfl⟩ rfl rfl hl.1 rfl (lv_room (Nat.le_of_ble_eq_true rfl)) dL_law_1561 ⟨Nat.le_of_ble_eq_true rfl, Nat.le_of_ble_eq_true rfl⟩) hP hD hK hS hA [0, 1, 2] [3] rfl rfl (by decide) (by decide) (fun r_4 u H locs w_5 hK hP hD hS => ?_)
    obtain ⟨F_6, rfl⟩ : ∃ z, z = u := ⟨_, rfl⟩
    have hK : va_K (dC, dI) cls [(xcB, .byte), (mck, .array .int), (cO, .long), (mcy, .int), (cO, .long)] s := hK
    have hP : va_P (dC, dI) cls [(ou, .inl (cO, 1, .inr (.inl y_3))), (mq, .inr (15, F_6))] H := hP
    have hD : va_D A [(ou, .inl (cO, 1, .inr (.inl y_3))), (mq, .inr (15, F_6))] := hD
    obtain ⟨w_5, K_7, K_8⟩ := w_5
    refine lv_istore (lv' := [(6, .int r_4), (5, .int 0), (4, .int 0), (3, .ref ou), (2, .ref mq), (1, .ref xq), (0, .ref b)]) hx hb dL_law_1564 hl (by decide) rfl (fun ls hl => ?_)
    refine lv_aload_n hx hb dL_law_1566 rfl (lv_at hl 4 rfl) ?_
    refine ca_i (wr := [(ou, .inl (cO, 1, .inr (.inl y_3)))]) (va_runV (As := []) (rest := []) ⟨hx, hb, hml, hown, ht⟩ (r_thrown_0 l dC dI H.size mq F_6 K_7 K_8 ) (cwV 0 ht (gdV k_12_201 k_12_198 k_12_199 k_12_200 k_1_17) rfl rfl rfl (by decide +kernel) ⟨Nat.le_of_ble_eq_true rfl, Nat.le_of_ble_eq_true rfl⟩) ⟨pcw_blind, va_recv hK hP (ci := 15) (q0 := 1) rfl rfl, pcw_at hP hD hK [1] [] (by decide) rfl rfl rfl⟩ rfl rfl hl.1 rfl (lv_room (Nat.le_of_ble_eq_true rfl)) dL_law_1567 ⟨Nat.le_of_ble_eq_true rfl, Nat.le_of_ble_eq_true rfl⟩) hP hD hK hS hA [1] [0] rfl rfl (by decide) (by decide) (fun r_9 u H locs w_10 hK hP hD hS => ?_)
    have hK : va_K (dC, dI) cls [(xcB, .byte), (mck, .array .int), (cO, .long), (mcy, .int), (cO, .long)] s := hK
    have hP : va_P (dC, dI) cls [(ou, .inl (cO, 1, .inr (.inl y_3)))] H := hP
    have hD : va_D A [(ou, .inl (cO, 1, .inr (.inl y_3)))] := hD
    obtain rfl : r_9 = 0 := w_10
    refine lv_iload hx hb dL_law_1570 (lv_at hl 1 rfl) ?_
    refine lv_icmp_eq (tgt := 1577) hx hb dL_law_1572 (by decide) (fun _ => ?_) (fun c0 => absurd c0 (by decide))
    refine lv_iload hx hb dL_law_1577 (lv_at hl 1 rfl) ?_
    refine lv_if_ne (tgt := 1594) hx hb dL_law_1579 (by decide) (fun c0 => absurd c0 (by decide)) (fun _ => ?_)
    refine lv_aload_n hx hb dL_law_1582 rfl (lv_at hl 3 rfl) ?_
    refine lv_iconst (v := 0) hx hb dL_law_1583 (by decide) ?_
    refine va_lald hx hb hK hP 0 2 rfl rfl (by unfold vp_in; decide) dL_law_1584 ?_
    refine tk_l (y := y_3 0) (by first | rfl | decide) ?_
    refine tk_l (y := ((xs 3) &&& 255).toInt64) hfo ?_
    refine lv_iload hx hb dL_law_1585 (lv_at hl 0 rfl) ?_
    refine lv_i2l hx hb dL_law_1587 rfl ?_
    refine tk_l (y := r_4.toInt64) rfl ?_
    refine W.lcmp hx hb dL_law_1588 ?_
    refine lv_if_eq (tgt := 1594) hx hb dL_law_1589 (by decide) (fun _ => ?_) (fun c0 => absurd ((lg_cmp_eq _ _).mpr (by rw [w_5])) c0)
    refine lv_goto (tgt := 1597) hx hb dL_law_1594 (by decide) ?_
    exact lw_tail l C0 hA2 hS (lv_sub hl [2, 6] rfl) (Nat.le_of_ble_eq_true rfl) (Nat.le_of_ble_eq_true rfl)
  · have hP := lft_P hP
    have hD := lft_D hD
    refine lv_aload_n hx hb dL_law_1517 rfl (lv_at hl 3 rfl) ?_
    refine lv_aload_n hx hb dL_law_1518 rfl (lv_at hl 4 rfl) ?_
    refine lv_iload hx hb dL_law_1519 (lv_at hl 0 rfl) ?_
    refine lv_iconst (v := 1) hx hb dL_law_1521 (by decide) ?_
    refine lv_iadd hx hb dL_law_1522 ?_
    refine tk_i (y := 1) (by decide) ?_
    refine va_sld hx hb hX hbl hbA hS (by unfold vp_in; decide) dL_law_1523 ?_
    refine tk_i (y := (xs 1)) rfl ?_
    refine lv_aload_n hx hb dL_law_1524 rfl (lv_at hl 4 rfl) ?_
    refine lv_iload hx hb dL_law_1525 (lv_at hl 0 rfl) ?_
    refine lv_iconst (v := 2) hx hb dL_law_1527 (by decide) ?_
    refine lv_iadd hx hb dL_law_1528 ?_
    refine tk_i (y := 2) (by decide) ?_
    refine va_sld hx hb hX hbl hbA hS (by unfold vp_in; decide) dL_law_1529 ?_
    refine tk_i (y := (xs 2)) rfl ?_
    refine lv_aload_n hx hb dL_law_1530 rfl (lv_at hl 4 rfl) ?_
    refine lv_iload hx hb dL_law_1531 (lv_at hl 0 rfl) ?_
    refine lv_iconst (v := 3) hx hb dL_law_1533 (by decide) ?_
    refine lv_iadd hx hb dL_law_1534 ?_
    refine tk_i (y := 3) (by decide) ?_
    refine va_sld hx hb hX hbl hbA hS (by unfold vp_in; decide) dL_law_1535 ?_
    refine tk_i (y := (xs 3)) rfl ?_
    refine lv_aload_n hx hb dL_law_1536 rfl (lv_at hl 1 rfl) ?_
    refine ca_i (wr := [(xbk, .inl (xcB, 25600, .inl (fun _ => 0))), (mq, .inr (15, mfs1)), (mqk, .inl (mck, 201, .inr (.inr (.inr (.inr (fun i => if i < 201 then some (mrk i) else none))))))]) (vx_runSW (As := [.ref xq, .int (xs 1), .int (xs 2), .int (xs 3), .ref ou]) (rest := []) ⟨hx, hb, hml, hown, ht⟩ (l_poke_no l dC dI H.size xq xfs1 xdk xgd ou cO (fun _ => 0) st7 (xs 1) (xs 2) (xs 3) L_xfs1 K17_xfs1 L_xgd hdk hlt) (vx_cwSW 5 ht (gdS2 k_9_224 k_9_222 k_9_223 k_1_0) rfl rfl rfl (by decide +kernel) ⟨Nat.le_of_ble_eq_true rfl, Nat.le_of_ble_eq_true rfl⟩) ⟨pcx_blind, pcx_at hP hD hK hS hA hE [0, 1, 5] [2] [23, 9, 10, 5] (by decide) rfl rfl rfl rfl⟩ rfl rfl hl.1 rfl (lv_room (Nat.le_of_ble_eq_true rfl)) dL_law_1537 ⟨Nat.le_of_ble_eq_true rfl, Nat.le_of_ble_eq_true rfl⟩) hP hD hK hS hA [0, 1, 5] [2, 3, 4] rfl rfl (by decide) (by decide) (fun r_11 u H locs w_12 hK hP hD hS => ?_)
    have hK : va_K (dC, dI) cls [(xcB, .byte), (mck, .array .int), (cO, .long), (mcy, .int)] s := hK
    have hP : va_P (dC, dI) cls [(xbk, .inl (xcB, 25600, .inl (fun _ => 0))), (mq, .inr (15, mfs1)), (mqk, .inl (mck, 201, .inr (.inr (.inr (.inr (fun i => if i < 201 then some (mrk i) else none))))))] H := hP
    have hD : va_D A [(xbk, .inl (xcB, 25600, .inl (fun _ => 0))), (mq, .inr (15, mfs1)), (mqk, .inl (mck, 201, .inr (.inr (.inr (.inr (fun i => if i < 201 then some (mrk i) else none))))))] := hD
    refine W.widen (k := 952) (n := 1458907) (Nat.le_of_ble_eq_true rfl) (Nat.le_of_ble_eq_true rfl) ?_
    obtain rfl : r_11 = 1 := w_12
    refine lv_istore (lv' := [(5, .int 1), (4, .int 0), (3, .ref ou), (2, .ref mq), (1, .ref xq), (0, .ref b)]) hx hb dL_law_1540 hl (by decide) rfl (fun ls hl => ?_)
    refine lv_aload_n hx hb dL_law_1542 rfl (lv_at hl 3 rfl) ?_
    refine lv_aload_n hx hb dL_law_1543 rfl (lv_at hl 5 rfl) ?_
    refine lv_iload hx hb dL_law_1544 (lv_at hl 1 rfl) ?_
    refine lv_iconst (v := 1) hx hb dL_law_1546 (by decide) ?_
    refine lv_iadd hx hb dL_law_1547 ?_
    refine tk_i (y := 1) (by decide) ?_
    refine va_sld hx hb hX hbl hbA hS (by unfold vp_in; decide) dL_law_1548 ?_
    refine tk_i (y := (xs 1)) rfl ?_
    refine lv_aload_n hx hb dL_law_1549 rfl (lv_at hl 5 rfl) ?_
    refine lv_iload hx hb dL_law_1550 (lv_at hl 1 rfl) ?_
    refine lv_iconst (v := 2) hx hb dL_law_1552 (by decide) ?_
    refine lv_iadd hx hb dL_law_1553 ?_
    refine tk_i (y := 2) (by decide) ?_
    refine va_sld hx hb hX hbl hbA hS (by unfold vp_in; decide) dL_law_1554 ?_
    refine tk_i (y := (xs 2)) rfl ?_
    refine lv_aload_n hx hb dL_law_1555 rfl (lv_at hl 5 rfl) ?_
    refine lv_iload hx hb dL_law_1556 (lv_at hl 1 rfl) ?_
    refine lv_iconst (v := 3) hx hb dL_law_1558 (by decide) ?_
    refine lv_iadd hx hb dL_law_1559 ?_
    refine tk_i (y := 3) (by decide) ?_
    refine va_sld hx hb hX hbl hbA hS (by unfold vp_in; decide) dL_law_1560 ?_
    refine tk_i (y := (xs 3)) rfl ?_
    refine ca_i (wr := [(xbk, .inl (xcB, 25600, .inl (fun _ => 0))), (mqk, .inl (mck, 201, .inr (.inr (.inr (.inr (fun i => if i < 201 then some (mrk i) else none))))))]) (va_runV (As := [.int (xs 1), .int (xs 2), .int (xs 3)]) (rest := []) ⟨hx, hb, hml, hown, ht⟩ (r_poke_no l dC dI H.size mq mfs1 (xs 1) (xs 2) (xs 3) L_mfs1 hdk) (cwV 3 ht (gdV k_16_112 k_16_109 k_16_110 k_16_111 k_1_17) rfl rfl rfl (by decide +kernel) ⟨Nat.le_of_ble_eq_true rfl, Nat.le_of_ble_eq_true rfl⟩) ⟨pcw_blind, va_recv hK hP (ci := 15) (q0 := 1) rfl rfl, pcw_at hP hD hK [1] [] (by decide) rfl rfl rfl⟩ rfl rfl hl.1 rfl (lv_room (Nat.le_of_ble_eq_true rfl)) dL_law_1561 ⟨Nat.le_of_ble_eq_true rfl, Nat.le_of_ble_eq_true rfl⟩) hP hD hK hS hA [1] [0, 2] rfl rfl (by decide) (by decide) (fun r_13 u H locs w_14 hK hP hD hS => ?_)
    obtain ⟨F_15, rfl⟩ : ∃ z, z = u := ⟨_, rfl⟩
    have hK : va_K (dC, dI) cls [(xcB, .byte), (mck, .array .int), (cO, .long), (mcy, .int)] s := hK
    have hP : va_P (dC, dI) cls [(xbk, .inl (xcB, 25600, .inl (fun _ => 0))), (mqk, .inl (mck, 201, .inr (.inr (.inr (.inr (fun i => if i < 201 then some (mrk i) else none)))))), (mq, .inr (15, F_15))] H := hP
    have hD : va_D A [(xbk, .inl (xcB, 25600, .inl (fun _ => 0))), (mqk, .inl (mck, 201, .inr (.inr (.inr (.inr (fun i => if i < 201 then some (mrk i) else none)))))), (mq, .inr (15, F_15))] := hD
    obtain ⟨w_14, K_16, K_17⟩ := w_14
    obtain rfl : r_13 = 0 := w_14
    refine lv_istore (lv' := [(6, .int 0), (5, .int 1), (4, .int 0), (3, .ref ou), (2, .ref mq), (1, .ref xq), (0, .ref b)]) hx hb dL_law_1564 hl (by decide) rfl (fun ls hl => ?_)
    refine lv_aload_n hx hb dL_law_1566 rfl (lv_at hl 4 rfl) ?_
    refine ca_i (wr := [(xbk, .inl (xcB, 25600, .inl (fun _ => 0))), (mqk, .inl (mck, 201, .inr (.inr (.inr (.inr (fun i => if i < 201 then some (mrk i) else none))))))]) (va_runV (As := []) (rest := []) ⟨hx, hb, hml, hown, ht⟩ (r_thrown_1 l dC dI H.size mq F_15 K_16 K_17 ) (cwV 0 ht (gdV k_12_201 k_12_198 k_12_199 k_12_200 k_1_17) rfl rfl rfl (by decide +kernel) ⟨Nat.le_of_ble_eq_true rfl, Nat.le_of_ble_eq_true rfl⟩) ⟨pcw_blind, va_recv hK hP (ci := 15) (q0 := 2) rfl rfl, pcw_at hP hD hK [2] [] (by decide) rfl rfl rfl⟩ rfl rfl hl.1 rfl (lv_room (Nat.le_of_ble_eq_true rfl)) dL_law_1567 ⟨Nat.le_of_ble_eq_true rfl, Nat.le_of_ble_eq_true rfl⟩) hP hD hK hS hA [2] [0, 1] rfl rfl (by decide) (by decide) (fun r_18 u H locs w_19 hK hP hD hS => ?_)
    have hK : va_K (dC, dI) cls [(xcB, .byte), (mck, .array .int), (cO, .long), (mcy, .int)] s := hK
    have hP : va_P (dC, dI) cls [(xbk, .inl (xcB, 25600, .inl (fun _ => 0))), (mqk, .inl (mck, 201, .inr (.inr (.inr (.inr (fun i => if i < 201 then some (mrk i) else none))))))] H := hP
    have hD : va_D A [(xbk, .inl (xcB, 25600, .inl (fun _ => 0))), (mqk, .inl (mck, 201, .inr (.inr (.inr (.inr (fun i => if i < 201 then some (mrk i) else none))))))] := hD
    obtain rfl : r_18 = 1 := w_19
    refine lv_iload hx hb dL_law_1570 (lv_at hl 1 rfl) ?_
    refine lv_icmp_eq (tgt := 1577) hx hb dL_law_1572 (by decide) (fun _ => ?_) (fun c0 => absurd c0 (by decide))
    refine lv_iload hx hb dL_law_1577 (lv_at hl 1 rfl) ?_
    refine lv_if_ne (tgt := 1594) hx hb dL_law_1579 (by decide) (fun _ => ?_) (fun c0 => absurd c0 (by decide))
    refine lv_goto (tgt := 1597) hx hb dL_law_1594 (by decide) ?_
    exact lw_tail l C0 hA2 hS (lv_sub hl [2, 6] rfl) (Nat.le_of_ble_eq_true rfl) (Nat.le_of_ble_eq_true rfl)
