theorem dL_law_1387 : decode cL_law 1387 = .ok (.iadd, 1) := by decide +kernel
theorem dL_law_1388 : decode cL_law 1388 = .ok (.iaload, 1) := by decide +kernel
theorem dL_law_1389 : decode cL_law 1389 = .ok (.invokevirtual 188, 3) := by decide +kernel
theorem dX12_put_0 : decode cX12_put 0 = .ok (.aload_n 0, 1) := by decide +kernel
theorem dX12_put_1 : decode cX12_put 1 = .ok (.iload_n 1, 1) := by decide +kernel
theorem dX12_put_2 : decode cX12_put 2 = .ok (.invokevirtual 361, 3) := by decide +kernel
theorem dX12_put_5 : decode cX12_put 5 = .ok (.ifCond .eq 19, 3) := by decide +kernel
theorem dX12_put_24 : decode cX12_put 24 = .ok (.ldc_w 364, 3) := by decide +kernel
theorem dX12_put_27 : decode cX12_put 27 = .ok (.ireturn, 1) := by decide +kernel
theorem dL_law_1392 : decode cL_law 1392 = .ok (.if_icmp .eq 140, 3) := by decide +kernel
theorem dL_law_1397 : decode cL_law 1397 = .ok (.aload_n 1, 1) := by decide +kernel
theorem dL_law_1398 : decode cL_law 1398 = .ok (.aload_n 0, 1) := by decide +kernel
theorem dL_law_1399 : decode cL_law 1399 = .ok (.iload_n 3, 1) := by decide +kernel
theorem dL_law_1400 : decode cL_law 1400 = .ok (.iconst 1, 1) := by decide +kernel
theorem dL_law_1401 : decode cL_law 1401 = .ok (.iadd, 1) := by decide +kernel
theorem dL_law_1402 : decode cL_law 1402 = .ok (.iaload, 1) := by decide +kernel
theorem dL_law_1403 : decode cL_law 1403 = .ok (.invokevirtual 189, 3) := by decide +kernel
theorem dX11_worth_0 : decode cX11_worth 0 = .ok (.aload_n 0, 1) := by decide +kernel
theorem dX11_worth_1 : decode cX11_worth 1 = .ok (.getfield 69, 3) := by decide +kernel
theorem dX11_worth_4 : decode cX11_worth 4 = .ok (.iload_n 1, 1) := by decide +kernel
theorem dX11_worth_5 : decode cX11_worth 5 = .ok (.invokevirtual 172, 3) := by decide +kernel
theorem dX11_worth_8 : decode cX11_worth 8 = .ok (.ifCond .eq 14, 3) := by decide +kernel
theorem dX11_worth_22 : decode cX11_worth 22 = .ok (.ldc 175, 2) := by decide +kernel
theorem dX11_worth_24 : decode cX11_worth 24 = .ok (.ireturn, 1) := by decide +kernel
theorem dL_law_1406 : decode cL_law 1406 = .ok (.aload_n 2, 1) := by decide +kernel
theorem dL_law_1407 : decode cL_law 1407 = .ok (.aload_n 0, 1) := by decide +kernel
theorem dL_law_1408 : decode cL_law 1408 = .ok (.iload_n 3, 1) := by decide +kernel
theorem dL_law_1409 : decode cL_law 1409 = .ok (.iconst 1, 1) := by decide +kernel
theorem dL_law_1410 : decode cL_law 1410 = .ok (.iadd, 1) := by decide +kernel
theorem dL_law_1411 : decode cL_law 1411 = .ok (.iaload, 1) := by decide +kernel
theorem dL_law_1412 : decode cL_law 1412 = .ok (.invokevirtual 192, 3) := by decide +kernel
theorem dX12_worth_0 : decode cX12_worth 0 = .ok (.aload_n 0, 1) := by decide +kernel
theorem dX12_worth_1 : decode cX12_worth 1 = .ok (.iload_n 1, 1) := by decide +kernel
theorem dX12_worth_2 : decode cX12_worth 2 = .ok (.invokevirtual 361, 3) := by decide +kernel
theorem dX12_worth_5 : decode cX12_worth 5 = .ok (.ifCond .eq 11, 3) := by decide +kernel
theorem dX12_worth_16 : decode cX12_worth 16 = .ok (.ldc_w 364, 3) := by decide +kernel
theorem dX12_worth_19 : decode cX12_worth 19 = .ok (.ireturn, 1) := by decide +kernel
theorem dL_law_1415 : decode cL_law 1415 = .ok (.if_icmp .eq 117, 3) := by decide +kernel
theorem dL_law_1420 : decode cL_law 1420 = .ok (.aload_n 1, 1) := by decide +kernel
theorem dL_law_1421 : decode cL_law 1421 = .ok (.aload_n 0, 1) := by decide +kernel
theorem dL_law_1422 : decode cL_law 1422 = .ok (.iload_n 3, 1) := by decide +kernel
theorem dL_law_1423 : decode cL_law 1423 = .ok (.iconst 1, 1) := by decide +kernel
theorem dL_law_1424 : decode cL_law 1424 = .ok (.iadd, 1) := by decide +kernel
theorem dL_law_1425 : decode cL_law 1425 = .ok (.iaload, 1) := by decide +kernel
theorem dL_law_1426 : decode cL_law 1426 = .ok (.aload_n 0, 1) := by decide +kernel
theorem dL_law_1427 : decode cL_law 1427 = .ok (.iload_n 3, 1) := by decide +kernel
theorem dL_law_1428 : decode cL_law 1428 = .ok (.iconst 2, 1) := by decide +kernel
theorem dL_law_1429 : decode cL_law 1429 = .ok (.iadd, 1) := by decide +kernel
theorem dL_law_1430 : decode cL_law 1430 = .ok (.iaload, 1) := by decide +kernel
theorem dL_law_1431 : decode cL_law 1431 = .ok (.i2l, 1) := by decide +kernel
theorem dL_law_1432 : decode cL_law 1432 = .ok (.bipush 32, 2) := by decide +kernel
theorem dL_law_1434 : decode cL_law 1434 = .ok (.lshl, 1) := by decide +kernel
theorem dL_law_1435 : decode cL_law 1435 = .ok (.aload_n 0, 1) := by decide +kernel
theorem dL_law_1436 : decode cL_law 1436 = .ok (.iload_n 3, 1) := by decide +kernel
theorem dL_law_1437 : decode cL_law 1437 = .ok (.iconst 3, 1) := by decide +kernel
theorem dL_law_1438 : decode cL_law 1438 = .ok (.iadd, 1) := by decide +kernel
theorem dL_law_1439 : decode cL_law 1439 = .ok (.iaload, 1) := by decide +kernel
theorem dL_law_1440 : decode cL_law 1440 = .ok (.i2l, 1) := by decide +kernel
theorem dL_law_1441 : decode cL_law 1441 = .ok (.ldc2_w 78, 3) := by decide +kernel
theorem dL_law_1444 : decode cL_law 1444 = .ok (.land, 1) := by decide +kernel
theorem dL_law_1445 : decode cL_law 1445 = .ok (.lor, 1) := by decide +kernel
theorem dL_law_1446 : decode cL_law 1446 = .ok (.invokevirtual 193, 3) := by decide +kernel
theorem dX11_chosen_0 : decode cX11_chosen 0 = .ok (.iload_n 1, 1) := by decide +kernel
theorem dX11_chosen_1 : decode cX11_chosen 1 = .ok (.iconst 1, 1) := by decide +kernel
theorem dX11_chosen_2 : decode cX11_chosen 2 = .ok (.if_icmp .lt 20, 3) := by decide +kernel
theorem dX11_chosen_22 : decode cX11_chosen 22 = .ok (.iconst (-1), 1) := by decide +kernel
theorem dX11_chosen_23 : decode cX11_chosen 23 = .ok (.ireturn, 1) := by decide +kernel
theorem dX11_chosen_5 : decode cX11_chosen 5 = .ok (.iload_n 1, 1) := by decide +kernel
theorem dX11_chosen_6 : decode cX11_chosen 6 = .ok (.aload_n 0, 1) := by decide +kernel
theorem dX11_chosen_7 : decode cX11_chosen 7 = .ok (.getfield 69, 3) := by decide +kernel
theorem dX11_chosen_10 : decode cX11_chosen 10 = .ok (.getfield 136, 3) := by decide +kernel
theorem dX11_chosen_13 : decode cX11_chosen 13 = .ok (.if_icmp .gt 9, 3) := by decide +kernel
theorem dL_law_1449 : decode cL_law 1449 = .ok (.aload_n 2, 1) := by decide +kernel
theorem dL_law_1450 : decode cL_law 1450 = .ok (.aload_n 0, 1) := by decide +kernel
theorem dL_law_1451 : decode cL_law 1451 = .ok (.iload_n 3, 1) := by decide +kernel
theorem dL_law_1452 : decode cL_law 1452 = .ok (.iconst 1, 1) := by decide +kernel
theorem dL_law_1453 : decode cL_law 1453 = .ok (.iadd, 1) := by decide +kernel
theorem dL_law_1454 : decode cL_law 1454 = .ok (.iaload, 1) := by decide +kernel
theorem dL_law_1455 : decode cL_law 1455 = .ok (.aload_n 0, 1) := by decide +kernel
theorem dL_law_1456 : decode cL_law 1456 = .ok (.iload_n 3, 1) := by decide +kernel
theorem dL_law_1457 : decode cL_law 1457 = .ok (.iconst 2, 1) := by decide +kernel
theorem dL_law_1458 : decode cL_law 1458 = .ok (.iadd, 1) := by decide +kernel
theorem dL_law_1459 : decode cL_law 1459 = .ok (.iaload, 1) := by decide +kernel
theorem dL_law_1460 : decode cL_law 1460 = .ok (.i2l, 1) := by decide +kernel
theorem dL_law_1461 : decode cL_law 1461 = .ok (.bipush 32, 2) := by decide +kernel
theorem dL_law_1463 : decode cL_law 1463 = .ok (.lshl, 1) := by decide +kernel
theorem dL_law_1464 : decode cL_law 1464 = .ok (.aload_n 0, 1) := by decide +kernel
theorem dL_law_1465 : decode cL_law 1465 = .ok (.iload_n 3, 1) := by decide +kernel
theorem dL_law_1466 : decode cL_law 1466 = .ok (.iconst 3, 1) := by decide +kernel
theorem dL_law_1467 : decode cL_law 1467 = .ok (.iadd, 1) := by decide +kernel
theorem dL_law_1468 : decode cL_law 1468 = .ok (.iaload, 1) := by decide +kernel
theorem dL_law_1469 : decode cL_law 1469 = .ok (.i2l, 1) := by decide +kernel
theorem dL_law_1470 : decode cL_law 1470 = .ok (.ldc2_w 78, 3) := by decide +kernel
theorem dL_law_1473 : decode cL_law 1473 = .ok (.land, 1) := by decide +kernel
theorem dL_law_1474 : decode cL_law 1474 = .ok (.lor, 1) := by decide +kernel
theorem dL_law_1475 : decode cL_law 1475 = .ok (.invokevirtual 197, 3) := by decide +kernel
theorem dX12_chosen_0 : decode cX12_chosen 0 = .ok (.iload_n 1, 1) := by decide +kernel
theorem dX12_chosen_1 : decode cX12_chosen 1 = .ok (.i2l, 1) := by decide +kernel
theorem dX12_chosen_2 : decode cX12_chosen 2 = .ok (.lconst 1, 1) := by decide +kernel
theorem dX12_chosen_3 : decode cX12_chosen 3 = .ok (.ldc2_w 484, 3) := by decide +kernel
theorem dX12_chosen_6 : decode cX12_chosen 6 = .ok (.invokestatic 191, 3) := by decide +kernel
theorem dX12_chosen_9 : decode cX12_chosen 9 = .ok (.ifCond .eq 9, 3) := by decide +kernel
theorem dX12_chosen_18 : decode cX12_chosen 18 = .ok (.iconst (-1), 1) := by decide +kernel
theorem dX12_chosen_19 : decode cX12_chosen 19 = .ok (.ireturn, 1) := by decide +kernel
theorem dX12_chosen_12 : decode cX12_chosen 12 = .ok (.lload_n 2, 1) := by decide +kernel
theorem dX12_chosen_13 : decode cX12_chosen 13 = .ok (.lconst 0, 1) := by decide +kernel
theorem dX12_chosen_14 : decode cX12_chosen 14 = .ok (.lcmp, 1) := by decide +kernel
theorem dX12_chosen_15 : decode cX12_chosen 15 = .ok (.ifCond .ge 5, 3) := by decide +kernel
theorem dX12_chosen_20 : decode cX12_chosen 20 = .ok (.iconst (-1), 1) := by decide +kernel
theorem dX12_chosen_21 : decode cX12_chosen 21 = .ok (.istore 4, 2) := by decide +kernel
theorem dX12_chosen_23 : decode cX12_chosen 23 = .ok (.lconst 0, 1) := by decide +kernel
theorem dX12_chosen_24 : decode cX12_chosen 24 = .ok (.lstore 5, 2) := by decide +kernel
theorem dX12_chosen_26 : decode cX12_chosen 26 = .ok (.iconst 1, 1) := by decide +kernel
theorem dX12_chosen_27 : decode cX12_chosen 27 = .ok (.istore 7, 2) := by decide +kernel
theorem dX12_chosen_29 : decode cX12_chosen 29 = .ok (.iload 7, 2) := by decide +kernel
theorem dX12_chosen_31 : decode cX12_chosen 31 = .ok (.iconst 1, 1) := by decide +kernel
theorem dX12_chosen_32 : decode cX12_chosen 32 = .ok (.aload_n 0, 1) := by decide +kernel
theorem dX12_chosen_33 : decode cX12_chosen 33 = .ok (.getfield 237, 3) := by decide +kernel
theorem dX12_chosen_36 : decode cX12_chosen 36 = .ok (.ishl, 1) := by decide +kernel
theorem dX12_chosen_37 : decode cX12_chosen 37 = .ok (.if_icmp .ge 117, 3) := by decide +kernel
theorem dX12_chosen_154 : decode cX12_chosen 154 = .ok (.iload 4, 2) := by decide +kernel
theorem dX12_chosen_156 : decode cX12_chosen 156 = .ok (.ireturn, 1) := by decide +kernel
theorem dL_law_1478 : decode cL_law 1478 = .ok (.if_icmp .eq 54, 3) := by decide +kernel
theorem dL_law_1483 : decode cL_law 1483 = .ok (.aload_n 1, 1) := by decide +kernel
theorem dL_law_1484 : decode cL_law 1484 = .ok (.invokevirtual 198, 3) := by decide +kernel
theorem dX11_image_0 : decode cX11_image 0 = .ok (.iconst 0, 1) := by decide +kernel
theorem dX11_image_1 : decode cX11_image 1 = .ok (.istore_n 1, 1) := by decide +kernel
theorem dX11_image_2 : decode cX11_image 2 = .ok (.iconst 0, 1) := by decide +kernel
theorem dX11_image_3 : decode cX11_image 3 = .ok (.istore_n 2, 1) := by decide +kernel
theorem dX11_image_4 : decode cX11_image 4 = .ok (.iload_n 2, 1) := by decide +kernel
theorem dX11_image_5 : decode cX11_image 5 = .ok (.aload_n 0, 1) := by decide +kernel
theorem dX11_image_6 : decode cX11_image 6 = .ok (.getfield 69, 3) := by decide +kernel
theorem dX11_image_9 : decode cX11_image 9 = .ok (.getfield 139, 3) := by decide +kernel
theorem dX11_image_12 : decode cX11_image 12 = .ok (.if_icmp .ge 49, 3) := by decide +kernel
theorem dX11_image_61 : decode cX11_image 61 = .ok (.aload_n 0, 1) := by decide +kernel
theorem dX11_image_62 : decode cX11_image 62 = .ok (.getfield 59, 3) := by decide +kernel
theorem dX11_image_65 : decode cX11_image 65 = .ok (.iload_n 1, 1) := by decide +kernel
theorem dX11_image_66 : decode cX11_image 66 = .ok (.aload_n 0, 1) := by decide +kernel
theorem dX11_image_67 : decode cX11_image 67 = .ok (.getfield 76, 3) := by decide +kernel
theorem dX11_image_70 : decode cX11_image 70 = .ok (.getfield 160, 3) := by decide +kernel
theorem dX11_image_73 : decode cX11_image 73 = .ok (.iastore, 1) := by decide +kernel
theorem dX11_image_74 : decode cX11_image 74 = .ok (.iinc 1 1, 3) := by decide +kernel
theorem dX11_image_77 : decode cX11_image 77 = .ok (.bipush 51, 2) := by decide +kernel
theorem dX11_image_79 : decode cX11_image 79 = .ok (.istore_n 2, 1) := by decide +kernel
theorem dX11_image_80 : decode cX11_image 80 = .ok (.iconst 0, 1) := by decide +kernel
theorem dX11_image_81 : decode cX11_image 81 = .ok (.istore_n 3, 1) := by decide +kernel
theorem dX11_image_82 : decode cX11_image 82 = .ok (.iload_n 3, 1) := by decide +kernel
theorem dX11_image_83 : decode cX11_image 83 = .ok (.iload_n 1, 1) := by decide +kernel
theorem dX11_image_84 : decode cX11_image 84 = .ok (.if_icmp .ge 20, 3) := by decide +kernel
theorem dX11_image_87 : decode cX11_image 87 = .ok (.iload_n 2, 1) := by decide +kernel
theorem dX11_image_88 : decode cX11_image 88 = .ok (.aload_n 0, 1) := by decide +kernel
theorem dX11_image_89 : decode cX11_image 89 = .ok (.getfield 59, 3) := by decide +kernel
theorem dX11_image_92 : decode cX11_image 92 = .ok (.iload_n 3, 1) := by decide +kernel
theorem dX11_image_93 : decode cX11_image 93 = .ok (.iaload, 1) := by decide +kernel
theorem dX11_image_94 : decode cX11_image 94 = .ok (.invokestatic 404, 3) := by decide +kernel
theorem dX11_checkWith_0 : decode cX11_checkWith 0 = .ok (.bipush 7, 2) := by decide +kernel
theorem dX11_checkWith_2 : decode cX11_checkWith 2 = .ok (.iload_n 0, 1) := by decide +kernel
theorem dX11_checkWith_3 : decode cX11_checkWith 3 = .ok (.imul, 1) := by decide +kernel
theorem dX11_checkWith_4 : decode cX11_checkWith 4 = .ok (.iload_n 1, 1) := by decide +kernel
theorem dX11_checkWith_5 : decode cX11_checkWith 5 = .ok (.iadd, 1) := by decide +kernel
theorem dX11_checkWith_6 : decode cX11_checkWith 6 = .ok (.sipush 253, 3) := by decide +kernel
theorem dX11_checkWith_9 : decode cX11_checkWith 9 = .ok (.irem, 1) := by decide +kernel
theorem dX11_checkWith_10 : decode cX11_checkWith 10 = .ok (.ireturn, 1) := by decide +kernel
theorem dX11_image_97 : decode cX11_image 97 = .ok (.istore_n 2, 1) := by decide +kernel
theorem dX11_image_98 : decode cX11_image 98 = .ok (.iinc 3 1, 3) := by decide +kernel
theorem dX11_image_101 : decode cX11_image 101 = .ok (.goto (-19), 3) := by decide +kernel
theorem dX11_image_104 : decode cX11_image 104 = .ok (.aload_n 0, 1) := by decide +kernel
theorem dX11_image_105 : decode cX11_image 105 = .ok (.getfield 59, 3) := by decide +kernel
theorem dX11_image_108 : decode cX11_image 108 = .ok (.iload_n 1, 1) := by decide +kernel
theorem dX11_image_109 : decode cX11_image 109 = .ok (.iload_n 2, 1) := by decide +kernel
theorem dX11_image_110 : decode cX11_image 110 = .ok (.iastore, 1) := by decide +kernel
theorem dX11_image_111 : decode cX11_image 111 = .ok (.aload_n 0, 1) := by decide +kernel
theorem dX11_image_112 : decode cX11_image 112 = .ok (.iload_n 1, 1) := by decide +kernel
theorem dX11_image_113 : decode cX11_image 113 = .ok (.iconst 1, 1) := by decide +kernel
theorem dX11_image_114 : decode cX11_image 114 = .ok (.iadd, 1) := by decide +kernel
theorem dX11_image_115 : decode cX11_image 115 = .ok (.putfield 62, 3) := by decide +kernel
theorem dX11_image_118 : decode cX11_image 118 = .ok (.aload_n 0, 1) := by decide +kernel
theorem dX11_image_119 : decode cX11_image 119 = .ok (.getfield 62, 3) := by decide +kernel
theorem dX11_image_122 : decode cX11_image 122 = .ok (.ireturn, 1) := by decide +kernel
theorem dL_law_1487 : decode cL_law 1487 = .ok (.aload_n 2, 1) := by decide +kernel
theorem dL_law_1488 : decode cL_law 1488 = .ok (.invokevirtual 201, 3) := by decide +kernel
theorem dX12_image_0 : decode cX12_image 0 = .ok (.aload_n 0, 1) := by decide +kernel
theorem dX12_image_1 : decode cX12_image 1 = .ok (.iconst 0, 1) := by decide +kernel
theorem dX12_image_2 : decode cX12_image 2 = .ok (.putfield 489, 3) := by decide +kernel
theorem dX12_image_5 : decode cX12_image 5 = .ok (.iconst 0, 1) := by decide +kernel
theorem dX12_image_6 : decode cX12_image 6 = .ok (.istore_n 1, 1) := by decide +kernel
theorem dX12_image_7 : decode cX12_image 7 = .ok (.iload_n 1, 1) := by decide +kernel
theorem dX12_image_8 : decode cX12_image 8 = .ok (.aload_n 0, 1) := by decide +kernel
theorem dX12_image_9 : decode cX12_image 9 = .ok (.getfield 240, 3) := by decide +kernel
theorem dX12_image_12 : decode cX12_image 12 = .ok (.if_icmp .ge 40, 3) := by decide +kernel
theorem dX12_image_52 : decode cX12_image 52 = .ok (.aload_n 0, 1) := by decide +kernel
theorem dX12_image_53 : decode cX12_image 53 = .ok (.aload_n 0, 1) := by decide +kernel
theorem dX12_image_54 : decode cX12_image 54 = .ok (.getfield 349, 3) := by decide +kernel
theorem dX12_image_57 : decode cX12_image 57 = .ok (.invokevirtual 492, 3) := by decide +kernel
theorem dX12_writes_0 : decode cX12_writes 0 = .ok (.aload_n 0, 1) := by decide +kernel
theorem dX12_writes_1 : decode cX12_writes 1 = .ok (.getfield 145, 3) := by decide +kernel
theorem dX12_writes_4 : decode cX12_writes 4 = .ok (.aload_n 0, 1) := by decide +kernel
theorem dX12_writes_5 : decode cX12_writes 5 = .ok (.getfield 489, 3) := by decide +kernel
theorem dX12_writes_8 : decode cX12_writes 8 = .ok (.iload_n 1, 1) := by decide +kernel
theorem dX12_writes_9 : decode cX12_writes 9 = .ok (.iastore, 1) := by decide +kernel
theorem dX12_writes_10 : decode cX12_writes 10 = .ok (.aload_n 0, 1) := by decide +kernel
theorem dX12_writes_11 : decode cX12_writes 11 = .ok (.dup, 1) := by decide +kernel
theorem dX12_writes_12 : decode cX12_writes 12 = .ok (.getfield 489, 3) := by decide +kernel
theorem dX12_writes_15 : decode cX12_writes 15 = .ok (.iconst 1, 1) := by decide +kernel
theorem dX12_writes_16 : decode cX12_writes 16 = .ok (.iadd, 1) := by decide +kernel
theorem dX12_writes_17 : decode cX12_writes 17 = .ok (.putfield 489, 3) := by decide +kernel
theorem dX12_writes_20 : decode cX12_writes 20 = .ok (.return_, 1) := by decide +kernel
theorem dX12_image_60 : decode cX12_image 60 = .ok (.aload_n 0, 1) := by decide +kernel
theorem dX12_image_61 : decode cX12_image 61 = .ok (.aload_n 0, 1) := by decide +kernel
theorem dX12_image_62 : decode cX12_image 62 = .ok (.getfield 145, 3) := by decide +kernel
theorem dX12_image_65 : decode cX12_image 65 = .ok (.aload_n 0, 1) := by decide +kernel
theorem dX12_image_66 : decode cX12_image 66 = .ok (.getfield 489, 3) := by decide +kernel
theorem dX12_image_69 : decode cX12_image 69 = .ok (.invokestatic 495, 3) := by decide +kernel
theorem dX12_checked_0 : decode cX12_checked 0 = .ok (.bipush 51, 2) := by decide +kernel
theorem dX12_checked_2 : decode cX12_checked 2 = .ok (.istore_n 2, 1) := by decide +kernel
theorem dX12_checked_3 : decode cX12_checked 3 = .ok (.iconst 0, 1) := by decide +kernel
theorem dX12_checked_4 : decode cX12_checked 4 = .ok (.istore_n 3, 1) := by decide +kernel
theorem dX12_checked_5 : decode cX12_checked 5 = .ok (.iload_n 3, 1) := by decide +kernel
theorem dX12_checked_6 : decode cX12_checked 6 = .ok (.iload_n 1, 1) := by decide +kernel
theorem dX12_checked_7 : decode cX12_checked 7 = .ok (.if_icmp .ge 22, 3) := by decide +kernel
theorem dX12_checked_10 : decode cX12_checked 10 = .ok (.bipush 7, 2) := by decide +kernel
theorem dX12_checked_12 : decode cX12_checked 12 = .ok (.iload_n 2, 1) := by decide +kernel
theorem dX12_checked_13 : decode cX12_checked 13 = .ok (.imul, 1) := by decide +kernel
theorem dX12_checked_14 : decode cX12_checked 14 = .ok (.aload_n 0, 1) := by decide +kernel
theorem dX12_checked_15 : decode cX12_checked 15 = .ok (.iload_n 3, 1) := by decide +kernel
theorem dX12_checked_16 : decode cX12_checked 16 = .ok (.iaload, 1) := by decide +kernel
theorem dX12_checked_17 : decode cX12_checked 17 = .ok (.iadd, 1) := by decide +kernel
theorem dX12_checked_18 : decode cX12_checked 18 = .ok (.sipush 253, 3) := by decide +kernel
theorem dX12_checked_21 : decode cX12_checked 21 = .ok (.irem, 1) := by decide +kernel
theorem dX12_checked_22 : decode cX12_checked 22 = .ok (.istore_n 2, 1) := by decide +kernel
theorem dX12_checked_23 : decode cX12_checked 23 = .ok (.iinc 3 1, 3) := by decide +kernel
theorem dX12_checked_26 : decode cX12_checked 26 = .ok (.goto (-21), 3) := by decide +kernel
theorem dX12_checked_29 : decode cX12_checked 29 = .ok (.iload_n 2, 1) := by decide +kernel
theorem dX12_checked_30 : decode cX12_checked 30 = .ok (.ireturn, 1) := by decide +kernel
theorem dX12_image_72 : decode cX12_image 72 = .ok (.invokevirtual 492, 3) := by decide +kernel
theorem dX12_image_75 : decode cX12_image 75 = .ok (.aload_n 0, 1) := by decide +kernel
theorem dX12_image_76 : decode cX12_image 76 = .ok (.getfield 489, 3) := by decide +kernel
theorem dX12_image_79 : decode cX12_image 79 = .ok (.ireturn, 1) := by decide +kernel
theorem dL_law_1491 : decode cL_law 1491 = .ok (.if_icmp .eq 41, 3) := by decide +kernel
theorem dL_law_1496 : decode cL_law 1496 = .ok (.aload_n 1, 1) := by decide +kernel
theorem dL_law_1497 : decode cL_law 1497 = .ok (.aload_n 0, 1) := by decide +kernel
theorem dL_law_1498 : decode cL_law 1498 = .ok (.iload_n 3, 1) := by decide +kernel
theorem dL_law_1499 : decode cL_law 1499 = .ok (.iconst 1, 1) := by decide +kernel
theorem dL_law_1500 : decode cL_law 1500 = .ok (.iadd, 1) := by decide +kernel
theorem dL_law_1501 : decode cL_law 1501 = .ok (.iaload, 1) := by decide +kernel
theorem dL_law_1502 : decode cL_law 1502 = .ok (.invokevirtual 202, 3) := by decide +kernel
theorem dX11_octet_0 : decode cX11_octet 0 = .ok (.iload_n 1, 1) := by decide +kernel
theorem dX11_octet_1 : decode cX11_octet 1 = .ok (.ifCond .lt 20, 3) := by decide +kernel
theorem dX11_octet_21 : decode cX11_octet 21 = .ok (.iconst (-1), 1) := by decide +kernel
theorem dX11_octet_22 : decode cX11_octet 22 = .ok (.ireturn, 1) := by decide +kernel
theorem dX11_octet_4 : decode cX11_octet 4 = .ok (.iload_n 1, 1) := by decide +kernel
theorem dX11_octet_5 : decode cX11_octet 5 = .ok (.aload_n 0, 1) := by decide +kernel
theorem dX11_octet_6 : decode cX11_octet 6 = .ok (.getfield 62, 3) := by decide +kernel
theorem dX11_octet_9 : decode cX11_octet 9 = .ok (.if_icmp .ge 12, 3) := by decide +kernel
theorem dL_law_1505 : decode cL_law 1505 = .ok (.aload_n 2, 1) := by decide +kernel
theorem dL_law_1506 : decode cL_law 1506 = .ok (.aload_n 0, 1) := by decide +kernel
theorem dL_law_1507 : decode cL_law 1507 = .ok (.iload_n 3, 1) := by decide +kernel
theorem dL_law_1508 : decode cL_law 1508 = .ok (.iconst 1, 1) := by decide +kernel
theorem dL_law_1509 : decode cL_law 1509 = .ok (.iadd, 1) := by decide +kernel
theorem dL_law_1510 : decode cL_law 1510 = .ok (.iaload, 1) := by decide +kernel
theorem dL_law_1511 : decode cL_law 1511 = .ok (.invokevirtual 205, 3) := by decide +kernel
theorem dX12_octet_0 : decode cX12_octet 0 = .ok (.iload_n 1, 1) := by decide +kernel
theorem dX12_octet_1 : decode cX12_octet 1 = .ok (.ifCond .lt 20, 3) := by decide +kernel
theorem dX12_octet_21 : decode cX12_octet 21 = .ok (.iconst (-1), 1) := by decide +kernel
theorem dX12_octet_22 : decode cX12_octet 22 = .ok (.ireturn, 1) := by decide +kernel
theorem dX12_octet_4 : decode cX12_octet 4 = .ok (.iload_n 1, 1) := by decide +kernel
theorem dX12_octet_5 : decode cX12_octet 5 = .ok (.aload_n 0, 1) := by decide +kernel
theorem dX12_octet_6 : decode cX12_octet 6 = .ok (.getfield 489, 3) := by decide +kernel
theorem dX12_octet_9 : decode cX12_octet 9 = .ok (.if_icmp .ge 12, 3) := by decide +kernel
theorem dL_law_1514 : decode cL_law 1514 = .ok (.if_icmp .eq 18, 3) := by decide +kernel
theorem dL_law_1519 : decode cL_law 1519 = .ok (.aload_n 1, 1) := by decide +kernel
theorem dL_law_1520 : decode cL_law 1520 = .ok (.invokevirtual 206, 3) := by decide +kernel
theorem dX11_on_0 : decode cX11_on 0 = .ok (.aload_n 0, 1) := by decide +kernel
theorem dX11_on_1 : decode cX11_on 1 = .ok (.invokevirtual 407, 3) := by decide +kernel
theorem dX11_isImage_0 : decode cX11_isImage 0 = .ok (.iconst 2, 1) := by decide +kernel
theorem dX11_isImage_1 : decode cX11_isImage 1 = .ok (.aload_n 0, 1) := by decide +kernel
theorem dX11_isImage_2 : decode cX11_isImage 2 = .ok (.getfield 69, 3) := by decide +kernel
theorem dX11_isImage_5 : decode cX11_isImage 5 = .ok (.getfield 139, 3) := by decide +kernel
theorem dX11_isImage_8 : decode cX11_isImage 8 = .ok (.imul, 1) := by decide +kernel
theorem dX11_isImage_9 : decode cX11_isImage 9 = .ok (.iconst 1, 1) := by decide +kernel
theorem dX11_isImage_10 : decode cX11_isImage 10 = .ok (.iadd, 1) := by decide +kernel
theorem dX11_isImage_11 : decode cX11_isImage 11 = .ok (.istore_n 1, 1) := by decide +kernel
theorem dX11_isImage_12 : decode cX11_isImage 12 = .ok (.aload_n 0, 1) := by decide +kernel
theorem dX11_isImage_13 : decode cX11_isImage 13 = .ok (.getfield 20, 3) := by decide +kernel
theorem dX11_isImage_16 : decode cX11_isImage 16 = .ok (.invokevirtual 93, 3) := by decide +kernel
theorem dX11_isImage_19 : decode cX11_isImage 19 = .ok (.iload_n 1, 1) := by decide +kernel
theorem dX11_isImage_20 : decode cX11_isImage 20 = .ok (.iconst 1, 1) := by decide +kernel
theorem dX11_isImage_21 : decode cX11_isImage 21 = .ok (.iadd, 1) := by decide +kernel
theorem dX11_isImage_22 : decode cX11_isImage 22 = .ok (.if_icmp .eq 5, 3) := by decide +kernel
theorem dX11_isImage_25 : decode cX11_isImage 25 = .ok (.iconst 0, 1) := by decide +kernel
theorem dX11_isImage_26 : decode cX11_isImage 26 = .ok (.ireturn, 1) := by decide +kernel
theorem dX11_on_4 : decode cX11_on 4 = .ok (.istore_n 1, 1) := by decide +kernel
theorem dX11_on_5 : decode cX11_on 5 = .ok (.iload_n 1, 1) := by decide +kernel
theorem dX11_on_6 : decode cX11_on 6 = .ok (.ifCond .eq 49, 3) := by decide +kernel
theorem dX11_on_55 : decode cX11_on 55 = .ok (.iload_n 1, 1) := by decide +kernel
theorem dX11_on_56 : decode cX11_on 56 = .ok (.ifCond .eq 25, 3) := by decide +kernel
theorem dX11_on_81 : decode cX11_on 81 = .ok (.aload_n 0, 1) := by decide +kernel
theorem dX11_on_82 : decode cX11_on 82 = .ok (.getfield 20, 3) := by decide +kernel
theorem dX11_on_85 : decode cX11_on 85 = .ok (.iconst 0, 1) := by decide +kernel
theorem dX11_on_86 : decode cX11_on 86 = .ok (.invokevirtual 97, 3) := by decide +kernel
theorem dX11_on_89 : decode cX11_on 89 = .ok (.iload_n 1, 1) := by decide +kernel
theorem dX11_on_90 : decode cX11_on 90 = .ok (.ireturn, 1) := by decide +kernel
theorem dL_law_1523 : decode cL_law 1523 = .ok (.aload_n 2, 1) := by decide +kernel
theorem dL_law_1524 : decode cL_law 1524 = .ok (.invokevirtual 209, 3) := by decide +kernel
theorem dX12_on_0 : decode cX12_on 0 = .ok (.aload_n 0, 1) := by decide +kernel
theorem dX12_on_1 : decode cX12_on 1 = .ok (.getfield 148, 3) := by decide +kernel
theorem dX12_on_4 : decode cX12_on 4 = .ok (.istore_n 1, 1) := by decide +kernel
theorem dX12_on_5 : decode cX12_on 5 = .ok (.aload_n 0, 1) := by decide +kernel
theorem dX12_on_6 : decode cX12_on 6 = .ok (.iconst 0, 1) := by decide +kernel
theorem dX12_on_7 : decode cX12_on 7 = .ok (.putfield 148, 3) := by decide +kernel
theorem dX12_on_10 : decode cX12_on 10 = .ok (.iload_n 1, 1) := by decide +kernel
theorem dX12_on_11 : decode cX12_on 11 = .ok (.iconst 2, 1) := by decide +kernel
theorem dX12_on_12 : decode cX12_on 12 = .ok (.aload_n 0, 1) := by decide +kernel
theorem dX12_on_13 : decode cX12_on 13 = .ok (.getfield 240, 3) := by decide +kernel
theorem dX12_on_16 : decode cX12_on 16 = .ok (.imul, 1) := by decide +kernel
theorem dX12_on_17 : decode cX12_on 17 = .ok (.iconst 2, 1) := by decide +kernel
theorem dX12_on_18 : decode cX12_on 18 = .ok (.iadd, 1) := by decide +kernel
theorem dX12_on_19 : decode cX12_on 19 = .ok (.if_icmp .ne 24, 3) := by decide +kernel
theorem dX12_on_43 : decode cX12_on 43 = .ok (.iconst 0, 1) := by decide +kernel
theorem dX12_on_44 : decode cX12_on 44 = .ok (.ireturn, 1) := by decide +kernel
theorem dL_law_1527 : decode cL_law 1527 = .ok (.if_icmp .eq 5, 3) := by decide +kernel
theorem dL_law_0 : decode cL_law 0 = .ok (.new 7, 3) := by decide +kernel
theorem dL_law_3 : decode cL_law 3 = .ok (.dup, 1) := by decide +kernel
theorem dL_law_4 : decode cL_law 4 = .ok (.invokespecial 9, 3) := by decide +kernel
theorem dL_law_7 : decode cL_law 7 = .ok (.astore_n 1, 1) := by decide +kernel
theorem dL_law_8 : decode cL_law 8 = .ok (.new 10, 3) := by decide +kernel
theorem dL_law_11 : decode cL_law 11 = .ok (.dup, 1) := by decide +kernel
theorem dL_law_12 : decode cL_law 12 = .ok (.invokespecial 12, 3) := by decide +kernel
theorem dL_law_15 : decode cL_law 15 = .ok (.astore_n 2, 1) := by decide +kernel
theorem dL_law_16 : decode cL_law 16 = .ok (.iconst 0, 1) := by decide +kernel
theorem dL_law_17 : decode cL_law 17 = .ok (.istore_n 3, 1) := by decide +kernel
theorem dL_law_18 : decode cL_law 18 = .ok (.iload_n 3, 1) := by decide +kernel
theorem dL_law_19 : decode cL_law 19 = .ok (.aload_n 0, 1) := by decide +kernel
theorem dL_law_20 : decode cL_law 20 = .ok (.arraylength, 1) := by decide +kernel
theorem dL_law_21 : decode cL_law 21 = .ok (.bipush 6, 2) := by decide +kernel
theorem dL_law_23 : decode cL_law 23 = .ok (.isub, 1) := by decide +kernel
theorem dL_law_24 : decode cL_law 24 = .ok (.if_icmp .gt 1514, 3) := by decide +kernel
theorem dL_law_27 : decode cL_law 27 = .ok (.aload_n 0, 1) := by decide +kernel
theorem dL_law_28 : decode cL_law 28 = .ok (.iload_n 3, 1) := by decide +kernel
theorem dL_law_29 : decode cL_law 29 = .ok (.iaload, 1) := by decide +kernel
theorem dL_law_30 : decode cL_law 30 = .ok (.bipush 63, 2) := by decide +kernel
theorem dL_law_32 : decode cL_law 32 = .ok (.iand, 1) := by decide +kernel
theorem dL_law_33 : decode cL_law 33 = .ok (.tableswitch 1499 0 44 #[195, 258, 281, 294, 317, 340, 399, 458, 471, 494, 507, 521, 554, 587, 611, 664, 687, 710, 724, 758, 791, 815, 838, 851, 864, 898, 931, 990, 1029, 1069, 1113, 1137, 1170, 1194, 1207, 1231, 1254, 1287, 1327, 1341, 1364, 1387, 1450, 1463, 1486], 195) := by decide +kernel
theorem dL_law_1532 : decode cL_law 1532 = .ok (.iinc 3 6, 3) := by decide +kernel
theorem dL_law_1535 : decode cL_law 1535 = .ok (.goto (-1517), 3) := by decide +kernel
theorem dL_law_1538 : decode cL_law 1538 = .ok (.iconst 1, 1) := by decide +kernel
theorem dL_law_1539 : decode cL_law 1539 = .ok (.ireturn, 1) := by decide +kernel
