theorem dX11_product_1 : decode cX11_product 1 = .ok (.getfield 69, 3) := by decide +kernel
theorem dX11_product_4 : decode cX11_product 4 = .ok (.iload_n 1, 1) := by decide +kernel
theorem dX11_product_5 : decode cX11_product 5 = .ok (.invokevirtual 172, 3) := by decide +kernel
theorem dX1_isSender_0 : decode cX1_isSender 0 = .ok (.iload_n 1, 1) := by decide +kernel
theorem dX1_isSender_1 : decode cX1_isSender 1 = .ok (.ifCond .lt 15, 3) := by decide +kernel
theorem dX1_isSender_16 : decode cX1_isSender 16 = .ok (.iconst 0, 1) := by decide +kernel
theorem dX1_isSender_17 : decode cX1_isSender 17 = .ok (.ireturn, 1) := by decide +kernel
theorem dX1_isSender_4 : decode cX1_isSender 4 = .ok (.iload_n 1, 1) := by decide +kernel
theorem dX1_isSender_5 : decode cX1_isSender 5 = .ok (.aload_n 0, 1) := by decide +kernel
theorem dX1_isSender_6 : decode cX1_isSender 6 = .ok (.getfield 33, 3) := by decide +kernel
theorem dX1_isSender_9 : decode cX1_isSender 9 = .ok (.if_icmp .ge 7, 3) := by decide +kernel
theorem dX11_product_8 : decode cX11_product 8 = .ok (.ifCond .eq 14, 3) := by decide +kernel
theorem dX11_product_22 : decode cX11_product 22 = .ok (.ldc 175, 2) := by decide +kernel
theorem dX11_product_24 : decode cX11_product 24 = .ok (.ireturn, 1) := by decide +kernel
theorem dL_law_459 : decode cL_law 459 = .ok (.aload_n 2, 1) := by decide +kernel
theorem dL_law_460 : decode cL_law 460 = .ok (.aload_n 0, 1) := by decide +kernel
theorem dL_law_461 : decode cL_law 461 = .ok (.iload_n 3, 1) := by decide +kernel
theorem dL_law_462 : decode cL_law 462 = .ok (.iconst 1, 1) := by decide +kernel
theorem dL_law_463 : decode cL_law 463 = .ok (.iadd, 1) := by decide +kernel
theorem dL_law_464 : decode cL_law 464 = .ok (.iaload, 1) := by decide +kernel
theorem dL_law_465 : decode cL_law 465 = .ok (.aload_n 0, 1) := by decide +kernel
theorem dL_law_466 : decode cL_law 466 = .ok (.iload_n 3, 1) := by decide +kernel
theorem dL_law_467 : decode cL_law 467 = .ok (.iconst 2, 1) := by decide +kernel
theorem dL_law_468 : decode cL_law 468 = .ok (.iadd, 1) := by decide +kernel
theorem dL_law_469 : decode cL_law 469 = .ok (.iaload, 1) := by decide +kernel
theorem dL_law_470 : decode cL_law 470 = .ok (.aload_n 0, 1) := by decide +kernel
theorem dL_law_471 : decode cL_law 471 = .ok (.iload_n 3, 1) := by decide +kernel
theorem dL_law_472 : decode cL_law 472 = .ok (.iconst 3, 1) := by decide +kernel
theorem dL_law_473 : decode cL_law 473 = .ok (.iadd, 1) := by decide +kernel
theorem dL_law_474 : decode cL_law 474 = .ok (.iaload, 1) := by decide +kernel
theorem dL_law_475 : decode cL_law 475 = .ok (.ifCond .eq 7, 3) := by decide +kernel
theorem dL_law_482 : decode cL_law 482 = .ok (.iconst 0, 1) := by decide +kernel
theorem dL_law_483 : decode cL_law 483 = .ok (.invokevirtual 45, 3) := by decide +kernel
theorem dX12_product_0 : decode cX12_product 0 = .ok (.aload_n 0, 1) := by decide +kernel
theorem dX12_product_1 : decode cX12_product 1 = .ok (.iload_n 1, 1) := by decide +kernel
theorem dX12_product_2 : decode cX12_product 2 = .ok (.invokevirtual 361, 3) := by decide +kernel
theorem dX12_isSender_0 : decode cX12_isSender 0 = .ok (.iload_n 1, 1) := by decide +kernel
theorem dX12_isSender_1 : decode cX12_isSender 1 = .ok (.i2l, 1) := by decide +kernel
theorem dX12_isSender_2 : decode cX12_isSender 2 = .ok (.lconst 0, 1) := by decide +kernel
theorem dX12_isSender_3 : decode cX12_isSender 3 = .ok (.aload_n 0, 1) := by decide +kernel
theorem dX12_isSender_4 : decode cX12_isSender 4 = .ok (.getfield 237, 3) := by decide +kernel
theorem dX12_isSender_7 : decode cX12_isSender 7 = .ok (.iconst 1, 1) := by decide +kernel
theorem dX12_isSender_8 : decode cX12_isSender 8 = .ok (.isub, 1) := by decide +kernel
theorem dX12_isSender_9 : decode cX12_isSender 9 = .ok (.i2l, 1) := by decide +kernel
theorem dX12_isSender_10 : decode cX12_isSender 10 = .ok (.invokestatic 191, 3) := by decide +kernel
theorem dX12_isSender_13 : decode cX12_isSender 13 = .ok (.ireturn, 1) := by decide +kernel
theorem dX12_product_5 : decode cX12_product 5 = .ok (.ifCond .eq 11, 3) := by decide +kernel
theorem dX12_product_16 : decode cX12_product 16 = .ok (.ldc_w 364, 3) := by decide +kernel
theorem dX12_product_19 : decode cX12_product 19 = .ok (.ireturn, 1) := by decide +kernel
theorem dL_law_486 : decode cL_law 486 = .ok (.if_icmp .eq 1046, 3) := by decide +kernel
theorem dL_law_451 : decode cL_law 451 = .ok (.iconst 1, 1) := by decide +kernel
theorem dL_law_452 : decode cL_law 452 = .ok (.goto 4, 3) := by decide +kernel
theorem dL_law_478 : decode cL_law 478 = .ok (.iconst 1, 1) := by decide +kernel
theorem dL_law_479 : decode cL_law 479 = .ok (.goto 4, 3) := by decide +kernel
theorem dL_law_491 : decode cL_law 491 = .ok (.aload_n 1, 1) := by decide +kernel
theorem dL_law_492 : decode cL_law 492 = .ok (.invokevirtual 46, 3) := by decide +kernel
theorem dX11_hear_0 : decode cX11_hear 0 = .ok (.aload_n 0, 1) := by decide +kernel
theorem dX11_hear_1 : decode cX11_hear 1 = .ok (.getfield 20, 3) := by decide +kernel
theorem dX11_hear_4 : decode cX11_hear 4 = .ok (.invokevirtual 93, 3) := by decide +kernel
theorem dX11_hear_7 : decode cX11_hear 7 = .ok (.iconst 2, 1) := by decide +kernel
theorem dX11_hear_8 : decode cX11_hear 8 = .ok (.aload_n 0, 1) := by decide +kernel
theorem dX11_hear_9 : decode cX11_hear 9 = .ok (.getfield 69, 3) := by decide +kernel
theorem dX11_hear_12 : decode cX11_hear 12 = .ok (.getfield 139, 3) := by decide +kernel
theorem dX11_hear_15 : decode cX11_hear 15 = .ok (.imul, 1) := by decide +kernel
theorem dX11_hear_16 : decode cX11_hear 16 = .ok (.if_icmp .ne 7, 3) := by decide +kernel
theorem dX11_hear_19 : decode cX11_hear 19 = .ok (.iconst 1, 1) := by decide +kernel
theorem dX11_hear_20 : decode cX11_hear 20 = .ok (.goto 4, 3) := by decide +kernel
theorem dX11_hear_24 : decode cX11_hear 24 = .ok (.istore_n 1, 1) := by decide +kernel
theorem dX11_hear_25 : decode cX11_hear 25 = .ok (.iload_n 1, 1) := by decide +kernel
theorem dX11_hear_26 : decode cX11_hear 26 = .ok (.ifCond .eq 7, 3) := by decide +kernel
theorem dX11_hear_29 : decode cX11_hear 29 = .ok (.aload_n 0, 1) := by decide +kernel
theorem dX11_hear_30 : decode cX11_hear 30 = .ok (.invokevirtual 194, 3) := by decide +kernel
theorem dX11_takeHeard_0 : decode cX11_takeHeard 0 = .ok (.iconst 0, 1) := by decide +kernel
theorem dX11_takeHeard_1 : decode cX11_takeHeard 1 = .ok (.istore_n 1, 1) := by decide +kernel
theorem dX11_takeHeard_2 : decode cX11_takeHeard 2 = .ok (.iload_n 1, 1) := by decide +kernel
theorem dX11_takeHeard_3 : decode cX11_takeHeard 3 = .ok (.aload_n 0, 1) := by decide +kernel
theorem dX11_takeHeard_4 : decode cX11_takeHeard 4 = .ok (.getfield 69, 3) := by decide +kernel
theorem dX11_takeHeard_7 : decode cX11_takeHeard 7 = .ok (.getfield 139, 3) := by decide +kernel
theorem dX11_takeHeard_10 : decode cX11_takeHeard 10 = .ok (.if_icmp .ge 25, 3) := by decide +kernel
theorem dX11_takeHeard_35 : decode cX11_takeHeard 35 = .ok (.aload_n 0, 1) := by decide +kernel
theorem dX11_takeHeard_36 : decode cX11_takeHeard 36 = .ok (.getfield 24, 3) := by decide +kernel
theorem dX11_takeHeard_39 : decode cX11_takeHeard 39 = .ok (.invokevirtual 118, 3) := by decide +kernel
theorem dX7_forget_0 : decode cX7_forget 0 = .ok (.aload_n 0, 1) := by decide +kernel
theorem dX7_forget_1 : decode cX7_forget 1 = .ok (.iconst 0, 1) := by decide +kernel
theorem dX7_forget_2 : decode cX7_forget 2 = .ok (.putfield 49, 3) := by decide +kernel
theorem dX7_forget_5 : decode cX7_forget 5 = .ok (.return_, 1) := by decide +kernel
theorem dX11_takeHeard_42 : decode cX11_takeHeard 42 = .ok (.return_, 1) := by decide +kernel
theorem dX11_hear_33 : decode cX11_hear 33 = .ok (.aload_n 0, 1) := by decide +kernel
theorem dX11_hear_34 : decode cX11_hear 34 = .ok (.getfield 20, 3) := by decide +kernel
theorem dX11_hear_37 : decode cX11_hear 37 = .ok (.iconst 0, 1) := by decide +kernel
theorem dX11_hear_38 : decode cX11_hear 38 = .ok (.invokevirtual 97, 3) := by decide +kernel
theorem dX11_hear_41 : decode cX11_hear 41 = .ok (.iload_n 1, 1) := by decide +kernel
theorem dX11_hear_42 : decode cX11_hear 42 = .ok (.ireturn, 1) := by decide +kernel
theorem dL_law_495 : decode cL_law 495 = .ok (.aload_n 2, 1) := by decide +kernel
theorem dL_law_496 : decode cL_law 496 = .ok (.invokevirtual 50, 3) := by decide +kernel
theorem dX12_hear_0 : decode cX12_hear 0 = .ok (.aload_n 0, 1) := by decide +kernel
theorem dX12_hear_1 : decode cX12_hear 1 = .ok (.getfield 148, 3) := by decide +kernel
theorem dX12_hear_4 : decode cX12_hear 4 = .ok (.istore_n 1, 1) := by decide +kernel
theorem dX12_hear_5 : decode cX12_hear 5 = .ok (.aload_n 0, 1) := by decide +kernel
theorem dX12_hear_6 : decode cX12_hear 6 = .ok (.iconst 0, 1) := by decide +kernel
theorem dX12_hear_7 : decode cX12_hear 7 = .ok (.putfield 148, 3) := by decide +kernel
theorem dX12_hear_10 : decode cX12_hear 10 = .ok (.iload_n 1, 1) := by decide +kernel
theorem dX12_hear_11 : decode cX12_hear 11 = .ok (.iconst 2, 1) := by decide +kernel
theorem dX12_hear_12 : decode cX12_hear 12 = .ok (.aload_n 0, 1) := by decide +kernel
theorem dX12_hear_13 : decode cX12_hear 13 = .ok (.getfield 240, 3) := by decide +kernel
theorem dX12_hear_16 : decode cX12_hear 16 = .ok (.imul, 1) := by decide +kernel
theorem dX12_hear_17 : decode cX12_hear 17 = .ok (.if_icmp .eq 5, 3) := by decide +kernel
theorem dX12_hear_22 : decode cX12_hear 22 = .ok (.iconst 0, 1) := by decide +kernel
theorem dX12_hear_23 : decode cX12_hear 23 = .ok (.istore_n 2, 1) := by decide +kernel
theorem dX12_hear_24 : decode cX12_hear 24 = .ok (.iload_n 2, 1) := by decide +kernel
theorem dX12_hear_25 : decode cX12_hear 25 = .ok (.aload_n 0, 1) := by decide +kernel
theorem dX12_hear_26 : decode cX12_hear 26 = .ok (.getfield 240, 3) := by decide +kernel
theorem dX12_hear_29 : decode cX12_hear 29 = .ok (.if_icmp .ge 55, 3) := by decide +kernel
theorem dX12_hear_84 : decode cX12_hear 84 = .ok (.iconst 1, 1) := by decide +kernel
theorem dX12_hear_85 : decode cX12_hear 85 = .ok (.ireturn, 1) := by decide +kernel
theorem dL_law_499 : decode cL_law 499 = .ok (.if_icmp .eq 1033, 3) := by decide +kernel
theorem dL_law_504 : decode cL_law 504 = .ok (.aload_n 1, 1) := by decide +kernel
theorem dL_law_505 : decode cL_law 505 = .ok (.aload_n 0, 1) := by decide +kernel
theorem dL_law_506 : decode cL_law 506 = .ok (.iload_n 3, 1) := by decide +kernel
theorem dL_law_507 : decode cL_law 507 = .ok (.iconst 1, 1) := by decide +kernel
theorem dL_law_508 : decode cL_law 508 = .ok (.iadd, 1) := by decide +kernel
theorem dL_law_509 : decode cL_law 509 = .ok (.iaload, 1) := by decide +kernel
theorem dL_law_510 : decode cL_law 510 = .ok (.invokevirtual 51, 3) := by decide +kernel
theorem dX11_heard_0 : decode cX11_heard 0 = .ok (.aload_n 0, 1) := by decide +kernel
theorem dX11_heard_1 : decode cX11_heard 1 = .ok (.getfield 69, 3) := by decide +kernel
theorem dX11_heard_4 : decode cX11_heard 4 = .ok (.iload_n 1, 1) := by decide +kernel
theorem dX11_heard_5 : decode cX11_heard 5 = .ok (.invokevirtual 169, 3) := by decide +kernel
theorem dX11_heard_8 : decode cX11_heard 8 = .ok (.ifCond .eq 12, 3) := by decide +kernel
theorem dX11_heard_20 : decode cX11_heard 20 = .ok (.ldc 175, 2) := by decide +kernel
theorem dX11_heard_22 : decode cX11_heard 22 = .ok (.ireturn, 1) := by decide +kernel
theorem dL_law_513 : decode cL_law 513 = .ok (.aload_n 2, 1) := by decide +kernel
theorem dL_law_514 : decode cL_law 514 = .ok (.aload_n 0, 1) := by decide +kernel
theorem dL_law_515 : decode cL_law 515 = .ok (.iload_n 3, 1) := by decide +kernel
theorem dL_law_516 : decode cL_law 516 = .ok (.iconst 1, 1) := by decide +kernel
theorem dL_law_517 : decode cL_law 517 = .ok (.iadd, 1) := by decide +kernel
theorem dL_law_518 : decode cL_law 518 = .ok (.iaload, 1) := by decide +kernel
theorem dL_law_519 : decode cL_law 519 = .ok (.invokevirtual 54, 3) := by decide +kernel
theorem dX12_heard_0 : decode cX12_heard 0 = .ok (.aload_n 0, 1) := by decide +kernel
theorem dX12_heard_1 : decode cX12_heard 1 = .ok (.iload_n 1, 1) := by decide +kernel
theorem dX12_heard_2 : decode cX12_heard 2 = .ok (.invokevirtual 358, 3) := by decide +kernel
theorem dX12_heard_5 : decode cX12_heard 5 = .ok (.ifCond .eq 12, 3) := by decide +kernel
theorem dX12_heard_17 : decode cX12_heard 17 = .ok (.ldc_w 364, 3) := by decide +kernel
theorem dX12_heard_20 : decode cX12_heard 20 = .ok (.ireturn, 1) := by decide +kernel
theorem dL_law_522 : decode cL_law 522 = .ok (.if_icmp .eq 1010, 3) := by decide +kernel
theorem dL_law_527 : decode cL_law 527 = .ok (.aload_n 1, 1) := by decide +kernel
theorem dL_law_528 : decode cL_law 528 = .ok (.invokevirtual 55, 3) := by decide +kernel
theorem dX11_send_0 : decode cX11_send 0 = .ok (.aload_n 0, 1) := by decide +kernel
theorem dX11_send_1 : decode cX11_send 1 = .ok (.invokevirtual 201, 3) := by decide +kernel
theorem dX11_takeRow_0 : decode cX11_takeRow 0 = .ok (.aload_n 0, 1) := by decide +kernel
theorem dX11_takeRow_1 : decode cX11_takeRow 1 = .ok (.getfield 69, 3) := by decide +kernel
theorem dX11_takeRow_4 : decode cX11_takeRow 4 = .ok (.getfield 136, 3) := by decide +kernel
theorem dX11_takeRow_7 : decode cX11_takeRow 7 = .ok (.ifCond .le 24, 3) := by decide +kernel
theorem dX11_takeRow_31 : decode cX11_takeRow 31 = .ok (.iconst 0, 1) := by decide +kernel
theorem dX11_takeRow_32 : decode cX11_takeRow 32 = .ok (.istore_n 1, 1) := by decide +kernel
theorem dX11_takeRow_33 : decode cX11_takeRow 33 = .ok (.iconst 0, 1) := by decide +kernel
theorem dX11_takeRow_34 : decode cX11_takeRow 34 = .ok (.istore_n 2, 1) := by decide +kernel
theorem dX11_takeRow_35 : decode cX11_takeRow 35 = .ok (.iload_n 1, 1) := by decide +kernel
theorem dX11_takeRow_36 : decode cX11_takeRow 36 = .ok (.ifCond .eq 48, 3) := by decide +kernel
theorem dX11_takeRow_84 : decode cX11_takeRow 84 = .ok (.aload_n 0, 1) := by decide +kernel
theorem dX11_takeRow_85 : decode cX11_takeRow 85 = .ok (.getfield 20, 3) := by decide +kernel
theorem dX11_takeRow_88 : decode cX11_takeRow 88 = .ok (.iconst 0, 1) := by decide +kernel
theorem dX11_takeRow_89 : decode cX11_takeRow 89 = .ok (.invokevirtual 97, 3) := by decide +kernel
theorem dX11_takeRow_92 : decode cX11_takeRow 92 = .ok (.iload_n 1, 1) := by decide +kernel
theorem dX11_takeRow_93 : decode cX11_takeRow 93 = .ok (.ireturn, 1) := by decide +kernel
theorem dX11_send_4 : decode cX11_send 4 = .ok (.ifCond .ne 5, 3) := by decide +kernel
theorem dX11_send_7 : decode cX11_send 7 = .ok (.iconst 0, 1) := by decide +kernel
theorem dX11_send_8 : decode cX11_send 8 = .ok (.ireturn, 1) := by decide +kernel
theorem dL_law_531 : decode cL_law 531 = .ok (.aload_n 2, 1) := by decide +kernel
theorem dL_law_532 : decode cL_law 532 = .ok (.invokevirtual 58, 3) := by decide +kernel
theorem dX12_send_0 : decode cX12_send 0 = .ok (.aload_n 0, 1) := by decide +kernel
theorem dX12_send_1 : decode cX12_send 1 = .ok (.invokevirtual 377, 3) := by decide +kernel
theorem dX12_isRowTold_0 : decode cX12_isRowTold 0 = .ok (.aload_n 0, 1) := by decide +kernel
theorem dX12_isRowTold_1 : decode cX12_isRowTold 1 = .ok (.getfield 148, 3) := by decide +kernel
theorem dX12_isRowTold_4 : decode cX12_isRowTold 4 = .ok (.istore_n 1, 1) := by decide +kernel
theorem dX12_isRowTold_5 : decode cX12_isRowTold 5 = .ok (.aload_n 0, 1) := by decide +kernel
theorem dX12_isRowTold_6 : decode cX12_isRowTold 6 = .ok (.iconst 0, 1) := by decide +kernel
theorem dX12_isRowTold_7 : decode cX12_isRowTold 7 = .ok (.putfield 148, 3) := by decide +kernel
theorem dX12_isRowTold_10 : decode cX12_isRowTold 10 = .ok (.aload_n 0, 1) := by decide +kernel
theorem dX12_isRowTold_11 : decode cX12_isRowTold 11 = .ok (.getfield 237, 3) := by decide +kernel
theorem dX12_isRowTold_14 : decode cX12_isRowTold 14 = .ok (.ifCond .eq 11, 3) := by decide +kernel
theorem dX12_isRowTold_25 : decode cX12_isRowTold 25 = .ok (.iconst 0, 1) := by decide +kernel
theorem dX12_isRowTold_26 : decode cX12_isRowTold 26 = .ok (.ireturn, 1) := by decide +kernel
theorem dX12_send_4 : decode cX12_send 4 = .ok (.ifCond .ne 5, 3) := by decide +kernel
theorem dX12_send_7 : decode cX12_send 7 = .ok (.iconst 0, 1) := by decide +kernel
theorem dX12_send_8 : decode cX12_send 8 = .ok (.ireturn, 1) := by decide +kernel
theorem dL_law_535 : decode cL_law 535 = .ok (.if_icmp .eq 997, 3) := by decide +kernel
theorem dL_law_540 : decode cL_law 540 = .ok (.aload_n 1, 1) := by decide +kernel
theorem dL_law_541 : decode cL_law 541 = .ok (.invokevirtual 59, 3) := by decide +kernel
theorem dX11_distance_0 : decode cX11_distance 0 = .ok (.aload_n 0, 1) := by decide +kernel
theorem dX11_distance_1 : decode cX11_distance 1 = .ok (.invokevirtual 201, 3) := by decide +kernel
theorem dX11_distance_4 : decode cX11_distance 4 = .ok (.ifCond .eq 21, 3) := by decide +kernel
theorem dX11_distance_25 : decode cX11_distance 25 = .ok (.ldc2_w 212, 3) := by decide +kernel
theorem dX11_distance_28 : decode cX11_distance 28 = .ok (.lreturn, 1) := by decide +kernel
theorem dL_law_544 : decode cL_law 544 = .ok (.aload_n 2, 1) := by decide +kernel
theorem dL_law_545 : decode cL_law 545 = .ok (.invokevirtual 63, 3) := by decide +kernel
theorem dX12_distance_0 : decode cX12_distance 0 = .ok (.aload_n 0, 1) := by decide +kernel
theorem dX12_distance_1 : decode cX12_distance 1 = .ok (.invokevirtual 377, 3) := by decide +kernel
theorem dX12_distance_4 : decode cX12_distance 4 = .ok (.ifCond .eq 11, 3) := by decide +kernel
theorem dX12_distance_15 : decode cX12_distance 15 = .ok (.ldc2_w 384, 3) := by decide +kernel
theorem dX12_distance_18 : decode cX12_distance 18 = .ok (.lreturn, 1) := by decide +kernel
theorem dL_law_548 : decode cL_law 548 = .ok (.lcmp, 1) := by decide +kernel
theorem dL_law_549 : decode cL_law 549 = .ok (.ifCond .eq 983, 3) := by decide +kernel
theorem dL_law_554 : decode cL_law 554 = .ok (.aload_n 1, 1) := by decide +kernel
theorem dL_law_555 : decode cL_law 555 = .ok (.aload_n 0, 1) := by decide +kernel
theorem dL_law_556 : decode cL_law 556 = .ok (.iload_n 3, 1) := by decide +kernel
theorem dL_law_557 : decode cL_law 557 = .ok (.iconst 1, 1) := by decide +kernel
theorem dL_law_558 : decode cL_law 558 = .ok (.iadd, 1) := by decide +kernel
theorem dL_law_559 : decode cL_law 559 = .ok (.iaload, 1) := by decide +kernel
theorem dL_law_560 : decode cL_law 560 = .ok (.aload_n 0, 1) := by decide +kernel
theorem dL_law_561 : decode cL_law 561 = .ok (.iload_n 3, 1) := by decide +kernel
theorem dL_law_562 : decode cL_law 562 = .ok (.iconst 2, 1) := by decide +kernel
theorem dL_law_563 : decode cL_law 563 = .ok (.iadd, 1) := by decide +kernel
theorem dL_law_564 : decode cL_law 564 = .ok (.iaload, 1) := by decide +kernel
theorem dL_law_565 : decode cL_law 565 = .ok (.invokevirtual 64, 3) := by decide +kernel
theorem dX11_slips_0 : decode cX11_slips 0 = .ok (.iload_n 1, 1) := by decide +kernel
theorem dX11_slips_1 : decode cX11_slips 1 = .ok (.ifCond .lt 20, 3) := by decide +kernel
theorem dX11_slips_21 : decode cX11_slips 21 = .ok (.iconst (-1), 1) := by decide +kernel
theorem dX11_slips_22 : decode cX11_slips 22 = .ok (.ireturn, 1) := by decide +kernel
theorem dX11_slips_4 : decode cX11_slips 4 = .ok (.iload_n 1, 1) := by decide +kernel
theorem dX11_slips_5 : decode cX11_slips 5 = .ok (.sipush 9999, 3) := by decide +kernel
theorem dX11_slips_8 : decode cX11_slips 8 = .ok (.if_icmp .gt 13, 3) := by decide +kernel
theorem dX11_slips_11 : decode cX11_slips 11 = .ok (.aload_n 0, 1) := by decide +kernel
theorem dX11_slips_12 : decode cX11_slips 12 = .ok (.getfield 69, 3) := by decide +kernel
theorem dX11_slips_15 : decode cX11_slips 15 = .ok (.getfield 139, 3) := by decide +kernel
theorem dX11_slips_18 : decode cX11_slips 18 = .ok (.ifCond .ne 5, 3) := by decide +kernel
theorem dL_law_568 : decode cL_law 568 = .ok (.aload_n 2, 1) := by decide +kernel
theorem dL_law_569 : decode cL_law 569 = .ok (.aload_n 0, 1) := by decide +kernel
theorem dL_law_570 : decode cL_law 570 = .ok (.iload_n 3, 1) := by decide +kernel
theorem dL_law_571 : decode cL_law 571 = .ok (.iconst 1, 1) := by decide +kernel
theorem dL_law_572 : decode cL_law 572 = .ok (.iadd, 1) := by decide +kernel
theorem dL_law_573 : decode cL_law 573 = .ok (.iaload, 1) := by decide +kernel
theorem dL_law_574 : decode cL_law 574 = .ok (.aload_n 0, 1) := by decide +kernel
theorem dL_law_575 : decode cL_law 575 = .ok (.iload_n 3, 1) := by decide +kernel
theorem dL_law_576 : decode cL_law 576 = .ok (.iconst 2, 1) := by decide +kernel
theorem dL_law_577 : decode cL_law 577 = .ok (.iadd, 1) := by decide +kernel
theorem dL_law_578 : decode cL_law 578 = .ok (.iaload, 1) := by decide +kernel
theorem dL_law_579 : decode cL_law 579 = .ok (.invokevirtual 68, 3) := by decide +kernel
theorem dX12_slips_0 : decode cX12_slips 0 = .ok (.iload_n 1, 1) := by decide +kernel
theorem dX12_slips_1 : decode cX12_slips 1 = .ok (.i2l, 1) := by decide +kernel
theorem dX12_slips_2 : decode cX12_slips 2 = .ok (.lconst 0, 1) := by decide +kernel
theorem dX12_slips_3 : decode cX12_slips 3 = .ok (.ldc2_w 398, 3) := by decide +kernel
theorem dX12_slips_6 : decode cX12_slips 6 = .ok (.invokestatic 191, 3) := by decide +kernel
theorem dX12_isIn_13 : decode cX12_isIn 13 = .ok (.iconst 1, 1) := by decide +kernel
theorem dX12_isIn_14 : decode cX12_isIn 14 = .ok (.goto 4, 3) := by decide +kernel
theorem dX12_slips_9 : decode cX12_slips 9 = .ok (.ifCond .eq 14, 3) := by decide +kernel
theorem dX12_slips_23 : decode cX12_slips 23 = .ok (.iconst (-1), 1) := by decide +kernel
theorem dX12_slips_24 : decode cX12_slips 24 = .ok (.ireturn, 1) := by decide +kernel
theorem dX12_slips_12 : decode cX12_slips 12 = .ok (.iload_n 2, 1) := by decide +kernel
theorem dX12_slips_13 : decode cX12_slips 13 = .ok (.ifCond .lt 10, 3) := by decide +kernel
theorem dX12_slips_16 : decode cX12_slips 16 = .ok (.aload_n 0, 1) := by decide +kernel
theorem dX12_slips_17 : decode cX12_slips 17 = .ok (.getfield 240, 3) := by decide +kernel
theorem dX12_slips_20 : decode cX12_slips 20 = .ok (.ifCond .ne 5, 3) := by decide +kernel
theorem dL_law_582 : decode cL_law 582 = .ok (.if_icmp .eq 950, 3) := by decide +kernel
theorem dL_law_587 : decode cL_law 587 = .ok (.aload_n 1, 1) := by decide +kernel
theorem dL_law_588 : decode cL_law 588 = .ok (.aload_n 0, 1) := by decide +kernel
theorem dL_law_589 : decode cL_law 589 = .ok (.iload_n 3, 1) := by decide +kernel
theorem dL_law_590 : decode cL_law 590 = .ok (.iconst 1, 1) := by decide +kernel
theorem dL_law_591 : decode cL_law 591 = .ok (.iadd, 1) := by decide +kernel
theorem dL_law_592 : decode cL_law 592 = .ok (.iaload, 1) := by decide +kernel
theorem dL_law_593 : decode cL_law 593 = .ok (.aload_n 0, 1) := by decide +kernel
theorem dL_law_594 : decode cL_law 594 = .ok (.iload_n 3, 1) := by decide +kernel
theorem dL_law_595 : decode cL_law 595 = .ok (.iconst 2, 1) := by decide +kernel
theorem dL_law_596 : decode cL_law 596 = .ok (.iadd, 1) := by decide +kernel
theorem dL_law_597 : decode cL_law 597 = .ok (.iaload, 1) := by decide +kernel
theorem dL_law_598 : decode cL_law 598 = .ok (.invokevirtual 69, 3) := by decide +kernel
theorem dX11_nearest_0 : decode cX11_nearest 0 = .ok (.aload_n 0, 1) := by decide +kernel
theorem dX11_nearest_1 : decode cX11_nearest 1 = .ok (.getfield 69, 3) := by decide +kernel
theorem dX11_nearest_4 : decode cX11_nearest 4 = .ok (.iload_n 2, 1) := by decide +kernel
theorem dX11_nearest_5 : decode cX11_nearest 5 = .ok (.invokevirtual 172, 3) := by decide +kernel
theorem dX11_nearest_8 : decode cX11_nearest 8 = .ok (.ifCond .eq 11, 3) := by decide +kernel
theorem dX11_nearest_19 : decode cX11_nearest 19 = .ok (.ldc 175, 2) := by decide +kernel
theorem dX11_nearest_21 : decode cX11_nearest 21 = .ok (.ireturn, 1) := by decide +kernel
theorem dL_law_601 : decode cL_law 601 = .ok (.aload_n 2, 1) := by decide +kernel
theorem dL_law_602 : decode cL_law 602 = .ok (.aload_n 0, 1) := by decide +kernel
theorem dL_law_603 : decode cL_law 603 = .ok (.iload_n 3, 1) := by decide +kernel
theorem dL_law_604 : decode cL_law 604 = .ok (.iconst 1, 1) := by decide +kernel
theorem dL_law_605 : decode cL_law 605 = .ok (.iadd, 1) := by decide +kernel
theorem dL_law_606 : decode cL_law 606 = .ok (.iaload, 1) := by decide +kernel
theorem dL_law_607 : decode cL_law 607 = .ok (.aload_n 0, 1) := by decide +kernel
theorem dL_law_608 : decode cL_law 608 = .ok (.iload_n 3, 1) := by decide +kernel
theorem dL_law_609 : decode cL_law 609 = .ok (.iconst 2, 1) := by decide +kernel
theorem dL_law_610 : decode cL_law 610 = .ok (.iadd, 1) := by decide +kernel
theorem dL_law_611 : decode cL_law 611 = .ok (.iaload, 1) := by decide +kernel
theorem dL_law_612 : decode cL_law 612 = .ok (.invokevirtual 72, 3) := by decide +kernel
theorem dX12_nearest_0 : decode cX12_nearest 0 = .ok (.aload_n 0, 1) := by decide +kernel
theorem dX12_nearest_1 : decode cX12_nearest 1 = .ok (.iload_n 2, 1) := by decide +kernel
theorem dX12_nearest_2 : decode cX12_nearest 2 = .ok (.invokevirtual 361, 3) := by decide +kernel
theorem dX12_nearest_5 : decode cX12_nearest 5 = .ok (.ifCond .eq 11, 3) := by decide +kernel
theorem dX12_nearest_16 : decode cX12_nearest 16 = .ok (.ldc_w 364, 3) := by decide +kernel
theorem dX12_nearest_19 : decode cX12_nearest 19 = .ok (.ireturn, 1) := by decide +kernel
theorem dL_law_615 : decode cL_law 615 = .ok (.if_icmp .eq 917, 3) := by decide +kernel
theorem dL_law_620 : decode cL_law 620 = .ok (.aload_n 1, 1) := by decide +kernel
theorem dL_law_621 : decode cL_law 621 = .ok (.aload_n 0, 1) := by decide +kernel
theorem dL_law_622 : decode cL_law 622 = .ok (.iload_n 3, 1) := by decide +kernel
theorem dL_law_623 : decode cL_law 623 = .ok (.iconst 1, 1) := by decide +kernel
theorem dL_law_624 : decode cL_law 624 = .ok (.iadd, 1) := by decide +kernel
theorem dL_law_625 : decode cL_law 625 = .ok (.iaload, 1) := by decide +kernel
theorem dL_law_626 : decode cL_law 626 = .ok (.invokevirtual 73, 3) := by decide +kernel
theorem dX11_near_0 : decode cX11_near 0 = .ok (.aload_n 0, 1) := by decide +kernel
theorem dX11_near_1 : decode cX11_near 1 = .ok (.iload_n 1, 1) := by decide +kernel
theorem dX11_near_2 : decode cX11_near 2 = .ok (.invokevirtual 243, 3) := by decide +kernel
theorem dX11_isNear_0 : decode cX11_isNear 0 = .ok (.aload_n 0, 1) := by decide +kernel
theorem dX11_isNear_1 : decode cX11_isNear 1 = .ok (.getfield 24, 3) := by decide +kernel
theorem dX11_isNear_4 : decode cX11_isNear 4 = .ok (.aload_n 0, 1) := by decide +kernel
theorem dX11_isNear_5 : decode cX11_isNear 5 = .ok (.getfield 69, 3) := by decide +kernel
theorem dX11_isNear_8 : decode cX11_isNear 8 = .ok (.aload_n 0, 1) := by decide +kernel
theorem dX11_isNear_9 : decode cX11_isNear 9 = .ok (.getfield 49, 3) := by decide +kernel
theorem dX11_isNear_12 : decode cX11_isNear 12 = .ok (.invokevirtual 256, 3) := by decide +kernel
theorem dX7_learn_0 : decode cX7_learn 0 = .ok (.aload_n 0, 1) := by decide +kernel
theorem dX7_learn_1 : decode cX7_learn 1 = .ok (.getfield 49, 3) := by decide +kernel
theorem dX7_learn_4 : decode cX7_learn 4 = .ok (.ifCond .ne 10, 3) := by decide +kernel
theorem dX7_learn_7 : decode cX7_learn 7 = .ok (.aload_n 1, 1) := by decide +kernel
theorem dX7_learn_8 : decode cX7_learn 8 = .ok (.getfield 73, 3) := by decide +kernel
theorem dX7_learn_11 : decode cX7_learn 11 = .ok (.ifCond .ne 4, 3) := by decide +kernel
theorem dX7_learn_14 : decode cX7_learn 14 = .ok (.return_, 1) := by decide +kernel
theorem dX11_isNear_15 : decode cX11_isNear 15 = .ok (.iload_n 1, 1) := by decide +kernel
theorem dX11_isNear_16 : decode cX11_isNear 16 = .ok (.ifCond .lt 18, 3) := by decide +kernel
theorem dX11_isNear_34 : decode cX11_isNear 34 = .ok (.iconst 0, 1) := by decide +kernel
theorem dX11_isNear_35 : decode cX11_isNear 35 = .ok (.ireturn, 1) := by decide +kernel
theorem dX11_isNear_19 : decode cX11_isNear 19 = .ok (.iload_n 1, 1) := by decide +kernel
theorem dX11_isNear_20 : decode cX11_isNear 20 = .ok (.aload_n 0, 1) := by decide +kernel
theorem dX11_isNear_21 : decode cX11_isNear 21 = .ok (.getfield 24, 3) := by decide +kernel
theorem dX11_isNear_24 : decode cX11_isNear 24 = .ok (.getfield 260, 3) := by decide +kernel
theorem dX11_isNear_27 : decode cX11_isNear 27 = .ok (.if_icmp .ge 7, 3) := by decide +kernel
theorem dX11_near_5 : decode cX11_near 5 = .ok (.ifCond .eq 15, 3) := by decide +kernel
theorem dX11_near_20 : decode cX11_near 20 = .ok (.ldc2_w 212, 3) := by decide +kernel
theorem dX11_near_23 : decode cX11_near 23 = .ok (.lreturn, 1) := by decide +kernel
theorem dL_law_629 : decode cL_law 629 = .ok (.aload_n 2, 1) := by decide +kernel
theorem dL_law_630 : decode cL_law 630 = .ok (.aload_n 0, 1) := by decide +kernel
theorem dL_law_631 : decode cL_law 631 = .ok (.iload_n 3, 1) := by decide +kernel
theorem dL_law_632 : decode cL_law 632 = .ok (.iconst 1, 1) := by decide +kernel
theorem dL_law_633 : decode cL_law 633 = .ok (.iadd, 1) := by decide +kernel
theorem dL_law_634 : decode cL_law 634 = .ok (.iaload, 1) := by decide +kernel
theorem dL_law_635 : decode cL_law 635 = .ok (.invokevirtual 77, 3) := by decide +kernel
theorem dX12_near_0 : decode cX12_near 0 = .ok (.aload_n 0, 1) := by decide +kernel
theorem dX12_near_1 : decode cX12_near 1 = .ok (.iload_n 1, 1) := by decide +kernel
theorem dX12_near_2 : decode cX12_near 2 = .ok (.invokevirtual 416, 3) := by decide +kernel
theorem dX12_isNear_0 : decode cX12_isNear 0 = .ok (.iload_n 1, 1) := by decide +kernel
theorem dX12_isNear_1 : decode cX12_isNear 1 = .ok (.i2l, 1) := by decide +kernel
theorem dX12_isNear_2 : decode cX12_isNear 2 = .ok (.lconst 0, 1) := by decide +kernel
theorem dX12_isNear_3 : decode cX12_isNear 3 = .ok (.ldc2_w 332, 3) := by decide +kernel
theorem dX12_isNear_6 : decode cX12_isNear 6 = .ok (.invokestatic 191, 3) := by decide +kernel
theorem dX12_isNear_9 : decode cX12_isNear 9 = .ok (.ifCond .eq 20, 3) := by decide +kernel
theorem dX12_isNear_29 : decode cX12_isNear 29 = .ok (.iconst 0, 1) := by decide +kernel
theorem dX12_isNear_30 : decode cX12_isNear 30 = .ok (.ireturn, 1) := by decide +kernel
theorem dX12_isNear_12 : decode cX12_isNear 12 = .ok (.aload_n 0, 1) := by decide +kernel
theorem dX12_isNear_13 : decode cX12_isNear 13 = .ok (.iload_n 1, 1) := by decide +kernel
theorem dX12_isNear_14 : decode cX12_isNear 14 = .ok (.iconst 1, 1) := by decide +kernel
theorem dX12_isNear_15 : decode cX12_isNear 15 = .ok (.iadd, 1) := by decide +kernel
theorem dX12_isNear_16 : decode cX12_isNear 16 = .ok (.invokevirtual 413, 3) := by decide +kernel
theorem dX12_nears_0 : decode cX12_nears 0 = .ok (.iconst 0, 1) := by decide +kernel
theorem dX12_nears_1 : decode cX12_nears 1 = .ok (.istore_n 2, 1) := by decide +kernel
theorem dX12_nears_2 : decode cX12_nears 2 = .ok (.iconst 0, 1) := by decide +kernel
theorem dX12_nears_3 : decode cX12_nears 3 = .ok (.istore_n 3, 1) := by decide +kernel
theorem dX12_nears_4 : decode cX12_nears 4 = .ok (.iload_n 3, 1) := by decide +kernel
theorem dX12_nears_5 : decode cX12_nears 5 = .ok (.aload_n 0, 1) := by decide +kernel
theorem dX12_nears_6 : decode cX12_nears 6 = .ok (.invokevirtual 406, 3) := by decide +kernel
theorem dX12_rowMany_0 : decode cX12_rowMany 0 = .ok (.aload_n 0, 1) := by decide +kernel
theorem dX12_rowMany_1 : decode cX12_rowMany 1 = .ok (.getfield 237, 3) := by decide +kernel
theorem dX12_rowMany_4 : decode cX12_rowMany 4 = .ok (.ifCond .ne 5, 3) := by decide +kernel
theorem dX12_rowMany_7 : decode cX12_rowMany 7 = .ok (.iconst 0, 1) := by decide +kernel
theorem dX12_rowMany_8 : decode cX12_rowMany 8 = .ok (.ireturn, 1) := by decide +kernel
theorem dX12_nears_9 : decode cX12_nears 9 = .ok (.if_icmp .ge 126, 3) := by decide +kernel
theorem dX12_nears_135 : decode cX12_nears 135 = .ok (.iload_n 2, 1) := by decide +kernel
theorem dX12_nears_136 : decode cX12_nears 136 = .ok (.ireturn, 1) := by decide +kernel
theorem dX12_isNear_19 : decode cX12_isNear 19 = .ok (.iload_n 1, 1) := by decide +kernel
theorem dX12_isNear_20 : decode cX12_isNear 20 = .ok (.iconst 1, 1) := by decide +kernel
theorem dX12_isNear_21 : decode cX12_isNear 21 = .ok (.iadd, 1) := by decide +kernel
theorem dX12_isNear_22 : decode cX12_isNear 22 = .ok (.if_icmp .ne 7, 3) := by decide +kernel
theorem dX12_isNear_25 : decode cX12_isNear 25 = .ok (.iconst 1, 1) := by decide +kernel
theorem dX12_isNear_26 : decode cX12_isNear 26 = .ok (.goto 4, 3) := by decide +kernel
theorem dX12_near_5 : decode cX12_near 5 = .ok (.ifCond .eq 12, 3) := by decide +kernel
theorem dX12_near_17 : decode cX12_near 17 = .ok (.ldc2_w 384, 3) := by decide +kernel
theorem dX12_near_20 : decode cX12_near 20 = .ok (.lreturn, 1) := by decide +kernel
theorem dL_law_638 : decode cL_law 638 = .ok (.lcmp, 1) := by decide +kernel
theorem dL_law_639 : decode cL_law 639 = .ok (.ifCond .eq 893, 3) := by decide +kernel
theorem dL_law_644 : decode cL_law 644 = .ok (.aload_n 1, 1) := by decide +kernel
theorem dL_law_645 : decode cL_law 645 = .ok (.aload_n 0, 1) := by decide +kernel
theorem dL_law_646 : decode cL_law 646 = .ok (.iload_n 3, 1) := by decide +kernel
theorem dL_law_647 : decode cL_law 647 = .ok (.iconst 1, 1) := by decide +kernel
theorem dL_law_648 : decode cL_law 648 = .ok (.iadd, 1) := by decide +kernel
theorem dL_law_649 : decode cL_law 649 = .ok (.iaload, 1) := by decide +kernel
theorem dL_law_650 : decode cL_law 650 = .ok (.i2l, 1) := by decide +kernel
theorem dL_law_651 : decode cL_law 651 = .ok (.bipush 32, 2) := by decide +kernel
theorem dL_law_653 : decode cL_law 653 = .ok (.lshl, 1) := by decide +kernel
theorem dL_law_654 : decode cL_law 654 = .ok (.aload_n 0, 1) := by decide +kernel
theorem dL_law_655 : decode cL_law 655 = .ok (.iload_n 3, 1) := by decide +kernel
theorem dL_law_656 : decode cL_law 656 = .ok (.iconst 2, 1) := by decide +kernel
theorem dL_law_657 : decode cL_law 657 = .ok (.iadd, 1) := by decide +kernel
theorem dL_law_658 : decode cL_law 658 = .ok (.iaload, 1) := by decide +kernel
theorem dL_law_659 : decode cL_law 659 = .ok (.i2l, 1) := by decide +kernel
theorem dL_law_660 : decode cL_law 660 = .ok (.ldc2_w 78, 3) := by decide +kernel
theorem dL_law_663 : decode cL_law 663 = .ok (.land, 1) := by decide +kernel
theorem dL_law_664 : decode cL_law 664 = .ok (.lor, 1) := by decide +kernel
theorem dL_law_665 : decode cL_law 665 = .ok (.invokevirtual 80, 3) := by decide +kernel
theorem dX11_within_0 : decode cX11_within 0 = .ok (.lload_n 1, 1) := by decide +kernel
theorem dX11_within_1 : decode cX11_within 1 = .ok (.lconst 0, 1) := by decide +kernel
theorem dX11_within_2 : decode cX11_within 2 = .ok (.lcmp, 1) := by decide +kernel
theorem dX11_within_3 : decode cX11_within 3 = .ok (.ifCond .ge 7, 3) := by decide +kernel
theorem dX11_within_10 : decode cX11_within 10 = .ok (.aload_n 0, 1) := by decide +kernel
