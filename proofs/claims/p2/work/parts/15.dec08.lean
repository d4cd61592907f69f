theorem dX11_takeRow_77 : decode cX11_takeRow 77 = .ok (.istore_n 1, 1) := by decide +kernel
theorem dX11_takeRow_78 : decode cX11_takeRow 78 = .ok (.iinc 2 1, 3) := by decide +kernel
theorem dX11_takeRow_81 : decode cX11_takeRow 81 = .ok (.goto (-46), 3) := by decide +kernel
theorem dX11_send_4 : decode cX11_send 4 = .ok (.ifCond .ne 5, 3) := by decide +kernel
theorem dX11_send_9 : decode cX11_send 9 = .ok (.iconst 0, 1) := by decide +kernel
theorem dX11_send_10 : decode cX11_send 10 = .ok (.istore_n 1, 1) := by decide +kernel
theorem dX11_send_11 : decode cX11_send 11 = .ok (.iload_n 1, 1) := by decide +kernel
theorem dX11_send_12 : decode cX11_send 12 = .ok (.aload_n 0, 1) := by decide +kernel
theorem dX11_send_13 : decode cX11_send 13 = .ok (.getfield 69, 3) := by decide +kernel
theorem dX11_send_16 : decode cX11_send 16 = .ok (.getfield 139, 3) := by decide +kernel
theorem dX11_send_19 : decode cX11_send 19 = .ok (.if_icmp .ge 37, 3) := by decide +kernel
theorem dX11_send_56 : decode cX11_send 56 = .ok (.aload_n 0, 1) := by decide +kernel
theorem dX11_send_57 : decode cX11_send 57 = .ok (.getfield 24, 3) := by decide +kernel
theorem dX11_send_60 : decode cX11_send 60 = .ok (.invokevirtual 118, 3) := by decide +kernel
theorem dX11_send_63 : decode cX11_send 63 = .ok (.iconst 1, 1) := by decide +kernel
theorem dX11_send_64 : decode cX11_send 64 = .ok (.ireturn, 1) := by decide +kernel
theorem dX11_send_22 : decode cX11_send 22 = .ok (.aload_n 0, 1) := by decide +kernel
theorem dX11_send_23 : decode cX11_send 23 = .ok (.getfield 49, 3) := by decide +kernel
theorem dX11_send_26 : decode cX11_send 26 = .ok (.iload_n 1, 1) := by decide +kernel
theorem dX11_send_27 : decode cX11_send 27 = .ok (.aload_n 0, 1) := by decide +kernel
theorem dX11_send_28 : decode cX11_send 28 = .ok (.getfield 69, 3) := by decide +kernel
theorem dX11_send_31 : decode cX11_send 31 = .ok (.getfield 193, 3) := by decide +kernel
theorem dX11_send_34 : decode cX11_send 34 = .ok (.iload_n 1, 1) := by decide +kernel
theorem dX11_send_35 : decode cX11_send 35 = .ok (.aload_n 0, 1) := by decide +kernel
theorem dX11_send_36 : decode cX11_send 36 = .ok (.getfield 53, 3) := by decide +kernel
theorem dX11_send_39 : decode cX11_send 39 = .ok (.aload_n 0, 1) := by decide +kernel
theorem dX11_send_40 : decode cX11_send 40 = .ok (.getfield 69, 3) := by decide +kernel
theorem dX11_send_43 : decode cX11_send 43 = .ok (.getfield 136, 3) := by decide +kernel
theorem dX11_send_46 : decode cX11_send 46 = .ok (.invokevirtual 204, 3) := by decide +kernel
theorem dX11_send_49 : decode cX11_send 49 = .ok (.iastore, 1) := by decide +kernel
theorem dX11_send_50 : decode cX11_send 50 = .ok (.iinc 1 1, 3) := by decide +kernel
theorem dX11_send_53 : decode cX11_send 53 = .ok (.goto (-42), 3) := by decide +kernel
theorem dX11_send_7 : decode cX11_send 7 = .ok (.iconst 0, 1) := by decide +kernel
theorem dX11_send_8 : decode cX11_send 8 = .ok (.ireturn, 1) := by decide +kernel
theorem dX11_distance_0 : decode cX11_distance 0 = .ok (.aload_n 0, 1) := by decide +kernel
theorem dX11_distance_1 : decode cX11_distance 1 = .ok (.invokevirtual 201, 3) := by decide +kernel
theorem dX11_distance_4 : decode cX11_distance 4 = .ok (.ifCond .eq 21, 3) := by decide +kernel
theorem dX11_distance_25 : decode cX11_distance 25 = .ok (.ldc2_w 212, 3) := by decide +kernel
theorem dX11_distance_28 : decode cX11_distance 28 = .ok (.lreturn, 1) := by decide +kernel
theorem dX11_distance_7 : decode cX11_distance 7 = .ok (.aload_n 0, 1) := by decide +kernel
theorem dX11_distance_8 : decode cX11_distance 8 = .ok (.getfield 69, 3) := by decide +kernel
theorem dX11_distance_11 : decode cX11_distance 11 = .ok (.aload_n 0, 1) := by decide +kernel
theorem dX11_distance_12 : decode cX11_distance 12 = .ok (.getfield 53, 3) := by decide +kernel
theorem dX11_distance_15 : decode cX11_distance 15 = .ok (.aload_n 0, 1) := by decide +kernel
theorem dX11_distance_16 : decode cX11_distance 16 = .ok (.getfield 49, 3) := by decide +kernel
theorem dX11_distance_19 : decode cX11_distance 19 = .ok (.invokevirtual 208, 3) := by decide +kernel
theorem dX11_distance_22 : decode cX11_distance 22 = .ok (.goto 6, 3) := by decide +kernel
theorem dX11_slips_0 : decode cX11_slips 0 = .ok (.iload_n 1, 1) := by decide +kernel
theorem dX11_slips_1 : decode cX11_slips 1 = .ok (.ifCond .lt 20, 3) := by decide +kernel
theorem dX11_slips_21 : decode cX11_slips 21 = .ok (.iconst (-1), 1) := by decide +kernel
theorem dX11_slips_22 : decode cX11_slips 22 = .ok (.ireturn, 1) := by decide +kernel
theorem dX11_slips_4 : decode cX11_slips 4 = .ok (.iload_n 1, 1) := by decide +kernel
theorem dX11_slips_5 : decode cX11_slips 5 = .ok (.sipush 9999, 3) := by decide +kernel
theorem dX11_slips_8 : decode cX11_slips 8 = .ok (.if_icmp .gt 13, 3) := by decide +kernel
theorem dX11_slips_11 : decode cX11_slips 11 = .ok (.aload_n 0, 1) := by decide +kernel
theorem dX11_slips_12 : decode cX11_slips 12 = .ok (.getfield 69, 3) := by decide +kernel
theorem dX11_slips_15 : decode cX11_slips 15 = .ok (.getfield 139, 3) := by decide +kernel
theorem dX11_slips_18 : decode cX11_slips 18 = .ok (.ifCond .ne 5, 3) := by decide +kernel
theorem dX11_slips_23 : decode cX11_slips 23 = .ok (.iload_n 2, 1) := by decide +kernel
theorem dX11_slips_24 : decode cX11_slips 24 = .ok (.i2l, 1) := by decide +kernel
theorem dX11_slips_25 : decode cX11_slips 25 = .ok (.lstore_n 3, 1) := by decide +kernel
theorem dX11_slips_26 : decode cX11_slips 26 = .ok (.iconst 0, 1) := by decide +kernel
theorem dX11_slips_27 : decode cX11_slips 27 = .ok (.istore 5, 2) := by decide +kernel
theorem dX11_slips_29 : decode cX11_slips 29 = .ok (.iload 5, 2) := by decide +kernel
theorem dX11_slips_31 : decode cX11_slips 31 = .ok (.aload_n 0, 1) := by decide +kernel
theorem dX11_slips_32 : decode cX11_slips 32 = .ok (.getfield 69, 3) := by decide +kernel
theorem dX11_slips_35 : decode cX11_slips 35 = .ok (.getfield 139, 3) := by decide +kernel
theorem dX11_slips_38 : decode cX11_slips 38 = .ok (.if_icmp .ge 77, 3) := by decide +kernel
theorem dX11_slips_115 : decode cX11_slips 115 = .ok (.aload_n 0, 1) := by decide +kernel
theorem dX11_slips_116 : decode cX11_slips 116 = .ok (.getfield 24, 3) := by decide +kernel
theorem dX11_slips_119 : decode cX11_slips 119 = .ok (.invokevirtual 118, 3) := by decide +kernel
theorem dX11_slips_122 : decode cX11_slips 122 = .ok (.aload_n 0, 1) := by decide +kernel
theorem dX11_slips_123 : decode cX11_slips 123 = .ok (.getfield 69, 3) := by decide +kernel
theorem dX11_slips_126 : decode cX11_slips 126 = .ok (.getfield 139, 3) := by decide +kernel
theorem dX11_slips_129 : decode cX11_slips 129 = .ok (.ireturn, 1) := by decide +kernel
theorem dX11_slips_41 : decode cX11_slips 41 = .ok (.ldc2_w 220, 3) := by decide +kernel
theorem dX11_slips_44 : decode cX11_slips 44 = .ok (.lload_n 3, 1) := by decide +kernel
theorem dX11_slips_45 : decode cX11_slips 45 = .ok (.lmul, 1) := by decide +kernel
theorem dX11_slips_46 : decode cX11_slips 46 = .ok (.ldc2_w 222, 3) := by decide +kernel
theorem dX11_slips_49 : decode cX11_slips 49 = .ok (.ladd, 1) := by decide +kernel
theorem dX11_slips_50 : decode cX11_slips 50 = .ok (.ldc2_w 224, 3) := by decide +kernel
theorem dX11_slips_53 : decode cX11_slips 53 = .ok (.land, 1) := by decide +kernel
theorem dX11_slips_54 : decode cX11_slips 54 = .ok (.lstore_n 3, 1) := by decide +kernel
theorem dX11_slips_55 : decode cX11_slips 55 = .ok (.lload_n 3, 1) := by decide +kernel
theorem dX11_slips_56 : decode cX11_slips 56 = .ok (.ldc2_w 226, 3) := by decide +kernel
theorem dX11_slips_59 : decode cX11_slips 59 = .ok (.ldiv, 1) := by decide +kernel
theorem dX11_slips_60 : decode cX11_slips 60 = .ok (.ldc2_w 228, 3) := by decide +kernel
theorem dX11_slips_63 : decode cX11_slips 63 = .ok (.iload_n 1, 1) := by decide +kernel
theorem dX11_slips_64 : decode cX11_slips 64 = .ok (.i2l, 1) := by decide +kernel
theorem dX11_slips_65 : decode cX11_slips 65 = .ok (.lmul, 1) := by decide +kernel
theorem dX11_slips_66 : decode cX11_slips 66 = .ok (.lconst 1, 1) := by decide +kernel
theorem dX11_slips_67 : decode cX11_slips 67 = .ok (.ladd, 1) := by decide +kernel
theorem dX11_slips_68 : decode cX11_slips 68 = .ok (.lrem, 1) := by decide +kernel
theorem dX11_slips_69 : decode cX11_slips 69 = .ok (.iload_n 1, 1) := by decide +kernel
theorem dX11_slips_70 : decode cX11_slips 70 = .ok (.i2l, 1) := by decide +kernel
theorem dX11_slips_71 : decode cX11_slips 71 = .ok (.lsub, 1) := by decide +kernel
theorem dX11_slips_72 : decode cX11_slips 72 = .ok (.lstore 6, 2) := by decide +kernel
theorem dX11_slips_74 : decode cX11_slips 74 = .ok (.aload_n 0, 1) := by decide +kernel
theorem dX11_slips_75 : decode cX11_slips 75 = .ok (.getfield 49, 3) := by decide +kernel
theorem dX11_slips_78 : decode cX11_slips 78 = .ok (.iload 5, 2) := by decide +kernel
theorem dX11_slips_80 : decode cX11_slips 80 = .ok (.iaload, 1) := by decide +kernel
theorem dX11_slips_81 : decode cX11_slips 81 = .ok (.i2l, 1) := by decide +kernel
theorem dX11_slips_82 : decode cX11_slips 82 = .ok (.lload 6, 2) := by decide +kernel
theorem dX11_slips_84 : decode cX11_slips 84 = .ok (.ladd, 1) := by decide +kernel
theorem dX11_slips_85 : decode cX11_slips 85 = .ok (.lstore 8, 2) := by decide +kernel
theorem dX11_slips_87 : decode cX11_slips 87 = .ok (.aload_n 0, 1) := by decide +kernel
theorem dX11_slips_88 : decode cX11_slips 88 = .ok (.getfield 49, 3) := by decide +kernel
theorem dX11_slips_91 : decode cX11_slips 91 = .ok (.iload 5, 2) := by decide +kernel
theorem dX11_slips_93 : decode cX11_slips 93 = .ok (.ldc2_w 230, 3) := by decide +kernel
theorem dX11_slips_96 : decode cX11_slips 96 = .ok (.ldc2_w 232, 3) := by decide +kernel
theorem dX11_slips_99 : decode cX11_slips 99 = .ok (.lload 8, 2) := by decide +kernel
theorem dX11_slips_101 : decode cX11_slips 101 = .ok (.invokestatic 234, 3) := by decide +kernel
theorem dX11_slips_104 : decode cX11_slips 104 = .ok (.invokestatic 240, 3) := by decide +kernel
theorem dX11_slips_107 : decode cX11_slips 107 = .ok (.l2i, 1) := by decide +kernel
theorem dX11_slips_108 : decode cX11_slips 108 = .ok (.iastore, 1) := by decide +kernel
theorem dX11_slips_109 : decode cX11_slips 109 = .ok (.iinc 5 1, 3) := by decide +kernel
theorem dX11_slips_112 : decode cX11_slips 112 = .ok (.goto (-83), 3) := by decide +kernel
theorem dX11_nearest_0 : decode cX11_nearest 0 = .ok (.aload_n 0, 1) := by decide +kernel
theorem dX11_nearest_1 : decode cX11_nearest 1 = .ok (.getfield 69, 3) := by decide +kernel
theorem dX11_nearest_4 : decode cX11_nearest 4 = .ok (.iload_n 2, 1) := by decide +kernel
theorem dX11_nearest_5 : decode cX11_nearest 5 = .ok (.invokevirtual 172, 3) := by decide +kernel
theorem dX11_nearest_8 : decode cX11_nearest 8 = .ok (.ifCond .eq 11, 3) := by decide +kernel
theorem dX11_nearest_19 : decode cX11_nearest 19 = .ok (.ldc 175, 2) := by decide +kernel
theorem dX11_nearest_21 : decode cX11_nearest 21 = .ok (.ireturn, 1) := by decide +kernel
theorem dX11_nearest_11 : decode cX11_nearest 11 = .ok (.aload_n 0, 1) := by decide +kernel
theorem dX11_nearest_12 : decode cX11_nearest 12 = .ok (.iload_n 1, 1) := by decide +kernel
theorem dX11_nearest_13 : decode cX11_nearest 13 = .ok (.invokevirtual 243, 3) := by decide +kernel
theorem dX11_isNear_0 : decode cX11_isNear 0 = .ok (.aload_n 0, 1) := by decide +kernel
theorem dX11_isNear_1 : decode cX11_isNear 1 = .ok (.getfield 24, 3) := by decide +kernel
theorem dX11_isNear_4 : decode cX11_isNear 4 = .ok (.aload_n 0, 1) := by decide +kernel
theorem dX11_isNear_5 : decode cX11_isNear 5 = .ok (.getfield 69, 3) := by decide +kernel
theorem dX11_isNear_8 : decode cX11_isNear 8 = .ok (.aload_n 0, 1) := by decide +kernel
theorem dX11_isNear_9 : decode cX11_isNear 9 = .ok (.getfield 49, 3) := by decide +kernel
theorem dX11_isNear_12 : decode cX11_isNear 12 = .ok (.invokevirtual 256, 3) := by decide +kernel
theorem dX11_isNear_15 : decode cX11_isNear 15 = .ok (.iload_n 1, 1) := by decide +kernel
theorem dX11_isNear_16 : decode cX11_isNear 16 = .ok (.ifCond .lt 18, 3) := by decide +kernel
theorem dX11_isNear_34 : decode cX11_isNear 34 = .ok (.iconst 0, 1) := by decide +kernel
theorem dX11_isNear_35 : decode cX11_isNear 35 = .ok (.ireturn, 1) := by decide +kernel
theorem dX11_isNear_19 : decode cX11_isNear 19 = .ok (.iload_n 1, 1) := by decide +kernel
theorem dX11_isNear_20 : decode cX11_isNear 20 = .ok (.aload_n 0, 1) := by decide +kernel
theorem dX11_isNear_21 : decode cX11_isNear 21 = .ok (.getfield 24, 3) := by decide +kernel
theorem dX11_isNear_24 : decode cX11_isNear 24 = .ok (.getfield 260, 3) := by decide +kernel
theorem dX11_isNear_27 : decode cX11_isNear 27 = .ok (.if_icmp .ge 7, 3) := by decide +kernel
theorem dX11_isNear_30 : decode cX11_isNear 30 = .ok (.iconst 1, 1) := by decide +kernel
theorem dX11_isNear_31 : decode cX11_isNear 31 = .ok (.goto 4, 3) := by decide +kernel
theorem dX11_nearest_16 : decode cX11_nearest 16 = .ok (.ifCond .ne 6, 3) := by decide +kernel
theorem dX11_nearest_22 : decode cX11_nearest 22 = .ok (.aload_n 0, 1) := by decide +kernel
theorem dX11_nearest_23 : decode cX11_nearest 23 = .ok (.getfield 69, 3) := by decide +kernel
theorem dX11_nearest_26 : decode cX11_nearest 26 = .ok (.aload_n 0, 1) := by decide +kernel
theorem dX11_nearest_27 : decode cX11_nearest 27 = .ok (.getfield 24, 3) := by decide +kernel
theorem dX11_nearest_30 : decode cX11_nearest 30 = .ok (.getfield 246, 3) := by decide +kernel
theorem dX11_nearest_33 : decode cX11_nearest 33 = .ok (.iload_n 1, 1) := by decide +kernel
theorem dX11_nearest_34 : decode cX11_nearest 34 = .ok (.iaload, 1) := by decide +kernel
theorem dX11_nearest_35 : decode cX11_nearest 35 = .ok (.iload_n 2, 1) := by decide +kernel
theorem dX11_nearest_36 : decode cX11_nearest 36 = .ok (.invokevirtual 249, 3) := by decide +kernel
theorem dX11_nearest_39 : decode cX11_nearest 39 = .ok (.ireturn, 1) := by decide +kernel
theorem dX11_near_0 : decode cX11_near 0 = .ok (.aload_n 0, 1) := by decide +kernel
theorem dX11_near_1 : decode cX11_near 1 = .ok (.iload_n 1, 1) := by decide +kernel
theorem dX11_near_2 : decode cX11_near 2 = .ok (.invokevirtual 243, 3) := by decide +kernel
theorem dX11_near_5 : decode cX11_near 5 = .ok (.ifCond .eq 15, 3) := by decide +kernel
theorem dX11_near_20 : decode cX11_near 20 = .ok (.ldc2_w 212, 3) := by decide +kernel
theorem dX11_near_23 : decode cX11_near 23 = .ok (.lreturn, 1) := by decide +kernel
theorem dX11_near_8 : decode cX11_near 8 = .ok (.aload_n 0, 1) := by decide +kernel
theorem dX11_near_9 : decode cX11_near 9 = .ok (.getfield 24, 3) := by decide +kernel
theorem dX11_near_12 : decode cX11_near 12 = .ok (.getfield 252, 3) := by decide +kernel
theorem dX11_near_15 : decode cX11_near 15 = .ok (.iload_n 1, 1) := by decide +kernel
theorem dX11_near_16 : decode cX11_near 16 = .ok (.laload, 1) := by decide +kernel
theorem dX11_near_17 : decode cX11_near 17 = .ok (.goto 6, 3) := by decide +kernel
theorem dX11_within_0 : decode cX11_within 0 = .ok (.lload_n 1, 1) := by decide +kernel
theorem dX11_within_1 : decode cX11_within 1 = .ok (.lconst 0, 1) := by decide +kernel
theorem dX11_within_2 : decode cX11_within 2 = .ok (.lcmp, 1) := by decide +kernel
theorem dX11_within_3 : decode cX11_within 3 = .ok (.ifCond .ge 7, 3) := by decide +kernel
theorem dX11_within_10 : decode cX11_within 10 = .ok (.aload_n 0, 1) := by decide +kernel
theorem dX11_within_11 : decode cX11_within 11 = .ok (.getfield 24, 3) := by decide +kernel
theorem dX11_within_14 : decode cX11_within 14 = .ok (.aload_n 0, 1) := by decide +kernel
theorem dX11_within_15 : decode cX11_within 15 = .ok (.getfield 69, 3) := by decide +kernel
theorem dX11_within_18 : decode cX11_within 18 = .ok (.aload_n 0, 1) := by decide +kernel
theorem dX11_within_19 : decode cX11_within 19 = .ok (.getfield 49, 3) := by decide +kernel
theorem dX11_within_22 : decode cX11_within 22 = .ok (.lload_n 1, 1) := by decide +kernel
theorem dX11_within_23 : decode cX11_within 23 = .ok (.aload_n 0, 1) := by decide +kernel
theorem dX11_within_24 : decode cX11_within 24 = .ok (.getfield 69, 3) := by decide +kernel
theorem dX11_within_27 : decode cX11_within 27 = .ok (.invokevirtual 263, 3) := by decide +kernel
theorem dX11_within_30 : decode cX11_within 30 = .ok (.invokevirtual 266, 3) := by decide +kernel
theorem dX11_within_33 : decode cX11_within 33 = .ok (.ireturn, 1) := by decide +kernel
theorem dX11_within_6 : decode cX11_within 6 = .ok (.iconst (-1), 1) := by decide +kernel
theorem dX11_within_7 : decode cX11_within 7 = .ok (.goto 26, 3) := by decide +kernel
theorem dX11_cancel_0 : decode cX11_cancel 0 = .ok (.aload_n 0, 1) := by decide +kernel
theorem dX11_cancel_1 : decode cX11_cancel 1 = .ok (.getfield 69, 3) := by decide +kernel
theorem dX11_cancel_4 : decode cX11_cancel 4 = .ok (.iload_n 1, 1) := by decide +kernel
theorem dX11_cancel_5 : decode cX11_cancel 5 = .ok (.invokevirtual 172, 3) := by decide +kernel
theorem dX11_cancel_8 : decode cX11_cancel 8 = .ok (.ifCond .ne 6, 3) := by decide +kernel
theorem dX11_cancel_14 : decode cX11_cancel 14 = .ok (.aload_n 0, 1) := by decide +kernel
theorem dX11_cancel_15 : decode cX11_cancel 15 = .ok (.getfield 24, 3) := by decide +kernel
theorem dX11_cancel_18 : decode cX11_cancel 18 = .ok (.aload_n 0, 1) := by decide +kernel
theorem dX11_cancel_19 : decode cX11_cancel 19 = .ok (.getfield 69, 3) := by decide +kernel
theorem dX11_cancel_22 : decode cX11_cancel 22 = .ok (.aload_n 0, 1) := by decide +kernel
theorem dX11_cancel_23 : decode cX11_cancel 23 = .ok (.getfield 49, 3) := by decide +kernel
theorem dX11_cancel_26 : decode cX11_cancel 26 = .ok (.invokevirtual 270, 3) := by decide +kernel
theorem dX11_cancel_29 : decode cX11_cancel 29 = .ok (.aload_n 0, 1) := by decide +kernel
theorem dX11_cancel_30 : decode cX11_cancel 30 = .ok (.getfield 24, 3) := by decide +kernel
theorem dX11_cancel_33 : decode cX11_cancel 33 = .ok (.getfield 273, 3) := by decide +kernel
theorem dX11_cancel_36 : decode cX11_cancel 36 = .ok (.iload_n 1, 1) := by decide +kernel
theorem dX11_cancel_37 : decode cX11_cancel 37 = .ok (.iaload, 1) := by decide +kernel
theorem dX11_cancel_38 : decode cX11_cancel 38 = .ok (.ireturn, 1) := by decide +kernel
theorem dX11_cancel_11 : decode cX11_cancel 11 = .ok (.ldc 175, 2) := by decide +kernel
theorem dX11_cancel_13 : decode cX11_cancel 13 = .ok (.ireturn, 1) := by decide +kernel
theorem dX11_order_0 : decode cX11_order 0 = .ok (.aload_n 0, 1) := by decide +kernel
theorem dX11_order_1 : decode cX11_order 1 = .ok (.getfield 69, 3) := by decide +kernel
theorem dX11_order_4 : decode cX11_order 4 = .ok (.iload_n 1, 1) := by decide +kernel
theorem dX11_order_5 : decode cX11_order 5 = .ok (.invokevirtual 172, 3) := by decide +kernel
theorem dX11_order_8 : decode cX11_order 8 = .ok (.ifCond .ne 5, 3) := by decide +kernel
theorem dX11_order_13 : decode cX11_order 13 = .ok (.aload_n 0, 1) := by decide +kernel
theorem dX11_order_14 : decode cX11_order 14 = .ok (.getfield 24, 3) := by decide +kernel
theorem dX11_order_17 : decode cX11_order 17 = .ok (.aload_n 0, 1) := by decide +kernel
theorem dX11_order_18 : decode cX11_order 18 = .ok (.getfield 69, 3) := by decide +kernel
theorem dX11_order_21 : decode cX11_order 21 = .ok (.aload_n 0, 1) := by decide +kernel
theorem dX11_order_22 : decode cX11_order 22 = .ok (.getfield 49, 3) := by decide +kernel
theorem dX11_order_25 : decode cX11_order 25 = .ok (.invokevirtual 270, 3) := by decide +kernel
theorem dX11_order_28 : decode cX11_order 28 = .ok (.aload_n 0, 1) := by decide +kernel
theorem dX11_order_29 : decode cX11_order 29 = .ok (.getfield 24, 3) := by decide +kernel
theorem dX11_order_32 : decode cX11_order 32 = .ok (.getfield 276, 3) := by decide +kernel
theorem dX11_order_35 : decode cX11_order 35 = .ok (.iload_n 1, 1) := by decide +kernel
theorem dX11_order_36 : decode cX11_order 36 = .ok (.iaload, 1) := by decide +kernel
theorem dX11_order_37 : decode cX11_order 37 = .ok (.ireturn, 1) := by decide +kernel
theorem dX11_order_11 : decode cX11_order 11 = .ok (.iconst (-1), 1) := by decide +kernel
theorem dX11_order_12 : decode cX11_order 12 = .ok (.ireturn, 1) := by decide +kernel
theorem dX11_left_0 : decode cX11_left 0 = .ok (.aload_n 0, 1) := by decide +kernel
theorem dX11_left_1 : decode cX11_left 1 = .ok (.getfield 69, 3) := by decide +kernel
theorem dX11_left_4 : decode cX11_left 4 = .ok (.getfield 136, 3) := by decide +kernel
theorem dX11_left_7 : decode cX11_left 7 = .ok (.ifCond .ne 7, 3) := by decide +kernel
theorem dX11_left_14 : decode cX11_left 14 = .ok (.aload_n 0, 1) := by decide +kernel
theorem dX11_left_15 : decode cX11_left 15 = .ok (.getfield 24, 3) := by decide +kernel
theorem dX11_left_18 : decode cX11_left 18 = .ok (.aload_n 0, 1) := by decide +kernel
theorem dX11_left_19 : decode cX11_left 19 = .ok (.getfield 69, 3) := by decide +kernel
theorem dX11_left_22 : decode cX11_left 22 = .ok (.aload_n 0, 1) := by decide +kernel
theorem dX11_left_23 : decode cX11_left 23 = .ok (.getfield 49, 3) := by decide +kernel
theorem dX11_left_26 : decode cX11_left 26 = .ok (.invokevirtual 270, 3) := by decide +kernel
theorem dX11_left_29 : decode cX11_left 29 = .ok (.aload_n 0, 1) := by decide +kernel
theorem dX11_left_30 : decode cX11_left 30 = .ok (.getfield 69, 3) := by decide +kernel
theorem dX11_left_33 : decode cX11_left 33 = .ok (.aload_n 0, 1) := by decide +kernel
theorem dX11_left_34 : decode cX11_left 34 = .ok (.getfield 24, 3) := by decide +kernel
theorem dX11_left_37 : decode cX11_left 37 = .ok (.getfield 273, 3) := by decide +kernel
theorem dX11_left_40 : decode cX11_left 40 = .ok (.aload_n 0, 1) := by decide +kernel
theorem dX11_left_41 : decode cX11_left 41 = .ok (.getfield 49, 3) := by decide +kernel
theorem dX11_left_44 : decode cX11_left 44 = .ok (.invokevirtual 208, 3) := by decide +kernel
theorem dX11_left_47 : decode cX11_left 47 = .ok (.lreturn, 1) := by decide +kernel
theorem dX11_left_10 : decode cX11_left 10 = .ok (.ldc2_w 212, 3) := by decide +kernel
theorem dX11_left_13 : decode cX11_left 13 = .ok (.lreturn, 1) := by decide +kernel
theorem dX11_least_0 : decode cX11_least 0 = .ok (.aload_n 0, 1) := by decide +kernel
theorem dX11_least_1 : decode cX11_least 1 = .ok (.getfield 69, 3) := by decide +kernel
theorem dX11_least_4 : decode cX11_least 4 = .ok (.iload_n 1, 1) := by decide +kernel
theorem dX11_least_5 : decode cX11_least 5 = .ok (.invokevirtual 172, 3) := by decide +kernel
theorem dX11_least_8 : decode cX11_least 8 = .ok (.ifCond .eq 14, 3) := by decide +kernel
theorem dX11_least_22 : decode cX11_least 22 = .ok (.ldc2_w 212, 3) := by decide +kernel
theorem dX11_least_25 : decode cX11_least 25 = .ok (.lreturn, 1) := by decide +kernel
theorem dX11_least_11 : decode cX11_least 11 = .ok (.aload_n 0, 1) := by decide +kernel
theorem dX11_least_12 : decode cX11_least 12 = .ok (.getfield 69, 3) := by decide +kernel
theorem dX11_least_15 : decode cX11_least 15 = .ok (.iload_n 2, 1) := by decide +kernel
theorem dX11_least_16 : decode cX11_least 16 = .ok (.invokevirtual 217, 3) := by decide +kernel
theorem dX11_least_19 : decode cX11_least 19 = .ok (.ifCond .ne 7, 3) := by decide +kernel
theorem dX11_least_26 : decode cX11_least 26 = .ok (.aload_n 0, 1) := by decide +kernel
theorem dX11_least_27 : decode cX11_least 27 = .ok (.getfield 24, 3) := by decide +kernel
theorem dX11_least_30 : decode cX11_least 30 = .ok (.aload_n 0, 1) := by decide +kernel
theorem dX11_least_31 : decode cX11_least 31 = .ok (.getfield 69, 3) := by decide +kernel
theorem dX11_least_34 : decode cX11_least 34 = .ok (.aload_n 0, 1) := by decide +kernel
theorem dX11_least_35 : decode cX11_least 35 = .ok (.getfield 49, 3) := by decide +kernel
theorem dX11_least_38 : decode cX11_least 38 = .ok (.invokevirtual 256, 3) := by decide +kernel
theorem dX11_least_41 : decode cX11_least 41 = .ok (.aload_n 0, 1) := by decide +kernel
theorem dX11_least_42 : decode cX11_least 42 = .ok (.getfield 24, 3) := by decide +kernel
theorem dX11_least_45 : decode cX11_least 45 = .ok (.iload_n 1, 1) := by decide +kernel
theorem dX11_least_46 : decode cX11_least 46 = .ok (.aload_n 0, 1) := by decide +kernel
theorem dX11_least_47 : decode cX11_least 47 = .ok (.getfield 69, 3) := by decide +kernel
theorem dX11_least_50 : decode cX11_least 50 = .ok (.iload_n 2, 1) := by decide +kernel
theorem dX11_least_51 : decode cX11_least 51 = .ok (.invokevirtual 279, 3) := by decide +kernel
theorem dX11_least_54 : decode cX11_least 54 = .ok (.invokevirtual 282, 3) := by decide +kernel
theorem dX11_least_57 : decode cX11_least 57 = .ok (.lreturn, 1) := by decide +kernel
theorem dX11_share_0 : decode cX11_share 0 = .ok (.aload_n 0, 1) := by decide +kernel
theorem dX11_share_1 : decode cX11_share 1 = .ok (.getfield 69, 3) := by decide +kernel
theorem dX11_share_4 : decode cX11_share 4 = .ok (.iload_n 1, 1) := by decide +kernel
theorem dX11_share_5 : decode cX11_share 5 = .ok (.invokevirtual 172, 3) := by decide +kernel
theorem dX11_share_8 : decode cX11_share 8 = .ok (.ifCond .eq 14, 3) := by decide +kernel
theorem dX11_share_22 : decode cX11_share 22 = .ok (.iconst (-1), 1) := by decide +kernel
theorem dX11_share_23 : decode cX11_share 23 = .ok (.ireturn, 1) := by decide +kernel
theorem dX11_share_11 : decode cX11_share 11 = .ok (.aload_n 0, 1) := by decide +kernel
theorem dX11_share_12 : decode cX11_share 12 = .ok (.getfield 69, 3) := by decide +kernel
theorem dX11_share_15 : decode cX11_share 15 = .ok (.iload_n 2, 1) := by decide +kernel
theorem dX11_share_16 : decode cX11_share 16 = .ok (.invokevirtual 217, 3) := by decide +kernel
theorem dX11_share_19 : decode cX11_share 19 = .ok (.ifCond .ne 5, 3) := by decide +kernel
theorem dX11_share_24 : decode cX11_share 24 = .ok (.aload_n 0, 1) := by decide +kernel
theorem dX11_share_25 : decode cX11_share 25 = .ok (.getfield 24, 3) := by decide +kernel
theorem dX11_share_28 : decode cX11_share 28 = .ok (.aload_n 0, 1) := by decide +kernel
theorem dX11_share_29 : decode cX11_share 29 = .ok (.getfield 69, 3) := by decide +kernel
theorem dX11_share_32 : decode cX11_share 32 = .ok (.aload_n 0, 1) := by decide +kernel
theorem dX11_share_33 : decode cX11_share 33 = .ok (.getfield 49, 3) := by decide +kernel
theorem dX11_share_36 : decode cX11_share 36 = .ok (.invokevirtual 256, 3) := by decide +kernel
theorem dX11_share_39 : decode cX11_share 39 = .ok (.aload_n 0, 1) := by decide +kernel
theorem dX11_share_40 : decode cX11_share 40 = .ok (.getfield 24, 3) := by decide +kernel
theorem dX11_share_43 : decode cX11_share 43 = .ok (.iload_n 1, 1) := by decide +kernel
theorem dX11_share_44 : decode cX11_share 44 = .ok (.aload_n 0, 1) := by decide +kernel
theorem dX11_share_45 : decode cX11_share 45 = .ok (.getfield 69, 3) := by decide +kernel
theorem dX11_share_48 : decode cX11_share 48 = .ok (.iload_n 2, 1) := by decide +kernel
theorem dX11_share_49 : decode cX11_share 49 = .ok (.invokevirtual 279, 3) := by decide +kernel
theorem dX11_share_52 : decode cX11_share 52 = .ok (.invokevirtual 286, 3) := by decide +kernel
theorem dX11_share_55 : decode cX11_share 55 = .ok (.ireturn, 1) := by decide +kernel
theorem dX11_sure_0 : decode cX11_sure 0 = .ok (.aload_n 0, 1) := by decide +kernel
theorem dX11_sure_1 : decode cX11_sure 1 = .ok (.getfield 69, 3) := by decide +kernel
theorem dX11_sure_4 : decode cX11_sure 4 = .ok (.iload_n 1, 1) := by decide +kernel
theorem dX11_sure_5 : decode cX11_sure 5 = .ok (.invokevirtual 172, 3) := by decide +kernel
theorem dX11_sure_8 : decode cX11_sure 8 = .ok (.ifCond .eq 11, 3) := by decide +kernel
theorem dX11_sure_19 : decode cX11_sure 19 = .ok (.ldc2_w 212, 3) := by decide +kernel
theorem dX11_sure_22 : decode cX11_sure 22 = .ok (.lreturn, 1) := by decide +kernel
theorem dX11_sure_11 : decode cX11_sure 11 = .ok (.aload_n 0, 1) := by decide +kernel
theorem dX11_sure_12 : decode cX11_sure 12 = .ok (.iconst 0, 1) := by decide +kernel
theorem dX11_sure_13 : decode cX11_sure 13 = .ok (.invokevirtual 243, 3) := by decide +kernel
theorem dX11_sure_16 : decode cX11_sure 16 = .ok (.ifCond .ne 7, 3) := by decide +kernel
theorem dX11_sure_23 : decode cX11_sure 23 = .ok (.aload_n 0, 1) := by decide +kernel
theorem dX11_sure_24 : decode cX11_sure 24 = .ok (.getfield 69, 3) := by decide +kernel
theorem dX11_sure_27 : decode cX11_sure 27 = .ok (.aload_n 0, 1) := by decide +kernel
theorem dX11_sure_28 : decode cX11_sure 28 = .ok (.getfield 24, 3) := by decide +kernel
theorem dX11_sure_31 : decode cX11_sure 31 = .ok (.getfield 246, 3) := by decide +kernel
theorem dX11_sure_34 : decode cX11_sure 34 = .ok (.iconst 0, 1) := by decide +kernel
theorem dX11_sure_35 : decode cX11_sure 35 = .ok (.iaload, 1) := by decide +kernel
theorem dX11_sure_36 : decode cX11_sure 36 = .ok (.iload_n 1, 1) := by decide +kernel
theorem dX11_sure_37 : decode cX11_sure 37 = .ok (.invokevirtual 289, 3) := by decide +kernel
theorem dX11_sure_40 : decode cX11_sure 40 = .ok (.istore_n 2, 1) := by decide +kernel
theorem dX11_sure_41 : decode cX11_sure 41 = .ok (.aload_n 0, 1) := by decide +kernel
theorem dX11_sure_42 : decode cX11_sure 42 = .ok (.getfield 24, 3) := by decide +kernel
theorem dX11_sure_45 : decode cX11_sure 45 = .ok (.iload_n 1, 1) := by decide +kernel
theorem dX11_sure_46 : decode cX11_sure 46 = .ok (.iload_n 2, 1) := by decide +kernel
theorem dX11_sure_47 : decode cX11_sure 47 = .ok (.aload_n 0, 1) := by decide +kernel
theorem dX11_sure_48 : decode cX11_sure 48 = .ok (.getfield 69, 3) := by decide +kernel
theorem dX11_sure_51 : decode cX11_sure 51 = .ok (.getfield 133, 3) := by decide +kernel
theorem dX11_sure_54 : decode cX11_sure 54 = .ok (.invokevirtual 292, 3) := by decide +kernel
theorem dX11_sure_57 : decode cX11_sure 57 = .ok (.aload_n 0, 1) := by decide +kernel
theorem dX11_sure_58 : decode cX11_sure 58 = .ok (.getfield 24, 3) := by decide +kernel
theorem dX11_sure_61 : decode cX11_sure 61 = .ok (.getfield 252, 3) := by decide +kernel
theorem dX11_sure_64 : decode cX11_sure 64 = .ok (.iconst 0, 1) := by decide +kernel
theorem dX11_sure_65 : decode cX11_sure 65 = .ok (.laload, 1) := by decide +kernel
theorem dX11_sure_66 : decode cX11_sure 66 = .ok (.lsub, 1) := by decide +kernel
theorem dX11_sure_67 : decode cX11_sure 67 = .ok (.lreturn, 1) := by decide +kernel
theorem dX11_lead_0 : decode cX11_lead 0 = .ok (.iload_n 1, 1) := by decide +kernel
theorem dX11_lead_1 : decode cX11_lead 1 = .ok (.iconst 1, 1) := by decide +kernel
theorem dX11_lead_2 : decode cX11_lead 2 = .ok (.if_icmp .lt 9, 3) := by decide +kernel
theorem dX11_lead_11 : decode cX11_lead 11 = .ok (.iconst (-1), 1) := by decide +kernel
theorem dX11_lead_12 : decode cX11_lead 12 = .ok (.goto 11, 3) := by decide +kernel
theorem dX11_lead_23 : decode cX11_lead 23 = .ok (.ireturn, 1) := by decide +kernel
theorem dX11_lead_5 : decode cX11_lead 5 = .ok (.iload_n 1, 1) := by decide +kernel
theorem dX11_lead_6 : decode cX11_lead 6 = .ok (.bipush 100, 2) := by decide +kernel
theorem dX11_lead_8 : decode cX11_lead 8 = .ok (.if_icmp .le 7, 3) := by decide +kernel
theorem dX11_lead_15 : decode cX11_lead 15 = .ok (.aload_n 0, 1) := by decide +kernel
theorem dX11_lead_16 : decode cX11_lead 16 = .ok (.getfield 76, 3) := by decide +kernel
theorem dX11_lead_19 : decode cX11_lead 19 = .ok (.iload_n 1, 1) := by decide +kernel
theorem dX11_lead_20 : decode cX11_lead 20 = .ok (.invokevirtual 296, 3) := by decide +kernel
theorem dX2_makeSteps_0 : decode cX2_makeSteps 0 = .ok (.iconst 0, 1) := by decide +kernel
theorem dX2_makeSteps_1 : decode cX2_makeSteps 1 = .ok (.istore_n 2, 1) := by decide +kernel
theorem dX2_makeSteps_2 : decode cX2_makeSteps 2 = .ok (.iload_n 2, 1) := by decide +kernel
theorem dX2_makeSteps_3 : decode cX2_makeSteps 3 = .ok (.iload_n 1, 1) := by decide +kernel
theorem dX2_makeSteps_4 : decode cX2_makeSteps 4 = .ok (.if_icmp .ge 16, 3) := by decide +kernel
theorem dX2_makeSteps_20 : decode cX2_makeSteps 20 = .ok (.iload_n 2, 1) := by decide +kernel
theorem dX2_makeSteps_21 : decode cX2_makeSteps 21 = .ok (.ireturn, 1) := by decide +kernel
theorem dX2_makeSteps_7 : decode cX2_makeSteps 7 = .ok (.aload_n 0, 1) := by decide +kernel
theorem dX2_makeSteps_8 : decode cX2_makeSteps 8 = .ok (.invokevirtual 60, 3) := by decide +kernel
theorem dX2_makeStep_0 : decode cX2_makeStep 0 = .ok (.aload_n 0, 1) := by decide +kernel
theorem dX2_makeStep_1 : decode cX2_makeStep 1 = .ok (.getfield 39, 3) := by decide +kernel
theorem dX2_makeStep_4 : decode cX2_makeStep 4 = .ok (.sipush 200, 3) := by decide +kernel
theorem dX2_makeStep_7 : decode cX2_makeStep 7 = .ok (.if_icmp .lt 5, 3) := by decide +kernel
theorem dX2_makeStep_12 : decode cX2_makeStep 12 = .ok (.iconst 0, 1) := by decide +kernel
theorem dX2_makeStep_13 : decode cX2_makeStep 13 = .ok (.istore_n 1, 1) := by decide +kernel
theorem dX2_makeStep_14 : decode cX2_makeStep 14 = .ok (.iload_n 1, 1) := by decide +kernel
theorem dX2_makeStep_15 : decode cX2_makeStep 15 = .ok (.aload_n 0, 1) := by decide +kernel
theorem dX2_makeStep_16 : decode cX2_makeStep 16 = .ok (.getfield 26, 3) := by decide +kernel
theorem dX2_makeStep_19 : decode cX2_makeStep 19 = .ok (.if_icmp .ge 71, 3) := by decide +kernel
theorem dX2_makeStep_90 : decode cX2_makeStep 90 = .ok (.iconst 0, 1) := by decide +kernel
theorem dX2_makeStep_91 : decode cX2_makeStep 91 = .ok (.ireturn, 1) := by decide +kernel
theorem dX2_makeStep_22 : decode cX2_makeStep 22 = .ok (.iconst 0, 1) := by decide +kernel
theorem dX2_makeStep_23 : decode cX2_makeStep 23 = .ok (.istore_n 2, 1) := by decide +kernel
theorem dX2_makeStep_24 : decode cX2_makeStep 24 = .ok (.iload_n 2, 1) := by decide +kernel
theorem dX2_makeStep_25 : decode cX2_makeStep 25 = .ok (.aload_n 0, 1) := by decide +kernel
theorem dX2_makeStep_26 : decode cX2_makeStep 26 = .ok (.getfield 26, 3) := by decide +kernel
theorem dX2_makeStep_29 : decode cX2_makeStep 29 = .ok (.if_icmp .ge 55, 3) := by decide +kernel
theorem dX2_makeStep_32 : decode cX2_makeStep 32 = .ok (.iload_n 1, 1) := by decide +kernel
theorem dX2_makeStep_33 : decode cX2_makeStep 33 = .ok (.iload_n 2, 1) := by decide +kernel
theorem dX2_makeStep_34 : decode cX2_makeStep 34 = .ok (.if_icmp .ne 7, 3) := by decide +kernel
theorem dX2_makeStep_37 : decode cX2_makeStep 37 = .ok (.iconst 0, 1) := by decide +kernel
theorem dX2_makeStep_38 : decode cX2_makeStep 38 = .ok (.goto 9, 3) := by decide +kernel
theorem dX2_makeStep_47 : decode cX2_makeStep 47 = .ok (.istore_n 3, 1) := by decide +kernel
theorem dX2_makeStep_48 : decode cX2_makeStep 48 = .ok (.iload_n 3, 1) := by decide +kernel
theorem dX2_makeStep_49 : decode cX2_makeStep 49 = .ok (.ifCond .eq 29, 3) := by decide +kernel
theorem dX2_makeStep_78 : decode cX2_makeStep 78 = .ok (.iinc 2 1, 3) := by decide +kernel
theorem dX2_makeStep_81 : decode cX2_makeStep 81 = .ok (.goto (-57), 3) := by decide +kernel
theorem dX2_makeStep_84 : decode cX2_makeStep 84 = .ok (.iinc 1 1, 3) := by decide +kernel
theorem dX2_makeStep_87 : decode cX2_makeStep 87 = .ok (.goto (-73), 3) := by decide +kernel
theorem dX2_makeStep_41 : decode cX2_makeStep 41 = .ok (.aload_n 0, 1) := by decide +kernel
theorem dX2_makeStep_42 : decode cX2_makeStep 42 = .ok (.iload_n 1, 1) := by decide +kernel
theorem dX2_makeStep_43 : decode cX2_makeStep 43 = .ok (.iload_n 2, 1) := by decide +kernel
theorem dX2_makeStep_44 : decode cX2_makeStep 44 = .ok (.invokevirtual 64, 3) := by decide +kernel
theorem dX2_timesIn_0 : decode cX2_timesIn 0 = .ok (.aload_n 0, 1) := by decide +kernel
theorem dX2_timesIn_1 : decode cX2_timesIn 1 = .ok (.getfield 12, 3) := by decide +kernel
theorem dX2_timesIn_4 : decode cX2_timesIn 4 = .ok (.iload_n 2, 1) := by decide +kernel
theorem dX2_timesIn_5 : decode cX2_timesIn 5 = .ok (.iload_n 2, 1) := by decide +kernel
