theorem dX12_cancels_40 : decode cX12_cancels 40 = .ok (.if_icmp .ge 115, 3) := by decide +kernel
theorem dX12_cancels_155 : decode cX12_cancels 155 = .ok (.return_, 1) := by decide +kernel
theorem dX12_cancels_43 : decode cX12_cancels 43 = .ok (.aload_n 0, 1) := by decide +kernel
theorem dX12_cancels_44 : decode cX12_cancels 44 = .ok (.getfield 112, 3) := by decide +kernel
theorem dX12_cancels_47 : decode cX12_cancels 47 = .ok (.iload_n 1, 1) := by decide +kernel
theorem dX12_cancels_48 : decode cX12_cancels 48 = .ok (.iaload, 1) := by decide +kernel
theorem dX12_cancels_49 : decode cX12_cancels 49 = .ok (.istore_n 2, 1) := by decide +kernel
theorem dX12_cancels_50 : decode cX12_cancels 50 = .ok (.iconst 1, 1) := by decide +kernel
theorem dX12_cancels_51 : decode cX12_cancels 51 = .ok (.aload_n 0, 1) := by decide +kernel
theorem dX12_cancels_52 : decode cX12_cancels 52 = .ok (.getfield 234, 3) := by decide +kernel
theorem dX12_cancels_55 : decode cX12_cancels 55 = .ok (.isub, 1) := by decide +kernel
theorem dX12_cancels_56 : decode cX12_cancels 56 = .ok (.istore_n 3, 1) := by decide +kernel
theorem dX12_cancels_57 : decode cX12_cancels 57 = .ok (.iconst 3, 1) := by decide +kernel
theorem dX12_cancels_58 : decode cX12_cancels 58 = .ok (.aload_n 0, 1) := by decide +kernel
theorem dX12_cancels_59 : decode cX12_cancels 59 = .ok (.getfield 234, 3) := by decide +kernel
theorem dX12_cancels_62 : decode cX12_cancels 62 = .ok (.isub, 1) := by decide +kernel
theorem dX12_cancels_63 : decode cX12_cancels 63 = .ok (.istore 4, 2) := by decide +kernel
theorem dX12_cancels_65 : decode cX12_cancels 65 = .ok (.iload 4, 2) := by decide +kernel
theorem dX12_cancels_67 : decode cX12_cancels 67 = .ok (.aload_n 0, 1) := by decide +kernel
theorem dX12_cancels_68 : decode cX12_cancels 68 = .ok (.getfield 234, 3) := by decide +kernel
theorem dX12_cancels_71 : decode cX12_cancels 71 = .ok (.if_icmp .ge 29, 3) := by decide +kernel
theorem dX12_cancels_100 : decode cX12_cancels 100 = .ok (.aload_n 0, 1) := by decide +kernel
theorem dX12_cancels_101 : decode cX12_cancels 101 = .ok (.getfield 115, 3) := by decide +kernel
theorem dX12_cancels_104 : decode cX12_cancels 104 = .ok (.iload_n 2, 1) := by decide +kernel
theorem dX12_cancels_105 : decode cX12_cancels 105 = .ok (.iload_n 3, 1) := by decide +kernel
theorem dX12_cancels_106 : decode cX12_cancels 106 = .ok (.iastore, 1) := by decide +kernel
theorem dX12_cancels_107 : decode cX12_cancels 107 = .ok (.iconst 0, 1) := by decide +kernel
theorem dX12_cancels_108 : decode cX12_cancels 108 = .ok (.istore 4, 2) := by decide +kernel
theorem dX12_cancels_110 : decode cX12_cancels 110 = .ok (.iload 4, 2) := by decide +kernel
theorem dX12_cancels_112 : decode cX12_cancels 112 = .ok (.aload_n 0, 1) := by decide +kernel
theorem dX12_cancels_113 : decode cX12_cancels 113 = .ok (.getfield 240, 3) := by decide +kernel
theorem dX12_cancels_116 : decode cX12_cancels 116 = .ok (.if_icmp .ge 33, 3) := by decide +kernel
theorem dX12_cancels_149 : decode cX12_cancels 149 = .ok (.iinc 1 1, 3) := by decide +kernel
theorem dX12_cancels_152 : decode cX12_cancels 152 = .ok (.goto (-117), 3) := by decide +kernel
theorem dX12_cancels_74 : decode cX12_cancels 74 = .ok (.aload_n 0, 1) := by decide +kernel
theorem dX12_cancels_75 : decode cX12_cancels 75 = .ok (.iload_n 2, 1) := by decide +kernel
theorem dX12_cancels_76 : decode cX12_cancels 76 = .ok (.iload 4, 2) := by decide +kernel
theorem dX12_cancels_78 : decode cX12_cancels 78 = .ok (.invokevirtual 422, 3) := by decide +kernel
theorem dX12_restBy_0 : decode cX12_restBy 0 = .ok (.lconst 0, 1) := by decide +kernel
theorem dX12_restBy_1 : decode cX12_restBy 1 = .ok (.lstore_n 3, 1) := by decide +kernel
theorem dX12_restBy_2 : decode cX12_restBy 2 = .ok (.iconst 0, 1) := by decide +kernel
theorem dX12_restBy_3 : decode cX12_restBy 3 = .ok (.istore 5, 2) := by decide +kernel
theorem dX12_restBy_5 : decode cX12_restBy 5 = .ok (.iload 5, 2) := by decide +kernel
theorem dX12_restBy_7 : decode cX12_restBy 7 = .ok (.aload_n 0, 1) := by decide +kernel
theorem dX12_restBy_8 : decode cX12_restBy 8 = .ok (.getfield 240, 3) := by decide +kernel
theorem dX12_restBy_11 : decode cX12_restBy 11 = .ok (.if_icmp .ge 41, 3) := by decide +kernel
theorem dX12_restBy_52 : decode cX12_restBy 52 = .ok (.lload_n 3, 1) := by decide +kernel
theorem dX12_restBy_53 : decode cX12_restBy 53 = .ok (.lreturn, 1) := by decide +kernel
theorem dX12_restBy_14 : decode cX12_restBy 14 = .ok (.aload_n 0, 1) := by decide +kernel
theorem dX12_restBy_15 : decode cX12_restBy 15 = .ok (.getfield 118, 3) := by decide +kernel
theorem dX12_restBy_18 : decode cX12_restBy 18 = .ok (.iload 5, 2) := by decide +kernel
theorem dX12_restBy_20 : decode cX12_restBy 20 = .ok (.laload, 1) := by decide +kernel
theorem dX12_restBy_21 : decode cX12_restBy 21 = .ok (.aload_n 0, 1) := by decide +kernel
theorem dX12_restBy_22 : decode cX12_restBy 22 = .ok (.getfield 69, 3) := by decide +kernel
theorem dX12_restBy_25 : decode cX12_restBy 25 = .ok (.iconst 5, 1) := by decide +kernel
theorem dX12_restBy_26 : decode cX12_restBy 26 = .ok (.iload 5, 2) := by decide +kernel
theorem dX12_restBy_28 : decode cX12_restBy 28 = .ok (.imul, 1) := by decide +kernel
theorem dX12_restBy_29 : decode cX12_restBy 29 = .ok (.iload_n 1, 1) := by decide +kernel
theorem dX12_restBy_30 : decode cX12_restBy 30 = .ok (.iadd, 1) := by decide +kernel
theorem dX12_restBy_31 : decode cX12_restBy 31 = .ok (.iaload, 1) := by decide +kernel
theorem dX12_restBy_32 : decode cX12_restBy 32 = .ok (.iload_n 2, 1) := by decide +kernel
theorem dX12_restBy_33 : decode cX12_restBy 33 = .ok (.imul, 1) := by decide +kernel
theorem dX12_restBy_34 : decode cX12_restBy 34 = .ok (.i2l, 1) := by decide +kernel
theorem dX12_restBy_35 : decode cX12_restBy 35 = .ok (.lsub, 1) := by decide +kernel
theorem dX12_restBy_36 : decode cX12_restBy 36 = .ok (.lstore 6, 2) := by decide +kernel
theorem dX12_restBy_38 : decode cX12_restBy 38 = .ok (.lload_n 3, 1) := by decide +kernel
theorem dX12_restBy_39 : decode cX12_restBy 39 = .ok (.lload 6, 2) := by decide +kernel
theorem dX12_restBy_41 : decode cX12_restBy 41 = .ok (.lload 6, 2) := by decide +kernel
theorem dX12_restBy_43 : decode cX12_restBy 43 = .ok (.lmul, 1) := by decide +kernel
theorem dX12_restBy_44 : decode cX12_restBy 44 = .ok (.ladd, 1) := by decide +kernel
theorem dX12_restBy_45 : decode cX12_restBy 45 = .ok (.lstore_n 3, 1) := by decide +kernel
theorem dX12_restBy_46 : decode cX12_restBy 46 = .ok (.iinc 5 1, 3) := by decide +kernel
theorem dX12_restBy_49 : decode cX12_restBy 49 = .ok (.goto (-44), 3) := by decide +kernel
theorem dX12_cancels_81 : decode cX12_cancels 81 = .ok (.aload_n 0, 1) := by decide +kernel
theorem dX12_cancels_82 : decode cX12_cancels 82 = .ok (.iload_n 2, 1) := by decide +kernel
theorem dX12_cancels_83 : decode cX12_cancels 83 = .ok (.iload_n 3, 1) := by decide +kernel
theorem dX12_cancels_84 : decode cX12_cancels 84 = .ok (.invokevirtual 422, 3) := by decide +kernel
theorem dX12_cancels_87 : decode cX12_cancels 87 = .ok (.lcmp, 1) := by decide +kernel
theorem dX12_cancels_88 : decode cX12_cancels 88 = .ok (.ifCond .ge 6, 3) := by decide +kernel
theorem dX12_cancels_94 : decode cX12_cancels 94 = .ok (.iinc 4 2, 3) := by decide +kernel
theorem dX12_cancels_97 : decode cX12_cancels 97 = .ok (.goto (-32), 3) := by decide +kernel
theorem dX12_cancels_91 : decode cX12_cancels 91 = .ok (.iload 4, 2) := by decide +kernel
theorem dX12_cancels_93 : decode cX12_cancels 93 = .ok (.istore_n 3, 1) := by decide +kernel
theorem dX12_cancels_14 : decode cX12_cancels 14 = .ok (.aload_n 0, 1) := by decide +kernel
theorem dX12_cancels_15 : decode cX12_cancels 15 = .ok (.getfield 118, 3) := by decide +kernel
theorem dX12_cancels_18 : decode cX12_cancels 18 = .ok (.iload_n 1, 1) := by decide +kernel
theorem dX12_cancels_19 : decode cX12_cancels 19 = .ok (.aload_n 0, 1) := by decide +kernel
theorem dX12_cancels_20 : decode cX12_cancels 20 = .ok (.getfield 100, 3) := by decide +kernel
theorem dX12_cancels_23 : decode cX12_cancels 23 = .ok (.iload_n 1, 1) := by decide +kernel
theorem dX12_cancels_24 : decode cX12_cancels 24 = .ok (.iaload, 1) := by decide +kernel
theorem dX12_cancels_25 : decode cX12_cancels 25 = .ok (.i2l, 1) := by decide +kernel
theorem dX12_cancels_26 : decode cX12_cancels 26 = .ok (.lastore, 1) := by decide +kernel
theorem dX12_cancels_27 : decode cX12_cancels 27 = .ok (.iinc 1 1, 3) := by decide +kernel
theorem dX12_cancels_30 : decode cX12_cancels 30 = .ok (.goto (-24), 3) := by decide +kernel
theorem dX12_cancels_119 : decode cX12_cancels 119 = .ok (.aload_n 0, 1) := by decide +kernel
theorem dX12_cancels_120 : decode cX12_cancels 120 = .ok (.getfield 118, 3) := by decide +kernel
theorem dX12_cancels_123 : decode cX12_cancels 123 = .ok (.iload 4, 2) := by decide +kernel
theorem dX12_cancels_125 : decode cX12_cancels 125 = .ok (.dup2, 1) := by decide +kernel
theorem dX12_cancels_126 : decode cX12_cancels 126 = .ok (.laload, 1) := by decide +kernel
theorem dX12_cancels_127 : decode cX12_cancels 127 = .ok (.aload_n 0, 1) := by decide +kernel
theorem dX12_cancels_128 : decode cX12_cancels 128 = .ok (.getfield 69, 3) := by decide +kernel
theorem dX12_cancels_131 : decode cX12_cancels 131 = .ok (.iconst 5, 1) := by decide +kernel
theorem dX12_cancels_132 : decode cX12_cancels 132 = .ok (.iload 4, 2) := by decide +kernel
theorem dX12_cancels_134 : decode cX12_cancels 134 = .ok (.imul, 1) := by decide +kernel
theorem dX12_cancels_135 : decode cX12_cancels 135 = .ok (.iload_n 2, 1) := by decide +kernel
theorem dX12_cancels_136 : decode cX12_cancels 136 = .ok (.iadd, 1) := by decide +kernel
theorem dX12_cancels_137 : decode cX12_cancels 137 = .ok (.iaload, 1) := by decide +kernel
theorem dX12_cancels_138 : decode cX12_cancels 138 = .ok (.iload_n 3, 1) := by decide +kernel
theorem dX12_cancels_139 : decode cX12_cancels 139 = .ok (.imul, 1) := by decide +kernel
theorem dX12_cancels_140 : decode cX12_cancels 140 = .ok (.i2l, 1) := by decide +kernel
theorem dX12_cancels_141 : decode cX12_cancels 141 = .ok (.lsub, 1) := by decide +kernel
theorem dX12_cancels_142 : decode cX12_cancels 142 = .ok (.lastore, 1) := by decide +kernel
theorem dX12_cancels_143 : decode cX12_cancels 143 = .ok (.iinc 4 1, 3) := by decide +kernel
theorem dX12_cancels_146 : decode cX12_cancels 146 = .ok (.goto (-36), 3) := by decide +kernel
theorem dX12_cancel_16 : decode cX12_cancel 16 = .ok (.aload_n 0, 1) := by decide +kernel
theorem dX12_cancel_17 : decode cX12_cancel 17 = .ok (.getfield 115, 3) := by decide +kernel
theorem dX12_cancel_20 : decode cX12_cancel 20 = .ok (.iload_n 1, 1) := by decide +kernel
theorem dX12_cancel_21 : decode cX12_cancel 21 = .ok (.iaload, 1) := by decide +kernel
theorem dX12_cancel_22 : decode cX12_cancel 22 = .ok (.ireturn, 1) := by decide +kernel
theorem dX12_cancel_8 : decode cX12_cancel 8 = .ok (.ldc_w 364, 3) := by decide +kernel
theorem dX12_cancel_11 : decode cX12_cancel 11 = .ok (.ireturn, 1) := by decide +kernel
theorem dX12_order_0 : decode cX12_order 0 = .ok (.aload_n 0, 1) := by decide +kernel
theorem dX12_order_1 : decode cX12_order 1 = .ok (.iload_n 1, 1) := by decide +kernel
theorem dX12_order_2 : decode cX12_order 2 = .ok (.invokevirtual 361, 3) := by decide +kernel
theorem dX12_order_5 : decode cX12_order 5 = .ok (.ifCond .ne 5, 3) := by decide +kernel
theorem dX12_order_10 : decode cX12_order 10 = .ok (.aload_n 0, 1) := by decide +kernel
theorem dX12_order_11 : decode cX12_order 11 = .ok (.invokevirtual 419, 3) := by decide +kernel
theorem dX12_order_14 : decode cX12_order 14 = .ok (.aload_n 0, 1) := by decide +kernel
theorem dX12_order_15 : decode cX12_order 15 = .ok (.getfield 112, 3) := by decide +kernel
theorem dX12_order_18 : decode cX12_order 18 = .ok (.iload_n 1, 1) := by decide +kernel
theorem dX12_order_19 : decode cX12_order 19 = .ok (.iaload, 1) := by decide +kernel
theorem dX12_order_20 : decode cX12_order 20 = .ok (.ireturn, 1) := by decide +kernel
theorem dX12_order_8 : decode cX12_order 8 = .ok (.iconst (-1), 1) := by decide +kernel
theorem dX12_order_9 : decode cX12_order 9 = .ok (.ireturn, 1) := by decide +kernel
theorem dX12_left_0 : decode cX12_left 0 = .ok (.aload_n 0, 1) := by decide +kernel
theorem dX12_left_1 : decode cX12_left 1 = .ok (.getfield 237, 3) := by decide +kernel
theorem dX12_left_4 : decode cX12_left 4 = .ok (.ifCond .ne 7, 3) := by decide +kernel
theorem dX12_left_11 : decode cX12_left 11 = .ok (.aload_n 0, 1) := by decide +kernel
theorem dX12_left_12 : decode cX12_left 12 = .ok (.invokevirtual 426, 3) := by decide +kernel
theorem dX12_left_15 : decode cX12_left 15 = .ok (.lconst 0, 1) := by decide +kernel
theorem dX12_left_16 : decode cX12_left 16 = .ok (.lstore_n 1, 1) := by decide +kernel
theorem dX12_left_17 : decode cX12_left 17 = .ok (.iconst 0, 1) := by decide +kernel
theorem dX12_left_18 : decode cX12_left 18 = .ok (.istore_n 3, 1) := by decide +kernel
theorem dX12_left_19 : decode cX12_left 19 = .ok (.iload_n 3, 1) := by decide +kernel
theorem dX12_left_20 : decode cX12_left 20 = .ok (.aload_n 0, 1) := by decide +kernel
theorem dX12_left_21 : decode cX12_left 21 = .ok (.getfield 240, 3) := by decide +kernel
theorem dX12_left_24 : decode cX12_left 24 = .ok (.if_icmp .ge 25, 3) := by decide +kernel
theorem dX12_left_49 : decode cX12_left 49 = .ok (.lload_n 1, 1) := by decide +kernel
theorem dX12_left_50 : decode cX12_left 50 = .ok (.lreturn, 1) := by decide +kernel
theorem dX12_left_27 : decode cX12_left 27 = .ok (.lload_n 1, 1) := by decide +kernel
theorem dX12_left_28 : decode cX12_left 28 = .ok (.aload_n 0, 1) := by decide +kernel
theorem dX12_left_29 : decode cX12_left 29 = .ok (.getfield 118, 3) := by decide +kernel
theorem dX12_left_32 : decode cX12_left 32 = .ok (.iload_n 3, 1) := by decide +kernel
theorem dX12_left_33 : decode cX12_left 33 = .ok (.laload, 1) := by decide +kernel
theorem dX12_left_34 : decode cX12_left 34 = .ok (.aload_n 0, 1) := by decide +kernel
theorem dX12_left_35 : decode cX12_left 35 = .ok (.getfield 118, 3) := by decide +kernel
theorem dX12_left_38 : decode cX12_left 38 = .ok (.iload_n 3, 1) := by decide +kernel
theorem dX12_left_39 : decode cX12_left 39 = .ok (.laload, 1) := by decide +kernel
theorem dX12_left_40 : decode cX12_left 40 = .ok (.lmul, 1) := by decide +kernel
theorem dX12_left_41 : decode cX12_left 41 = .ok (.ladd, 1) := by decide +kernel
theorem dX12_left_42 : decode cX12_left 42 = .ok (.lstore_n 1, 1) := by decide +kernel
theorem dX12_left_43 : decode cX12_left 43 = .ok (.iinc 3 1, 3) := by decide +kernel
theorem dX12_left_46 : decode cX12_left 46 = .ok (.goto (-27), 3) := by decide +kernel
theorem dX12_left_7 : decode cX12_left 7 = .ok (.ldc2_w 384, 3) := by decide +kernel
theorem dX12_left_10 : decode cX12_left 10 = .ok (.lreturn, 1) := by decide +kernel
theorem dX12_least_0 : decode cX12_least 0 = .ok (.aload_n 0, 1) := by decide +kernel
theorem dX12_least_1 : decode cX12_least 1 = .ok (.iload_n 1, 1) := by decide +kernel
theorem dX12_least_2 : decode cX12_least 2 = .ok (.invokevirtual 361, 3) := by decide +kernel
theorem dX12_least_5 : decode cX12_least 5 = .ok (.ifCond .eq 11, 3) := by decide +kernel
theorem dX12_least_16 : decode cX12_least 16 = .ok (.ldc2_w 384, 3) := by decide +kernel
theorem dX12_least_19 : decode cX12_least 19 = .ok (.lreturn, 1) := by decide +kernel
theorem dX12_least_8 : decode cX12_least 8 = .ok (.aload_n 0, 1) := by decide +kernel
theorem dX12_least_9 : decode cX12_least 9 = .ok (.iload_n 2, 1) := by decide +kernel
theorem dX12_least_10 : decode cX12_least 10 = .ok (.invokevirtual 371, 3) := by decide +kernel
theorem dX12_least_13 : decode cX12_least 13 = .ok (.ifCond .ne 7, 3) := by decide +kernel
theorem dX12_least_20 : decode cX12_least 20 = .ok (.ldc2_w 384, 3) := by decide +kernel
theorem dX12_least_23 : decode cX12_least 23 = .ok (.lstore_n 3, 1) := by decide +kernel
theorem dX12_least_24 : decode cX12_least 24 = .ok (.iconst 0, 1) := by decide +kernel
theorem dX12_least_25 : decode cX12_least 25 = .ok (.istore 5, 2) := by decide +kernel
theorem dX12_least_27 : decode cX12_least 27 = .ok (.iload 5, 2) := by decide +kernel
theorem dX12_least_29 : decode cX12_least 29 = .ok (.aload_n 0, 1) := by decide +kernel
theorem dX12_least_30 : decode cX12_least 30 = .ok (.invokevirtual 406, 3) := by decide +kernel
theorem dX12_least_33 : decode cX12_least 33 = .ok (.if_icmp .ge 43, 3) := by decide +kernel
theorem dX12_least_76 : decode cX12_least 76 = .ok (.lload_n 3, 1) := by decide +kernel
theorem dX12_least_77 : decode cX12_least 77 = .ok (.lreturn, 1) := by decide +kernel
theorem dX12_least_36 : decode cX12_least 36 = .ok (.aload_n 0, 1) := by decide +kernel
theorem dX12_least_37 : decode cX12_least 37 = .ok (.iload 5, 2) := by decide +kernel
theorem dX12_least_39 : decode cX12_least 39 = .ok (.invokevirtual 409, 3) := by decide +kernel
theorem dX12_least_42 : decode cX12_least 42 = .ok (.lstore 6, 2) := by decide +kernel
theorem dX12_least_44 : decode cX12_least 44 = .ok (.aload_n 0, 1) := by decide +kernel
theorem dX12_least_45 : decode cX12_least 45 = .ok (.getfield 103, 3) := by decide +kernel
theorem dX12_least_48 : decode cX12_least 48 = .ok (.iload_n 1, 1) := by decide +kernel
theorem dX12_least_49 : decode cX12_least 49 = .ok (.iaload, 1) := by decide +kernel
theorem dX12_least_50 : decode cX12_least 50 = .ok (.iload_n 2, 1) := by decide +kernel
theorem dX12_least_51 : decode cX12_least 51 = .ok (.if_icmp .ne 19, 3) := by decide +kernel
theorem dX12_least_70 : decode cX12_least 70 = .ok (.iinc 5 1, 3) := by decide +kernel
theorem dX12_least_73 : decode cX12_least 73 = .ok (.goto (-46), 3) := by decide +kernel
theorem dX12_least_54 : decode cX12_least 54 = .ok (.lload_n 3, 1) := by decide +kernel
theorem dX12_least_55 : decode cX12_least 55 = .ok (.lconst 0, 1) := by decide +kernel
theorem dX12_least_56 : decode cX12_least 56 = .ok (.lcmp, 1) := by decide +kernel
theorem dX12_least_57 : decode cX12_least 57 = .ok (.ifCond .lt 10, 3) := by decide +kernel
theorem dX12_least_67 : decode cX12_least 67 = .ok (.lload 6, 2) := by decide +kernel
theorem dX12_least_69 : decode cX12_least 69 = .ok (.lstore_n 3, 1) := by decide +kernel
theorem dX12_least_60 : decode cX12_least 60 = .ok (.lload 6, 2) := by decide +kernel
theorem dX12_least_62 : decode cX12_least 62 = .ok (.lload_n 3, 1) := by decide +kernel
theorem dX12_least_63 : decode cX12_least 63 = .ok (.lcmp, 1) := by decide +kernel
theorem dX12_least_64 : decode cX12_least 64 = .ok (.ifCond .ge 6, 3) := by decide +kernel
theorem dX12_share_0 : decode cX12_share 0 = .ok (.aload_n 0, 1) := by decide +kernel
theorem dX12_share_1 : decode cX12_share 1 = .ok (.iload_n 1, 1) := by decide +kernel
theorem dX12_share_2 : decode cX12_share 2 = .ok (.invokevirtual 361, 3) := by decide +kernel
theorem dX12_share_5 : decode cX12_share 5 = .ok (.ifCond .eq 11, 3) := by decide +kernel
theorem dX12_share_16 : decode cX12_share 16 = .ok (.iconst (-1), 1) := by decide +kernel
theorem dX12_share_17 : decode cX12_share 17 = .ok (.ireturn, 1) := by decide +kernel
theorem dX12_share_8 : decode cX12_share 8 = .ok (.aload_n 0, 1) := by decide +kernel
theorem dX12_share_9 : decode cX12_share 9 = .ok (.iload_n 2, 1) := by decide +kernel
theorem dX12_share_10 : decode cX12_share 10 = .ok (.invokevirtual 371, 3) := by decide +kernel
theorem dX12_share_13 : decode cX12_share 13 = .ok (.ifCond .ne 5, 3) := by decide +kernel
theorem dX12_share_18 : decode cX12_share 18 = .ok (.lconst 0, 1) := by decide +kernel
theorem dX12_share_19 : decode cX12_share 19 = .ok (.lstore_n 3, 1) := by decide +kernel
theorem dX12_share_20 : decode cX12_share 20 = .ok (.lconst 0, 1) := by decide +kernel
theorem dX12_share_21 : decode cX12_share 21 = .ok (.lstore 5, 2) := by decide +kernel
theorem dX12_share_23 : decode cX12_share 23 = .ok (.iconst 0, 1) := by decide +kernel
theorem dX12_share_24 : decode cX12_share 24 = .ok (.istore 7, 2) := by decide +kernel
theorem dX12_share_26 : decode cX12_share 26 = .ok (.iload 7, 2) := by decide +kernel
theorem dX12_share_28 : decode cX12_share 28 = .ok (.aload_n 0, 1) := by decide +kernel
theorem dX12_share_29 : decode cX12_share 29 = .ok (.invokevirtual 406, 3) := by decide +kernel
theorem dX12_share_32 : decode cX12_share 32 = .ok (.if_icmp .ge 45, 3) := by decide +kernel
theorem dX12_share_77 : decode cX12_share 77 = .ok (.lload 5, 2) := by decide +kernel
theorem dX12_share_79 : decode cX12_share 79 = .ok (.lconst 0, 1) := by decide +kernel
theorem dX12_share_80 : decode cX12_share 80 = .ok (.lcmp, 1) := by decide +kernel
theorem dX12_share_81 : decode cX12_share 81 = .ok (.ifCond .ne 7, 3) := by decide +kernel
theorem dX12_share_84 : decode cX12_share 84 = .ok (.iconst 0, 1) := by decide +kernel
theorem dX12_share_85 : decode cX12_share 85 = .ok (.goto 12, 3) := by decide +kernel
theorem dX12_share_97 : decode cX12_share 97 = .ok (.ireturn, 1) := by decide +kernel
theorem dX12_share_35 : decode cX12_share 35 = .ok (.ldc2_w 429, 3) := by decide +kernel
theorem dX12_share_38 : decode cX12_share 38 = .ok (.lconst 1, 1) := by decide +kernel
theorem dX12_share_39 : decode cX12_share 39 = .ok (.aload_n 0, 1) := by decide +kernel
theorem dX12_share_40 : decode cX12_share 40 = .ok (.iload 7, 2) := by decide +kernel
theorem dX12_share_42 : decode cX12_share 42 = .ok (.invokevirtual 409, 3) := by decide +kernel
theorem dX12_share_45 : decode cX12_share 45 = .ok (.ladd, 1) := by decide +kernel
theorem dX12_share_46 : decode cX12_share 46 = .ok (.ldiv, 1) := by decide +kernel
theorem dX12_sure_0 : decode cX12_sure 0 = .ok (.aload_n 0, 1) := by decide +kernel
theorem dX12_sure_1 : decode cX12_sure 1 = .ok (.iload_n 1, 1) := by decide +kernel
theorem dX12_sure_2 : decode cX12_sure 2 = .ok (.invokevirtual 361, 3) := by decide +kernel
theorem dX12_sure_5 : decode cX12_sure 5 = .ok (.ifCond .ne 7, 3) := by decide +kernel
theorem dX12_sure_12 : decode cX12_sure 12 = .ok (.aload_n 0, 1) := by decide +kernel
theorem dX12_sure_13 : decode cX12_sure 13 = .ok (.iconst 1, 1) := by decide +kernel
theorem dX12_sure_14 : decode cX12_sure 14 = .ok (.invokevirtual 413, 3) := by decide +kernel
theorem dX12_sure_17 : decode cX12_sure 17 = .ok (.istore_n 2, 1) := by decide +kernel
theorem dX12_sure_18 : decode cX12_sure 18 = .ok (.aload_n 0, 1) := by decide +kernel
theorem dX12_sure_19 : decode cX12_sure 19 = .ok (.getfield 106, 3) := by decide +kernel
theorem dX12_sure_22 : decode cX12_sure 22 = .ok (.iconst 0, 1) := by decide +kernel
theorem dX12_sure_23 : decode cX12_sure 23 = .ok (.laload, 1) := by decide +kernel
theorem dX12_sure_24 : decode cX12_sure 24 = .ok (.lstore_n 3, 1) := by decide +kernel
theorem dX12_sure_25 : decode cX12_sure 25 = .ok (.aload_n 0, 1) := by decide +kernel
theorem dX12_sure_26 : decode cX12_sure 26 = .ok (.aload_n 0, 1) := by decide +kernel
theorem dX12_sure_27 : decode cX12_sure 27 = .ok (.getfield 109, 3) := by decide +kernel
theorem dX12_sure_30 : decode cX12_sure 30 = .ok (.iconst 0, 1) := by decide +kernel
theorem dX12_sure_31 : decode cX12_sure 31 = .ok (.iaload, 1) := by decide +kernel
theorem dX12_sure_32 : decode cX12_sure 32 = .ok (.invokevirtual 403, 3) := by decide +kernel
theorem dX12_sure_35 : decode cX12_sure 35 = .ok (.aload_n 0, 1) := by decide +kernel
theorem dX12_sure_36 : decode cX12_sure 36 = .ok (.getfield 103, 3) := by decide +kernel
theorem dX12_sure_39 : decode cX12_sure 39 = .ok (.iload_n 1, 1) := by decide +kernel
theorem dX12_sure_40 : decode cX12_sure 40 = .ok (.iaload, 1) := by decide +kernel
theorem dX12_sure_41 : decode cX12_sure 41 = .ok (.istore 5, 2) := by decide +kernel
theorem dX12_sure_43 : decode cX12_sure 43 = .ok (.ldc2_w 384, 3) := by decide +kernel
theorem dX12_sure_46 : decode cX12_sure 46 = .ok (.lstore 6, 2) := by decide +kernel
theorem dX12_sure_48 : decode cX12_sure 48 = .ok (.iconst 0, 1) := by decide +kernel
theorem dX12_sure_49 : decode cX12_sure 49 = .ok (.istore 8, 2) := by decide +kernel
theorem dX12_sure_51 : decode cX12_sure 51 = .ok (.iload 8, 2) := by decide +kernel
theorem dX12_sure_53 : decode cX12_sure 53 = .ok (.aload_n 0, 1) := by decide +kernel
theorem dX12_sure_54 : decode cX12_sure 54 = .ok (.invokevirtual 406, 3) := by decide +kernel
theorem dX12_sure_57 : decode cX12_sure 57 = .ok (.if_icmp .ge 47, 3) := by decide +kernel
theorem dX12_sure_104 : decode cX12_sure 104 = .ok (.lload 6, 2) := by decide +kernel
theorem dX12_sure_106 : decode cX12_sure 106 = .ok (.lload_n 3, 1) := by decide +kernel
theorem dX12_sure_107 : decode cX12_sure 107 = .ok (.lsub, 1) := by decide +kernel
theorem dX12_sure_108 : decode cX12_sure 108 = .ok (.lreturn, 1) := by decide +kernel
theorem dX12_sure_60 : decode cX12_sure 60 = .ok (.aload_n 0, 1) := by decide +kernel
theorem dX12_sure_61 : decode cX12_sure 61 = .ok (.iload 8, 2) := by decide +kernel
theorem dX12_sure_63 : decode cX12_sure 63 = .ok (.invokevirtual 409, 3) := by decide +kernel
theorem dX12_sure_66 : decode cX12_sure 66 = .ok (.lstore 9, 2) := by decide +kernel
theorem dX12_sure_68 : decode cX12_sure 68 = .ok (.aload_n 0, 1) := by decide +kernel
theorem dX12_sure_69 : decode cX12_sure 69 = .ok (.getfield 103, 3) := by decide +kernel
theorem dX12_sure_72 : decode cX12_sure 72 = .ok (.iload_n 1, 1) := by decide +kernel
theorem dX12_sure_73 : decode cX12_sure 73 = .ok (.iaload, 1) := by decide +kernel
theorem dX12_sure_74 : decode cX12_sure 74 = .ok (.iload 5, 2) := by decide +kernel
theorem dX12_sure_76 : decode cX12_sure 76 = .ok (.if_icmp .eq 22, 3) := by decide +kernel
theorem dX12_sure_98 : decode cX12_sure 98 = .ok (.iinc 8 1, 3) := by decide +kernel
theorem dX12_sure_101 : decode cX12_sure 101 = .ok (.goto (-50), 3) := by decide +kernel
theorem dX12_sure_79 : decode cX12_sure 79 = .ok (.lload 6, 2) := by decide +kernel
theorem dX12_sure_81 : decode cX12_sure 81 = .ok (.lconst 0, 1) := by decide +kernel
theorem dX12_sure_82 : decode cX12_sure 82 = .ok (.lcmp, 1) := by decide +kernel
theorem dX12_sure_83 : decode cX12_sure 83 = .ok (.ifCond .lt 11, 3) := by decide +kernel
theorem dX12_sure_94 : decode cX12_sure 94 = .ok (.lload 9, 2) := by decide +kernel
theorem dX12_sure_96 : decode cX12_sure 96 = .ok (.lstore 6, 2) := by decide +kernel
theorem dX12_sure_86 : decode cX12_sure 86 = .ok (.lload 9, 2) := by decide +kernel
theorem dX12_sure_88 : decode cX12_sure 88 = .ok (.lload 6, 2) := by decide +kernel
theorem dX12_sure_90 : decode cX12_sure 90 = .ok (.lcmp, 1) := by decide +kernel
theorem dX12_sure_91 : decode cX12_sure 91 = .ok (.ifCond .ge 7, 3) := by decide +kernel
theorem dX12_sure_8 : decode cX12_sure 8 = .ok (.ldc2_w 384, 3) := by decide +kernel
theorem dX12_sure_11 : decode cX12_sure 11 = .ok (.lreturn, 1) := by decide +kernel
theorem dX12_lead_0 : decode cX12_lead 0 = .ok (.iload_n 1, 1) := by decide +kernel
theorem dX12_lead_1 : decode cX12_lead 1 = .ok (.i2l, 1) := by decide +kernel
theorem dX12_lead_2 : decode cX12_lead 2 = .ok (.lconst 1, 1) := by decide +kernel
theorem dX12_lead_3 : decode cX12_lead 3 = .ok (.ldc2_w 440, 3) := by decide +kernel
theorem dX12_lead_6 : decode cX12_lead 6 = .ok (.invokestatic 191, 3) := by decide +kernel
theorem dX12_lead_9 : decode cX12_lead 9 = .ok (.ifCond .ne 5, 3) := by decide +kernel
theorem dX12_lead_14 : decode cX12_lead 14 = .ok (.iconst 0, 1) := by decide +kernel
theorem dX12_lead_15 : decode cX12_lead 15 = .ok (.istore_n 2, 1) := by decide +kernel
theorem dX12_lead_16 : decode cX12_lead 16 = .ok (.iload_n 2, 1) := by decide +kernel
theorem dX12_lead_17 : decode cX12_lead 17 = .ok (.iload_n 1, 1) := by decide +kernel
theorem dX12_lead_18 : decode cX12_lead 18 = .ok (.if_icmp .ge 40, 3) := by decide +kernel
theorem dX12_lead_58 : decode cX12_lead 58 = .ok (.iload_n 2, 1) := by decide +kernel
theorem dX12_lead_59 : decode cX12_lead 59 = .ok (.ireturn, 1) := by decide +kernel
theorem dX12_lead_21 : decode cX12_lead 21 = .ok (.aload_n 0, 1) := by decide +kernel
theorem dX12_lead_22 : decode cX12_lead 22 = .ok (.invokevirtual 442, 3) := by decide +kernel
theorem dX12_isStep_0 : decode cX12_isStep 0 = .ok (.aload_n 0, 1) := by decide +kernel
theorem dX12_isStep_1 : decode cX12_isStep 1 = .ok (.getfield 349, 3) := by decide +kernel
theorem dX12_isStep_4 : decode cX12_isStep 4 = .ok (.sipush 200, 3) := by decide +kernel
theorem dX12_isStep_7 : decode cX12_isStep 7 = .ok (.if_icmp .ne 5, 3) := by decide +kernel
theorem dX12_isStep_12 : decode cX12_isStep 12 = .ok (.iconst 0, 1) := by decide +kernel
theorem dX12_isStep_13 : decode cX12_isStep 13 = .ok (.istore_n 1, 1) := by decide +kernel
theorem dX12_isStep_14 : decode cX12_isStep 14 = .ok (.iload_n 1, 1) := by decide +kernel
theorem dX12_isStep_15 : decode cX12_isStep 15 = .ok (.aload_n 0, 1) := by decide +kernel
theorem dX12_isStep_16 : decode cX12_isStep 16 = .ok (.getfield 237, 3) := by decide +kernel
theorem dX12_isStep_19 : decode cX12_isStep 19 = .ok (.if_icmp .ge 123, 3) := by decide +kernel
theorem dX12_isStep_142 : decode cX12_isStep 142 = .ok (.iconst 0, 1) := by decide +kernel
theorem dX12_isStep_143 : decode cX12_isStep 143 = .ok (.ireturn, 1) := by decide +kernel
theorem dX12_isStep_22 : decode cX12_isStep 22 = .ok (.iconst 0, 1) := by decide +kernel
theorem dX12_isStep_23 : decode cX12_isStep 23 = .ok (.istore_n 2, 1) := by decide +kernel
theorem dX12_isStep_24 : decode cX12_isStep 24 = .ok (.iload_n 2, 1) := by decide +kernel
theorem dX12_isStep_25 : decode cX12_isStep 25 = .ok (.aload_n 0, 1) := by decide +kernel
theorem dX12_isStep_26 : decode cX12_isStep 26 = .ok (.getfield 237, 3) := by decide +kernel
theorem dX12_isStep_29 : decode cX12_isStep 29 = .ok (.if_icmp .ge 107, 3) := by decide +kernel
theorem dX12_isStep_32 : decode cX12_isStep 32 = .ok (.aload_n 0, 1) := by decide +kernel
theorem dX12_isStep_33 : decode cX12_isStep 33 = .ok (.iload_n 2, 1) := by decide +kernel
theorem dX12_isStep_34 : decode cX12_isStep 34 = .ok (.iload_n 2, 1) := by decide +kernel
theorem dX12_isStep_35 : decode cX12_isStep 35 = .ok (.aload_n 0, 1) := by decide +kernel
theorem dX12_isStep_36 : decode cX12_isStep 36 = .ok (.getfield 97, 3) := by decide +kernel
theorem dX12_isStep_39 : decode cX12_isStep 39 = .ok (.invokevirtual 334, 3) := by decide +kernel
theorem dX12_isStep_42 : decode cX12_isStep 42 = .ok (.istore_n 3, 1) := by decide +kernel
theorem dX12_isStep_43 : decode cX12_isStep 43 = .ok (.iload_n 1, 1) := by decide +kernel
theorem dX12_isStep_44 : decode cX12_isStep 44 = .ok (.iload_n 2, 1) := by decide +kernel
theorem dX12_isStep_45 : decode cX12_isStep 45 = .ok (.if_icmp .eq 85, 3) := by decide +kernel
theorem dX12_isStep_130 : decode cX12_isStep 130 = .ok (.iinc 2 1, 3) := by decide +kernel
theorem dX12_isStep_133 : decode cX12_isStep 133 = .ok (.goto (-109), 3) := by decide +kernel
theorem dX12_isStep_136 : decode cX12_isStep 136 = .ok (.iinc 1 1, 3) := by decide +kernel
theorem dX12_isStep_139 : decode cX12_isStep 139 = .ok (.goto (-125), 3) := by decide +kernel
theorem dX12_isStep_48 : decode cX12_isStep 48 = .ok (.iload_n 3, 1) := by decide +kernel
theorem dX12_isStep_49 : decode cX12_isStep 49 = .ok (.ifCond .ne 6, 3) := by decide +kernel
theorem dX12_isStep_55 : decode cX12_isStep 55 = .ok (.aload_n 0, 1) := by decide +kernel
theorem dX12_isStep_56 : decode cX12_isStep 56 = .ok (.iload_n 1, 1) := by decide +kernel
theorem dX12_isStep_57 : decode cX12_isStep 57 = .ok (.iload_n 2, 1) := by decide +kernel
theorem dX12_isStep_58 : decode cX12_isStep 58 = .ok (.aload_n 0, 1) := by decide +kernel
theorem dX12_isStep_59 : decode cX12_isStep 59 = .ok (.getfield 97, 3) := by decide +kernel
theorem dX12_isStep_62 : decode cX12_isStep 62 = .ok (.invokevirtual 334, 3) := by decide +kernel
theorem dX12_isStep_65 : decode cX12_isStep 65 = .ok (.iload_n 3, 1) := by decide +kernel
theorem dX12_isStep_66 : decode cX12_isStep 66 = .ok (.invokestatic 433, 3) := by decide +kernel
theorem dX12_nearestTo_0 : decode cX12_nearestTo 0 = .ok (.iload_n 0, 1) := by decide +kernel
theorem dX12_nearestTo_1 : decode cX12_nearestTo 1 = .ok (.ifCond .ge 8, 3) := by decide +kernel
theorem dX12_nearestTo_9 : decode cX12_nearestTo 9 = .ok (.iload_n 0, 1) := by decide +kernel
theorem dX12_nearestTo_10 : decode cX12_nearestTo 10 = .ok (.istore_n 2, 1) := by decide +kernel
theorem dX12_nearestTo_11 : decode cX12_nearestTo 11 = .ok (.iload_n 2, 1) := by decide +kernel
theorem dX12_nearestTo_12 : decode cX12_nearestTo 12 = .ok (.iload_n 1, 1) := by decide +kernel
theorem dX12_nearestTo_13 : decode cX12_nearestTo 13 = .ok (.idiv, 1) := by decide +kernel
theorem dX12_nearestTo_14 : decode cX12_nearestTo 14 = .ok (.istore_n 3, 1) := by decide +kernel
theorem dX12_nearestTo_15 : decode cX12_nearestTo 15 = .ok (.ldc2_w 431, 3) := by decide +kernel
theorem dX12_nearestTo_18 : decode cX12_nearestTo 18 = .ok (.iload_n 2, 1) := by decide +kernel
theorem dX12_nearestTo_19 : decode cX12_nearestTo 19 = .ok (.iload_n 1, 1) := by decide +kernel
theorem dX12_nearestTo_20 : decode cX12_nearestTo 20 = .ok (.irem, 1) := by decide +kernel
theorem dX12_nearestTo_21 : decode cX12_nearestTo 21 = .ok (.i2l, 1) := by decide +kernel
theorem dX12_nearestTo_22 : decode cX12_nearestTo 22 = .ok (.lmul, 1) := by decide +kernel
theorem dX12_nearestTo_23 : decode cX12_nearestTo 23 = .ok (.iload_n 1, 1) := by decide +kernel
theorem dX12_nearestTo_24 : decode cX12_nearestTo 24 = .ok (.i2l, 1) := by decide +kernel
theorem dX12_nearestTo_25 : decode cX12_nearestTo 25 = .ok (.lcmp, 1) := by decide +kernel
theorem dX12_nearestTo_26 : decode cX12_nearestTo 26 = .ok (.ifCond .le 6, 3) := by decide +kernel
theorem dX12_nearestTo_32 : decode cX12_nearestTo 32 = .ok (.iload_n 0, 1) := by decide +kernel
theorem dX12_nearestTo_33 : decode cX12_nearestTo 33 = .ok (.ifCond .ge 8, 3) := by decide +kernel
theorem dX12_nearestTo_41 : decode cX12_nearestTo 41 = .ok (.iload_n 3, 1) := by decide +kernel
theorem dX12_nearestTo_42 : decode cX12_nearestTo 42 = .ok (.ireturn, 1) := by decide +kernel
theorem dX12_nearestTo_29 : decode cX12_nearestTo 29 = .ok (.iinc 3 1, 3) := by decide +kernel
theorem dX12_nearestTo_4 : decode cX12_nearestTo 4 = .ok (.iload_n 0, 1) := by decide +kernel
theorem dX12_nearestTo_5 : decode cX12_nearestTo 5 = .ok (.ineg, 1) := by decide +kernel
theorem dX12_nearestTo_6 : decode cX12_nearestTo 6 = .ok (.goto 4, 3) := by decide +kernel
theorem dX12_nearestTo_36 : decode cX12_nearestTo 36 = .ok (.iload_n 3, 1) := by decide +kernel
theorem dX12_nearestTo_37 : decode cX12_nearestTo 37 = .ok (.ineg, 1) := by decide +kernel
theorem dX12_nearestTo_38 : decode cX12_nearestTo 38 = .ok (.goto 4, 3) := by decide +kernel
theorem dX12_isStep_69 : decode cX12_isStep 69 = .ok (.istore 4, 2) := by decide +kernel
theorem dX12_isStep_71 : decode cX12_isStep 71 = .ok (.iload 4, 2) := by decide +kernel
theorem dX12_isStep_73 : decode cX12_isStep 73 = .ok (.ifCond .ne 6, 3) := by decide +kernel
theorem dX12_isStep_79 : decode cX12_isStep 79 = .ok (.aload_n 0, 1) := by decide +kernel
theorem dX12_isStep_80 : decode cX12_isStep 80 = .ok (.iload_n 1, 1) := by decide +kernel
theorem dX12_isStep_81 : decode cX12_isStep 81 = .ok (.iload_n 2, 1) := by decide +kernel
theorem dX12_isStep_82 : decode cX12_isStep 82 = .ok (.iload 4, 2) := by decide +kernel
theorem dX12_isStep_84 : decode cX12_isStep 84 = .ok (.invokevirtual 436, 3) := by decide +kernel
theorem dX12_goes_0 : decode cX12_goes 0 = .ok (.iconst 0, 1) := by decide +kernel
theorem dX12_goes_1 : decode cX12_goes 1 = .ok (.istore 4, 2) := by decide +kernel
theorem dX12_goes_3 : decode cX12_goes 3 = .ok (.iload 4, 2) := by decide +kernel
theorem dX12_goes_5 : decode cX12_goes 5 = .ok (.aload_n 0, 1) := by decide +kernel
theorem dX12_goes_6 : decode cX12_goes 6 = .ok (.getfield 240, 3) := by decide +kernel
