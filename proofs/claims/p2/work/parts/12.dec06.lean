theorem dX3_tryFound_27 : decode cX3_tryFound 27 = .ok (.ldc2_w 175, 3) := by decide +kernel
theorem dX3_tryFound_30 : decode cX3_tryFound 30 = .ok (.aload_n 1, 1) := by decide +kernel
theorem dX3_tryFound_31 : decode cX3_tryFound 31 = .ok (.getfield 77, 3) := by decide +kernel
theorem dX3_tryFound_34 : decode cX3_tryFound 34 = .ok (.i2l, 1) := by decide +kernel
theorem dX3_tryFound_35 : decode cX3_tryFound 35 = .ok (.lmul, 1) := by decide +kernel
theorem dX3_tryFound_36 : decode cX3_tryFound 36 = .ok (.aload_n 0, 1) := by decide +kernel
theorem dX3_tryFound_37 : decode cX3_tryFound 37 = .ok (.getfield 22, 3) := by decide +kernel
theorem dX3_tryFound_40 : decode cX3_tryFound 40 = .ok (.iload_n 2, 1) := by decide +kernel
theorem dX3_tryFound_41 : decode cX3_tryFound 41 = .ok (.iaload, 1) := by decide +kernel
theorem dX3_tryFound_42 : decode cX3_tryFound 42 = .ok (.aload_n 0, 1) := by decide +kernel
theorem dX3_tryFound_43 : decode cX3_tryFound 43 = .ok (.getfield 28, 3) := by decide +kernel
theorem dX3_tryFound_46 : decode cX3_tryFound 46 = .ok (.iload_n 2, 1) := by decide +kernel
theorem dX3_tryFound_47 : decode cX3_tryFound 47 = .ok (.iaload, 1) := by decide +kernel
theorem dX3_tryFound_48 : decode cX3_tryFound 48 = .ok (.isub, 1) := by decide +kernel
theorem dX3_tryFound_49 : decode cX3_tryFound 49 = .ok (.i2l, 1) := by decide +kernel
theorem dX3_tryFound_50 : decode cX3_tryFound 50 = .ok (.lmul, 1) := by decide +kernel
theorem dX3_tryFound_51 : decode cX3_tryFound 51 = .ok (.invokevirtual 171, 3) := by decide +kernel
theorem dX3_tryFound_54 : decode cX3_tryFound 54 = .ok (.aload_n 0, 1) := by decide +kernel
theorem dX3_tryFound_55 : decode cX3_tryFound 55 = .ok (.getfield 28, 3) := by decide +kernel
theorem dX3_tryFound_58 : decode cX3_tryFound 58 = .ok (.iload_n 2, 1) := by decide +kernel
theorem dX3_tryFound_59 : decode cX3_tryFound 59 = .ok (.aload_n 0, 1) := by decide +kernel
theorem dX3_tryFound_60 : decode cX3_tryFound 60 = .ok (.getfield 22, 3) := by decide +kernel
theorem dX3_tryFound_63 : decode cX3_tryFound 63 = .ok (.iload_n 2, 1) := by decide +kernel
theorem dX3_tryFound_64 : decode cX3_tryFound 64 = .ok (.iaload, 1) := by decide +kernel
theorem dX3_tryFound_65 : decode cX3_tryFound 65 = .ok (.iastore, 1) := by decide +kernel
theorem dX3_leastOfAll_0 : decode cX3_leastOfAll 0 = .ok (.aload_n 0, 1) := by decide +kernel
theorem dX3_leastOfAll_1 : decode cX3_leastOfAll 1 = .ok (.getfield 45, 3) := by decide +kernel
theorem dX3_leastOfAll_4 : decode cX3_leastOfAll 4 = .ok (.lconst 0, 1) := by decide +kernel
theorem dX3_leastOfAll_5 : decode cX3_leastOfAll 5 = .ok (.lcmp, 1) := by decide +kernel
theorem dX3_leastOfAll_6 : decode cX3_leastOfAll 6 = .ok (.ifCond .lt 8, 3) := by decide +kernel
theorem dX3_leastOfAll_14 : decode cX3_leastOfAll 14 = .ok (.iconst 3, 1) := by decide +kernel
theorem dX3_leastOfAll_15 : decode cX3_leastOfAll 15 = .ok (.aload_n 1, 1) := by decide +kernel
theorem dX3_leastOfAll_16 : decode cX3_leastOfAll 16 = .ok (.getfield 77, 3) := by decide +kernel
theorem dX3_leastOfAll_19 : decode cX3_leastOfAll 19 = .ok (.imul, 1) := by decide +kernel
theorem dX3_leastOfAll_20 : decode cX3_leastOfAll 20 = .ok (.istore_n 2, 1) := by decide +kernel
theorem dX3_leastOfAll_21 : decode cX3_leastOfAll 21 = .ok (.aload_n 0, 1) := by decide +kernel
theorem dX3_leastOfAll_22 : decode cX3_leastOfAll 22 = .ok (.getfield 12, 3) := by decide +kernel
theorem dX3_leastOfAll_25 : decode cX3_leastOfAll 25 = .ok (.aload_n 1, 1) := by decide +kernel
theorem dX3_leastOfAll_26 : decode cX3_leastOfAll 26 = .ok (.invokevirtual 51, 3) := by decide +kernel
theorem dX3_leastOfAll_29 : decode cX3_leastOfAll 29 = .ok (.aload_n 0, 1) := by decide +kernel
theorem dX3_leastOfAll_30 : decode cX3_leastOfAll 30 = .ok (.getfield 12, 3) := by decide +kernel
theorem dX3_leastOfAll_33 : decode cX3_leastOfAll 33 = .ok (.iconst 1, 1) := by decide +kernel
theorem dX3_leastOfAll_34 : decode cX3_leastOfAll 34 = .ok (.iload_n 2, 1) := by decide +kernel
theorem dX3_leastOfAll_35 : decode cX3_leastOfAll 35 = .ok (.isub, 1) := by decide +kernel
theorem dX3_leastOfAll_36 : decode cX3_leastOfAll 36 = .ok (.iconst 2, 1) := by decide +kernel
theorem dX3_leastOfAll_37 : decode cX3_leastOfAll 37 = .ok (.iload_n 2, 1) := by decide +kernel
theorem dX3_leastOfAll_38 : decode cX3_leastOfAll 38 = .ok (.invokevirtual 116, 3) := by decide +kernel
theorem dX3_leastOfAll_41 : decode cX3_leastOfAll 41 = .ok (.aload_n 0, 1) := by decide +kernel
theorem dX3_leastOfAll_42 : decode cX3_leastOfAll 42 = .ok (.getfield 12, 3) := by decide +kernel
theorem dX3_leastOfAll_45 : decode cX3_leastOfAll 45 = .ok (.invokevirtual 86, 3) := by decide +kernel
theorem dX3_leastOfAll_48 : decode cX3_leastOfAll 48 = .ok (.aload_n 1, 1) := by decide +kernel
theorem dX3_leastOfAll_49 : decode cX3_leastOfAll 49 = .ok (.invokestatic 120, 3) := by decide +kernel
theorem dX3_leastThinkable_0 : decode cX3_leastThinkable 0 = .ok (.iconst 0, 1) := by decide +kernel
theorem dX3_leastThinkable_1 : decode cX3_leastThinkable 1 = .ok (.istore_n 1, 1) := by decide +kernel
theorem dX3_leastThinkable_2 : decode cX3_leastThinkable 2 = .ok (.iconst 0, 1) := by decide +kernel
theorem dX3_leastThinkable_3 : decode cX3_leastThinkable 3 = .ok (.istore_n 2, 1) := by decide +kernel
theorem dX3_leastThinkable_4 : decode cX3_leastThinkable 4 = .ok (.iload_n 2, 1) := by decide +kernel
theorem dX3_leastThinkable_5 : decode cX3_leastThinkable 5 = .ok (.aload_n 0, 1) := by decide +kernel
theorem dX3_leastThinkable_6 : decode cX3_leastThinkable 6 = .ok (.getfield 130, 3) := by decide +kernel
theorem dX3_leastThinkable_9 : decode cX3_leastThinkable 9 = .ok (.if_icmp .ge 57, 3) := by decide +kernel
theorem dX3_leastThinkable_66 : decode cX3_leastThinkable 66 = .ok (.iload_n 1, 1) := by decide +kernel
theorem dX3_leastThinkable_67 : decode cX3_leastThinkable 67 = .ok (.i2l, 1) := by decide +kernel
theorem dX3_leastThinkable_68 : decode cX3_leastThinkable 68 = .ok (.lreturn, 1) := by decide +kernel
theorem dX3_leastThinkable_12 : decode cX3_leastThinkable 12 = .ok (.aload_n 0, 1) := by decide +kernel
theorem dX3_leastThinkable_13 : decode cX3_leastThinkable 13 = .ok (.getfield 77, 3) := by decide +kernel
theorem dX3_leastThinkable_16 : decode cX3_leastThinkable 16 = .ok (.iconst 2, 1) := by decide +kernel
theorem dX3_leastThinkable_17 : decode cX3_leastThinkable 17 = .ok (.irem, 1) := by decide +kernel
theorem dX3_leastThinkable_18 : decode cX3_leastThinkable 18 = .ok (.ifCond .ne 48, 3) := by decide +kernel
theorem dX3_leastThinkable_21 : decode cX3_leastThinkable 21 = .ok (.iconst 0, 1) := by decide +kernel
theorem dX3_leastThinkable_22 : decode cX3_leastThinkable 22 = .ok (.istore_n 3, 1) := by decide +kernel
theorem dX3_leastThinkable_23 : decode cX3_leastThinkable 23 = .ok (.iconst 0, 1) := by decide +kernel
theorem dX3_leastThinkable_24 : decode cX3_leastThinkable 24 = .ok (.istore 4, 2) := by decide +kernel
theorem dX3_leastThinkable_26 : decode cX3_leastThinkable 26 = .ok (.iload 4, 2) := by decide +kernel
theorem dX3_leastThinkable_28 : decode cX3_leastThinkable 28 = .ok (.aload_n 0, 1) := by decide +kernel
theorem dX3_leastThinkable_29 : decode cX3_leastThinkable 29 = .ok (.getfield 79, 3) := by decide +kernel
theorem dX3_leastThinkable_32 : decode cX3_leastThinkable 32 = .ok (.if_icmp .ge 22, 3) := by decide +kernel
theorem dX3_leastThinkable_54 : decode cX3_leastThinkable 54 = .ok (.iload_n 1, 1) := by decide +kernel
theorem dX3_leastThinkable_55 : decode cX3_leastThinkable 55 = .ok (.iload_n 3, 1) := by decide +kernel
theorem dX3_leastThinkable_56 : decode cX3_leastThinkable 56 = .ok (.iconst 1, 1) := by decide +kernel
theorem dX3_leastThinkable_57 : decode cX3_leastThinkable 57 = .ok (.iand, 1) := by decide +kernel
theorem dX3_leastThinkable_58 : decode cX3_leastThinkable 58 = .ok (.iadd, 1) := by decide +kernel
theorem dX3_leastThinkable_59 : decode cX3_leastThinkable 59 = .ok (.istore_n 1, 1) := by decide +kernel
theorem dX3_leastThinkable_60 : decode cX3_leastThinkable 60 = .ok (.iinc 2 1, 3) := by decide +kernel
theorem dX3_leastThinkable_63 : decode cX3_leastThinkable 63 = .ok (.goto (-59), 3) := by decide +kernel
theorem dX3_leastThinkable_35 : decode cX3_leastThinkable 35 = .ok (.iload_n 3, 1) := by decide +kernel
theorem dX3_leastThinkable_36 : decode cX3_leastThinkable 36 = .ok (.aload_n 0, 1) := by decide +kernel
theorem dX3_leastThinkable_37 : decode cX3_leastThinkable 37 = .ok (.getfield 133, 3) := by decide +kernel
theorem dX3_leastThinkable_40 : decode cX3_leastThinkable 40 = .ok (.iload_n 2, 1) := by decide +kernel
theorem dX3_leastThinkable_41 : decode cX3_leastThinkable 41 = .ok (.iload 4, 2) := by decide +kernel
theorem dX3_leastThinkable_43 : decode cX3_leastThinkable 43 = .ok (.invokevirtual 137, 3) := by decide +kernel
theorem dX3_leastThinkable_46 : decode cX3_leastThinkable 46 = .ok (.iadd, 1) := by decide +kernel
theorem dX3_leastThinkable_47 : decode cX3_leastThinkable 47 = .ok (.istore_n 3, 1) := by decide +kernel
theorem dX3_leastThinkable_48 : decode cX3_leastThinkable 48 = .ok (.iinc 4 1, 3) := by decide +kernel
theorem dX3_leastThinkable_51 : decode cX3_leastThinkable 51 = .ok (.goto (-25), 3) := by decide +kernel
theorem dX3_leastOfAll_52 : decode cX3_leastOfAll 52 = .ok (.lstore_n 3, 1) := by decide +kernel
theorem dX3_leastOfAll_53 : decode cX3_leastOfAll 53 = .ok (.aload_n 1, 1) := by decide +kernel
theorem dX3_leastOfAll_54 : decode cX3_leastOfAll 54 = .ok (.getfield 77, 3) := by decide +kernel
theorem dX3_leastOfAll_57 : decode cX3_leastOfAll 57 = .ok (.iconst 2, 1) := by decide +kernel
theorem dX3_leastOfAll_58 : decode cX3_leastOfAll 58 = .ok (.irem, 1) := by decide +kernel
theorem dX3_leastOfAll_59 : decode cX3_leastOfAll 59 = .ok (.iconst 1, 1) := by decide +kernel
theorem dX3_leastOfAll_60 : decode cX3_leastOfAll 60 = .ok (.if_icmp .ne 7, 3) := by decide +kernel
theorem dX3_leastOfAll_67 : decode cX3_leastOfAll 67 = .ok (.ldc2_w 89, 3) := by decide +kernel
theorem dX3_leastOfAll_70 : decode cX3_leastOfAll 70 = .ok (.lstore 5, 2) := by decide +kernel
theorem dX3_leastOfAll_72 : decode cX3_leastOfAll 72 = .ok (.aload_n 0, 1) := by decide +kernel
theorem dX3_leastOfAll_73 : decode cX3_leastOfAll 73 = .ok (.getfield 12, 3) := by decide +kernel
theorem dX3_leastOfAll_76 : decode cX3_leastOfAll 76 = .ok (.invokevirtual 91, 3) := by decide +kernel
theorem dX3_leastOfAll_79 : decode cX3_leastOfAll 79 = .ok (.iconst 1, 1) := by decide +kernel
theorem dX3_leastOfAll_80 : decode cX3_leastOfAll 80 = .ok (.iadd, 1) := by decide +kernel
theorem dX3_leastOfAll_81 : decode cX3_leastOfAll 81 = .ok (.iconst 2, 1) := by decide +kernel
theorem dX3_leastOfAll_82 : decode cX3_leastOfAll 82 = .ok (.idiv, 1) := by decide +kernel
theorem dX3_leastOfAll_83 : decode cX3_leastOfAll 83 = .ok (.istore 7, 2) := by decide +kernel
theorem dX3_leastOfAll_85 : decode cX3_leastOfAll 85 = .ok (.iconst 0, 1) := by decide +kernel
theorem dX3_leastOfAll_86 : decode cX3_leastOfAll 86 = .ok (.istore 8, 2) := by decide +kernel
theorem dX3_leastOfAll_88 : decode cX3_leastOfAll 88 = .ok (.iload 8, 2) := by decide +kernel
theorem dX3_leastOfAll_90 : decode cX3_leastOfAll 90 = .ok (.iload 7, 2) := by decide +kernel
theorem dX3_leastOfAll_92 : decode cX3_leastOfAll 92 = .ok (.if_icmp .ge 45, 3) := by decide +kernel
theorem dX3_leastOfAll_137 : decode cX3_leastOfAll 137 = .ok (.aload_n 0, 1) := by decide +kernel
theorem dX3_leastOfAll_138 : decode cX3_leastOfAll 138 = .ok (.lload 5, 2) := by decide +kernel
theorem dX3_leastOfAll_140 : decode cX3_leastOfAll 140 = .ok (.putfield 45, 3) := by decide +kernel
theorem dX3_leastOfAll_143 : decode cX3_leastOfAll 143 = .ok (.lload 5, 2) := by decide +kernel
theorem dX3_leastOfAll_145 : decode cX3_leastOfAll 145 = .ok (.lreturn, 1) := by decide +kernel
theorem dX3_leastOfAll_95 : decode cX3_leastOfAll 95 = .ok (.lload 5, 2) := by decide +kernel
theorem dX3_leastOfAll_97 : decode cX3_leastOfAll 97 = .ok (.lload_n 3, 1) := by decide +kernel
theorem dX3_leastOfAll_98 : decode cX3_leastOfAll 98 = .ok (.lcmp, 1) := by decide +kernel
theorem dX3_leastOfAll_99 : decode cX3_leastOfAll 99 = .ok (.ifCond .le 38, 3) := by decide +kernel
theorem dX3_leastOfAll_102 : decode cX3_leastOfAll 102 = .ok (.lload 5, 2) := by decide +kernel
theorem dX3_leastOfAll_104 : decode cX3_leastOfAll 104 = .ok (.aload_n 0, 1) := by decide +kernel
theorem dX3_leastOfAll_105 : decode cX3_leastOfAll 105 = .ok (.getfield 12, 3) := by decide +kernel
theorem dX3_leastOfAll_108 : decode cX3_leastOfAll 108 = .ok (.aload_n 0, 1) := by decide +kernel
theorem dX3_leastOfAll_109 : decode cX3_leastOfAll 109 = .ok (.getfield 12, 3) := by decide +kernel
theorem dX3_leastOfAll_112 : decode cX3_leastOfAll 112 = .ok (.iload_n 2, 1) := by decide +kernel
theorem dX3_leastOfAll_113 : decode cX3_leastOfAll 113 = .ok (.invokevirtual 95, 3) := by decide +kernel
theorem dX3_putAhead_0 : decode cX3_putAhead 0 = .ok (.aload_n 0, 1) := by decide +kernel
theorem dX3_putAhead_1 : decode cX3_putAhead 1 = .ok (.getfield 12, 3) := by decide +kernel
theorem dX3_putAhead_4 : decode cX3_putAhead 4 = .ok (.aload_n 1, 1) := by decide +kernel
theorem dX3_putAhead_5 : decode cX3_putAhead 5 = .ok (.invokevirtual 51, 3) := by decide +kernel
theorem dX3_putAhead_8 : decode cX3_putAhead 8 = .ok (.aload_n 0, 1) := by decide +kernel
theorem dX3_putAhead_9 : decode cX3_putAhead 9 = .ok (.aload_n 1, 1) := by decide +kernel
theorem dX3_putAhead_10 : decode cX3_putAhead 10 = .ok (.aload_n 2, 1) := by decide +kernel
theorem dX3_putAhead_11 : decode cX3_putAhead 11 = .ok (.ldc2_w 43, 3) := by decide +kernel
theorem dX3_putAhead_14 : decode cX3_putAhead 14 = .ok (.invokevirtual 55, 3) := by decide +kernel
theorem dX3_refuse_0 : decode cX3_refuse 0 = .ok (.aload_n 0, 1) := by decide +kernel
theorem dX3_refuse_1 : decode cX3_refuse 1 = .ok (.iconst 0, 1) := by decide +kernel
theorem dX3_refuse_2 : decode cX3_refuse 2 = .ok (.putfield 39, 3) := by decide +kernel
theorem dX3_refuse_5 : decode cX3_refuse 5 = .ok (.ldc2_w 43, 3) := by decide +kernel
theorem dX3_refuse_8 : decode cX3_refuse 8 = .ok (.lreturn, 1) := by decide +kernel
