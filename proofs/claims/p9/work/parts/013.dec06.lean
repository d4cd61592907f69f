theorem dX3_better_36 : decode cX3_better 36 = .ok (.iadd, 1) := by decide +kernel
theorem dX3_better_37 : decode cX3_better 37 = .ok (.iconst 1, 1) := by decide +kernel
theorem dX3_better_38 : decode cX3_better 38 = .ok (.if_icmp .le 4, 3) := by decide +kernel
theorem dX3_better_42 : decode cX3_better 42 = .ok (.iload_n 3, 1) := by decide +kernel
theorem dX3_better_43 : decode cX3_better 43 = .ok (.i2l, 1) := by decide +kernel
theorem dX3_better_44 : decode cX3_better 44 = .ok (.iload_n 2, 1) := by decide +kernel
theorem dX3_better_45 : decode cX3_better 45 = .ok (.i2l, 1) := by decide +kernel
theorem dX3_better_46 : decode cX3_better 46 = .ok (.lmul, 1) := by decide +kernel
theorem dX3_better_47 : decode cX3_better 47 = .ok (.lstore 4, 2) := by decide +kernel
theorem dX3_better_49 : decode cX3_better 49 = .ok (.lload 4, 2) := by decide +kernel
theorem dX3_better_51 : decode cX3_better 51 = .ok (.ldc2_w 175, 3) := by decide +kernel
theorem dX3_better_54 : decode cX3_better 54 = .ok (.aload_n 0, 1) := by decide +kernel
theorem dX3_better_55 : decode cX3_better 55 = .ok (.getfield 31, 3) := by decide +kernel
theorem dX3_better_58 : decode cX3_better 58 = .ok (.iload_n 1, 1) := by decide +kernel
theorem dX3_better_59 : decode cX3_better 59 = .ok (.laload, 1) := by decide +kernel
theorem dX3_better_60 : decode cX3_better 60 = .ok (.lmul, 1) := by decide +kernel
theorem dX3_better_61 : decode cX3_better 61 = .ok (.lload 4, 2) := by decide +kernel
theorem dX3_better_63 : decode cX3_better 63 = .ok (.aload_n 0, 1) := by decide +kernel
theorem dX3_better_64 : decode cX3_better 64 = .ok (.getfield 12, 3) := by decide +kernel
theorem dX3_better_67 : decode cX3_better 67 = .ok (.getfield 177, 3) := by decide +kernel
theorem dX3_better_70 : decode cX3_better 70 = .ok (.iload_n 1, 1) := by decide +kernel
theorem dX3_better_71 : decode cX3_better 71 = .ok (.iconst 5, 1) := by decide +kernel
theorem dX3_better_72 : decode cX3_better 72 = .ok (.imul, 1) := by decide +kernel
theorem dX3_better_73 : decode cX3_better 73 = .ok (.iload_n 1, 1) := by decide +kernel
theorem dX3_better_74 : decode cX3_better 74 = .ok (.iadd, 1) := by decide +kernel
theorem dX3_better_75 : decode cX3_better 75 = .ok (.laload, 1) := by decide +kernel
theorem dX3_better_76 : decode cX3_better 76 = .ok (.lmul, 1) := by decide +kernel
theorem dX3_better_77 : decode cX3_better 77 = .ok (.ladd, 1) := by decide +kernel
theorem dX3_better_78 : decode cX3_better 78 = .ok (.lmul, 1) := by decide +kernel
theorem dX3_better_79 : decode cX3_better 79 = .ok (.lconst 0, 1) := by decide +kernel
theorem dX3_better_80 : decode cX3_better 80 = .ok (.lcmp, 1) := by decide +kernel
theorem dX3_better_81 : decode cX3_better 81 = .ok (.ifCond .ge 20, 3) := by decide +kernel
theorem dX3_better_101 : decode cX3_better 101 = .ok (.return_, 1) := by decide +kernel
theorem dX3_better_84 : decode cX3_better 84 = .ok (.aload_n 0, 1) := by decide +kernel
theorem dX3_better_85 : decode cX3_better 85 = .ok (.getfield 28, 3) := by decide +kernel
theorem dX3_better_88 : decode cX3_better 88 = .ok (.iload_n 1, 1) := by decide +kernel
theorem dX3_better_89 : decode cX3_better 89 = .ok (.dup2, 1) := by decide +kernel
theorem dX3_better_90 : decode cX3_better 90 = .ok (.iaload, 1) := by decide +kernel
theorem dX3_better_91 : decode cX3_better 91 = .ok (.iload_n 3, 1) := by decide +kernel
theorem dX3_better_92 : decode cX3_better 92 = .ok (.iadd, 1) := by decide +kernel
theorem dX3_better_93 : decode cX3_better 93 = .ok (.iastore, 1) := by decide +kernel
theorem dX3_better_94 : decode cX3_better 94 = .ok (.aload_n 0, 1) := by decide +kernel
theorem dX3_better_95 : decode cX3_better 95 = .ok (.iload_n 1, 1) := by decide +kernel
theorem dX3_better_96 : decode cX3_better 96 = .ok (.lload 4, 2) := by decide +kernel
theorem dX3_better_98 : decode cX3_better 98 = .ok (.invokevirtual 171, 3) := by decide +kernel
theorem dX3_better_11 : decode cX3_better 11 = .ok (.iconst (-1), 1) := by decide +kernel
theorem dX3_better_12 : decode cX3_better 12 = .ok (.goto 4, 3) := by decide +kernel
theorem dX3_fallsTo_66 : decode cX3_fallsTo 66 = .ok (.iinc 8 1, 3) := by decide +kernel
theorem dX3_fallsTo_69 : decode cX3_fallsTo 69 = .ok (.goto (-32), 3) := by decide +kernel
theorem dX3_fallsTo_84 : decode cX3_fallsTo 84 = .ok (.iinc 5 1, 3) := by decide +kernel
theorem dX3_fallsTo_87 : decode cX3_fallsTo 87 = .ok (.goto (-76), 3) := by decide +kernel
theorem dX3_mostOfAll_57 : decode cX3_mostOfAll 57 = .ok (.ifCond .ne 23, 3) := by decide +kernel
theorem dX3_mostOfAll_80 : decode cX3_mostOfAll 80 = .ok (.aload_n 0, 1) := by decide +kernel
theorem dX3_mostOfAll_81 : decode cX3_mostOfAll 81 = .ok (.aload_n 1, 1) := by decide +kernel
theorem dX3_mostOfAll_82 : decode cX3_mostOfAll 82 = .ok (.invokevirtual 159, 3) := by decide +kernel
theorem dX3_nextLetters_0 : decode cX3_nextLetters 0 = .ok (.aload_n 0, 1) := by decide +kernel
theorem dX3_nextLetters_1 : decode cX3_nextLetters 1 = .ok (.getfield 12, 3) := by decide +kernel
theorem dX3_nextLetters_4 : decode cX3_nextLetters 4 = .ok (.getfield 110, 3) := by decide +kernel
theorem dX3_nextLetters_7 : decode cX3_nextLetters 7 = .ok (.istore_n 2, 1) := by decide +kernel
theorem dX3_nextLetters_8 : decode cX3_nextLetters 8 = .ok (.iload_n 2, 1) := by decide +kernel
theorem dX3_nextLetters_9 : decode cX3_nextLetters 9 = .ok (.ifCond .le 50, 3) := by decide +kernel
theorem dX3_nextLetters_59 : decode cX3_nextLetters 59 = .ok (.aload_n 0, 1) := by decide +kernel
theorem dX3_nextLetters_60 : decode cX3_nextLetters 60 = .ok (.getfield 25, 3) := by decide +kernel
theorem dX3_nextLetters_63 : decode cX3_nextLetters 63 = .ok (.iload_n 2, 1) := by decide +kernel
theorem dX3_nextLetters_64 : decode cX3_nextLetters 64 = .ok (.dup2, 1) := by decide +kernel
theorem dX3_nextLetters_65 : decode cX3_nextLetters 65 = .ok (.iaload, 1) := by decide +kernel
theorem dX3_nextLetters_66 : decode cX3_nextLetters 66 = .ok (.iconst 2, 1) := by decide +kernel
theorem dX3_nextLetters_67 : decode cX3_nextLetters 67 = .ok (.iadd, 1) := by decide +kernel
theorem dX3_nextLetters_68 : decode cX3_nextLetters 68 = .ok (.iastore, 1) := by decide +kernel
theorem dX3_nextLetters_69 : decode cX3_nextLetters 69 = .ok (.aload_n 0, 1) := by decide +kernel
theorem dX3_nextLetters_70 : decode cX3_nextLetters 70 = .ok (.iload_n 2, 1) := by decide +kernel
theorem dX3_nextLetters_71 : decode cX3_nextLetters 71 = .ok (.ldc2_w 175, 3) := by decide +kernel
theorem dX3_nextLetters_74 : decode cX3_nextLetters 74 = .ok (.invokevirtual 171, 3) := by decide +kernel
theorem dX3_nextLetters_77 : decode cX3_nextLetters 77 = .ok (.return_, 1) := by decide +kernel
theorem dX3_nextLetters_12 : decode cX3_nextLetters 12 = .ok (.aload_n 0, 1) := by decide +kernel
theorem dX3_nextLetters_13 : decode cX3_nextLetters 13 = .ok (.getfield 25, 3) := by decide +kernel
theorem dX3_nextLetters_16 : decode cX3_nextLetters 16 = .ok (.iload_n 2, 1) := by decide +kernel
theorem dX3_nextLetters_17 : decode cX3_nextLetters 17 = .ok (.iaload, 1) := by decide +kernel
theorem dX3_nextLetters_18 : decode cX3_nextLetters 18 = .ok (.aload_n 1, 1) := by decide +kernel
theorem dX3_nextLetters_19 : decode cX3_nextLetters 19 = .ok (.getfield 77, 3) := by decide +kernel
theorem dX3_nextLetters_22 : decode cX3_nextLetters 22 = .ok (.iconst 1, 1) := by decide +kernel
theorem dX3_nextLetters_23 : decode cX3_nextLetters 23 = .ok (.isub, 1) := by decide +kernel
theorem dX3_nextLetters_24 : decode cX3_nextLetters 24 = .ok (.if_icmp .ne 35, 3) := by decide +kernel
theorem dX3_nextLetters_27 : decode cX3_nextLetters 27 = .ok (.aload_n 0, 1) := by decide +kernel
theorem dX3_nextLetters_28 : decode cX3_nextLetters 28 = .ok (.getfield 25, 3) := by decide +kernel
theorem dX3_nextLetters_31 : decode cX3_nextLetters 31 = .ok (.iload_n 2, 1) := by decide +kernel
theorem dX3_nextLetters_32 : decode cX3_nextLetters 32 = .ok (.iconst 1, 1) := by decide +kernel
theorem dX3_nextLetters_33 : decode cX3_nextLetters 33 = .ok (.aload_n 1, 1) := by decide +kernel
theorem dX3_nextLetters_34 : decode cX3_nextLetters 34 = .ok (.getfield 77, 3) := by decide +kernel
theorem dX3_nextLetters_37 : decode cX3_nextLetters 37 = .ok (.isub, 1) := by decide +kernel
theorem dX3_nextLetters_38 : decode cX3_nextLetters 38 = .ok (.iastore, 1) := by decide +kernel
theorem dX3_nextLetters_39 : decode cX3_nextLetters 39 = .ok (.aload_n 0, 1) := by decide +kernel
theorem dX3_nextLetters_40 : decode cX3_nextLetters 40 = .ok (.iload_n 2, 1) := by decide +kernel
theorem dX3_nextLetters_41 : decode cX3_nextLetters 41 = .ok (.iconst 2, 1) := by decide +kernel
theorem dX3_nextLetters_42 : decode cX3_nextLetters 42 = .ok (.aload_n 0, 1) := by decide +kernel
theorem dX3_nextLetters_43 : decode cX3_nextLetters 43 = .ok (.getfield 25, 3) := by decide +kernel
theorem dX3_nextLetters_46 : decode cX3_nextLetters 46 = .ok (.iload_n 2, 1) := by decide +kernel
theorem dX3_nextLetters_47 : decode cX3_nextLetters 47 = .ok (.iaload, 1) := by decide +kernel
theorem dX3_nextLetters_48 : decode cX3_nextLetters 48 = .ok (.imul, 1) := by decide +kernel
theorem dX3_nextLetters_49 : decode cX3_nextLetters 49 = .ok (.i2l, 1) := by decide +kernel
theorem dX3_nextLetters_50 : decode cX3_nextLetters 50 = .ok (.invokevirtual 171, 3) := by decide +kernel
theorem dX3_nextLetters_53 : decode cX3_nextLetters 53 = .ok (.iinc 2 (-1), 3) := by decide +kernel
theorem dX3_nextLetters_56 : decode cX3_nextLetters 56 = .ok (.goto (-48), 3) := by decide +kernel
theorem dX3_mostOfAll_85 : decode cX3_mostOfAll 85 = .ok (.iinc 5 1, 3) := by decide +kernel
theorem dX3_mostOfAll_88 : decode cX3_mostOfAll 88 = .ok (.goto (-44), 3) := by decide +kernel
theorem dX3_mostOfAll_60 : decode cX3_mostOfAll 60 = .ok (.lload_n 2, 1) := by decide +kernel
theorem dX3_mostOfAll_61 : decode cX3_mostOfAll 61 = .ok (.aload_n 0, 1) := by decide +kernel
theorem dX3_mostOfAll_62 : decode cX3_mostOfAll 62 = .ok (.aload_n 1, 1) := by decide +kernel
theorem dX3_mostOfAll_63 : decode cX3_mostOfAll 63 = .ok (.aload_n 0, 1) := by decide +kernel
theorem dX3_mostOfAll_64 : decode cX3_mostOfAll 64 = .ok (.getfield 25, 3) := by decide +kernel
theorem dX3_mostOfAll_67 : decode cX3_mostOfAll 67 = .ok (.lload_n 2, 1) := by decide +kernel
theorem dX3_mostOfAll_68 : decode cX3_mostOfAll 68 = .ok (.invokevirtual 55, 3) := by decide +kernel
theorem dX3_leastFor_0 : decode cX3_leastFor 0 = .ok (.iconst 2, 1) := by decide +kernel
theorem dX3_leastFor_1 : decode cX3_leastFor 1 = .ok (.aload_n 1, 1) := by decide +kernel
theorem dX3_leastFor_2 : decode cX3_leastFor 2 = .ok (.getfield 77, 3) := by decide +kernel
theorem dX3_leastFor_5 : decode cX3_leastFor 5 = .ok (.imul, 1) := by decide +kernel
theorem dX3_leastFor_6 : decode cX3_leastFor 6 = .ok (.istore 5, 2) := by decide +kernel
theorem dX3_leastFor_8 : decode cX3_leastFor 8 = .ok (.iconst 0, 1) := by decide +kernel
theorem dX3_leastFor_9 : decode cX3_leastFor 9 = .ok (.istore 6, 2) := by decide +kernel
theorem dX3_leastFor_11 : decode cX3_leastFor 11 = .ok (.iload 6, 2) := by decide +kernel
theorem dX3_leastFor_13 : decode cX3_leastFor 13 = .ok (.aload_n 1, 1) := by decide +kernel
theorem dX3_leastFor_14 : decode cX3_leastFor 14 = .ok (.getfield 79, 3) := by decide +kernel
theorem dX3_leastFor_17 : decode cX3_leastFor 17 = .ok (.if_icmp .ge 28, 3) := by decide +kernel
theorem dX3_leastFor_45 : decode cX3_leastFor 45 = .ok (.aload_n 0, 1) := by decide +kernel
theorem dX3_leastFor_46 : decode cX3_leastFor 46 = .ok (.getfield 12, 3) := by decide +kernel
theorem dX3_leastFor_49 : decode cX3_leastFor 49 = .ok (.invokevirtual 86, 3) := by decide +kernel
theorem dX3_leastFor_52 : decode cX3_leastFor 52 = .ok (.ldc2_w 89, 3) := by decide +kernel
theorem dX3_leastFor_55 : decode cX3_leastFor 55 = .ok (.lstore 6, 2) := by decide +kernel
theorem dX3_leastFor_57 : decode cX3_leastFor 57 = .ok (.aload_n 0, 1) := by decide +kernel
theorem dX3_leastFor_58 : decode cX3_leastFor 58 = .ok (.getfield 12, 3) := by decide +kernel
theorem dX3_leastFor_61 : decode cX3_leastFor 61 = .ok (.invokevirtual 91, 3) := by decide +kernel
theorem dX3_leastFor_64 : decode cX3_leastFor 64 = .ok (.istore 8, 2) := by decide +kernel
theorem dX3_leastFor_66 : decode cX3_leastFor 66 = .ok (.iconst 0, 1) := by decide +kernel
theorem dX3_leastFor_67 : decode cX3_leastFor 67 = .ok (.istore 9, 2) := by decide +kernel
theorem dX3_leastFor_69 : decode cX3_leastFor 69 = .ok (.iload 9, 2) := by decide +kernel
theorem dX3_leastFor_71 : decode cX3_leastFor 71 = .ok (.iload 8, 2) := by decide +kernel
theorem dX3_leastFor_73 : decode cX3_leastFor 73 = .ok (.if_icmp .ge 62, 3) := by decide +kernel
theorem dX3_leastFor_135 : decode cX3_leastFor 135 = .ok (.lload 6, 2) := by decide +kernel
theorem dX3_leastFor_137 : decode cX3_leastFor 137 = .ok (.lreturn, 1) := by decide +kernel
theorem dX3_leastFor_76 : decode cX3_leastFor 76 = .ok (.lload 6, 2) := by decide +kernel
theorem dX3_leastFor_78 : decode cX3_leastFor 78 = .ok (.lload_n 3, 1) := by decide +kernel
theorem dX3_leastFor_79 : decode cX3_leastFor 79 = .ok (.lcmp, 1) := by decide +kernel
theorem dX3_leastFor_80 : decode cX3_leastFor 80 = .ok (.ifCond .le 55, 3) := by decide +kernel
theorem dX3_leastFor_83 : decode cX3_leastFor 83 = .ok (.aload_n 0, 1) := by decide +kernel
theorem dX3_leastFor_84 : decode cX3_leastFor 84 = .ok (.getfield 12, 3) := by decide +kernel
theorem dX3_leastFor_87 : decode cX3_leastFor 87 = .ok (.iconst 3, 1) := by decide +kernel
theorem dX3_leastFor_88 : decode cX3_leastFor 88 = .ok (.invokevirtual 95, 3) := by decide +kernel
theorem dX3_leastFor_91 : decode cX3_leastFor 91 = .ok (.istore 10, 2) := by decide +kernel
theorem dX3_leastFor_93 : decode cX3_leastFor 93 = .ok (.aload_n 0, 1) := by decide +kernel
theorem dX3_leastFor_94 : decode cX3_leastFor 94 = .ok (.getfield 12, 3) := by decide +kernel
theorem dX3_leastFor_97 : decode cX3_leastFor 97 = .ok (.iload 10, 2) := by decide +kernel
theorem dX3_leastFor_99 : decode cX3_leastFor 99 = .ok (.invokevirtual 99, 3) := by decide +kernel
theorem dX3_leastFor_102 : decode cX3_leastFor 102 = .ok (.lstore 11, 2) := by decide +kernel
theorem dX3_leastFor_104 : decode cX3_leastFor 104 = .ok (.lload 11, 2) := by decide +kernel
theorem dX3_leastFor_106 : decode cX3_leastFor 106 = .ok (.lload 6, 2) := by decide +kernel
theorem dX3_leastFor_108 : decode cX3_leastFor 108 = .ok (.lcmp, 1) := by decide +kernel
theorem dX3_leastFor_109 : decode cX3_leastFor 109 = .ok (.ifCond .ge 13, 3) := by decide +kernel
theorem dX3_leastFor_122 : decode cX3_leastFor 122 = .ok (.aload_n 0, 1) := by decide +kernel
theorem dX3_leastFor_123 : decode cX3_leastFor 123 = .ok (.getfield 12, 3) := by decide +kernel
theorem dX3_leastFor_126 : decode cX3_leastFor 126 = .ok (.invokevirtual 107, 3) := by decide +kernel
theorem dX3_leastFor_129 : decode cX3_leastFor 129 = .ok (.iinc 9 1, 3) := by decide +kernel
theorem dX3_leastFor_132 : decode cX3_leastFor 132 = .ok (.goto (-63), 3) := by decide +kernel
theorem dX3_leastFor_112 : decode cX3_leastFor 112 = .ok (.lload 11, 2) := by decide +kernel
theorem dX3_leastFor_114 : decode cX3_leastFor 114 = .ok (.lstore 6, 2) := by decide +kernel
theorem dX3_leastFor_116 : decode cX3_leastFor 116 = .ok (.aload_n 0, 1) := by decide +kernel
theorem dX3_leastFor_117 : decode cX3_leastFor 117 = .ok (.iload 10, 2) := by decide +kernel
theorem dX3_leastFor_119 : decode cX3_leastFor 119 = .ok (.invokevirtual 103, 3) := by decide +kernel
theorem dX3_keepFound_0 : decode cX3_keepFound 0 = .ok (.iconst 0, 1) := by decide +kernel
theorem dX3_keepFound_1 : decode cX3_keepFound 1 = .ok (.istore_n 2, 1) := by decide +kernel
theorem dX3_keepFound_2 : decode cX3_keepFound 2 = .ok (.iload_n 2, 1) := by decide +kernel
theorem dX3_keepFound_3 : decode cX3_keepFound 3 = .ok (.aload_n 0, 1) := by decide +kernel
theorem dX3_keepFound_4 : decode cX3_keepFound 4 = .ok (.getfield 12, 3) := by decide +kernel
theorem dX3_keepFound_7 : decode cX3_keepFound 7 = .ok (.getfield 110, 3) := by decide +kernel
theorem dX3_keepFound_10 : decode cX3_keepFound 10 = .ok (.if_icmp .ge 26, 3) := by decide +kernel
theorem dX3_keepFound_36 : decode cX3_keepFound 36 = .ok (.aload_n 0, 1) := by decide +kernel
theorem dX3_keepFound_37 : decode cX3_keepFound 37 = .ok (.getfield 22, 3) := by decide +kernel
theorem dX3_keepFound_40 : decode cX3_keepFound 40 = .ok (.aload_n 0, 1) := by decide +kernel
theorem dX3_keepFound_41 : decode cX3_keepFound 41 = .ok (.getfield 12, 3) := by decide +kernel
theorem dX3_keepFound_44 : decode cX3_keepFound 44 = .ok (.getfield 110, 3) := by decide +kernel
theorem dX3_keepFound_47 : decode cX3_keepFound 47 = .ok (.iload_n 1, 1) := by decide +kernel
theorem dX3_keepFound_48 : decode cX3_keepFound 48 = .ok (.iconst 1, 1) := by decide +kernel
theorem dX3_keepFound_49 : decode cX3_keepFound 49 = .ok (.isub, 1) := by decide +kernel
theorem dX3_keepFound_50 : decode cX3_keepFound 50 = .ok (.iastore, 1) := by decide +kernel
theorem dX3_keepFound_51 : decode cX3_keepFound 51 = .ok (.return_, 1) := by decide +kernel
theorem dX3_keepFound_13 : decode cX3_keepFound 13 = .ok (.aload_n 0, 1) := by decide +kernel
theorem dX3_keepFound_14 : decode cX3_keepFound 14 = .ok (.getfield 22, 3) := by decide +kernel
theorem dX3_keepFound_17 : decode cX3_keepFound 17 = .ok (.iload_n 2, 1) := by decide +kernel
theorem dX3_keepFound_18 : decode cX3_keepFound 18 = .ok (.aload_n 0, 1) := by decide +kernel
theorem dX3_keepFound_19 : decode cX3_keepFound 19 = .ok (.getfield 12, 3) := by decide +kernel
theorem dX3_keepFound_22 : decode cX3_keepFound 22 = .ok (.getfield 113, 3) := by decide +kernel
theorem dX3_keepFound_25 : decode cX3_keepFound 25 = .ok (.iload_n 2, 1) := by decide +kernel
theorem dX3_keepFound_26 : decode cX3_keepFound 26 = .ok (.iaload, 1) := by decide +kernel
theorem dX3_keepFound_27 : decode cX3_keepFound 27 = .ok (.iconst 1, 1) := by decide +kernel
theorem dX3_keepFound_28 : decode cX3_keepFound 28 = .ok (.isub, 1) := by decide +kernel
theorem dX3_keepFound_29 : decode cX3_keepFound 29 = .ok (.iastore, 1) := by decide +kernel
theorem dX3_keepFound_30 : decode cX3_keepFound 30 = .ok (.iinc 2 1, 3) := by decide +kernel
theorem dX3_keepFound_33 : decode cX3_keepFound 33 = .ok (.goto (-31), 3) := by decide +kernel
theorem dX3_leastFor_20 : decode cX3_leastFor 20 = .ok (.aload_n 0, 1) := by decide +kernel
theorem dX3_leastFor_21 : decode cX3_leastFor 21 = .ok (.getfield 12, 3) := by decide +kernel
theorem dX3_leastFor_24 : decode cX3_leastFor 24 = .ok (.iload 6, 2) := by decide +kernel
theorem dX3_leastFor_26 : decode cX3_leastFor 26 = .ok (.aload_n 2, 1) := by decide +kernel
theorem dX3_leastFor_27 : decode cX3_leastFor 27 = .ok (.iload 6, 2) := by decide +kernel
theorem dX3_leastFor_29 : decode cX3_leastFor 29 = .ok (.iaload, 1) := by decide +kernel
theorem dX3_leastFor_30 : decode cX3_leastFor 30 = .ok (.iload 5, 2) := by decide +kernel
theorem dX3_leastFor_32 : decode cX3_leastFor 32 = .ok (.isub, 1) := by decide +kernel
theorem dX3_leastFor_33 : decode cX3_leastFor 33 = .ok (.iload 5, 2) := by decide +kernel
theorem dX3_leastFor_35 : decode cX3_leastFor 35 = .ok (.iconst 3, 1) := by decide +kernel
theorem dX3_leastFor_36 : decode cX3_leastFor 36 = .ok (.invokevirtual 82, 3) := by decide +kernel
theorem dX3_leastFor_39 : decode cX3_leastFor 39 = .ok (.iinc 6 1, 3) := by decide +kernel
theorem dX3_leastFor_42 : decode cX3_leastFor 42 = .ok (.goto (-31), 3) := by decide +kernel
theorem dX3_mostOfAll_71 : decode cX3_mostOfAll 71 = .ok (.invokestatic 153, 3) := by decide +kernel
theorem dX3_mostOfAll_74 : decode cX3_mostOfAll 74 = .ok (.lstore_n 2, 1) := by decide +kernel
theorem dX3_mostOfAll_75 : decode cX3_mostOfAll 75 = .ok (.aload_n 0, 1) := by decide +kernel
theorem dX3_mostOfAll_76 : decode cX3_mostOfAll 76 = .ok (.aload_n 1, 1) := by decide +kernel
theorem dX3_mostOfAll_77 : decode cX3_mostOfAll 77 = .ok (.invokevirtual 156, 3) := by decide +kernel
theorem dX3_tryFound_0 : decode cX3_tryFound 0 = .ok (.iconst 0, 1) := by decide +kernel
theorem dX3_tryFound_1 : decode cX3_tryFound 1 = .ok (.istore_n 2, 1) := by decide +kernel
theorem dX3_tryFound_2 : decode cX3_tryFound 2 = .ok (.iload_n 2, 1) := by decide +kernel
theorem dX3_tryFound_3 : decode cX3_tryFound 3 = .ok (.aload_n 1, 1) := by decide +kernel
theorem dX3_tryFound_4 : decode cX3_tryFound 4 = .ok (.getfield 79, 3) := by decide +kernel
theorem dX3_tryFound_7 : decode cX3_tryFound 7 = .ok (.if_icmp .ge 65, 3) := by decide +kernel
theorem dX3_tryFound_72 : decode cX3_tryFound 72 = .ok (.return_, 1) := by decide +kernel
theorem dX3_tryFound_10 : decode cX3_tryFound 10 = .ok (.aload_n 0, 1) := by decide +kernel
theorem dX3_tryFound_11 : decode cX3_tryFound 11 = .ok (.getfield 28, 3) := by decide +kernel
theorem dX3_tryFound_14 : decode cX3_tryFound 14 = .ok (.iload_n 2, 1) := by decide +kernel
theorem dX3_tryFound_15 : decode cX3_tryFound 15 = .ok (.iaload, 1) := by decide +kernel
theorem dX3_tryFound_16 : decode cX3_tryFound 16 = .ok (.aload_n 0, 1) := by decide +kernel
theorem dX3_tryFound_17 : decode cX3_tryFound 17 = .ok (.getfield 22, 3) := by decide +kernel
theorem dX3_tryFound_20 : decode cX3_tryFound 20 = .ok (.iload_n 2, 1) := by decide +kernel
theorem dX3_tryFound_21 : decode cX3_tryFound 21 = .ok (.iaload, 1) := by decide +kernel
theorem dX3_tryFound_22 : decode cX3_tryFound 22 = .ok (.if_icmp .eq 44, 3) := by decide +kernel
theorem dX3_tryFound_66 : decode cX3_tryFound 66 = .ok (.iinc 2 1, 3) := by decide +kernel
theorem dX3_tryFound_69 : decode cX3_tryFound 69 = .ok (.goto (-67), 3) := by decide +kernel
theorem dX3_tryFound_25 : decode cX3_tryFound 25 = .ok (.aload_n 0, 1) := by decide +kernel
theorem dX3_tryFound_26 : decode cX3_tryFound 26 = .ok (.iload_n 2, 1) := by decide +kernel
theorem dX3_tryFound_27 : decode cX3_tryFound 27 = .ok (.ldc2_w 175, 3) := by decide +kernel
theorem dX3_tryFound_30 : decode cX3_tryFound 30 = .ok (.aload_n 1, 1) := by decide +kernel
theorem dX3_tryFound_31 : decode cX3_tryFound 31 = .ok (.getfield 77, 3) := by decide +kernel
theorem dX3_tryFound_34 : decode cX3_tryFound 34 = .ok (.i2l, 1) := by decide +kernel
theorem dX3_tryFound_35 : decode cX3_tryFound 35 = .ok (.lmul, 1) := by decide +kernel
theorem dX3_tryFound_36 : decode cX3_tryFound 36 = .ok (.aload_n 0, 1) := by decide +kernel
theorem dX3_tryFound_37 : decode cX3_tryFound 37 = .ok (.getfield 22, 3) := by decide +kernel
theorem dX3_tryFound_40 : decode cX3_tryFound 40 = .ok (.iload_n 2, 1) := by decide +kernel
theorem dX3_tryFound_41 : decode cX3_tryFound 41 = .ok (.iaload, 1) := by decide +kernel
theorem dX3_tryFound_42 : decode cX3_tryFound 42 = .ok (.aload_n 0, 1) := by decide +kernel
theorem dX3_tryFound_43 : decode cX3_tryFound 43 = .ok (.getfield 28, 3) := by decide +kernel
theorem dX3_tryFound_46 : decode cX3_tryFound 46 = .ok (.iload_n 2, 1) := by decide +kernel
theorem dX3_tryFound_47 : decode cX3_tryFound 47 = .ok (.iaload, 1) := by decide +kernel
theorem dX3_tryFound_48 : decode cX3_tryFound 48 = .ok (.isub, 1) := by decide +kernel
theorem dX3_tryFound_49 : decode cX3_tryFound 49 = .ok (.i2l, 1) := by decide +kernel
theorem dX3_tryFound_50 : decode cX3_tryFound 50 = .ok (.lmul, 1) := by decide +kernel
theorem dX3_tryFound_51 : decode cX3_tryFound 51 = .ok (.invokevirtual 171, 3) := by decide +kernel
theorem dX3_tryFound_54 : decode cX3_tryFound 54 = .ok (.aload_n 0, 1) := by decide +kernel
theorem dX3_tryFound_55 : decode cX3_tryFound 55 = .ok (.getfield 28, 3) := by decide +kernel
theorem dX3_tryFound_58 : decode cX3_tryFound 58 = .ok (.iload_n 2, 1) := by decide +kernel
theorem dX3_tryFound_59 : decode cX3_tryFound 59 = .ok (.aload_n 0, 1) := by decide +kernel
theorem dX3_tryFound_60 : decode cX3_tryFound 60 = .ok (.getfield 22, 3) := by decide +kernel
theorem dX3_tryFound_63 : decode cX3_tryFound 63 = .ok (.iload_n 2, 1) := by decide +kernel
theorem dX3_tryFound_64 : decode cX3_tryFound 64 = .ok (.iaload, 1) := by decide +kernel
theorem dX3_tryFound_65 : decode cX3_tryFound 65 = .ok (.iastore, 1) := by decide +kernel
theorem dX3_mostOfAll_9 : decode cX3_mostOfAll 9 = .ok (.aload_n 0, 1) := by decide +kernel
theorem dX3_mostOfAll_10 : decode cX3_mostOfAll 10 = .ok (.getfield 48, 3) := by decide +kernel
theorem dX3_mostOfAll_13 : decode cX3_mostOfAll 13 = .ok (.lreturn, 1) := by decide +kernel
theorem dX3_leastOfAll_0 : decode cX3_leastOfAll 0 = .ok (.aload_n 0, 1) := by decide +kernel
theorem dX3_leastOfAll_1 : decode cX3_leastOfAll 1 = .ok (.getfield 45, 3) := by decide +kernel
theorem dX3_leastOfAll_4 : decode cX3_leastOfAll 4 = .ok (.lconst 0, 1) := by decide +kernel
theorem dX3_leastOfAll_5 : decode cX3_leastOfAll 5 = .ok (.lcmp, 1) := by decide +kernel
theorem dX3_leastOfAll_6 : decode cX3_leastOfAll 6 = .ok (.ifCond .lt 8, 3) := by decide +kernel
theorem dX3_leastOfAll_14 : decode cX3_leastOfAll 14 = .ok (.iconst 3, 1) := by decide +kernel
theorem dX3_leastOfAll_15 : decode cX3_leastOfAll 15 = .ok (.aload_n 1, 1) := by decide +kernel
theorem dX3_leastOfAll_16 : decode cX3_leastOfAll 16 = .ok (.getfield 77, 3) := by decide +kernel
theorem dX3_leastOfAll_19 : decode cX3_leastOfAll 19 = .ok (.imul, 1) := by decide +kernel
theorem dX3_leastOfAll_20 : decode cX3_leastOfAll 20 = .ok (.istore_n 2, 1) := by decide +kernel
theorem dX3_leastOfAll_21 : decode cX3_leastOfAll 21 = .ok (.aload_n 0, 1) := by decide +kernel
theorem dX3_leastOfAll_22 : decode cX3_leastOfAll 22 = .ok (.getfield 12, 3) := by decide +kernel
theorem dX3_leastOfAll_25 : decode cX3_leastOfAll 25 = .ok (.aload_n 1, 1) := by decide +kernel
theorem dX3_leastOfAll_26 : decode cX3_leastOfAll 26 = .ok (.invokevirtual 51, 3) := by decide +kernel
theorem dX3_leastOfAll_29 : decode cX3_leastOfAll 29 = .ok (.aload_n 0, 1) := by decide +kernel
theorem dX3_leastOfAll_30 : decode cX3_leastOfAll 30 = .ok (.getfield 12, 3) := by decide +kernel
theorem dX3_leastOfAll_33 : decode cX3_leastOfAll 33 = .ok (.iconst 1, 1) := by decide +kernel
theorem dX3_leastOfAll_34 : decode cX3_leastOfAll 34 = .ok (.iload_n 2, 1) := by decide +kernel
theorem dX3_leastOfAll_35 : decode cX3_leastOfAll 35 = .ok (.isub, 1) := by decide +kernel
theorem dX3_leastOfAll_36 : decode cX3_leastOfAll 36 = .ok (.iconst 2, 1) := by decide +kernel
theorem dX3_leastOfAll_37 : decode cX3_leastOfAll 37 = .ok (.iload_n 2, 1) := by decide +kernel
theorem dX3_leastOfAll_38 : decode cX3_leastOfAll 38 = .ok (.invokevirtual 116, 3) := by decide +kernel
theorem dX3_leastOfAll_41 : decode cX3_leastOfAll 41 = .ok (.aload_n 0, 1) := by decide +kernel
theorem dX3_leastOfAll_42 : decode cX3_leastOfAll 42 = .ok (.getfield 12, 3) := by decide +kernel
theorem dX3_leastOfAll_45 : decode cX3_leastOfAll 45 = .ok (.invokevirtual 86, 3) := by decide +kernel
theorem dX3_leastOfAll_48 : decode cX3_leastOfAll 48 = .ok (.aload_n 1, 1) := by decide +kernel
theorem dX3_leastOfAll_49 : decode cX3_leastOfAll 49 = .ok (.invokestatic 120, 3) := by decide +kernel
theorem dX3_leastThinkable_0 : decode cX3_leastThinkable 0 = .ok (.iconst 0, 1) := by decide +kernel
theorem dX3_leastThinkable_1 : decode cX3_leastThinkable 1 = .ok (.istore_n 1, 1) := by decide +kernel
theorem dX3_leastThinkable_2 : decode cX3_leastThinkable 2 = .ok (.iconst 0, 1) := by decide +kernel
theorem dX3_leastThinkable_3 : decode cX3_leastThinkable 3 = .ok (.istore_n 2, 1) := by decide +kernel
theorem dX3_leastThinkable_4 : decode cX3_leastThinkable 4 = .ok (.iload_n 2, 1) := by decide +kernel
theorem dX3_leastThinkable_5 : decode cX3_leastThinkable 5 = .ok (.aload_n 0, 1) := by decide +kernel
theorem dX3_leastThinkable_6 : decode cX3_leastThinkable 6 = .ok (.getfield 130, 3) := by decide +kernel
theorem dX3_leastThinkable_9 : decode cX3_leastThinkable 9 = .ok (.if_icmp .ge 57, 3) := by decide +kernel
theorem dX3_leastThinkable_66 : decode cX3_leastThinkable 66 = .ok (.iload_n 1, 1) := by decide +kernel
theorem dX3_leastThinkable_67 : decode cX3_leastThinkable 67 = .ok (.i2l, 1) := by decide +kernel
theorem dX3_leastThinkable_68 : decode cX3_leastThinkable 68 = .ok (.lreturn, 1) := by decide +kernel
theorem dX3_leastThinkable_12 : decode cX3_leastThinkable 12 = .ok (.aload_n 0, 1) := by decide +kernel
theorem dX3_leastThinkable_13 : decode cX3_leastThinkable 13 = .ok (.getfield 77, 3) := by decide +kernel
theorem dX3_leastThinkable_16 : decode cX3_leastThinkable 16 = .ok (.iconst 2, 1) := by decide +kernel
theorem dX3_leastThinkable_17 : decode cX3_leastThinkable 17 = .ok (.irem, 1) := by decide +kernel
theorem dX3_leastThinkable_18 : decode cX3_leastThinkable 18 = .ok (.ifCond .ne 48, 3) := by decide +kernel
theorem dX3_leastThinkable_21 : decode cX3_leastThinkable 21 = .ok (.iconst 0, 1) := by decide +kernel
theorem dX3_leastThinkable_22 : decode cX3_leastThinkable 22 = .ok (.istore_n 3, 1) := by decide +kernel
theorem dX3_leastThinkable_23 : decode cX3_leastThinkable 23 = .ok (.iconst 0, 1) := by decide +kernel
theorem dX3_leastThinkable_24 : decode cX3_leastThinkable 24 = .ok (.istore 4, 2) := by decide +kernel
theorem dX3_leastThinkable_26 : decode cX3_leastThinkable 26 = .ok (.iload 4, 2) := by decide +kernel
theorem dX3_leastThinkable_28 : decode cX3_leastThinkable 28 = .ok (.aload_n 0, 1) := by decide +kernel
theorem dX3_leastThinkable_29 : decode cX3_leastThinkable 29 = .ok (.getfield 79, 3) := by decide +kernel
theorem dX3_leastThinkable_32 : decode cX3_leastThinkable 32 = .ok (.if_icmp .ge 22, 3) := by decide +kernel
theorem dX3_leastThinkable_54 : decode cX3_leastThinkable 54 = .ok (.iload_n 1, 1) := by decide +kernel
theorem dX3_leastThinkable_55 : decode cX3_leastThinkable 55 = .ok (.iload_n 3, 1) := by decide +kernel
theorem dX3_leastThinkable_56 : decode cX3_leastThinkable 56 = .ok (.iconst 1, 1) := by decide +kernel
theorem dX3_leastThinkable_57 : decode cX3_leastThinkable 57 = .ok (.iand, 1) := by decide +kernel
theorem dX3_leastThinkable_58 : decode cX3_leastThinkable 58 = .ok (.iadd, 1) := by decide +kernel
theorem dX3_leastThinkable_59 : decode cX3_leastThinkable 59 = .ok (.istore_n 1, 1) := by decide +kernel
theorem dX3_leastThinkable_60 : decode cX3_leastThinkable 60 = .ok (.iinc 2 1, 3) := by decide +kernel
theorem dX3_leastThinkable_63 : decode cX3_leastThinkable 63 = .ok (.goto (-59), 3) := by decide +kernel
theorem dX3_leastThinkable_35 : decode cX3_leastThinkable 35 = .ok (.iload_n 3, 1) := by decide +kernel
theorem dX3_leastThinkable_36 : decode cX3_leastThinkable 36 = .ok (.aload_n 0, 1) := by decide +kernel
theorem dX3_leastThinkable_37 : decode cX3_leastThinkable 37 = .ok (.getfield 133, 3) := by decide +kernel
theorem dX3_leastThinkable_40 : decode cX3_leastThinkable 40 = .ok (.iload_n 2, 1) := by decide +kernel
theorem dX3_leastThinkable_41 : decode cX3_leastThinkable 41 = .ok (.iload 4, 2) := by decide +kernel
theorem dX3_leastThinkable_43 : decode cX3_leastThinkable 43 = .ok (.invokevirtual 137, 3) := by decide +kernel
theorem dX3_leastThinkable_46 : decode cX3_leastThinkable 46 = .ok (.iadd, 1) := by decide +kernel
theorem dX3_leastThinkable_47 : decode cX3_leastThinkable 47 = .ok (.istore_n 3, 1) := by decide +kernel
theorem dX3_leastThinkable_48 : decode cX3_leastThinkable 48 = .ok (.iinc 4 1, 3) := by decide +kernel
theorem dX3_leastThinkable_51 : decode cX3_leastThinkable 51 = .ok (.goto (-25), 3) := by decide +kernel
theorem dX3_leastOfAll_52 : decode cX3_leastOfAll 52 = .ok (.lstore_n 3, 1) := by decide +kernel
theorem dX3_leastOfAll_53 : decode cX3_leastOfAll 53 = .ok (.aload_n 1, 1) := by decide +kernel
theorem dX3_leastOfAll_54 : decode cX3_leastOfAll 54 = .ok (.getfield 77, 3) := by decide +kernel
theorem dX3_leastOfAll_57 : decode cX3_leastOfAll 57 = .ok (.iconst 2, 1) := by decide +kernel
theorem dX3_leastOfAll_58 : decode cX3_leastOfAll 58 = .ok (.irem, 1) := by decide +kernel
theorem dX3_leastOfAll_59 : decode cX3_leastOfAll 59 = .ok (.iconst 1, 1) := by decide +kernel
theorem dX3_leastOfAll_60 : decode cX3_leastOfAll 60 = .ok (.if_icmp .ne 7, 3) := by decide +kernel
theorem dX3_leastOfAll_67 : decode cX3_leastOfAll 67 = .ok (.ldc2_w 89, 3) := by decide +kernel
theorem dX3_leastOfAll_70 : decode cX3_leastOfAll 70 = .ok (.lstore 5, 2) := by decide +kernel
theorem dX3_leastOfAll_72 : decode cX3_leastOfAll 72 = .ok (.aload_n 0, 1) := by decide +kernel
theorem dX3_leastOfAll_73 : decode cX3_leastOfAll 73 = .ok (.getfield 12, 3) := by decide +kernel
theorem dX3_leastOfAll_76 : decode cX3_leastOfAll 76 = .ok (.invokevirtual 91, 3) := by decide +kernel
theorem dX3_leastOfAll_79 : decode cX3_leastOfAll 79 = .ok (.iconst 1, 1) := by decide +kernel
theorem dX3_leastOfAll_80 : decode cX3_leastOfAll 80 = .ok (.iadd, 1) := by decide +kernel
theorem dX3_leastOfAll_81 : decode cX3_leastOfAll 81 = .ok (.iconst 2, 1) := by decide +kernel
theorem dX3_leastOfAll_82 : decode cX3_leastOfAll 82 = .ok (.idiv, 1) := by decide +kernel
theorem dX3_leastOfAll_83 : decode cX3_leastOfAll 83 = .ok (.istore 7, 2) := by decide +kernel
theorem dX3_leastOfAll_85 : decode cX3_leastOfAll 85 = .ok (.iconst 0, 1) := by decide +kernel
theorem dX3_leastOfAll_86 : decode cX3_leastOfAll 86 = .ok (.istore 8, 2) := by decide +kernel
theorem dX3_leastOfAll_88 : decode cX3_leastOfAll 88 = .ok (.iload 8, 2) := by decide +kernel
theorem dX3_leastOfAll_90 : decode cX3_leastOfAll 90 = .ok (.iload 7, 2) := by decide +kernel
theorem dX3_leastOfAll_92 : decode cX3_leastOfAll 92 = .ok (.if_icmp .ge 45, 3) := by decide +kernel
theorem dX3_leastOfAll_137 : decode cX3_leastOfAll 137 = .ok (.aload_n 0, 1) := by decide +kernel
theorem dX3_leastOfAll_138 : decode cX3_leastOfAll 138 = .ok (.lload 5, 2) := by decide +kernel
theorem dX3_leastOfAll_140 : decode cX3_leastOfAll 140 = .ok (.putfield 45, 3) := by decide +kernel
theorem dX3_leastOfAll_143 : decode cX3_leastOfAll 143 = .ok (.lload 5, 2) := by decide +kernel
theorem dX3_leastOfAll_145 : decode cX3_leastOfAll 145 = .ok (.lreturn, 1) := by decide +kernel
theorem dX3_leastOfAll_95 : decode cX3_leastOfAll 95 = .ok (.lload 5, 2) := by decide +kernel
theorem dX3_leastOfAll_97 : decode cX3_leastOfAll 97 = .ok (.lload_n 3, 1) := by decide +kernel
theorem dX3_leastOfAll_98 : decode cX3_leastOfAll 98 = .ok (.lcmp, 1) := by decide +kernel
theorem dX3_leastOfAll_99 : decode cX3_leastOfAll 99 = .ok (.ifCond .le 38, 3) := by decide +kernel
theorem dX3_leastOfAll_102 : decode cX3_leastOfAll 102 = .ok (.lload 5, 2) := by decide +kernel
theorem dX3_leastOfAll_104 : decode cX3_leastOfAll 104 = .ok (.aload_n 0, 1) := by decide +kernel
theorem dX3_leastOfAll_105 : decode cX3_leastOfAll 105 = .ok (.getfield 12, 3) := by decide +kernel
theorem dX3_leastOfAll_108 : decode cX3_leastOfAll 108 = .ok (.aload_n 0, 1) := by decide +kernel
theorem dX3_leastOfAll_109 : decode cX3_leastOfAll 109 = .ok (.getfield 12, 3) := by decide +kernel
theorem dX3_leastOfAll_112 : decode cX3_leastOfAll 112 = .ok (.iload_n 2, 1) := by decide +kernel
theorem dX3_leastOfAll_113 : decode cX3_leastOfAll 113 = .ok (.invokevirtual 95, 3) := by decide +kernel
theorem dX3_leastOfAll_116 : decode cX3_leastOfAll 116 = .ok (.invokevirtual 99, 3) := by decide +kernel
theorem dX3_leastOfAll_119 : decode cX3_leastOfAll 119 = .ok (.invokestatic 124, 3) := by decide +kernel
theorem dX3_leastOfAll_122 : decode cX3_leastOfAll 122 = .ok (.lstore 5, 2) := by decide +kernel
theorem dX3_leastOfAll_124 : decode cX3_leastOfAll 124 = .ok (.aload_n 0, 1) := by decide +kernel
theorem dX3_leastOfAll_125 : decode cX3_leastOfAll 125 = .ok (.getfield 12, 3) := by decide +kernel
theorem dX3_leastOfAll_128 : decode cX3_leastOfAll 128 = .ok (.invokevirtual 107, 3) := by decide +kernel
theorem dX3_leastOfAll_131 : decode cX3_leastOfAll 131 = .ok (.iinc 8 1, 3) := by decide +kernel
theorem dX3_leastOfAll_134 : decode cX3_leastOfAll 134 = .ok (.goto (-46), 3) := by decide +kernel
theorem dX3_leastOfAll_63 : decode cX3_leastOfAll 63 = .ok (.lconst 0, 1) := by decide +kernel
theorem dX3_leastOfAll_64 : decode cX3_leastOfAll 64 = .ok (.goto 6, 3) := by decide +kernel
theorem dX3_leastOfAll_9 : decode cX3_leastOfAll 9 = .ok (.aload_n 0, 1) := by decide +kernel
theorem dX3_leastOfAll_10 : decode cX3_leastOfAll 10 = .ok (.getfield 45, 3) := by decide +kernel
theorem dX3_leastOfAll_13 : decode cX3_leastOfAll 13 = .ok (.lreturn, 1) := by decide +kernel
theorem dX3_putAhead_0 : decode cX3_putAhead 0 = .ok (.aload_n 0, 1) := by decide +kernel
theorem dX3_putAhead_1 : decode cX3_putAhead 1 = .ok (.getfield 12, 3) := by decide +kernel
theorem dX3_putAhead_4 : decode cX3_putAhead 4 = .ok (.aload_n 1, 1) := by decide +kernel
theorem dX3_putAhead_5 : decode cX3_putAhead 5 = .ok (.invokevirtual 51, 3) := by decide +kernel
theorem dX3_putAhead_8 : decode cX3_putAhead 8 = .ok (.aload_n 0, 1) := by decide +kernel
theorem dX3_putAhead_9 : decode cX3_putAhead 9 = .ok (.aload_n 1, 1) := by decide +kernel
theorem dX3_putAhead_10 : decode cX3_putAhead 10 = .ok (.aload_n 2, 1) := by decide +kernel
theorem dX3_putAhead_11 : decode cX3_putAhead 11 = .ok (.ldc2_w 43, 3) := by decide +kernel
theorem dX3_putAhead_14 : decode cX3_putAhead 14 = .ok (.invokevirtual 55, 3) := by decide +kernel
theorem dX3_putAhead_17 : decode cX3_putAhead 17 = .ok (.lstore_n 3, 1) := by decide +kernel
theorem dX3_putAhead_18 : decode cX3_putAhead 18 = .ok (.lload_n 3, 1) := by decide +kernel
theorem dX3_putAhead_19 : decode cX3_putAhead 19 = .ok (.ldc2_w 59, 3) := by decide +kernel
theorem dX3_putAhead_22 : decode cX3_putAhead 22 = .ok (.aload_n 1, 1) := by decide +kernel
theorem dX3_putAhead_23 : decode cX3_putAhead 23 = .ok (.getfield 61, 3) := by decide +kernel
theorem dX3_putAhead_26 : decode cX3_putAhead 26 = .ok (.i2l, 1) := by decide +kernel
theorem dX3_putAhead_27 : decode cX3_putAhead 27 = .ok (.lmul, 1) := by decide +kernel
theorem dX3_putAhead_28 : decode cX3_putAhead 28 = .ok (.lcmp, 1) := by decide +kernel
