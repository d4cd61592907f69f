theorem dX7_learnLine_20 : decode cX7_learnLine 20 = .ok (.iload 7, 2) := by decide +kernel
theorem dX7_learnLine_22 : decode cX7_learnLine 22 = .ok (.invokevirtual 98, 3) := by decide +kernel
theorem dX7_learnLine_25 : decode cX7_learnLine 25 = .ok (.lstore 8, 2) := by decide +kernel
theorem dX7_learnLine_27 : decode cX7_learnLine 27 = .ok (.lload 8, 2) := by decide +kernel
theorem dX7_learnLine_29 : decode cX7_learnLine 29 = .ok (.lconst 0, 1) := by decide +kernel
theorem dX7_learnLine_30 : decode cX7_learnLine 30 = .ok (.lcmp, 1) := by decide +kernel
theorem dX7_learnLine_31 : decode cX7_learnLine 31 = .ok (.ifCond .ge 7, 3) := by decide +kernel
theorem dX7_learnLine_38 : decode cX7_learnLine 38 = .ok (.ldc2_w 102, 3) := by decide +kernel
theorem dX7_learnLine_41 : decode cX7_learnLine 41 = .ok (.lconst 1, 1) := by decide +kernel
theorem dX7_learnLine_42 : decode cX7_learnLine 42 = .ok (.lload 8, 2) := by decide +kernel
theorem dX7_learnLine_44 : decode cX7_learnLine 44 = .ok (.ladd, 1) := by decide +kernel
theorem dX7_learnLine_45 : decode cX7_learnLine 45 = .ok (.ldiv, 1) := by decide +kernel
theorem dX7_learnLine_46 : decode cX7_learnLine 46 = .ok (.lstore 10, 2) := by decide +kernel
theorem dX7_learnLine_48 : decode cX7_learnLine 48 = .ok (.aload_n 0, 1) := by decide +kernel
theorem dX7_learnLine_49 : decode cX7_learnLine 49 = .ok (.aload_n 0, 1) := by decide +kernel
theorem dX7_learnLine_50 : decode cX7_learnLine 50 = .ok (.getfield 12, 3) := by decide +kernel
theorem dX7_learnLine_53 : decode cX7_learnLine 53 = .ok (.getfield 104, 3) := by decide +kernel
theorem dX7_learnLine_56 : decode cX7_learnLine 56 = .ok (.iload 7, 2) := by decide +kernel
theorem dX7_learnLine_58 : decode cX7_learnLine 58 = .ok (.lload 8, 2) := by decide +kernel
theorem dX7_learnLine_60 : decode cX7_learnLine 60 = .ok (.lload 10, 2) := by decide +kernel
theorem dX7_learnLine_62 : decode cX7_learnLine 62 = .ok (.invokevirtual 107, 3) := by decide +kernel
theorem dX7_learnLine_65 : decode cX7_learnLine 65 = .ok (.aload_n 0, 1) := by decide +kernel
theorem dX7_learnLine_66 : decode cX7_learnLine 66 = .ok (.iload_n 1, 1) := by decide +kernel
theorem dX7_learnLine_67 : decode cX7_learnLine 67 = .ok (.iload 7, 2) := by decide +kernel
theorem dX7_learnLine_69 : decode cX7_learnLine 69 = .ok (.iadd, 1) := by decide +kernel
theorem dX7_learnLine_70 : decode cX7_learnLine 70 = .ok (.lload 8, 2) := by decide +kernel
theorem dX7_learnLine_72 : decode cX7_learnLine 72 = .ok (.invokevirtual 111, 3) := by decide +kernel
theorem dX7_admit_0 : decode cX7_admit 0 = .ok (.aload_n 0, 1) := by decide +kernel
theorem dX7_admit_1 : decode cX7_admit 1 = .ok (.getfield 41, 3) := by decide +kernel
theorem dX7_admit_4 : decode cX7_admit 4 = .ok (.bipush 10, 2) := by decide +kernel
theorem dX7_admit_6 : decode cX7_admit 6 = .ok (.if_icmp .ne 26, 3) := by decide +kernel
theorem dX7_admit_32 : decode cX7_admit 32 = .ok (.aload_n 0, 1) := by decide +kernel
theorem dX7_admit_33 : decode cX7_admit 33 = .ok (.getfield 41, 3) := by decide +kernel
theorem dX7_admit_36 : decode cX7_admit 36 = .ok (.istore 4, 2) := by decide +kernel
theorem dX7_admit_38 : decode cX7_admit 38 = .ok (.iload 4, 2) := by decide +kernel
theorem dX7_admit_40 : decode cX7_admit 40 = .ok (.ifCond .le 55, 3) := by decide +kernel
theorem dX7_admit_95 : decode cX7_admit 95 = .ok (.aload_n 0, 1) := by decide +kernel
theorem dX7_admit_96 : decode cX7_admit 96 = .ok (.getfield 18, 3) := by decide +kernel
theorem dX7_admit_99 : decode cX7_admit 99 = .ok (.iload 4, 2) := by decide +kernel
theorem dX7_admit_101 : decode cX7_admit 101 = .ok (.lload_n 2, 1) := by decide +kernel
theorem dX7_admit_102 : decode cX7_admit 102 = .ok (.lastore, 1) := by decide +kernel
theorem dX7_admit_103 : decode cX7_admit 103 = .ok (.aload_n 0, 1) := by decide +kernel
theorem dX7_admit_104 : decode cX7_admit 104 = .ok (.getfield 22, 3) := by decide +kernel
theorem dX7_admit_107 : decode cX7_admit 107 = .ok (.iload 4, 2) := by decide +kernel
theorem dX7_admit_109 : decode cX7_admit 109 = .ok (.iload_n 1, 1) := by decide +kernel
theorem dX7_admit_110 : decode cX7_admit 110 = .ok (.iastore, 1) := by decide +kernel
theorem dX7_admit_111 : decode cX7_admit 111 = .ok (.aload_n 0, 1) := by decide +kernel
theorem dX7_admit_112 : decode cX7_admit 112 = .ok (.dup, 1) := by decide +kernel
theorem dX7_admit_113 : decode cX7_admit 113 = .ok (.getfield 41, 3) := by decide +kernel
theorem dX7_admit_116 : decode cX7_admit 116 = .ok (.iconst 1, 1) := by decide +kernel
theorem dX7_admit_117 : decode cX7_admit 117 = .ok (.iadd, 1) := by decide +kernel
theorem dX7_admit_118 : decode cX7_admit 118 = .ok (.putfield 41, 3) := by decide +kernel
theorem dX7_admit_121 : decode cX7_admit 121 = .ok (.return_, 1) := by decide +kernel
theorem dX7_admit_43 : decode cX7_admit 43 = .ok (.aload_n 0, 1) := by decide +kernel
theorem dX7_admit_44 : decode cX7_admit 44 = .ok (.getfield 18, 3) := by decide +kernel
theorem dX7_admit_47 : decode cX7_admit 47 = .ok (.iload 4, 2) := by decide +kernel
theorem dX7_admit_49 : decode cX7_admit 49 = .ok (.iconst 1, 1) := by decide +kernel
theorem dX7_admit_50 : decode cX7_admit 50 = .ok (.isub, 1) := by decide +kernel
theorem dX7_admit_51 : decode cX7_admit 51 = .ok (.laload, 1) := by decide +kernel
theorem dX7_admit_52 : decode cX7_admit 52 = .ok (.lload_n 2, 1) := by decide +kernel
theorem dX7_admit_53 : decode cX7_admit 53 = .ok (.lcmp, 1) := by decide +kernel
theorem dX7_admit_54 : decode cX7_admit 54 = .ok (.ifCond .le 41, 3) := by decide +kernel
theorem dX7_admit_57 : decode cX7_admit 57 = .ok (.aload_n 0, 1) := by decide +kernel
theorem dX7_admit_58 : decode cX7_admit 58 = .ok (.getfield 18, 3) := by decide +kernel
theorem dX7_admit_61 : decode cX7_admit 61 = .ok (.iload 4, 2) := by decide +kernel
theorem dX7_admit_63 : decode cX7_admit 63 = .ok (.aload_n 0, 1) := by decide +kernel
theorem dX7_admit_64 : decode cX7_admit 64 = .ok (.getfield 18, 3) := by decide +kernel
theorem dX7_admit_67 : decode cX7_admit 67 = .ok (.iload 4, 2) := by decide +kernel
theorem dX7_admit_69 : decode cX7_admit 69 = .ok (.iconst 1, 1) := by decide +kernel
theorem dX7_admit_70 : decode cX7_admit 70 = .ok (.isub, 1) := by decide +kernel
theorem dX7_admit_71 : decode cX7_admit 71 = .ok (.laload, 1) := by decide +kernel
theorem dX7_admit_72 : decode cX7_admit 72 = .ok (.lastore, 1) := by decide +kernel
theorem dX7_admit_73 : decode cX7_admit 73 = .ok (.aload_n 0, 1) := by decide +kernel
theorem dX7_admit_74 : decode cX7_admit 74 = .ok (.getfield 22, 3) := by decide +kernel
theorem dX7_admit_77 : decode cX7_admit 77 = .ok (.iload 4, 2) := by decide +kernel
theorem dX7_admit_79 : decode cX7_admit 79 = .ok (.aload_n 0, 1) := by decide +kernel
theorem dX7_admit_80 : decode cX7_admit 80 = .ok (.getfield 22, 3) := by decide +kernel
theorem dX7_admit_83 : decode cX7_admit 83 = .ok (.iload 4, 2) := by decide +kernel
theorem dX7_admit_85 : decode cX7_admit 85 = .ok (.iconst 1, 1) := by decide +kernel
theorem dX7_admit_86 : decode cX7_admit 86 = .ok (.isub, 1) := by decide +kernel
theorem dX7_admit_87 : decode cX7_admit 87 = .ok (.iaload, 1) := by decide +kernel
theorem dX7_admit_88 : decode cX7_admit 88 = .ok (.iastore, 1) := by decide +kernel
theorem dX7_admit_89 : decode cX7_admit 89 = .ok (.iinc 4 (-1), 3) := by decide +kernel
theorem dX7_admit_92 : decode cX7_admit 92 = .ok (.goto (-54), 3) := by decide +kernel
theorem dX7_admit_9 : decode cX7_admit 9 = .ok (.lload_n 2, 1) := by decide +kernel
theorem dX7_admit_10 : decode cX7_admit 10 = .ok (.aload_n 0, 1) := by decide +kernel
theorem dX7_admit_11 : decode cX7_admit 11 = .ok (.getfield 18, 3) := by decide +kernel
theorem dX7_admit_14 : decode cX7_admit 14 = .ok (.bipush 9, 2) := by decide +kernel
theorem dX7_admit_16 : decode cX7_admit 16 = .ok (.laload, 1) := by decide +kernel
theorem dX7_admit_17 : decode cX7_admit 17 = .ok (.lcmp, 1) := by decide +kernel
theorem dX7_admit_18 : decode cX7_admit 18 = .ok (.ifCond .lt 4, 3) := by decide +kernel
theorem dX7_admit_22 : decode cX7_admit 22 = .ok (.aload_n 0, 1) := by decide +kernel
theorem dX7_admit_23 : decode cX7_admit 23 = .ok (.dup, 1) := by decide +kernel
theorem dX7_admit_24 : decode cX7_admit 24 = .ok (.getfield 41, 3) := by decide +kernel
theorem dX7_admit_27 : decode cX7_admit 27 = .ok (.iconst 1, 1) := by decide +kernel
theorem dX7_admit_28 : decode cX7_admit 28 = .ok (.isub, 1) := by decide +kernel
theorem dX7_admit_29 : decode cX7_admit 29 = .ok (.putfield 41, 3) := by decide +kernel
theorem dX7_admit_21 : decode cX7_admit 21 = .ok (.return_, 1) := by decide +kernel
theorem dX7_learnLine_75 : decode cX7_learnLine 75 = .ok (.lload_n 3, 1) := by decide +kernel
theorem dX7_learnLine_76 : decode cX7_learnLine 76 = .ok (.lload 8, 2) := by decide +kernel
theorem dX7_learnLine_78 : decode cX7_learnLine 78 = .ok (.invokestatic 115, 3) := by decide +kernel
theorem dX7_learnLine_81 : decode cX7_learnLine 81 = .ok (.lstore_n 3, 1) := by decide +kernel
theorem dX7_learnLine_82 : decode cX7_learnLine 82 = .ok (.lload 5, 2) := by decide +kernel
theorem dX7_learnLine_84 : decode cX7_learnLine 84 = .ok (.lload 10, 2) := by decide +kernel
theorem dX7_learnLine_86 : decode cX7_learnLine 86 = .ok (.ladd, 1) := by decide +kernel
theorem dX7_learnLine_87 : decode cX7_learnLine 87 = .ok (.lstore 5, 2) := by decide +kernel
theorem dX7_learnLine_89 : decode cX7_learnLine 89 = .ok (.iinc 7 1, 3) := by decide +kernel
theorem dX7_learnLine_92 : decode cX7_learnLine 92 = .ok (.goto (-82), 3) := by decide +kernel
theorem dX7_learnLine_34 : decode cX7_learnLine 34 = .ok (.lconst 0, 1) := by decide +kernel
theorem dX7_learnLine_35 : decode cX7_learnLine 35 = .ok (.goto 11, 3) := by decide +kernel
theorem dX7_learn_86 : decode cX7_learn 86 = .ok (.aload_n 0, 1) := by decide +kernel
theorem dX7_learn_87 : decode cX7_learn 87 = .ok (.getfield 12, 3) := by decide +kernel
theorem dX7_learn_90 : decode cX7_learn 90 = .ok (.invokevirtual 95, 3) := by decide +kernel
theorem dX7_learn_93 : decode cX7_learn 93 = .ok (.iinc 4 1, 3) := by decide +kernel
theorem dX7_learn_96 : decode cX7_learn 96 = .ok (.goto (-31), 3) := by decide +kernel
theorem dX7_countAhead_0 : decode cX7_countAhead 0 = .ok (.aload_n 1, 1) := by decide +kernel
theorem dX7_countAhead_1 : decode cX7_countAhead 1 = .ok (.getfield 73, 3) := by decide +kernel
theorem dX7_countAhead_4 : decode cX7_countAhead 4 = .ok (.ifCond .ne 5, 3) := by decide +kernel
theorem dX7_countAhead_9 : decode cX7_countAhead 9 = .ok (.aload_n 0, 1) := by decide +kernel
theorem dX7_countAhead_10 : decode cX7_countAhead 10 = .ok (.aload_n 1, 1) := by decide +kernel
theorem dX7_countAhead_11 : decode cX7_countAhead 11 = .ok (.aload_n 2, 1) := by decide +kernel
theorem dX7_countAhead_12 : decode cX7_countAhead 12 = .ok (.invokevirtual 84, 3) := by decide +kernel
theorem dX7_countAhead_15 : decode cX7_countAhead 15 = .ok (.iconst 0, 1) := by decide +kernel
theorem dX7_countAhead_16 : decode cX7_countAhead 16 = .ok (.istore 6, 2) := by decide +kernel
theorem dX7_countAhead_18 : decode cX7_countAhead 18 = .ok (.aload_n 0, 1) := by decide +kernel
theorem dX7_countAhead_19 : decode cX7_countAhead 19 = .ok (.getfield 12, 3) := by decide +kernel
theorem dX7_countAhead_22 : decode cX7_countAhead 22 = .ok (.invokevirtual 87, 3) := by decide +kernel
theorem dX7_countAhead_25 : decode cX7_countAhead 25 = .ok (.istore 7, 2) := by decide +kernel
theorem dX7_countAhead_27 : decode cX7_countAhead 27 = .ok (.iconst 0, 1) := by decide +kernel
theorem dX7_countAhead_28 : decode cX7_countAhead 28 = .ok (.istore 8, 2) := by decide +kernel
theorem dX7_countAhead_30 : decode cX7_countAhead 30 = .ok (.iconst 0, 1) := by decide +kernel
theorem dX7_countAhead_31 : decode cX7_countAhead 31 = .ok (.istore 9, 2) := by decide +kernel
theorem dX7_countAhead_33 : decode cX7_countAhead 33 = .ok (.iload 9, 2) := by decide +kernel
theorem dX7_countAhead_35 : decode cX7_countAhead 35 = .ok (.iload 7, 2) := by decide +kernel
theorem dX7_countAhead_37 : decode cX7_countAhead 37 = .ok (.if_icmp .ge 72, 3) := by decide +kernel
theorem dX7_countAhead_109 : decode cX7_countAhead 109 = .ok (.iload 6, 2) := by decide +kernel
theorem dX7_countAhead_111 : decode cX7_countAhead 111 = .ok (.ireturn, 1) := by decide +kernel
theorem dX7_countAhead_40 : decode cX7_countAhead 40 = .ok (.iconst 0, 1) := by decide +kernel
theorem dX7_countAhead_41 : decode cX7_countAhead 41 = .ok (.istore 10, 2) := by decide +kernel
theorem dX7_countAhead_43 : decode cX7_countAhead 43 = .ok (.iload 10, 2) := by decide +kernel
theorem dX7_countAhead_45 : decode cX7_countAhead 45 = .ok (.aload_n 1, 1) := by decide +kernel
theorem dX7_countAhead_46 : decode cX7_countAhead 46 = .ok (.getfield 61, 3) := by decide +kernel
theorem dX7_countAhead_49 : decode cX7_countAhead 49 = .ok (.if_icmp .ge 47, 3) := by decide +kernel
theorem dX7_countAhead_96 : decode cX7_countAhead 96 = .ok (.aload_n 0, 1) := by decide +kernel
theorem dX7_countAhead_97 : decode cX7_countAhead 97 = .ok (.getfield 12, 3) := by decide +kernel
theorem dX7_countAhead_100 : decode cX7_countAhead 100 = .ok (.invokevirtual 95, 3) := by decide +kernel
theorem dX7_countAhead_103 : decode cX7_countAhead 103 = .ok (.iinc 9 1, 3) := by decide +kernel
theorem dX7_countAhead_106 : decode cX7_countAhead 106 = .ok (.goto (-73), 3) := by decide +kernel
theorem dX7_countAhead_52 : decode cX7_countAhead 52 = .ok (.aload_n 0, 1) := by decide +kernel
theorem dX7_countAhead_53 : decode cX7_countAhead 53 = .ok (.getfield 12, 3) := by decide +kernel
theorem dX7_countAhead_56 : decode cX7_countAhead 56 = .ok (.iload 10, 2) := by decide +kernel
theorem dX7_countAhead_58 : decode cX7_countAhead 58 = .ok (.invokevirtual 98, 3) := by decide +kernel
theorem dX7_countAhead_61 : decode cX7_countAhead 61 = .ok (.lstore 11, 2) := by decide +kernel
theorem dX7_countAhead_63 : decode cX7_countAhead 63 = .ok (.lload 11, 2) := by decide +kernel
theorem dX7_countAhead_65 : decode cX7_countAhead 65 = .ok (.lload_n 3, 1) := by decide +kernel
theorem dX7_countAhead_66 : decode cX7_countAhead 66 = .ok (.lcmp, 1) := by decide +kernel
theorem dX7_countAhead_67 : decode cX7_countAhead 67 = .ok (.ifCond .lt 17, 3) := by decide +kernel
theorem dX7_countAhead_84 : decode cX7_countAhead 84 = .ok (.iinc 6 1, 3) := by decide +kernel
theorem dX7_countAhead_87 : decode cX7_countAhead 87 = .ok (.iinc 8 1, 3) := by decide +kernel
theorem dX7_countAhead_90 : decode cX7_countAhead 90 = .ok (.iinc 10 1, 3) := by decide +kernel
theorem dX7_countAhead_93 : decode cX7_countAhead 93 = .ok (.goto (-50), 3) := by decide +kernel
theorem dX7_countAhead_70 : decode cX7_countAhead 70 = .ok (.lload 11, 2) := by decide +kernel
theorem dX7_countAhead_72 : decode cX7_countAhead 72 = .ok (.lload_n 3, 1) := by decide +kernel
theorem dX7_countAhead_73 : decode cX7_countAhead 73 = .ok (.lcmp, 1) := by decide +kernel
theorem dX7_countAhead_74 : decode cX7_countAhead 74 = .ok (.ifCond .ne 13, 3) := by decide +kernel
theorem dX7_countAhead_77 : decode cX7_countAhead 77 = .ok (.iload 8, 2) := by decide +kernel
theorem dX7_countAhead_79 : decode cX7_countAhead 79 = .ok (.iload 5, 2) := by decide +kernel
theorem dX7_countAhead_81 : decode cX7_countAhead 81 = .ok (.if_icmp .ge 6, 3) := by decide +kernel
theorem dX7_countAhead_7 : decode cX7_countAhead 7 = .ok (.iconst 0, 1) := by decide +kernel
theorem dX7_countAhead_8 : decode cX7_countAhead 8 = .ok (.ireturn, 1) := by decide +kernel
theorem dX7_cancelAll_0 : decode cX7_cancelAll 0 = .ok (.aload_n 0, 1) := by decide +kernel
theorem dX7_cancelAll_1 : decode cX7_cancelAll 1 = .ok (.aload_n 1, 1) := by decide +kernel
theorem dX7_cancelAll_2 : decode cX7_cancelAll 2 = .ok (.invokevirtual 130, 3) := by decide +kernel
theorem dX7_findTurns_0 : decode cX7_findTurns 0 = .ok (.iconst 0, 1) := by decide +kernel
theorem dX7_findTurns_1 : decode cX7_findTurns 1 = .ok (.istore_n 2, 1) := by decide +kernel
theorem dX7_findTurns_2 : decode cX7_findTurns 2 = .ok (.iload_n 2, 1) := by decide +kernel
theorem dX7_findTurns_3 : decode cX7_findTurns 3 = .ok (.aload_n 1, 1) := by decide +kernel
theorem dX7_findTurns_4 : decode cX7_findTurns 4 = .ok (.getfield 73, 3) := by decide +kernel
theorem dX7_findTurns_7 : decode cX7_findTurns 7 = .ok (.if_icmp .ge 86, 3) := by decide +kernel
theorem dX7_findTurns_93 : decode cX7_findTurns 93 = .ok (.return_, 1) := by decide +kernel
theorem dX7_findTurns_10 : decode cX7_findTurns 10 = .ok (.aload_n 1, 1) := by decide +kernel
theorem dX7_findTurns_11 : decode cX7_findTurns 11 = .ok (.getfield 146, 3) := by decide +kernel
theorem dX7_findTurns_14 : decode cX7_findTurns 14 = .ok (.iload_n 2, 1) := by decide +kernel
theorem dX7_findTurns_15 : decode cX7_findTurns 15 = .ok (.iload_n 2, 1) := by decide +kernel
theorem dX7_findTurns_16 : decode cX7_findTurns 16 = .ok (.invokevirtual 156, 3) := by decide +kernel
theorem dX7_findTurns_19 : decode cX7_findTurns 19 = .ok (.istore_n 3, 1) := by decide +kernel
theorem dX7_findTurns_20 : decode cX7_findTurns 20 = .ok (.iload_n 2, 1) := by decide +kernel
theorem dX7_findTurns_21 : decode cX7_findTurns 21 = .ok (.istore 4, 2) := by decide +kernel
theorem dX7_findTurns_23 : decode cX7_findTurns 23 = .ok (.iload 4, 2) := by decide +kernel
theorem dX7_findTurns_25 : decode cX7_findTurns 25 = .ok (.ifCond .le 54, 3) := by decide +kernel
theorem dX7_findTurns_79 : decode cX7_findTurns 79 = .ok (.aload_n 0, 1) := by decide +kernel
theorem dX7_findTurns_80 : decode cX7_findTurns 80 = .ok (.getfield 32, 3) := by decide +kernel
theorem dX7_findTurns_83 : decode cX7_findTurns 83 = .ok (.iload 4, 2) := by decide +kernel
theorem dX7_findTurns_85 : decode cX7_findTurns 85 = .ok (.iload_n 2, 1) := by decide +kernel
theorem dX7_findTurns_86 : decode cX7_findTurns 86 = .ok (.iastore, 1) := by decide +kernel
theorem dX7_findTurns_87 : decode cX7_findTurns 87 = .ok (.iinc 2 1, 3) := by decide +kernel
theorem dX7_findTurns_90 : decode cX7_findTurns 90 = .ok (.goto (-88), 3) := by decide +kernel
theorem dX7_findTurns_28 : decode cX7_findTurns 28 = .ok (.aload_n 1, 1) := by decide +kernel
theorem dX7_findTurns_29 : decode cX7_findTurns 29 = .ok (.getfield 146, 3) := by decide +kernel
theorem dX7_findTurns_32 : decode cX7_findTurns 32 = .ok (.aload_n 0, 1) := by decide +kernel
theorem dX7_findTurns_33 : decode cX7_findTurns 33 = .ok (.getfield 32, 3) := by decide +kernel
theorem dX7_findTurns_36 : decode cX7_findTurns 36 = .ok (.iload 4, 2) := by decide +kernel
theorem dX7_findTurns_38 : decode cX7_findTurns 38 = .ok (.iconst 1, 1) := by decide +kernel
theorem dX7_findTurns_39 : decode cX7_findTurns 39 = .ok (.isub, 1) := by decide +kernel
theorem dX7_findTurns_40 : decode cX7_findTurns 40 = .ok (.iaload, 1) := by decide +kernel
theorem dX7_findTurns_41 : decode cX7_findTurns 41 = .ok (.aload_n 0, 1) := by decide +kernel
theorem dX7_findTurns_42 : decode cX7_findTurns 42 = .ok (.getfield 32, 3) := by decide +kernel
theorem dX7_findTurns_45 : decode cX7_findTurns 45 = .ok (.iload 4, 2) := by decide +kernel
theorem dX7_findTurns_47 : decode cX7_findTurns 47 = .ok (.iconst 1, 1) := by decide +kernel
theorem dX7_findTurns_48 : decode cX7_findTurns 48 = .ok (.isub, 1) := by decide +kernel
theorem dX7_findTurns_49 : decode cX7_findTurns 49 = .ok (.iaload, 1) := by decide +kernel
theorem dX7_findTurns_50 : decode cX7_findTurns 50 = .ok (.invokevirtual 156, 3) := by decide +kernel
theorem dX7_findTurns_53 : decode cX7_findTurns 53 = .ok (.iload_n 3, 1) := by decide +kernel
theorem dX7_findTurns_54 : decode cX7_findTurns 54 = .ok (.if_icmp .ge 25, 3) := by decide +kernel
theorem dX7_findTurns_57 : decode cX7_findTurns 57 = .ok (.aload_n 0, 1) := by decide +kernel
theorem dX7_findTurns_58 : decode cX7_findTurns 58 = .ok (.getfield 32, 3) := by decide +kernel
theorem dX7_findTurns_61 : decode cX7_findTurns 61 = .ok (.iload 4, 2) := by decide +kernel
theorem dX7_findTurns_63 : decode cX7_findTurns 63 = .ok (.aload_n 0, 1) := by decide +kernel
theorem dX7_findTurns_64 : decode cX7_findTurns 64 = .ok (.getfield 32, 3) := by decide +kernel
theorem dX7_findTurns_67 : decode cX7_findTurns 67 = .ok (.iload 4, 2) := by decide +kernel
theorem dX7_findTurns_69 : decode cX7_findTurns 69 = .ok (.iconst 1, 1) := by decide +kernel
theorem dX7_findTurns_70 : decode cX7_findTurns 70 = .ok (.isub, 1) := by decide +kernel
theorem dX7_findTurns_71 : decode cX7_findTurns 71 = .ok (.iaload, 1) := by decide +kernel
theorem dX7_findTurns_72 : decode cX7_findTurns 72 = .ok (.iastore, 1) := by decide +kernel
theorem dX7_findTurns_73 : decode cX7_findTurns 73 = .ok (.iinc 4 (-1), 3) := by decide +kernel
theorem dX7_findTurns_76 : decode cX7_findTurns 76 = .ok (.goto (-53), 3) := by decide +kernel
theorem dX7_cancelAll_5 : decode cX7_cancelAll 5 = .ok (.aload_n 2, 1) := by decide +kernel
theorem dX7_cancelAll_6 : decode cX7_cancelAll 6 = .ok (.iconst 0, 1) := by decide +kernel
theorem dX7_cancelAll_7 : decode cX7_cancelAll 7 = .ok (.aload_n 0, 1) := by decide +kernel
theorem dX7_cancelAll_8 : decode cX7_cancelAll 8 = .ok (.getfield 38, 3) := by decide +kernel
theorem dX7_cancelAll_11 : decode cX7_cancelAll 11 = .ok (.iconst 0, 1) := by decide +kernel
theorem dX7_cancelAll_12 : decode cX7_cancelAll 12 = .ok (.bipush 6, 2) := by decide +kernel
theorem dX7_cancelAll_14 : decode cX7_cancelAll 14 = .ok (.invokestatic 133, 3) := by decide +kernel
theorem dX7_cancelAll_17 : decode cX7_cancelAll 17 = .ok (.iconst 0, 1) := by decide +kernel
theorem dX7_cancelAll_18 : decode cX7_cancelAll 18 = .ok (.istore_n 3, 1) := by decide +kernel
theorem dX7_cancelAll_19 : decode cX7_cancelAll 19 = .ok (.iload_n 3, 1) := by decide +kernel
theorem dX7_cancelAll_20 : decode cX7_cancelAll 20 = .ok (.aload_n 1, 1) := by decide +kernel
theorem dX7_cancelAll_21 : decode cX7_cancelAll 21 = .ok (.getfield 73, 3) := by decide +kernel
theorem dX7_cancelAll_24 : decode cX7_cancelAll 24 = .ok (.if_icmp .ge 78, 3) := by decide +kernel
theorem dX7_cancelAll_102 : decode cX7_cancelAll 102 = .ok (.return_, 1) := by decide +kernel
theorem dX7_cancelAll_27 : decode cX7_cancelAll 27 = .ok (.aload_n 0, 1) := by decide +kernel
theorem dX7_cancelAll_28 : decode cX7_cancelAll 28 = .ok (.getfield 32, 3) := by decide +kernel
theorem dX7_cancelAll_31 : decode cX7_cancelAll 31 = .ok (.iload_n 3, 1) := by decide +kernel
theorem dX7_cancelAll_32 : decode cX7_cancelAll 32 = .ok (.iaload, 1) := by decide +kernel
theorem dX7_cancelAll_33 : decode cX7_cancelAll 33 = .ok (.istore 4, 2) := by decide +kernel
theorem dX7_cancelAll_35 : decode cX7_cancelAll 35 = .ok (.aload_n 0, 1) := by decide +kernel
theorem dX7_cancelAll_36 : decode cX7_cancelAll 36 = .ok (.getfield 35, 3) := by decide +kernel
theorem dX7_cancelAll_39 : decode cX7_cancelAll 39 = .ok (.iload 4, 2) := by decide +kernel
theorem dX7_cancelAll_41 : decode cX7_cancelAll 41 = .ok (.aload_n 0, 1) := by decide +kernel
theorem dX7_cancelAll_42 : decode cX7_cancelAll 42 = .ok (.aload_n 1, 1) := by decide +kernel
theorem dX7_cancelAll_43 : decode cX7_cancelAll 43 = .ok (.iload 4, 2) := by decide +kernel
theorem dX7_cancelAll_45 : decode cX7_cancelAll 45 = .ok (.invokevirtual 139, 3) := by decide +kernel
theorem dX7_bestLetter_0 : decode cX7_bestLetter 0 = .ok (.iconst 0, 1) := by decide +kernel
theorem dX7_bestLetter_1 : decode cX7_bestLetter 1 = .ok (.istore_n 3, 1) := by decide +kernel
theorem dX7_bestLetter_2 : decode cX7_bestLetter 2 = .ok (.ldc2_w 76, 3) := by decide +kernel
theorem dX7_bestLetter_5 : decode cX7_bestLetter 5 = .ok (.lstore 4, 2) := by decide +kernel
theorem dX7_bestLetter_7 : decode cX7_bestLetter 7 = .ok (.iconst 0, 1) := by decide +kernel
theorem dX7_bestLetter_8 : decode cX7_bestLetter 8 = .ok (.istore 6, 2) := by decide +kernel
theorem dX7_bestLetter_10 : decode cX7_bestLetter 10 = .ok (.iload 6, 2) := by decide +kernel
theorem dX7_bestLetter_12 : decode cX7_bestLetter 12 = .ok (.aload_n 1, 1) := by decide +kernel
theorem dX7_bestLetter_13 : decode cX7_bestLetter 13 = .ok (.getfield 61, 3) := by decide +kernel
theorem dX7_bestLetter_16 : decode cX7_bestLetter 16 = .ok (.if_icmp .ge 42, 3) := by decide +kernel
theorem dX7_bestLetter_58 : decode cX7_bestLetter 58 = .ok (.iload_n 3, 1) := by decide +kernel
theorem dX7_bestLetter_59 : decode cX7_bestLetter 59 = .ok (.ireturn, 1) := by decide +kernel
theorem dX7_bestLetter_19 : decode cX7_bestLetter 19 = .ok (.aload_n 1, 1) := by decide +kernel
theorem dX7_bestLetter_20 : decode cX7_bestLetter 20 = .ok (.iload 6, 2) := by decide +kernel
theorem dX7_bestLetter_22 : decode cX7_bestLetter 22 = .ok (.invokevirtual 159, 3) := by decide +kernel
theorem dX7_bestLetter_25 : decode cX7_bestLetter 25 = .ok (.istore 7, 2) := by decide +kernel
theorem dX7_bestLetter_27 : decode cX7_bestLetter 27 = .ok (.aload_n 0, 1) := by decide +kernel
theorem dX7_bestLetter_28 : decode cX7_bestLetter 28 = .ok (.aload_n 1, 1) := by decide +kernel
theorem dX7_bestLetter_29 : decode cX7_bestLetter 29 = .ok (.iload_n 2, 1) := by decide +kernel
theorem dX7_bestLetter_30 : decode cX7_bestLetter 30 = .ok (.iload 7, 2) := by decide +kernel
theorem dX7_bestLetter_32 : decode cX7_bestLetter 32 = .ok (.invokevirtual 163, 3) := by decide +kernel
theorem dX7_squaresWith_0 : decode cX7_squaresWith 0 = .ok (.lconst 0, 1) := by decide +kernel
theorem dX7_squaresWith_1 : decode cX7_squaresWith 1 = .ok (.lstore 4, 2) := by decide +kernel
theorem dX7_squaresWith_3 : decode cX7_squaresWith 3 = .ok (.iconst 0, 1) := by decide +kernel
theorem dX7_squaresWith_4 : decode cX7_squaresWith 4 = .ok (.istore 6, 2) := by decide +kernel
theorem dX7_squaresWith_6 : decode cX7_squaresWith 6 = .ok (.iload 6, 2) := by decide +kernel
theorem dX7_squaresWith_8 : decode cX7_squaresWith 8 = .ok (.aload_n 1, 1) := by decide +kernel
theorem dX7_squaresWith_9 : decode cX7_squaresWith 9 = .ok (.getfield 143, 3) := by decide +kernel
theorem dX7_squaresWith_12 : decode cX7_squaresWith 12 = .ok (.if_icmp .ge 42, 3) := by decide +kernel
theorem dX7_squaresWith_54 : decode cX7_squaresWith 54 = .ok (.lload 4, 2) := by decide +kernel
theorem dX7_squaresWith_56 : decode cX7_squaresWith 56 = .ok (.lreturn, 1) := by decide +kernel
theorem dX7_squaresWith_15 : decode cX7_squaresWith 15 = .ok (.aload_n 0, 1) := by decide +kernel
theorem dX7_squaresWith_16 : decode cX7_squaresWith 16 = .ok (.getfield 38, 3) := by decide +kernel
theorem dX7_squaresWith_19 : decode cX7_squaresWith 19 = .ok (.iload 6, 2) := by decide +kernel
theorem dX7_squaresWith_21 : decode cX7_squaresWith 21 = .ok (.iaload, 1) := by decide +kernel
theorem dX7_squaresWith_22 : decode cX7_squaresWith 22 = .ok (.aload_n 1, 1) := by decide +kernel
theorem dX7_squaresWith_23 : decode cX7_squaresWith 23 = .ok (.getfield 146, 3) := by decide +kernel
theorem dX7_squaresWith_26 : decode cX7_squaresWith 26 = .ok (.iload 6, 2) := by decide +kernel
theorem dX7_squaresWith_28 : decode cX7_squaresWith 28 = .ok (.iload_n 2, 1) := by decide +kernel
theorem dX7_squaresWith_29 : decode cX7_squaresWith 29 = .ok (.invokevirtual 150, 3) := by decide +kernel
theorem dX7_squaresWith_32 : decode cX7_squaresWith 32 = .ok (.iload_n 3, 1) := by decide +kernel
theorem dX7_squaresWith_33 : decode cX7_squaresWith 33 = .ok (.imul, 1) := by decide +kernel
theorem dX7_squaresWith_34 : decode cX7_squaresWith 34 = .ok (.isub, 1) := by decide +kernel
theorem dX7_squaresWith_35 : decode cX7_squaresWith 35 = .ok (.i2l, 1) := by decide +kernel
theorem dX7_squaresWith_36 : decode cX7_squaresWith 36 = .ok (.lstore 7, 2) := by decide +kernel
theorem dX7_squaresWith_38 : decode cX7_squaresWith 38 = .ok (.lload 4, 2) := by decide +kernel
theorem dX7_squaresWith_40 : decode cX7_squaresWith 40 = .ok (.lload 7, 2) := by decide +kernel
theorem dX7_squaresWith_42 : decode cX7_squaresWith 42 = .ok (.lload 7, 2) := by decide +kernel
theorem dX7_squaresWith_44 : decode cX7_squaresWith 44 = .ok (.lmul, 1) := by decide +kernel
theorem dX7_squaresWith_45 : decode cX7_squaresWith 45 = .ok (.ladd, 1) := by decide +kernel
theorem dX7_squaresWith_46 : decode cX7_squaresWith 46 = .ok (.lstore 4, 2) := by decide +kernel
theorem dX7_squaresWith_48 : decode cX7_squaresWith 48 = .ok (.iinc 6 1, 3) := by decide +kernel
theorem dX7_squaresWith_51 : decode cX7_squaresWith 51 = .ok (.goto (-45), 3) := by decide +kernel
theorem dX7_bestLetter_35 : decode cX7_bestLetter 35 = .ok (.lstore 8, 2) := by decide +kernel
theorem dX7_bestLetter_37 : decode cX7_bestLetter 37 = .ok (.lload 8, 2) := by decide +kernel
theorem dX7_bestLetter_39 : decode cX7_bestLetter 39 = .ok (.lload 4, 2) := by decide +kernel
theorem dX7_bestLetter_41 : decode cX7_bestLetter 41 = .ok (.lcmp, 1) := by decide +kernel
theorem dX7_bestLetter_42 : decode cX7_bestLetter 42 = .ok (.ifCond .ge 10, 3) := by decide +kernel
theorem dX7_bestLetter_52 : decode cX7_bestLetter 52 = .ok (.iinc 6 1, 3) := by decide +kernel
theorem dX7_bestLetter_55 : decode cX7_bestLetter 55 = .ok (.goto (-45), 3) := by decide +kernel
theorem dX7_bestLetter_45 : decode cX7_bestLetter 45 = .ok (.lload 8, 2) := by decide +kernel
theorem dX7_bestLetter_47 : decode cX7_bestLetter 47 = .ok (.lstore 4, 2) := by decide +kernel
theorem dX7_bestLetter_49 : decode cX7_bestLetter 49 = .ok (.iload 7, 2) := by decide +kernel
theorem dX7_bestLetter_51 : decode cX7_bestLetter 51 = .ok (.istore_n 3, 1) := by decide +kernel
theorem dX7_cancelAll_48 : decode cX7_cancelAll 48 = .ok (.iastore, 1) := by decide +kernel
theorem dX7_cancelAll_49 : decode cX7_cancelAll 49 = .ok (.iconst 0, 1) := by decide +kernel
theorem dX7_cancelAll_50 : decode cX7_cancelAll 50 = .ok (.istore 5, 2) := by decide +kernel
theorem dX7_cancelAll_52 : decode cX7_cancelAll 52 = .ok (.iload 5, 2) := by decide +kernel
theorem dX7_cancelAll_54 : decode cX7_cancelAll 54 = .ok (.aload_n 1, 1) := by decide +kernel
theorem dX7_cancelAll_55 : decode cX7_cancelAll 55 = .ok (.getfield 143, 3) := by decide +kernel
theorem dX7_cancelAll_58 : decode cX7_cancelAll 58 = .ok (.if_icmp .ge 38, 3) := by decide +kernel
theorem dX7_cancelAll_96 : decode cX7_cancelAll 96 = .ok (.iinc 3 1, 3) := by decide +kernel
theorem dX7_cancelAll_99 : decode cX7_cancelAll 99 = .ok (.goto (-80), 3) := by decide +kernel
theorem dX7_cancelAll_61 : decode cX7_cancelAll 61 = .ok (.aload_n 0, 1) := by decide +kernel
theorem dX7_cancelAll_62 : decode cX7_cancelAll 62 = .ok (.getfield 38, 3) := by decide +kernel
theorem dX7_cancelAll_65 : decode cX7_cancelAll 65 = .ok (.iload 5, 2) := by decide +kernel
theorem dX7_cancelAll_67 : decode cX7_cancelAll 67 = .ok (.dup2, 1) := by decide +kernel
theorem dX7_cancelAll_68 : decode cX7_cancelAll 68 = .ok (.iaload, 1) := by decide +kernel
theorem dX7_cancelAll_69 : decode cX7_cancelAll 69 = .ok (.aload_n 1, 1) := by decide +kernel
theorem dX7_cancelAll_70 : decode cX7_cancelAll 70 = .ok (.getfield 146, 3) := by decide +kernel
theorem dX7_cancelAll_73 : decode cX7_cancelAll 73 = .ok (.iload 5, 2) := by decide +kernel
theorem dX7_cancelAll_75 : decode cX7_cancelAll 75 = .ok (.iload 4, 2) := by decide +kernel
theorem dX7_cancelAll_77 : decode cX7_cancelAll 77 = .ok (.invokevirtual 150, 3) := by decide +kernel
theorem dX7_cancelAll_80 : decode cX7_cancelAll 80 = .ok (.aload_n 0, 1) := by decide +kernel
theorem dX7_cancelAll_81 : decode cX7_cancelAll 81 = .ok (.getfield 35, 3) := by decide +kernel
theorem dX7_cancelAll_84 : decode cX7_cancelAll 84 = .ok (.iload 4, 2) := by decide +kernel
theorem dX7_cancelAll_86 : decode cX7_cancelAll 86 = .ok (.iaload, 1) := by decide +kernel
theorem dX7_cancelAll_87 : decode cX7_cancelAll 87 = .ok (.imul, 1) := by decide +kernel
theorem dX7_cancelAll_88 : decode cX7_cancelAll 88 = .ok (.isub, 1) := by decide +kernel
theorem dX7_cancelAll_89 : decode cX7_cancelAll 89 = .ok (.iastore, 1) := by decide +kernel
theorem dX7_cancelAll_90 : decode cX7_cancelAll 90 = .ok (.iinc 5 1, 3) := by decide +kernel
theorem dX7_cancelAll_93 : decode cX7_cancelAll 93 = .ok (.goto (-41), 3) := by decide +kernel
theorem dX7_leastWith_0 : decode cX7_leastWith 0 = .ok (.aload_n 0, 1) := by decide +kernel
theorem dX7_leastWith_1 : decode cX7_leastWith 1 = .ok (.getfield 26, 3) := by decide +kernel
theorem dX7_leastWith_4 : decode cX7_leastWith 4 = .ok (.iload_n 1, 1) := by decide +kernel
theorem dX7_leastWith_5 : decode cX7_leastWith 5 = .ok (.bipush 8, 2) := by decide +kernel
theorem dX7_leastWith_7 : decode cX7_leastWith 7 = .ok (.imul, 1) := by decide +kernel
theorem dX7_leastWith_8 : decode cX7_leastWith 8 = .ok (.iload_n 2, 1) := by decide +kernel
theorem dX7_leastWith_9 : decode cX7_leastWith 9 = .ok (.iadd, 1) := by decide +kernel
theorem dX7_leastWith_10 : decode cX7_leastWith 10 = .ok (.laload, 1) := by decide +kernel
theorem dX7_leastWith_11 : decode cX7_leastWith 11 = .ok (.lreturn, 1) := by decide +kernel
theorem dX7_shareOf_0 : decode cX7_shareOf 0 = .ok (.aload_n 0, 1) := by decide +kernel
theorem dX7_shareOf_1 : decode cX7_shareOf 1 = .ok (.getfield 45, 3) := by decide +kernel
theorem dX7_shareOf_4 : decode cX7_shareOf 4 = .ok (.lconst 0, 1) := by decide +kernel
theorem dX7_shareOf_5 : decode cX7_shareOf 5 = .ok (.lcmp, 1) := by decide +kernel
theorem dX7_shareOf_6 : decode cX7_shareOf 6 = .ok (.ifCond .gt 5, 3) := by decide +kernel
theorem dX7_shareOf_11 : decode cX7_shareOf 11 = .ok (.ldc2_w 128, 3) := by decide +kernel
theorem dX7_shareOf_14 : decode cX7_shareOf 14 = .ok (.aload_n 0, 1) := by decide +kernel
theorem dX7_shareOf_15 : decode cX7_shareOf 15 = .ok (.getfield 29, 3) := by decide +kernel
theorem dX7_shareOf_18 : decode cX7_shareOf 18 = .ok (.iload_n 1, 1) := by decide +kernel
theorem dX7_shareOf_19 : decode cX7_shareOf 19 = .ok (.bipush 8, 2) := by decide +kernel
theorem dX7_shareOf_21 : decode cX7_shareOf 21 = .ok (.imul, 1) := by decide +kernel
theorem dX7_shareOf_22 : decode cX7_shareOf 22 = .ok (.iload_n 2, 1) := by decide +kernel
theorem dX7_shareOf_23 : decode cX7_shareOf 23 = .ok (.iadd, 1) := by decide +kernel
theorem dX7_shareOf_24 : decode cX7_shareOf 24 = .ok (.laload, 1) := by decide +kernel
theorem dX7_shareOf_25 : decode cX7_shareOf 25 = .ok (.lmul, 1) := by decide +kernel
theorem dX7_shareOf_26 : decode cX7_shareOf 26 = .ok (.aload_n 0, 1) := by decide +kernel
theorem dX7_shareOf_27 : decode cX7_shareOf 27 = .ok (.getfield 45, 3) := by decide +kernel
theorem dX7_shareOf_30 : decode cX7_shareOf 30 = .ok (.ldiv, 1) := by decide +kernel
theorem dX7_shareOf_31 : decode cX7_shareOf 31 = .ok (.l2i, 1) := by decide +kernel
theorem dX7_shareOf_32 : decode cX7_shareOf 32 = .ok (.ireturn, 1) := by decide +kernel
theorem dX7_shareOf_9 : decode cX7_shareOf 9 = .ok (.iconst 0, 1) := by decide +kernel
theorem dX7_shareOf_10 : decode cX7_shareOf 10 = .ok (.ireturn, 1) := by decide +kernel
theorem dX7_leastWithout_0 : decode cX7_leastWithout 0 = .ok (.ldc2_w 76, 3) := by decide +kernel
theorem dX7_leastWithout_3 : decode cX7_leastWithout 3 = .ok (.lstore 4, 2) := by decide +kernel
theorem dX7_leastWithout_5 : decode cX7_leastWithout 5 = .ok (.iconst 0, 1) := by decide +kernel
theorem dX7_leastWithout_6 : decode cX7_leastWithout 6 = .ok (.istore 6, 2) := by decide +kernel
theorem dX7_leastWithout_8 : decode cX7_leastWithout 8 = .ok (.iload 6, 2) := by decide +kernel
theorem dX7_leastWithout_10 : decode cX7_leastWithout 10 = .ok (.iload_n 3, 1) := by decide +kernel
theorem dX7_leastWithout_11 : decode cX7_leastWithout 11 = .ok (.if_icmp .ge 29, 3) := by decide +kernel
theorem dX7_leastWithout_40 : decode cX7_leastWithout 40 = .ok (.lload 4, 2) := by decide +kernel
theorem dX7_leastWithout_42 : decode cX7_leastWithout 42 = .ok (.lreturn, 1) := by decide +kernel
theorem dX7_leastWithout_14 : decode cX7_leastWithout 14 = .ok (.iload 6, 2) := by decide +kernel
theorem dX7_leastWithout_16 : decode cX7_leastWithout 16 = .ok (.iload_n 2, 1) := by decide +kernel
theorem dX7_leastWithout_17 : decode cX7_leastWithout 17 = .ok (.if_icmp .eq 17, 3) := by decide +kernel
theorem dX7_leastWithout_34 : decode cX7_leastWithout 34 = .ok (.iinc 6 1, 3) := by decide +kernel
theorem dX7_leastWithout_37 : decode cX7_leastWithout 37 = .ok (.goto (-29), 3) := by decide +kernel
theorem dX7_leastWithout_20 : decode cX7_leastWithout 20 = .ok (.lload 4, 2) := by decide +kernel
theorem dX7_leastWithout_22 : decode cX7_leastWithout 22 = .ok (.aload_n 0, 1) := by decide +kernel
theorem dX7_leastWithout_23 : decode cX7_leastWithout 23 = .ok (.iload_n 1, 1) := by decide +kernel
theorem dX7_leastWithout_24 : decode cX7_leastWithout 24 = .ok (.iload 6, 2) := by decide +kernel
theorem dX7_leastWithout_26 : decode cX7_leastWithout 26 = .ok (.invokevirtual 124, 3) := by decide +kernel
theorem dX7_leastWithout_29 : decode cX7_leastWithout 29 = .ok (.invokestatic 115, 3) := by decide +kernel
theorem dX7_leastWithout_32 : decode cX7_leastWithout 32 = .ok (.lstore 4, 2) := by decide +kernel
theorem dX3_forget_0 : decode cX3_forget 0 = .ok (.aload_n 0, 1) := by decide +kernel
theorem dX3_forget_1 : decode cX3_forget 1 = .ok (.iconst 0, 1) := by decide +kernel
theorem dX3_forget_2 : decode cX3_forget 2 = .ok (.putfield 39, 3) := by decide +kernel
theorem dX3_forget_5 : decode cX3_forget 5 = .ok (.aload_n 0, 1) := by decide +kernel
