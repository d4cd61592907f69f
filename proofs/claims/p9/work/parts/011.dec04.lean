theorem dX6_findShortest_156 : decode cX6_findShortest 156 = .ok (.goto (-23), 3) := by decide +kernel
theorem dX6_findShortest_20 : decode cX6_findShortest 20 = .ok (.iload_n 2, 1) := by decide +kernel
theorem dX6_findShortest_21 : decode cX6_findShortest 21 = .ok (.iload 4, 2) := by decide +kernel
theorem dX6_findShortest_23 : decode cX6_findShortest 23 = .ok (.ishr, 1) := by decide +kernel
theorem dX6_findShortest_24 : decode cX6_findShortest 24 = .ok (.iconst 1, 1) := by decide +kernel
theorem dX6_findShortest_25 : decode cX6_findShortest 25 = .ok (.iand, 1) := by decide +kernel
theorem dX6_findShortest_26 : decode cX6_findShortest 26 = .ok (.iconst 1, 1) := by decide +kernel
theorem dX6_findShortest_27 : decode cX6_findShortest 27 = .ok (.if_icmp .ne 7, 3) := by decide +kernel
theorem dX6_findShortest_34 : decode cX6_findShortest 34 = .ok (.iconst 0, 1) := by decide +kernel
theorem dX6_findShortest_35 : decode cX6_findShortest 35 = .ok (.istore 5, 2) := by decide +kernel
theorem dX6_findShortest_37 : decode cX6_findShortest 37 = .ok (.aload_n 0, 1) := by decide +kernel
theorem dX6_findShortest_38 : decode cX6_findShortest 38 = .ok (.getfield 12, 3) := by decide +kernel
theorem dX6_findShortest_41 : decode cX6_findShortest 41 = .ok (.iload 4, 2) := by decide +kernel
theorem dX6_findShortest_43 : decode cX6_findShortest 43 = .ok (.iload 5, 2) := by decide +kernel
theorem dX6_findShortest_45 : decode cX6_findShortest 45 = .ok (.ifCond .eq 8, 3) := by decide +kernel
theorem dX6_findShortest_53 : decode cX6_findShortest 53 = .ok (.iconst 0, 1) := by decide +kernel
theorem dX6_findShortest_54 : decode cX6_findShortest 54 = .ok (.iconst 1, 1) := by decide +kernel
theorem dX6_findShortest_55 : decode cX6_findShortest 55 = .ok (.iload 5, 2) := by decide +kernel
theorem dX6_findShortest_57 : decode cX6_findShortest 57 = .ok (.ifCond .eq 11, 3) := by decide +kernel
theorem dX6_findShortest_68 : decode cX6_findShortest 68 = .ok (.iconst 1, 1) := by decide +kernel
theorem dX6_findShortest_69 : decode cX6_findShortest 69 = .ok (.invokevirtual 57, 3) := by decide +kernel
theorem dX6_findShortest_72 : decode cX6_findShortest 72 = .ok (.iinc 4 1, 3) := by decide +kernel
theorem dX6_findShortest_75 : decode cX6_findShortest 75 = .ok (.goto (-64), 3) := by decide +kernel
theorem dX6_findShortest_30 : decode cX6_findShortest 30 = .ok (.iconst 1, 1) := by decide +kernel
theorem dX6_findShortest_31 : decode cX6_findShortest 31 = .ok (.goto 4, 3) := by decide +kernel
theorem dX6_findShortest_48 : decode cX6_findShortest 48 = .ok (.iload_n 3, 1) := by decide +kernel
theorem dX6_findShortest_49 : decode cX6_findShortest 49 = .ok (.ineg, 1) := by decide +kernel
theorem dX6_findShortest_50 : decode cX6_findShortest 50 = .ok (.goto 4, 3) := by decide +kernel
theorem dX6_findShortest_60 : decode cX6_findShortest 60 = .ok (.iconst 2, 1) := by decide +kernel
theorem dX6_findShortest_61 : decode cX6_findShortest 61 = .ok (.iload_n 3, 1) := by decide +kernel
theorem dX6_findShortest_62 : decode cX6_findShortest 62 = .ok (.imul, 1) := by decide +kernel
theorem dX6_findShortest_63 : decode cX6_findShortest 63 = .ok (.iconst 1, 1) := by decide +kernel
theorem dX6_findShortest_64 : decode cX6_findShortest 64 = .ok (.iadd, 1) := by decide +kernel
theorem dX6_findShortest_65 : decode cX6_findShortest 65 = .ok (.goto 4, 3) := by decide +kernel
theorem dX6_apartOf_0 : decode cX6_apartOf 0 = .ok (.aload_n 0, 1) := by decide +kernel
theorem dX6_apartOf_1 : decode cX6_apartOf 1 = .ok (.getfield 22, 3) := by decide +kernel
theorem dX6_apartOf_4 : decode cX6_apartOf 4 = .ok (.iload_n 2, 1) := by decide +kernel
theorem dX6_apartOf_5 : decode cX6_apartOf 5 = .ok (.laload, 1) := by decide +kernel
theorem dX6_apartOf_6 : decode cX6_apartOf 6 = .ok (.lconst 0, 1) := by decide +kernel
theorem dX6_apartOf_7 : decode cX6_apartOf 7 = .ok (.lcmp, 1) := by decide +kernel
theorem dX6_apartOf_8 : decode cX6_apartOf 8 = .ok (.ifCond .ge 29, 3) := by decide +kernel
theorem dX6_apartOf_37 : decode cX6_apartOf 37 = .ok (.aload_n 0, 1) := by decide +kernel
theorem dX6_apartOf_38 : decode cX6_apartOf 38 = .ok (.getfield 22, 3) := by decide +kernel
theorem dX6_apartOf_41 : decode cX6_apartOf 41 = .ok (.iload_n 2, 1) := by decide +kernel
theorem dX6_apartOf_42 : decode cX6_apartOf 42 = .ok (.laload, 1) := by decide +kernel
theorem dX6_apartOf_43 : decode cX6_apartOf 43 = .ok (.lreturn, 1) := by decide +kernel
theorem dX6_apartOf_11 : decode cX6_apartOf 11 = .ok (.aload_n 0, 1) := by decide +kernel
theorem dX6_apartOf_12 : decode cX6_apartOf 12 = .ok (.aload_n 1, 1) := by decide +kernel
theorem dX6_apartOf_13 : decode cX6_apartOf 13 = .ok (.iload_n 2, 1) := by decide +kernel
theorem dX6_apartOf_14 : decode cX6_apartOf 14 = .ok (.aload_n 1, 1) := by decide +kernel
theorem dX6_apartOf_15 : decode cX6_apartOf 15 = .ok (.getfield 38, 3) := by decide +kernel
theorem dX6_apartOf_18 : decode cX6_apartOf 18 = .ok (.iconst 1, 1) := by decide +kernel
theorem dX6_apartOf_19 : decode cX6_apartOf 19 = .ok (.isub, 1) := by decide +kernel
theorem dX6_apartOf_20 : decode cX6_apartOf 20 = .ok (.invokevirtual 44, 3) := by decide +kernel
theorem dX6_apartOf_23 : decode cX6_apartOf 23 = .ok (.aload_n 0, 1) := by decide +kernel
theorem dX6_apartOf_24 : decode cX6_apartOf 24 = .ok (.getfield 22, 3) := by decide +kernel
theorem dX6_apartOf_27 : decode cX6_apartOf 27 = .ok (.iload_n 2, 1) := by decide +kernel
theorem dX6_apartOf_28 : decode cX6_apartOf 28 = .ok (.ldc2_w 48, 3) := by decide +kernel
theorem dX6_apartOf_31 : decode cX6_apartOf 31 = .ok (.aload_n 0, 1) := by decide +kernel
theorem dX6_apartOf_32 : decode cX6_apartOf 32 = .ok (.getfield 26, 3) := by decide +kernel
theorem dX6_apartOf_35 : decode cX6_apartOf 35 = .ok (.lmul, 1) := by decide +kernel
theorem dX6_apartOf_36 : decode cX6_apartOf 36 = .ok (.lastore, 1) := by decide +kernel
theorem dX7_forget_0 : decode cX7_forget 0 = .ok (.aload_n 0, 1) := by decide +kernel
theorem dX7_forget_1 : decode cX7_forget 1 = .ok (.iconst 0, 1) := by decide +kernel
theorem dX7_forget_2 : decode cX7_forget 2 = .ok (.putfield 49, 3) := by decide +kernel
theorem dX7_forget_5 : decode cX7_forget 5 = .ok (.return_, 1) := by decide +kernel
theorem dX7_learn_0 : decode cX7_learn 0 = .ok (.aload_n 0, 1) := by decide +kernel
theorem dX7_learn_1 : decode cX7_learn 1 = .ok (.getfield 49, 3) := by decide +kernel
theorem dX7_learn_4 : decode cX7_learn 4 = .ok (.ifCond .ne 10, 3) := by decide +kernel
theorem dX7_learn_14 : decode cX7_learn 14 = .ok (.return_, 1) := by decide +kernel
theorem dX7_learn_7 : decode cX7_learn 7 = .ok (.aload_n 1, 1) := by decide +kernel
theorem dX7_learn_8 : decode cX7_learn 8 = .ok (.getfield 73, 3) := by decide +kernel
theorem dX7_learn_11 : decode cX7_learn 11 = .ok (.ifCond .ne 4, 3) := by decide +kernel
theorem dX7_learn_15 : decode cX7_learn 15 = .ok (.aload_n 0, 1) := by decide +kernel
theorem dX7_learn_16 : decode cX7_learn 16 = .ok (.iconst 1, 1) := by decide +kernel
theorem dX7_learn_17 : decode cX7_learn 17 = .ok (.putfield 49, 3) := by decide +kernel
theorem dX7_learn_20 : decode cX7_learn 20 = .ok (.aload_n 0, 1) := by decide +kernel
theorem dX7_learn_21 : decode cX7_learn 21 = .ok (.iconst 0, 1) := by decide +kernel
theorem dX7_learn_22 : decode cX7_learn 22 = .ok (.putfield 41, 3) := by decide +kernel
theorem dX7_learn_25 : decode cX7_learn 25 = .ok (.aload_n 0, 1) := by decide +kernel
theorem dX7_learn_26 : decode cX7_learn 26 = .ok (.lconst 0, 1) := by decide +kernel
theorem dX7_learn_27 : decode cX7_learn 27 = .ok (.putfield 45, 3) := by decide +kernel
theorem dX7_learn_30 : decode cX7_learn 30 = .ok (.aload_n 0, 1) := by decide +kernel
theorem dX7_learn_31 : decode cX7_learn 31 = .ok (.getfield 26, 3) := by decide +kernel
theorem dX7_learn_34 : decode cX7_learn 34 = .ok (.ldc2_w 76, 3) := by decide +kernel
theorem dX7_learn_37 : decode cX7_learn 37 = .ok (.invokestatic 78, 3) := by decide +kernel
theorem dX7_learn_40 : decode cX7_learn 40 = .ok (.aload_n 0, 1) := by decide +kernel
theorem dX7_learn_41 : decode cX7_learn 41 = .ok (.getfield 29, 3) := by decide +kernel
theorem dX7_learn_44 : decode cX7_learn 44 = .ok (.lconst 0, 1) := by decide +kernel
theorem dX7_learn_45 : decode cX7_learn 45 = .ok (.invokestatic 78, 3) := by decide +kernel
theorem dX7_learn_48 : decode cX7_learn 48 = .ok (.aload_n 0, 1) := by decide +kernel
theorem dX7_learn_49 : decode cX7_learn 49 = .ok (.aload_n 1, 1) := by decide +kernel
theorem dX7_learn_50 : decode cX7_learn 50 = .ok (.aload_n 2, 1) := by decide +kernel
theorem dX7_learn_51 : decode cX7_learn 51 = .ok (.invokevirtual 84, 3) := by decide +kernel
theorem dX7_startWalk_0 : decode cX7_startWalk 0 = .ok (.aload_n 0, 1) := by decide +kernel
theorem dX7_startWalk_1 : decode cX7_startWalk 1 = .ok (.getfield 12, 3) := by decide +kernel
theorem dX7_startWalk_4 : decode cX7_startWalk 4 = .ok (.aload_n 1, 1) := by decide +kernel
theorem dX7_startWalk_5 : decode cX7_startWalk 5 = .ok (.invokevirtual 53, 3) := by decide +kernel
theorem dX7_startWalk_8 : decode cX7_startWalk 8 = .ok (.aload_n 0, 1) := by decide +kernel
theorem dX7_startWalk_9 : decode cX7_startWalk 9 = .ok (.getfield 12, 3) := by decide +kernel
theorem dX7_startWalk_12 : decode cX7_startWalk 12 = .ok (.aload_n 1, 1) := by decide +kernel
theorem dX7_startWalk_13 : decode cX7_startWalk 13 = .ok (.aload_n 2, 1) := by decide +kernel
theorem dX7_startWalk_14 : decode cX7_startWalk 14 = .ok (.invokevirtual 57, 3) := by decide +kernel
theorem dX7_startWalk_17 : decode cX7_startWalk 17 = .ok (.aload_n 0, 1) := by decide +kernel
theorem dX7_startWalk_18 : decode cX7_startWalk 18 = .ok (.getfield 12, 3) := by decide +kernel
theorem dX7_startWalk_21 : decode cX7_startWalk 21 = .ok (.iconst 1, 1) := by decide +kernel
theorem dX7_startWalk_22 : decode cX7_startWalk 22 = .ok (.aload_n 1, 1) := by decide +kernel
theorem dX7_startWalk_23 : decode cX7_startWalk 23 = .ok (.getfield 61, 3) := by decide +kernel
theorem dX7_startWalk_26 : decode cX7_startWalk 26 = .ok (.isub, 1) := by decide +kernel
theorem dX7_startWalk_27 : decode cX7_startWalk 27 = .ok (.iconst 2, 1) := by decide +kernel
theorem dX7_startWalk_28 : decode cX7_startWalk 28 = .ok (.aload_n 1, 1) := by decide +kernel
theorem dX7_startWalk_29 : decode cX7_startWalk 29 = .ok (.getfield 61, 3) := by decide +kernel
theorem dX7_startWalk_32 : decode cX7_startWalk 32 = .ok (.invokevirtual 66, 3) := by decide +kernel
theorem dX7_startWalk_35 : decode cX7_startWalk 35 = .ok (.aload_n 0, 1) := by decide +kernel
theorem dX7_startWalk_36 : decode cX7_startWalk 36 = .ok (.getfield 12, 3) := by decide +kernel
theorem dX7_startWalk_39 : decode cX7_startWalk 39 = .ok (.invokevirtual 70, 3) := by decide +kernel
theorem dX7_startWalk_42 : decode cX7_startWalk 42 = .ok (.return_, 1) := by decide +kernel
theorem dX7_learn_54 : decode cX7_learn 54 = .ok (.aload_n 0, 1) := by decide +kernel
theorem dX7_learn_55 : decode cX7_learn 55 = .ok (.getfield 12, 3) := by decide +kernel
theorem dX7_learn_58 : decode cX7_learn 58 = .ok (.invokevirtual 87, 3) := by decide +kernel
theorem dX7_learn_61 : decode cX7_learn 61 = .ok (.istore_n 3, 1) := by decide +kernel
theorem dX7_learn_62 : decode cX7_learn 62 = .ok (.iconst 0, 1) := by decide +kernel
theorem dX7_learn_63 : decode cX7_learn 63 = .ok (.istore 4, 2) := by decide +kernel
theorem dX7_learn_65 : decode cX7_learn 65 = .ok (.iload 4, 2) := by decide +kernel
theorem dX7_learn_67 : decode cX7_learn 67 = .ok (.iload_n 3, 1) := by decide +kernel
theorem dX7_learn_68 : decode cX7_learn 68 = .ok (.if_icmp .ge 31, 3) := by decide +kernel
theorem dX7_learn_99 : decode cX7_learn 99 = .ok (.return_, 1) := by decide +kernel
theorem dX7_learn_71 : decode cX7_learn 71 = .ok (.aload_n 0, 1) := by decide +kernel
theorem dX7_learn_72 : decode cX7_learn 72 = .ok (.iload 4, 2) := by decide +kernel
theorem dX7_learn_74 : decode cX7_learn 74 = .ok (.aload_n 1, 1) := by decide +kernel
theorem dX7_learn_75 : decode cX7_learn 75 = .ok (.getfield 61, 3) := by decide +kernel
theorem dX7_learn_78 : decode cX7_learn 78 = .ok (.imul, 1) := by decide +kernel
theorem dX7_learn_79 : decode cX7_learn 79 = .ok (.aload_n 1, 1) := by decide +kernel
theorem dX7_learn_80 : decode cX7_learn 80 = .ok (.getfield 61, 3) := by decide +kernel
theorem dX7_learn_83 : decode cX7_learn 83 = .ok (.invokevirtual 91, 3) := by decide +kernel
theorem dX7_learnLine_0 : decode cX7_learnLine 0 = .ok (.ldc2_w 76, 3) := by decide +kernel
theorem dX7_learnLine_3 : decode cX7_learnLine 3 = .ok (.lstore_n 3, 1) := by decide +kernel
theorem dX7_learnLine_4 : decode cX7_learnLine 4 = .ok (.lconst 0, 1) := by decide +kernel
theorem dX7_learnLine_5 : decode cX7_learnLine 5 = .ok (.lstore 5, 2) := by decide +kernel
theorem dX7_learnLine_7 : decode cX7_learnLine 7 = .ok (.iconst 0, 1) := by decide +kernel
theorem dX7_learnLine_8 : decode cX7_learnLine 8 = .ok (.istore 7, 2) := by decide +kernel
theorem dX7_learnLine_10 : decode cX7_learnLine 10 = .ok (.iload 7, 2) := by decide +kernel
theorem dX7_learnLine_12 : decode cX7_learnLine 12 = .ok (.iload_n 2, 1) := by decide +kernel
theorem dX7_learnLine_13 : decode cX7_learnLine 13 = .ok (.if_icmp .ge 82, 3) := by decide +kernel
theorem dX7_learnLine_95 : decode cX7_learnLine 95 = .ok (.iconst 0, 1) := by decide +kernel
theorem dX7_learnLine_96 : decode cX7_learnLine 96 = .ok (.istore 7, 2) := by decide +kernel
theorem dX7_learnLine_98 : decode cX7_learnLine 98 = .ok (.iload 7, 2) := by decide +kernel
theorem dX7_learnLine_100 : decode cX7_learnLine 100 = .ok (.aload_n 0, 1) := by decide +kernel
theorem dX7_learnLine_101 : decode cX7_learnLine 101 = .ok (.getfield 12, 3) := by decide +kernel
theorem dX7_learnLine_104 : decode cX7_learnLine 104 = .ok (.getfield 104, 3) := by decide +kernel
theorem dX7_learnLine_107 : decode cX7_learnLine 107 = .ok (.if_icmp .ge 28, 3) := by decide +kernel
theorem dX7_learnLine_135 : decode cX7_learnLine 135 = .ok (.aload_n 0, 1) := by decide +kernel
theorem dX7_learnLine_136 : decode cX7_learnLine 136 = .ok (.dup, 1) := by decide +kernel
theorem dX7_learnLine_137 : decode cX7_learnLine 137 = .ok (.getfield 45, 3) := by decide +kernel
theorem dX7_learnLine_140 : decode cX7_learnLine 140 = .ok (.lload 5, 2) := by decide +kernel
theorem dX7_learnLine_142 : decode cX7_learnLine 142 = .ok (.ladd, 1) := by decide +kernel
theorem dX7_learnLine_143 : decode cX7_learnLine 143 = .ok (.putfield 45, 3) := by decide +kernel
theorem dX7_learnLine_146 : decode cX7_learnLine 146 = .ok (.return_, 1) := by decide +kernel
theorem dX7_learnLine_110 : decode cX7_learnLine 110 = .ok (.aload_n 0, 1) := by decide +kernel
theorem dX7_learnLine_111 : decode cX7_learnLine 111 = .ok (.iload 7, 2) := by decide +kernel
theorem dX7_learnLine_113 : decode cX7_learnLine 113 = .ok (.aload_n 0, 1) := by decide +kernel
theorem dX7_learnLine_114 : decode cX7_learnLine 114 = .ok (.getfield 12, 3) := by decide +kernel
theorem dX7_learnLine_117 : decode cX7_learnLine 117 = .ok (.getfield 121, 3) := by decide +kernel
theorem dX7_learnLine_120 : decode cX7_learnLine 120 = .ok (.iload 7, 2) := by decide +kernel
theorem dX7_learnLine_122 : decode cX7_learnLine 122 = .ok (.iaload, 1) := by decide +kernel
theorem dX7_learnLine_123 : decode cX7_learnLine 123 = .ok (.lload_n 3, 1) := by decide +kernel
theorem dX7_learnLine_124 : decode cX7_learnLine 124 = .ok (.lload 5, 2) := by decide +kernel
theorem dX7_learnLine_126 : decode cX7_learnLine 126 = .ok (.invokevirtual 107, 3) := by decide +kernel
theorem dX7_note_0 : decode cX7_note 0 = .ok (.iload_n 1, 1) := by decide +kernel
theorem dX7_note_1 : decode cX7_note 1 = .ok (.bipush 8, 2) := by decide +kernel
theorem dX7_note_3 : decode cX7_note 3 = .ok (.imul, 1) := by decide +kernel
theorem dX7_note_4 : decode cX7_note 4 = .ok (.iload_n 2, 1) := by decide +kernel
theorem dX7_note_5 : decode cX7_note 5 = .ok (.iadd, 1) := by decide +kernel
theorem dX7_note_6 : decode cX7_note 6 = .ok (.istore 7, 2) := by decide +kernel
theorem dX7_note_8 : decode cX7_note 8 = .ok (.aload_n 0, 1) := by decide +kernel
theorem dX7_note_9 : decode cX7_note 9 = .ok (.getfield 26, 3) := by decide +kernel
theorem dX7_note_12 : decode cX7_note 12 = .ok (.iload 7, 2) := by decide +kernel
theorem dX7_note_14 : decode cX7_note 14 = .ok (.aload_n 0, 1) := by decide +kernel
theorem dX7_note_15 : decode cX7_note 15 = .ok (.getfield 26, 3) := by decide +kernel
theorem dX7_note_18 : decode cX7_note 18 = .ok (.iload 7, 2) := by decide +kernel
theorem dX7_note_20 : decode cX7_note 20 = .ok (.laload, 1) := by decide +kernel
theorem dX7_note_21 : decode cX7_note 21 = .ok (.lload_n 3, 1) := by decide +kernel
theorem dX7_note_22 : decode cX7_note 22 = .ok (.invokestatic 115, 3) := by decide +kernel
theorem dX7_note_25 : decode cX7_note 25 = .ok (.lastore, 1) := by decide +kernel
theorem dX7_note_26 : decode cX7_note 26 = .ok (.aload_n 0, 1) := by decide +kernel
theorem dX7_note_27 : decode cX7_note 27 = .ok (.getfield 29, 3) := by decide +kernel
theorem dX7_note_30 : decode cX7_note 30 = .ok (.iload 7, 2) := by decide +kernel
theorem dX7_note_32 : decode cX7_note 32 = .ok (.dup2, 1) := by decide +kernel
theorem dX7_note_33 : decode cX7_note 33 = .ok (.laload, 1) := by decide +kernel
theorem dX7_note_34 : decode cX7_note 34 = .ok (.lload 5, 2) := by decide +kernel
theorem dX7_note_36 : decode cX7_note 36 = .ok (.ladd, 1) := by decide +kernel
theorem dX7_note_37 : decode cX7_note 37 = .ok (.lastore, 1) := by decide +kernel
theorem dX7_note_38 : decode cX7_note 38 = .ok (.return_, 1) := by decide +kernel
theorem dX7_learnLine_129 : decode cX7_learnLine 129 = .ok (.iinc 7 1, 3) := by decide +kernel
theorem dX7_learnLine_132 : decode cX7_learnLine 132 = .ok (.goto (-34), 3) := by decide +kernel
theorem dX7_learnLine_16 : decode cX7_learnLine 16 = .ok (.aload_n 0, 1) := by decide +kernel
theorem dX7_learnLine_17 : decode cX7_learnLine 17 = .ok (.getfield 12, 3) := by decide +kernel
theorem dX7_learnLine_20 : decode cX7_learnLine 20 = .ok (.iload 7, 2) := by decide +kernel
theorem dX7_learnLine_22 : decode cX7_learnLine 22 = .ok (.invokevirtual 98, 3) := by decide +kernel
theorem dX7_learnLine_25 : decode cX7_learnLine 25 = .ok (.lstore 8, 2) := by decide +kernel
theorem dX7_learnLine_27 : decode cX7_learnLine 27 = .ok (.lload 8, 2) := by decide +kernel
theorem dX7_learnLine_29 : decode cX7_learnLine 29 = .ok (.lconst 0, 1) := by decide +kernel
theorem dX7_learnLine_30 : decode cX7_learnLine 30 = .ok (.lcmp, 1) := by decide +kernel
theorem dX7_learnLine_31 : decode cX7_learnLine 31 = .ok (.ifCond .ge 7, 3) := by decide +kernel
theorem dX7_learnLine_38 : decode cX7_learnLine 38 = .ok (.ldc2_w 102, 3) := by decide +kernel
theorem dX7_learnLine_41 : decode cX7_learnLine 41 = .ok (.lconst 1, 1) := by decide +kernel
theorem dX7_learnLine_42 : decode cX7_learnLine 42 = .ok (.lload 8, 2) := by decide +kernel
theorem dX7_learnLine_44 : decode cX7_learnLine 44 = .ok (.ladd, 1) := by decide +kernel
theorem dX7_learnLine_45 : decode cX7_learnLine 45 = .ok (.ldiv, 1) := by decide +kernel
theorem dX7_learnLine_46 : decode cX7_learnLine 46 = .ok (.lstore 10, 2) := by decide +kernel
theorem dX7_learnLine_48 : decode cX7_learnLine 48 = .ok (.aload_n 0, 1) := by decide +kernel
theorem dX7_learnLine_49 : decode cX7_learnLine 49 = .ok (.aload_n 0, 1) := by decide +kernel
theorem dX7_learnLine_50 : decode cX7_learnLine 50 = .ok (.getfield 12, 3) := by decide +kernel
theorem dX7_learnLine_53 : decode cX7_learnLine 53 = .ok (.getfield 104, 3) := by decide +kernel
theorem dX7_learnLine_56 : decode cX7_learnLine 56 = .ok (.iload 7, 2) := by decide +kernel
theorem dX7_learnLine_58 : decode cX7_learnLine 58 = .ok (.lload 8, 2) := by decide +kernel
theorem dX7_learnLine_60 : decode cX7_learnLine 60 = .ok (.lload 10, 2) := by decide +kernel
theorem dX7_learnLine_62 : decode cX7_learnLine 62 = .ok (.invokevirtual 107, 3) := by decide +kernel
theorem dX7_learnLine_65 : decode cX7_learnLine 65 = .ok (.aload_n 0, 1) := by decide +kernel
theorem dX7_learnLine_66 : decode cX7_learnLine 66 = .ok (.iload_n 1, 1) := by decide +kernel
theorem dX7_learnLine_67 : decode cX7_learnLine 67 = .ok (.iload 7, 2) := by decide +kernel
theorem dX7_learnLine_69 : decode cX7_learnLine 69 = .ok (.iadd, 1) := by decide +kernel
theorem dX7_learnLine_70 : decode cX7_learnLine 70 = .ok (.lload 8, 2) := by decide +kernel
theorem dX7_learnLine_72 : decode cX7_learnLine 72 = .ok (.invokevirtual 111, 3) := by decide +kernel
theorem dX7_admit_0 : decode cX7_admit 0 = .ok (.aload_n 0, 1) := by decide +kernel
theorem dX7_admit_1 : decode cX7_admit 1 = .ok (.getfield 41, 3) := by decide +kernel
theorem dX7_admit_4 : decode cX7_admit 4 = .ok (.bipush 10, 2) := by decide +kernel
theorem dX7_admit_6 : decode cX7_admit 6 = .ok (.if_icmp .ne 26, 3) := by decide +kernel
theorem dX7_admit_32 : decode cX7_admit 32 = .ok (.aload_n 0, 1) := by decide +kernel
theorem dX7_admit_33 : decode cX7_admit 33 = .ok (.getfield 41, 3) := by decide +kernel
theorem dX7_admit_36 : decode cX7_admit 36 = .ok (.istore 4, 2) := by decide +kernel
theorem dX7_admit_38 : decode cX7_admit 38 = .ok (.iload 4, 2) := by decide +kernel
theorem dX7_admit_40 : decode cX7_admit 40 = .ok (.ifCond .le 55, 3) := by decide +kernel
theorem dX7_admit_95 : decode cX7_admit 95 = .ok (.aload_n 0, 1) := by decide +kernel
theorem dX7_admit_96 : decode cX7_admit 96 = .ok (.getfield 18, 3) := by decide +kernel
theorem dX7_admit_99 : decode cX7_admit 99 = .ok (.iload 4, 2) := by decide +kernel
theorem dX7_admit_101 : decode cX7_admit 101 = .ok (.lload_n 2, 1) := by decide +kernel
theorem dX7_admit_102 : decode cX7_admit 102 = .ok (.lastore, 1) := by decide +kernel
theorem dX7_admit_103 : decode cX7_admit 103 = .ok (.aload_n 0, 1) := by decide +kernel
theorem dX7_admit_104 : decode cX7_admit 104 = .ok (.getfield 22, 3) := by decide +kernel
theorem dX7_admit_107 : decode cX7_admit 107 = .ok (.iload 4, 2) := by decide +kernel
theorem dX7_admit_109 : decode cX7_admit 109 = .ok (.iload_n 1, 1) := by decide +kernel
theorem dX7_admit_110 : decode cX7_admit 110 = .ok (.iastore, 1) := by decide +kernel
theorem dX7_admit_111 : decode cX7_admit 111 = .ok (.aload_n 0, 1) := by decide +kernel
theorem dX7_admit_112 : decode cX7_admit 112 = .ok (.dup, 1) := by decide +kernel
theorem dX7_admit_113 : decode cX7_admit 113 = .ok (.getfield 41, 3) := by decide +kernel
theorem dX7_admit_116 : decode cX7_admit 116 = .ok (.iconst 1, 1) := by decide +kernel
theorem dX7_admit_117 : decode cX7_admit 117 = .ok (.iadd, 1) := by decide +kernel
theorem dX7_admit_118 : decode cX7_admit 118 = .ok (.putfield 41, 3) := by decide +kernel
theorem dX7_admit_121 : decode cX7_admit 121 = .ok (.return_, 1) := by decide +kernel
theorem dX7_admit_43 : decode cX7_admit 43 = .ok (.aload_n 0, 1) := by decide +kernel
theorem dX7_admit_44 : decode cX7_admit 44 = .ok (.getfield 18, 3) := by decide +kernel
theorem dX7_admit_47 : decode cX7_admit 47 = .ok (.iload 4, 2) := by decide +kernel
theorem dX7_admit_49 : decode cX7_admit 49 = .ok (.iconst 1, 1) := by decide +kernel
theorem dX7_admit_50 : decode cX7_admit 50 = .ok (.isub, 1) := by decide +kernel
theorem dX7_admit_51 : decode cX7_admit 51 = .ok (.laload, 1) := by decide +kernel
theorem dX7_admit_52 : decode cX7_admit 52 = .ok (.lload_n 2, 1) := by decide +kernel
theorem dX7_admit_53 : decode cX7_admit 53 = .ok (.lcmp, 1) := by decide +kernel
theorem dX7_admit_54 : decode cX7_admit 54 = .ok (.ifCond .le 41, 3) := by decide +kernel
theorem dX7_admit_57 : decode cX7_admit 57 = .ok (.aload_n 0, 1) := by decide +kernel
theorem dX7_admit_58 : decode cX7_admit 58 = .ok (.getfield 18, 3) := by decide +kernel
theorem dX7_admit_61 : decode cX7_admit 61 = .ok (.iload 4, 2) := by decide +kernel
theorem dX7_admit_63 : decode cX7_admit 63 = .ok (.aload_n 0, 1) := by decide +kernel
theorem dX7_admit_64 : decode cX7_admit 64 = .ok (.getfield 18, 3) := by decide +kernel
theorem dX7_admit_67 : decode cX7_admit 67 = .ok (.iload 4, 2) := by decide +kernel
theorem dX7_admit_69 : decode cX7_admit 69 = .ok (.iconst 1, 1) := by decide +kernel
theorem dX7_admit_70 : decode cX7_admit 70 = .ok (.isub, 1) := by decide +kernel
theorem dX7_admit_71 : decode cX7_admit 71 = .ok (.laload, 1) := by decide +kernel
theorem dX7_admit_72 : decode cX7_admit 72 = .ok (.lastore, 1) := by decide +kernel
theorem dX7_admit_73 : decode cX7_admit 73 = .ok (.aload_n 0, 1) := by decide +kernel
theorem dX7_admit_74 : decode cX7_admit 74 = .ok (.getfield 22, 3) := by decide +kernel
theorem dX7_admit_77 : decode cX7_admit 77 = .ok (.iload 4, 2) := by decide +kernel
theorem dX7_admit_79 : decode cX7_admit 79 = .ok (.aload_n 0, 1) := by decide +kernel
theorem dX7_admit_80 : decode cX7_admit 80 = .ok (.getfield 22, 3) := by decide +kernel
theorem dX7_admit_83 : decode cX7_admit 83 = .ok (.iload 4, 2) := by decide +kernel
theorem dX7_admit_85 : decode cX7_admit 85 = .ok (.iconst 1, 1) := by decide +kernel
theorem dX7_admit_86 : decode cX7_admit 86 = .ok (.isub, 1) := by decide +kernel
theorem dX7_admit_87 : decode cX7_admit 87 = .ok (.iaload, 1) := by decide +kernel
theorem dX7_admit_88 : decode cX7_admit 88 = .ok (.iastore, 1) := by decide +kernel
theorem dX7_admit_89 : decode cX7_admit 89 = .ok (.iinc 4 (-1), 3) := by decide +kernel
theorem dX7_admit_92 : decode cX7_admit 92 = .ok (.goto (-54), 3) := by decide +kernel
theorem dX7_admit_9 : decode cX7_admit 9 = .ok (.lload_n 2, 1) := by decide +kernel
theorem dX7_admit_10 : decode cX7_admit 10 = .ok (.aload_n 0, 1) := by decide +kernel
theorem dX7_admit_11 : decode cX7_admit 11 = .ok (.getfield 18, 3) := by decide +kernel
theorem dX7_admit_14 : decode cX7_admit 14 = .ok (.bipush 9, 2) := by decide +kernel
theorem dX7_admit_16 : decode cX7_admit 16 = .ok (.laload, 1) := by decide +kernel
theorem dX7_admit_17 : decode cX7_admit 17 = .ok (.lcmp, 1) := by decide +kernel
theorem dX7_admit_18 : decode cX7_admit 18 = .ok (.ifCond .lt 4, 3) := by decide +kernel
theorem dX7_admit_22 : decode cX7_admit 22 = .ok (.aload_n 0, 1) := by decide +kernel
theorem dX7_admit_23 : decode cX7_admit 23 = .ok (.dup, 1) := by decide +kernel
theorem dX7_admit_24 : decode cX7_admit 24 = .ok (.getfield 41, 3) := by decide +kernel
theorem dX7_admit_27 : decode cX7_admit 27 = .ok (.iconst 1, 1) := by decide +kernel
theorem dX7_admit_28 : decode cX7_admit 28 = .ok (.isub, 1) := by decide +kernel
theorem dX7_admit_29 : decode cX7_admit 29 = .ok (.putfield 41, 3) := by decide +kernel
theorem dX7_admit_21 : decode cX7_admit 21 = .ok (.return_, 1) := by decide +kernel
theorem dX7_learnLine_75 : decode cX7_learnLine 75 = .ok (.lload_n 3, 1) := by decide +kernel
theorem dX7_learnLine_76 : decode cX7_learnLine 76 = .ok (.lload 8, 2) := by decide +kernel
theorem dX7_learnLine_78 : decode cX7_learnLine 78 = .ok (.invokestatic 115, 3) := by decide +kernel
theorem dX7_learnLine_81 : decode cX7_learnLine 81 = .ok (.lstore_n 3, 1) := by decide +kernel
theorem dX7_learnLine_82 : decode cX7_learnLine 82 = .ok (.lload 5, 2) := by decide +kernel
theorem dX7_learnLine_84 : decode cX7_learnLine 84 = .ok (.lload 10, 2) := by decide +kernel
theorem dX7_learnLine_86 : decode cX7_learnLine 86 = .ok (.ladd, 1) := by decide +kernel
theorem dX7_learnLine_87 : decode cX7_learnLine 87 = .ok (.lstore 5, 2) := by decide +kernel
theorem dX7_learnLine_89 : decode cX7_learnLine 89 = .ok (.iinc 7 1, 3) := by decide +kernel
theorem dX7_learnLine_92 : decode cX7_learnLine 92 = .ok (.goto (-82), 3) := by decide +kernel
theorem dX7_learnLine_34 : decode cX7_learnLine 34 = .ok (.lconst 0, 1) := by decide +kernel
theorem dX7_learnLine_35 : decode cX7_learnLine 35 = .ok (.goto 11, 3) := by decide +kernel
theorem dX7_learn_86 : decode cX7_learn 86 = .ok (.aload_n 0, 1) := by decide +kernel
theorem dX7_learn_87 : decode cX7_learn 87 = .ok (.getfield 12, 3) := by decide +kernel
theorem dX7_learn_90 : decode cX7_learn 90 = .ok (.invokevirtual 95, 3) := by decide +kernel
theorem dX7_learn_93 : decode cX7_learn 93 = .ok (.iinc 4 1, 3) := by decide +kernel
theorem dX7_learn_96 : decode cX7_learn 96 = .ok (.goto (-31), 3) := by decide +kernel
theorem dX7_countAhead_0 : decode cX7_countAhead 0 = .ok (.aload_n 1, 1) := by decide +kernel
theorem dX7_countAhead_1 : decode cX7_countAhead 1 = .ok (.getfield 73, 3) := by decide +kernel
theorem dX7_countAhead_4 : decode cX7_countAhead 4 = .ok (.ifCond .ne 5, 3) := by decide +kernel
theorem dX7_countAhead_9 : decode cX7_countAhead 9 = .ok (.aload_n 0, 1) := by decide +kernel
theorem dX7_countAhead_10 : decode cX7_countAhead 10 = .ok (.aload_n 1, 1) := by decide +kernel
theorem dX7_countAhead_11 : decode cX7_countAhead 11 = .ok (.aload_n 2, 1) := by decide +kernel
theorem dX7_countAhead_12 : decode cX7_countAhead 12 = .ok (.invokevirtual 84, 3) := by decide +kernel
theorem dX7_countAhead_15 : decode cX7_countAhead 15 = .ok (.iconst 0, 1) := by decide +kernel
theorem dX7_countAhead_16 : decode cX7_countAhead 16 = .ok (.istore 6, 2) := by decide +kernel
theorem dX7_countAhead_18 : decode cX7_countAhead 18 = .ok (.aload_n 0, 1) := by decide +kernel
theorem dX7_countAhead_19 : decode cX7_countAhead 19 = .ok (.getfield 12, 3) := by decide +kernel
theorem dX7_countAhead_22 : decode cX7_countAhead 22 = .ok (.invokevirtual 87, 3) := by decide +kernel
theorem dX7_countAhead_25 : decode cX7_countAhead 25 = .ok (.istore 7, 2) := by decide +kernel
theorem dX7_countAhead_27 : decode cX7_countAhead 27 = .ok (.iconst 0, 1) := by decide +kernel
theorem dX7_countAhead_28 : decode cX7_countAhead 28 = .ok (.istore 8, 2) := by decide +kernel
theorem dX7_countAhead_30 : decode cX7_countAhead 30 = .ok (.iconst 0, 1) := by decide +kernel
theorem dX7_countAhead_31 : decode cX7_countAhead 31 = .ok (.istore 9, 2) := by decide +kernel
theorem dX7_countAhead_33 : decode cX7_countAhead 33 = .ok (.iload 9, 2) := by decide +kernel
theorem dX7_countAhead_35 : decode cX7_countAhead 35 = .ok (.iload 7, 2) := by decide +kernel
theorem dX7_countAhead_37 : decode cX7_countAhead 37 = .ok (.if_icmp .ge 72, 3) := by decide +kernel
theorem dX7_countAhead_109 : decode cX7_countAhead 109 = .ok (.iload 6, 2) := by decide +kernel
theorem dX7_countAhead_111 : decode cX7_countAhead 111 = .ok (.ireturn, 1) := by decide +kernel
theorem dX7_countAhead_40 : decode cX7_countAhead 40 = .ok (.iconst 0, 1) := by decide +kernel
theorem dX7_countAhead_41 : decode cX7_countAhead 41 = .ok (.istore 10, 2) := by decide +kernel
theorem dX7_countAhead_43 : decode cX7_countAhead 43 = .ok (.iload 10, 2) := by decide +kernel
theorem dX7_countAhead_45 : decode cX7_countAhead 45 = .ok (.aload_n 1, 1) := by decide +kernel
theorem dX7_countAhead_46 : decode cX7_countAhead 46 = .ok (.getfield 61, 3) := by decide +kernel
theorem dX7_countAhead_49 : decode cX7_countAhead 49 = .ok (.if_icmp .ge 47, 3) := by decide +kernel
theorem dX7_countAhead_96 : decode cX7_countAhead 96 = .ok (.aload_n 0, 1) := by decide +kernel
theorem dX7_countAhead_97 : decode cX7_countAhead 97 = .ok (.getfield 12, 3) := by decide +kernel
theorem dX7_countAhead_100 : decode cX7_countAhead 100 = .ok (.invokevirtual 95, 3) := by decide +kernel
theorem dX7_countAhead_103 : decode cX7_countAhead 103 = .ok (.iinc 9 1, 3) := by decide +kernel
theorem dX7_countAhead_106 : decode cX7_countAhead 106 = .ok (.goto (-73), 3) := by decide +kernel
theorem dX7_countAhead_52 : decode cX7_countAhead 52 = .ok (.aload_n 0, 1) := by decide +kernel
theorem dX7_countAhead_53 : decode cX7_countAhead 53 = .ok (.getfield 12, 3) := by decide +kernel
theorem dX7_countAhead_56 : decode cX7_countAhead 56 = .ok (.iload 10, 2) := by decide +kernel
theorem dX7_countAhead_58 : decode cX7_countAhead 58 = .ok (.invokevirtual 98, 3) := by decide +kernel
theorem dX7_countAhead_61 : decode cX7_countAhead 61 = .ok (.lstore 11, 2) := by decide +kernel
theorem dX7_countAhead_63 : decode cX7_countAhead 63 = .ok (.lload 11, 2) := by decide +kernel
theorem dX7_countAhead_65 : decode cX7_countAhead 65 = .ok (.lload_n 3, 1) := by decide +kernel
theorem dX7_countAhead_66 : decode cX7_countAhead 66 = .ok (.lcmp, 1) := by decide +kernel
theorem dX7_countAhead_67 : decode cX7_countAhead 67 = .ok (.ifCond .lt 17, 3) := by decide +kernel
theorem dX7_countAhead_84 : decode cX7_countAhead 84 = .ok (.iinc 6 1, 3) := by decide +kernel
theorem dX7_countAhead_87 : decode cX7_countAhead 87 = .ok (.iinc 8 1, 3) := by decide +kernel
theorem dX7_countAhead_90 : decode cX7_countAhead 90 = .ok (.iinc 10 1, 3) := by decide +kernel
theorem dX7_countAhead_93 : decode cX7_countAhead 93 = .ok (.goto (-50), 3) := by decide +kernel
theorem dX7_countAhead_70 : decode cX7_countAhead 70 = .ok (.lload 11, 2) := by decide +kernel
theorem dX7_countAhead_72 : decode cX7_countAhead 72 = .ok (.lload_n 3, 1) := by decide +kernel
theorem dX7_countAhead_73 : decode cX7_countAhead 73 = .ok (.lcmp, 1) := by decide +kernel
theorem dX7_countAhead_74 : decode cX7_countAhead 74 = .ok (.ifCond .ne 13, 3) := by decide +kernel
theorem dX7_countAhead_77 : decode cX7_countAhead 77 = .ok (.iload 8, 2) := by decide +kernel
theorem dX7_countAhead_79 : decode cX7_countAhead 79 = .ok (.iload 5, 2) := by decide +kernel
theorem dX7_countAhead_81 : decode cX7_countAhead 81 = .ok (.if_icmp .ge 6, 3) := by decide +kernel
theorem dX7_countAhead_7 : decode cX7_countAhead 7 = .ok (.iconst 0, 1) := by decide +kernel
theorem dX7_countAhead_8 : decode cX7_countAhead 8 = .ok (.ireturn, 1) := by decide +kernel
theorem dX7_cancelAll_0 : decode cX7_cancelAll 0 = .ok (.aload_n 0, 1) := by decide +kernel
theorem dX7_cancelAll_1 : decode cX7_cancelAll 1 = .ok (.aload_n 1, 1) := by decide +kernel
theorem dX7_cancelAll_2 : decode cX7_cancelAll 2 = .ok (.invokevirtual 130, 3) := by decide +kernel
theorem dX7_findTurns_0 : decode cX7_findTurns 0 = .ok (.iconst 0, 1) := by decide +kernel
theorem dX7_findTurns_1 : decode cX7_findTurns 1 = .ok (.istore_n 2, 1) := by decide +kernel
theorem dX7_findTurns_2 : decode cX7_findTurns 2 = .ok (.iload_n 2, 1) := by decide +kernel
theorem dX7_findTurns_3 : decode cX7_findTurns 3 = .ok (.aload_n 1, 1) := by decide +kernel
theorem dX7_findTurns_4 : decode cX7_findTurns 4 = .ok (.getfield 73, 3) := by decide +kernel
theorem dX7_findTurns_7 : decode cX7_findTurns 7 = .ok (.if_icmp .ge 86, 3) := by decide +kernel
theorem dX7_findTurns_93 : decode cX7_findTurns 93 = .ok (.return_, 1) := by decide +kernel
theorem dX7_findTurns_10 : decode cX7_findTurns 10 = .ok (.aload_n 1, 1) := by decide +kernel
theorem dX7_findTurns_11 : decode cX7_findTurns 11 = .ok (.getfield 146, 3) := by decide +kernel
theorem dX7_findTurns_14 : decode cX7_findTurns 14 = .ok (.iload_n 2, 1) := by decide +kernel
theorem dX7_findTurns_15 : decode cX7_findTurns 15 = .ok (.iload_n 2, 1) := by decide +kernel
theorem dX7_findTurns_16 : decode cX7_findTurns 16 = .ok (.invokevirtual 156, 3) := by decide +kernel
theorem dX7_findTurns_19 : decode cX7_findTurns 19 = .ok (.istore_n 3, 1) := by decide +kernel
theorem dX7_findTurns_20 : decode cX7_findTurns 20 = .ok (.iload_n 2, 1) := by decide +kernel
theorem dX7_findTurns_21 : decode cX7_findTurns 21 = .ok (.istore 4, 2) := by decide +kernel
theorem dX7_findTurns_23 : decode cX7_findTurns 23 = .ok (.iload 4, 2) := by decide +kernel
theorem dX7_findTurns_25 : decode cX7_findTurns 25 = .ok (.ifCond .le 54, 3) := by decide +kernel
theorem dX7_findTurns_79 : decode cX7_findTurns 79 = .ok (.aload_n 0, 1) := by decide +kernel
theorem dX7_findTurns_80 : decode cX7_findTurns 80 = .ok (.getfield 32, 3) := by decide +kernel
theorem dX7_findTurns_83 : decode cX7_findTurns 83 = .ok (.iload 4, 2) := by decide +kernel
theorem dX7_findTurns_85 : decode cX7_findTurns 85 = .ok (.iload_n 2, 1) := by decide +kernel
theorem dX7_findTurns_86 : decode cX7_findTurns 86 = .ok (.iastore, 1) := by decide +kernel
theorem dX7_findTurns_87 : decode cX7_findTurns 87 = .ok (.iinc 2 1, 3) := by decide +kernel
theorem dX7_findTurns_90 : decode cX7_findTurns 90 = .ok (.goto (-88), 3) := by decide +kernel
theorem dX7_findTurns_28 : decode cX7_findTurns 28 = .ok (.aload_n 1, 1) := by decide +kernel
theorem dX7_findTurns_29 : decode cX7_findTurns 29 = .ok (.getfield 146, 3) := by decide +kernel
theorem dX7_findTurns_32 : decode cX7_findTurns 32 = .ok (.aload_n 0, 1) := by decide +kernel
theorem dX7_findTurns_33 : decode cX7_findTurns 33 = .ok (.getfield 32, 3) := by decide +kernel
theorem dX7_findTurns_36 : decode cX7_findTurns 36 = .ok (.iload 4, 2) := by decide +kernel
theorem dX7_findTurns_38 : decode cX7_findTurns 38 = .ok (.iconst 1, 1) := by decide +kernel
